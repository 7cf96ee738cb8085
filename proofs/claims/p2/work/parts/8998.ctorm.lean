/-! the reference's constructor: 137 arrays (written by a program) -/
theorem dcM_0 : decode cX12_init 0 = .ok (.aload_n 0, 1) := by decide +kernel
theorem dcM_1 : decode cX12_init 1 = .ok (.invokespecial 1, 3) := by decide +kernel
theorem dcM_4 : decode cX12_init 4 = .ok (.aload_n 0, 1) := by decide +kernel
theorem dcM_5 : decode cX12_init 5 = .ok (.sipush 5016, 3) := by decide +kernel
theorem dcM_8 : decode cX12_init 8 = .ok (.newarray .int, 2) := by decide +kernel
theorem dcM_10 : decode cX12_init 10 = .ok (.putfield 7, 3) := by decide +kernel
theorem dcM_13 : decode cX12_init 13 = .ok (.aload_n 0, 1) := by decide +kernel
theorem dcM_14 : decode cX12_init 14 = .ok (.sipush 903, 3) := by decide +kernel
theorem dcM_17 : decode cX12_init 17 = .ok (.newarray .int, 2) := by decide +kernel
theorem dcM_19 : decode cX12_init 19 = .ok (.putfield 13, 3) := by decide +kernel
theorem dcM_22 : decode cX12_init 22 = .ok (.aload_n 0, 1) := by decide +kernel
theorem dcM_23 : decode cX12_init 23 = .ok (.sipush 903, 3) := by decide +kernel
theorem dcM_26 : decode cX12_init 26 = .ok (.newarray .int, 2) := by decide +kernel
theorem dcM_28 : decode cX12_init 28 = .ok (.putfield 16, 3) := by decide +kernel
theorem dcM_31 : decode cX12_init 31 = .ok (.aload_n 0, 1) := by decide +kernel
theorem dcM_32 : decode cX12_init 32 = .ok (.sipush 903, 3) := by decide +kernel
theorem dcM_35 : decode cX12_init 35 = .ok (.newarray .int, 2) := by decide +kernel
theorem dcM_37 : decode cX12_init 37 = .ok (.putfield 19, 3) := by decide +kernel
theorem dcM_40 : decode cX12_init 40 = .ok (.aload_n 0, 1) := by decide +kernel
theorem dcM_41 : decode cX12_init 41 = .ok (.sipush 903, 3) := by decide +kernel
theorem dcM_44 : decode cX12_init 44 = .ok (.newarray .int, 2) := by decide +kernel
theorem dcM_46 : decode cX12_init 46 = .ok (.putfield 22, 3) := by decide +kernel
theorem dcM_49 : decode cX12_init 49 = .ok (.aload_n 0, 1) := by decide +kernel
theorem dcM_50 : decode cX12_init 50 = .ok (.sipush 2000, 3) := by decide +kernel
theorem dcM_53 : decode cX12_init 53 = .ok (.newarray .int, 2) := by decide +kernel
theorem dcM_55 : decode cX12_init 55 = .ok (.putfield 25, 3) := by decide +kernel
theorem dcM_58 : decode cX12_init 58 = .ok (.aload_n 0, 1) := by decide +kernel
theorem dcM_59 : decode cX12_init 59 = .ok (.sipush 2000, 3) := by decide +kernel
theorem dcM_62 : decode cX12_init 62 = .ok (.newarray .int, 2) := by decide +kernel
theorem dcM_64 : decode cX12_init 64 = .ok (.putfield 28, 3) := by decide +kernel
theorem dcM_67 : decode cX12_init 67 = .ok (.aload_n 0, 1) := by decide +kernel
theorem dcM_68 : decode cX12_init 68 = .ok (.sipush 2000, 3) := by decide +kernel
theorem dcM_71 : decode cX12_init 71 = .ok (.newarray .int, 2) := by decide +kernel
theorem dcM_73 : decode cX12_init 73 = .ok (.putfield 31, 3) := by decide +kernel
theorem dcM_76 : decode cX12_init 76 = .ok (.aload_n 0, 1) := by decide +kernel
theorem dcM_77 : decode cX12_init 77 = .ok (.sipush 2000, 3) := by decide +kernel
theorem dcM_80 : decode cX12_init 80 = .ok (.newarray .int, 2) := by decide +kernel
theorem dcM_82 : decode cX12_init 82 = .ok (.putfield 34, 3) := by decide +kernel
theorem dcM_85 : decode cX12_init 85 = .ok (.aload_n 0, 1) := by decide +kernel
theorem dcM_86 : decode cX12_init 86 = .ok (.bipush 13, 2) := by decide +kernel
theorem dcM_88 : decode cX12_init 88 = .ok (.newarray .int, 2) := by decide +kernel
theorem dcM_90 : decode cX12_init 90 = .ok (.putfield 37, 3) := by decide +kernel
theorem dcM_93 : decode cX12_init 93 = .ok (.aload_n 0, 1) := by decide +kernel
theorem dcM_94 : decode cX12_init 94 = .ok (.bipush 13, 2) := by decide +kernel
theorem dcM_96 : decode cX12_init 96 = .ok (.newarray .int, 2) := by decide +kernel
theorem dcM_98 : decode cX12_init 98 = .ok (.putfield 40, 3) := by decide +kernel
theorem dcM_101 : decode cX12_init 101 = .ok (.aload_n 0, 1) := by decide +kernel
theorem dcM_102 : decode cX12_init 102 = .ok (.bipush 13, 2) := by decide +kernel
theorem dcM_104 : decode cX12_init 104 = .ok (.newarray .int, 2) := by decide +kernel
theorem dcM_106 : decode cX12_init 106 = .ok (.putfield 43, 3) := by decide +kernel
theorem dcM_109 : decode cX12_init 109 = .ok (.aload_n 0, 1) := by decide +kernel
theorem dcM_110 : decode cX12_init 110 = .ok (.bipush 9, 2) := by decide +kernel
theorem dcM_112 : decode cX12_init 112 = .ok (.newarray .int, 2) := by decide +kernel
theorem dcM_114 : decode cX12_init 114 = .ok (.putfield 46, 3) := by decide +kernel
theorem dcM_117 : decode cX12_init 117 = .ok (.aload_n 0, 1) := by decide +kernel
theorem dcM_118 : decode cX12_init 118 = .ok (.bipush 9, 2) := by decide +kernel
theorem dcM_120 : decode cX12_init 120 = .ok (.newarray .boolean, 2) := by decide +kernel
theorem dcM_122 : decode cX12_init 122 = .ok (.putfield 49, 3) := by decide +kernel
theorem dcM_125 : decode cX12_init 125 = .ok (.aload_n 0, 1) := by decide +kernel
theorem dcM_126 : decode cX12_init 126 = .ok (.bipush 9, 2) := by decide +kernel
theorem dcM_128 : decode cX12_init 128 = .ok (.newarray .int, 2) := by decide +kernel
theorem dcM_130 : decode cX12_init 130 = .ok (.putfield 53, 3) := by decide +kernel
theorem dcM_133 : decode cX12_init 133 = .ok (.aload_n 0, 1) := by decide +kernel
theorem dcM_134 : decode cX12_init 134 = .ok (.bipush 90, 2) := by decide +kernel
theorem dcM_136 : decode cX12_init 136 = .ok (.newarray .int, 2) := by decide +kernel
theorem dcM_138 : decode cX12_init 138 = .ok (.putfield 56, 3) := by decide +kernel
theorem dcM_141 : decode cX12_init 141 = .ok (.aload_n 0, 1) := by decide +kernel
theorem dcM_142 : decode cX12_init 142 = .ok (.sipush 900, 3) := by decide +kernel
theorem dcM_145 : decode cX12_init 145 = .ok (.newarray .int, 2) := by decide +kernel
theorem dcM_147 : decode cX12_init 147 = .ok (.putfield 59, 3) := by decide +kernel
theorem dcM_150 : decode cX12_init 150 = .ok (.aload_n 0, 1) := by decide +kernel
theorem dcM_151 : decode cX12_init 151 = .ok (.sipush 900, 3) := by decide +kernel
theorem dcM_154 : decode cX12_init 154 = .ok (.newarray .int, 2) := by decide +kernel
theorem dcM_156 : decode cX12_init 156 = .ok (.putfield 62, 3) := by decide +kernel
theorem dcM_159 : decode cX12_init 159 = .ok (.aload_n 0, 1) := by decide +kernel
theorem dcM_160 : decode cX12_init 160 = .ok (.bipush 61, 2) := by decide +kernel
theorem dcM_162 : decode cX12_init 162 = .ok (.newarray .int, 2) := by decide +kernel
theorem dcM_164 : decode cX12_init 164 = .ok (.putfield 65, 3) := by decide +kernel
theorem dcM_167 : decode cX12_init 167 = .ok (.aload_n 0, 1) := by decide +kernel
theorem dcM_168 : decode cX12_init 168 = .ok (.bipush 61, 2) := by decide +kernel
theorem dcM_170 : decode cX12_init 170 = .ok (.newarray .int, 2) := by decide +kernel
theorem dcM_172 : decode cX12_init 172 = .ok (.putfield 68, 3) := by decide +kernel
theorem dcM_175 : decode cX12_init 175 = .ok (.aload_n 0, 1) := by decide +kernel
theorem dcM_176 : decode cX12_init 176 = .ok (.bipush 61, 2) := by decide +kernel
theorem dcM_178 : decode cX12_init 178 = .ok (.newarray .int, 2) := by decide +kernel
theorem dcM_180 : decode cX12_init 180 = .ok (.putfield 71, 3) := by decide +kernel
theorem dcM_183 : decode cX12_init 183 = .ok (.aload_n 0, 1) := by decide +kernel
theorem dcM_184 : decode cX12_init 184 = .ok (.bipush 61, 2) := by decide +kernel
theorem dcM_186 : decode cX12_init 186 = .ok (.newarray .int, 2) := by decide +kernel
theorem dcM_188 : decode cX12_init 188 = .ok (.putfield 74, 3) := by decide +kernel
theorem dcM_191 : decode cX12_init 191 = .ok (.aload_n 0, 1) := by decide +kernel
theorem dcM_192 : decode cX12_init 192 = .ok (.bipush 61, 2) := by decide +kernel
theorem dcM_194 : decode cX12_init 194 = .ok (.newarray .int, 2) := by decide +kernel
theorem dcM_196 : decode cX12_init 196 = .ok (.putfield 77, 3) := by decide +kernel
theorem dcM_199 : decode cX12_init 199 = .ok (.aload_n 0, 1) := by decide +kernel
theorem dcM_200 : decode cX12_init 200 = .ok (.bipush 61, 2) := by decide +kernel
theorem dcM_202 : decode cX12_init 202 = .ok (.newarray .int, 2) := by decide +kernel
theorem dcM_204 : decode cX12_init 204 = .ok (.putfield 80, 3) := by decide +kernel
theorem dcM_207 : decode cX12_init 207 = .ok (.aload_n 0, 1) := by decide +kernel
theorem dcM_208 : decode cX12_init 208 = .ok (.sipush 900, 3) := by decide +kernel
theorem dcM_211 : decode cX12_init 211 = .ok (.newarray .int, 2) := by decide +kernel
theorem dcM_213 : decode cX12_init 213 = .ok (.putfield 83, 3) := by decide +kernel
theorem dcM_216 : decode cX12_init 216 = .ok (.aload_n 0, 1) := by decide +kernel
theorem dcM_217 : decode cX12_init 217 = .ok (.sipush 900, 3) := by decide +kernel
theorem dcM_220 : decode cX12_init 220 = .ok (.newarray .int, 2) := by decide +kernel
theorem dcM_222 : decode cX12_init 222 = .ok (.putfield 86, 3) := by decide +kernel
theorem dcM_225 : decode cX12_init 225 = .ok (.aload_n 0, 1) := by decide +kernel
theorem dcM_226 : decode cX12_init 226 = .ok (.bipush 25, 2) := by decide +kernel
theorem dcM_228 : decode cX12_init 228 = .ok (.newarray .int, 2) := by decide +kernel
theorem dcM_230 : decode cX12_init 230 = .ok (.putfield 89, 3) := by decide +kernel
theorem dcM_233 : decode cX12_init 233 = .ok (.aload_n 0, 1) := by decide +kernel
theorem dcM_234 : decode cX12_init 234 = .ok (.bipush 25, 2) := by decide +kernel
theorem dcM_236 : decode cX12_init 236 = .ok (.newarray .int, 2) := by decide +kernel
theorem dcM_238 : decode cX12_init 238 = .ok (.putfield 92, 3) := by decide +kernel
theorem dcM_241 : decode cX12_init 241 = .ok (.aload_n 0, 1) := by decide +kernel
theorem dcM_242 : decode cX12_init 242 = .ok (.bipush 25, 2) := by decide +kernel
theorem dcM_244 : decode cX12_init 244 = .ok (.newarray .int, 2) := by decide +kernel
theorem dcM_246 : decode cX12_init 246 = .ok (.putfield 95, 3) := by decide +kernel
theorem dcM_249 : decode cX12_init 249 = .ok (.aload_n 0, 1) := by decide +kernel
theorem dcM_250 : decode cX12_init 250 = .ok (.bipush 25, 2) := by decide +kernel
theorem dcM_252 : decode cX12_init 252 = .ok (.newarray .int, 2) := by decide +kernel
theorem dcM_254 : decode cX12_init 254 = .ok (.putfield 98, 3) := by decide +kernel
theorem dcM_257 : decode cX12_init 257 = .ok (.aload_n 0, 1) := by decide +kernel
theorem dcM_258 : decode cX12_init 258 = .ok (.bipush 25, 2) := by decide +kernel
theorem dcM_260 : decode cX12_init 260 = .ok (.newarray .int, 2) := by decide +kernel
theorem dcM_262 : decode cX12_init 262 = .ok (.putfield 101, 3) := by decide +kernel
theorem dcM_265 : decode cX12_init 265 = .ok (.aload_n 0, 1) := by decide +kernel
theorem dcM_266 : decode cX12_init 266 = .ok (.bipush 25, 2) := by decide +kernel
theorem dcM_268 : decode cX12_init 268 = .ok (.newarray .int, 2) := by decide +kernel
theorem dcM_270 : decode cX12_init 270 = .ok (.putfield 104, 3) := by decide +kernel
theorem dcM_273 : decode cX12_init 273 = .ok (.aload_n 0, 1) := by decide +kernel
theorem dcM_274 : decode cX12_init 274 = .ok (.bipush 25, 2) := by decide +kernel
theorem dcM_276 : decode cX12_init 276 = .ok (.newarray .int, 2) := by decide +kernel
theorem dcM_278 : decode cX12_init 278 = .ok (.putfield 107, 3) := by decide +kernel
theorem dcM_281 : decode cX12_init 281 = .ok (.aload_n 0, 1) := by decide +kernel
theorem dcM_282 : decode cX12_init 282 = .ok (.bipush 25, 2) := by decide +kernel
theorem dcM_284 : decode cX12_init 284 = .ok (.newarray .int, 2) := by decide +kernel
theorem dcM_286 : decode cX12_init 286 = .ok (.putfield 110, 3) := by decide +kernel
theorem dcM_289 : decode cX12_init 289 = .ok (.aload_n 0, 1) := by decide +kernel
theorem dcM_290 : decode cX12_init 290 = .ok (.bipush 25, 2) := by decide +kernel
theorem dcM_292 : decode cX12_init 292 = .ok (.newarray .int, 2) := by decide +kernel
theorem dcM_294 : decode cX12_init 294 = .ok (.putfield 113, 3) := by decide +kernel
theorem dcM_297 : decode cX12_init 297 = .ok (.aload_n 0, 1) := by decide +kernel
theorem dcM_298 : decode cX12_init 298 = .ok (.bipush 25, 2) := by decide +kernel
theorem dcM_300 : decode cX12_init 300 = .ok (.newarray .int, 2) := by decide +kernel
theorem dcM_302 : decode cX12_init 302 = .ok (.putfield 116, 3) := by decide +kernel
theorem dcM_305 : decode cX12_init 305 = .ok (.aload_n 0, 1) := by decide +kernel
theorem dcM_306 : decode cX12_init 306 = .ok (.bipush 25, 2) := by decide +kernel
theorem dcM_308 : decode cX12_init 308 = .ok (.newarray .int, 2) := by decide +kernel
theorem dcM_310 : decode cX12_init 310 = .ok (.putfield 119, 3) := by decide +kernel
theorem dcM_313 : decode cX12_init 313 = .ok (.aload_n 0, 1) := by decide +kernel
theorem dcM_314 : decode cX12_init 314 = .ok (.bipush 13, 2) := by decide +kernel
theorem dcM_316 : decode cX12_init 316 = .ok (.newarray .int, 2) := by decide +kernel
theorem dcM_318 : decode cX12_init 318 = .ok (.putfield 122, 3) := by decide +kernel
theorem dcM_321 : decode cX12_init 321 = .ok (.aload_n 0, 1) := by decide +kernel
theorem dcM_322 : decode cX12_init 322 = .ok (.bipush 13, 2) := by decide +kernel
theorem dcM_324 : decode cX12_init 324 = .ok (.newarray .boolean, 2) := by decide +kernel
theorem dcM_326 : decode cX12_init 326 = .ok (.putfield 125, 3) := by decide +kernel
theorem dcM_329 : decode cX12_init 329 = .ok (.aload_n 0, 1) := by decide +kernel
theorem dcM_330 : decode cX12_init 330 = .ok (.bipush 13, 2) := by decide +kernel
theorem dcM_332 : decode cX12_init 332 = .ok (.newarray .int, 2) := by decide +kernel
theorem dcM_334 : decode cX12_init 334 = .ok (.putfield 128, 3) := by decide +kernel
theorem dcM_337 : decode cX12_init 337 = .ok (.aload_n 0, 1) := by decide +kernel
theorem dcM_338 : decode cX12_init 338 = .ok (.sipush 300, 3) := by decide +kernel
theorem dcM_341 : decode cX12_init 341 = .ok (.newarray .int, 2) := by decide +kernel
theorem dcM_343 : decode cX12_init 343 = .ok (.putfield 131, 3) := by decide +kernel
theorem dcM_346 : decode cX12_init 346 = .ok (.aload_n 0, 1) := by decide +kernel
theorem dcM_347 : decode cX12_init 347 = .ok (.sipush 300, 3) := by decide +kernel
theorem dcM_350 : decode cX12_init 350 = .ok (.newarray .int, 2) := by decide +kernel
theorem dcM_352 : decode cX12_init 352 = .ok (.putfield 134, 3) := by decide +kernel
theorem dcM_355 : decode cX12_init 355 = .ok (.aload_n 0, 1) := by decide +kernel
theorem dcM_356 : decode cX12_init 356 = .ok (.sipush 900, 3) := by decide +kernel
theorem dcM_359 : decode cX12_init 359 = .ok (.newarray .int, 2) := by decide +kernel
theorem dcM_361 : decode cX12_init 361 = .ok (.putfield 137, 3) := by decide +kernel
theorem dcM_364 : decode cX12_init 364 = .ok (.aload_n 0, 1) := by decide +kernel
theorem dcM_365 : decode cX12_init 365 = .ok (.sipush 900, 3) := by decide +kernel
theorem dcM_368 : decode cX12_init 368 = .ok (.newarray .int, 2) := by decide +kernel
theorem dcM_370 : decode cX12_init 370 = .ok (.putfield 140, 3) := by decide +kernel
theorem dcM_373 : decode cX12_init 373 = .ok (.aload_n 0, 1) := by decide +kernel
theorem dcM_374 : decode cX12_init 374 = .ok (.sipush 900, 3) := by decide +kernel
theorem dcM_377 : decode cX12_init 377 = .ok (.newarray .int, 2) := by decide +kernel
theorem dcM_379 : decode cX12_init 379 = .ok (.putfield 143, 3) := by decide +kernel
theorem dcM_382 : decode cX12_init 382 = .ok (.aload_n 0, 1) := by decide +kernel
theorem dcM_383 : decode cX12_init 383 = .ok (.sipush 900, 3) := by decide +kernel
theorem dcM_386 : decode cX12_init 386 = .ok (.newarray .int, 2) := by decide +kernel
theorem dcM_388 : decode cX12_init 388 = .ok (.putfield 146, 3) := by decide +kernel
theorem dcM_391 : decode cX12_init 391 = .ok (.aload_n 0, 1) := by decide +kernel
theorem dcM_392 : decode cX12_init 392 = .ok (.sipush 900, 3) := by decide +kernel
theorem dcM_395 : decode cX12_init 395 = .ok (.newarray .int, 2) := by decide +kernel
theorem dcM_397 : decode cX12_init 397 = .ok (.putfield 149, 3) := by decide +kernel
theorem dcM_400 : decode cX12_init 400 = .ok (.aload_n 0, 1) := by decide +kernel
theorem dcM_401 : decode cX12_init 401 = .ok (.bipush 16, 2) := by decide +kernel
theorem dcM_403 : decode cX12_init 403 = .ok (.newarray .int, 2) := by decide +kernel
theorem dcM_405 : decode cX12_init 405 = .ok (.putfield 152, 3) := by decide +kernel
theorem dcM_408 : decode cX12_init 408 = .ok (.aload_n 0, 1) := by decide +kernel
theorem dcM_409 : decode cX12_init 409 = .ok (.bipush 16, 2) := by decide +kernel
theorem dcM_411 : decode cX12_init 411 = .ok (.newarray .int, 2) := by decide +kernel
theorem dcM_413 : decode cX12_init 413 = .ok (.putfield 155, 3) := by decide +kernel
theorem dcM_416 : decode cX12_init 416 = .ok (.aload_n 0, 1) := by decide +kernel
theorem dcM_417 : decode cX12_init 417 = .ok (.bipush 16, 2) := by decide +kernel
theorem dcM_419 : decode cX12_init 419 = .ok (.newarray .int, 2) := by decide +kernel
theorem dcM_421 : decode cX12_init 421 = .ok (.putfield 158, 3) := by decide +kernel
theorem dcM_424 : decode cX12_init 424 = .ok (.aload_n 0, 1) := by decide +kernel
theorem dcM_425 : decode cX12_init 425 = .ok (.bipush 8, 2) := by decide +kernel
theorem dcM_427 : decode cX12_init 427 = .ok (.newarray .int, 2) := by decide +kernel
theorem dcM_429 : decode cX12_init 429 = .ok (.putfield 161, 3) := by decide +kernel
theorem dcM_432 : decode cX12_init 432 = .ok (.aload_n 0, 1) := by decide +kernel
theorem dcM_433 : decode cX12_init 433 = .ok (.sipush 400, 3) := by decide +kernel
theorem dcM_436 : decode cX12_init 436 = .ok (.newarray .int, 2) := by decide +kernel
theorem dcM_438 : decode cX12_init 438 = .ok (.putfield 164, 3) := by decide +kernel
theorem dcM_441 : decode cX12_init 441 = .ok (.aload_n 0, 1) := by decide +kernel
theorem dcM_442 : decode cX12_init 442 = .ok (.sipush 400, 3) := by decide +kernel
theorem dcM_445 : decode cX12_init 445 = .ok (.newarray .int, 2) := by decide +kernel
theorem dcM_447 : decode cX12_init 447 = .ok (.putfield 167, 3) := by decide +kernel
theorem dcM_450 : decode cX12_init 450 = .ok (.aload_n 0, 1) := by decide +kernel
theorem dcM_451 : decode cX12_init 451 = .ok (.sipush 400, 3) := by decide +kernel
theorem dcM_454 : decode cX12_init 454 = .ok (.newarray .int, 2) := by decide +kernel
theorem dcM_456 : decode cX12_init 456 = .ok (.putfield 170, 3) := by decide +kernel
theorem dcM_459 : decode cX12_init 459 = .ok (.aload_n 0, 1) := by decide +kernel
theorem dcM_460 : decode cX12_init 460 = .ok (.sipush 400, 3) := by decide +kernel
theorem dcM_463 : decode cX12_init 463 = .ok (.newarray .int, 2) := by decide +kernel
theorem dcM_465 : decode cX12_init 465 = .ok (.putfield 173, 3) := by decide +kernel
theorem dcM_468 : decode cX12_init 468 = .ok (.aload_n 0, 1) := by decide +kernel
theorem dcM_469 : decode cX12_init 469 = .ok (.sipush 400, 3) := by decide +kernel
theorem dcM_472 : decode cX12_init 472 = .ok (.newarray .int, 2) := by decide +kernel
theorem dcM_474 : decode cX12_init 474 = .ok (.putfield 176, 3) := by decide +kernel
theorem dcM_477 : decode cX12_init 477 = .ok (.aload_n 0, 1) := by decide +kernel
theorem dcM_478 : decode cX12_init 478 = .ok (.sipush 400, 3) := by decide +kernel
theorem dcM_481 : decode cX12_init 481 = .ok (.newarray .int, 2) := by decide +kernel
theorem dcM_483 : decode cX12_init 483 = .ok (.putfield 179, 3) := by decide +kernel
theorem dcM_486 : decode cX12_init 486 = .ok (.aload_n 0, 1) := by decide +kernel
theorem dcM_487 : decode cX12_init 487 = .ok (.sipush 900, 3) := by decide +kernel
theorem dcM_490 : decode cX12_init 490 = .ok (.newarray .int, 2) := by decide +kernel
theorem dcM_492 : decode cX12_init 492 = .ok (.putfield 182, 3) := by decide +kernel
theorem dcM_495 : decode cX12_init 495 = .ok (.aload_n 0, 1) := by decide +kernel
theorem dcM_496 : decode cX12_init 496 = .ok (.sipush 900, 3) := by decide +kernel
theorem dcM_499 : decode cX12_init 499 = .ok (.newarray .int, 2) := by decide +kernel
theorem dcM_501 : decode cX12_init 501 = .ok (.putfield 185, 3) := by decide +kernel
theorem dcM_504 : decode cX12_init 504 = .ok (.aload_n 0, 1) := by decide +kernel
theorem dcM_505 : decode cX12_init 505 = .ok (.sipush 900, 3) := by decide +kernel
theorem dcM_508 : decode cX12_init 508 = .ok (.newarray .int, 2) := by decide +kernel
theorem dcM_510 : decode cX12_init 510 = .ok (.putfield 188, 3) := by decide +kernel
theorem dcM_513 : decode cX12_init 513 = .ok (.aload_n 0, 1) := by decide +kernel
theorem dcM_514 : decode cX12_init 514 = .ok (.sipush 900, 3) := by decide +kernel
theorem dcM_517 : decode cX12_init 517 = .ok (.newarray .int, 2) := by decide +kernel
theorem dcM_519 : decode cX12_init 519 = .ok (.putfield 191, 3) := by decide +kernel
theorem dcM_522 : decode cX12_init 522 = .ok (.aload_n 0, 1) := by decide +kernel
theorem dcM_523 : decode cX12_init 523 = .ok (.sipush 900, 3) := by decide +kernel
theorem dcM_526 : decode cX12_init 526 = .ok (.newarray .int, 2) := by decide +kernel
theorem dcM_528 : decode cX12_init 528 = .ok (.putfield 194, 3) := by decide +kernel
theorem dcM_531 : decode cX12_init 531 = .ok (.aload_n 0, 1) := by decide +kernel
theorem dcM_532 : decode cX12_init 532 = .ok (.sipush 6300, 3) := by decide +kernel
theorem dcM_535 : decode cX12_init 535 = .ok (.newarray .int, 2) := by decide +kernel
theorem dcM_537 : decode cX12_init 537 = .ok (.putfield 197, 3) := by decide +kernel
theorem dcM_540 : decode cX12_init 540 = .ok (.aload_n 0, 1) := by decide +kernel
theorem dcM_541 : decode cX12_init 541 = .ok (.sipush 900, 3) := by decide +kernel
theorem dcM_544 : decode cX12_init 544 = .ok (.newarray .int, 2) := by decide +kernel
theorem dcM_546 : decode cX12_init 546 = .ok (.putfield 200, 3) := by decide +kernel
theorem dcM_549 : decode cX12_init 549 = .ok (.aload_n 0, 1) := by decide +kernel
theorem dcM_550 : decode cX12_init 550 = .ok (.sipush 900, 3) := by decide +kernel
theorem dcM_553 : decode cX12_init 553 = .ok (.newarray .int, 2) := by decide +kernel
theorem dcM_555 : decode cX12_init 555 = .ok (.putfield 203, 3) := by decide +kernel
theorem dcM_558 : decode cX12_init 558 = .ok (.aload_n 0, 1) := by decide +kernel
theorem dcM_559 : decode cX12_init 559 = .ok (.sipush 900, 3) := by decide +kernel
theorem dcM_562 : decode cX12_init 562 = .ok (.newarray .boolean, 2) := by decide +kernel
theorem dcM_564 : decode cX12_init 564 = .ok (.putfield 206, 3) := by decide +kernel
theorem dcM_567 : decode cX12_init 567 = .ok (.aload_n 0, 1) := by decide +kernel
theorem dcM_568 : decode cX12_init 568 = .ok (.sipush 900, 3) := by decide +kernel
theorem dcM_571 : decode cX12_init 571 = .ok (.newarray .boolean, 2) := by decide +kernel
theorem dcM_573 : decode cX12_init 573 = .ok (.putfield 209, 3) := by decide +kernel
theorem dcM_576 : decode cX12_init 576 = .ok (.aload_n 0, 1) := by decide +kernel
theorem dcM_577 : decode cX12_init 577 = .ok (.sipush 900, 3) := by decide +kernel
theorem dcM_580 : decode cX12_init 580 = .ok (.newarray .int, 2) := by decide +kernel
theorem dcM_582 : decode cX12_init 582 = .ok (.putfield 212, 3) := by decide +kernel
theorem dcM_585 : decode cX12_init 585 = .ok (.aload_n 0, 1) := by decide +kernel
theorem dcM_586 : decode cX12_init 586 = .ok (.sipush 900, 3) := by decide +kernel
theorem dcM_589 : decode cX12_init 589 = .ok (.newarray .int, 2) := by decide +kernel
theorem dcM_591 : decode cX12_init 591 = .ok (.putfield 215, 3) := by decide +kernel
theorem dcM_594 : decode cX12_init 594 = .ok (.aload_n 0, 1) := by decide +kernel
theorem dcM_595 : decode cX12_init 595 = .ok (.sipush 400, 3) := by decide +kernel
theorem dcM_598 : decode cX12_init 598 = .ok (.newarray .int, 2) := by decide +kernel
theorem dcM_600 : decode cX12_init 600 = .ok (.putfield 218, 3) := by decide +kernel
theorem dcM_603 : decode cX12_init 603 = .ok (.aload_n 0, 1) := by decide +kernel
theorem dcM_604 : decode cX12_init 604 = .ok (.ldc 221, 2) := by decide +kernel
theorem dcM_606 : decode cX12_init 606 = .ok (.newarray .int, 2) := by decide +kernel
theorem dcM_608 : decode cX12_init 608 = .ok (.putfield 222, 3) := by decide +kernel
theorem dcM_611 : decode cX12_init 611 = .ok (.aload_n 0, 1) := by decide +kernel
theorem dcM_612 : decode cX12_init 612 = .ok (.ldc 221, 2) := by decide +kernel
theorem dcM_614 : decode cX12_init 614 = .ok (.newarray .int, 2) := by decide +kernel
theorem dcM_616 : decode cX12_init 616 = .ok (.putfield 225, 3) := by decide +kernel
theorem dcM_619 : decode cX12_init 619 = .ok (.aload_n 0, 1) := by decide +kernel
theorem dcM_620 : decode cX12_init 620 = .ok (.sipush 900, 3) := by decide +kernel
theorem dcM_623 : decode cX12_init 623 = .ok (.newarray .boolean, 2) := by decide +kernel
theorem dcM_625 : decode cX12_init 625 = .ok (.putfield 228, 3) := by decide +kernel
theorem dcM_628 : decode cX12_init 628 = .ok (.aload_n 0, 1) := by decide +kernel
theorem dcM_629 : decode cX12_init 629 = .ok (.sipush 5000, 3) := by decide +kernel
theorem dcM_632 : decode cX12_init 632 = .ok (.newarray .int, 2) := by decide +kernel
theorem dcM_634 : decode cX12_init 634 = .ok (.putfield 231, 3) := by decide +kernel
theorem dcM_637 : decode cX12_init 637 = .ok (.aload_n 0, 1) := by decide +kernel
theorem dcM_638 : decode cX12_init 638 = .ok (.sipush 5000, 3) := by decide +kernel
theorem dcM_641 : decode cX12_init 641 = .ok (.newarray .int, 2) := by decide +kernel
theorem dcM_643 : decode cX12_init 643 = .ok (.putfield 234, 3) := by decide +kernel
theorem dcM_646 : decode cX12_init 646 = .ok (.aload_n 0, 1) := by decide +kernel
theorem dcM_647 : decode cX12_init 647 = .ok (.sipush 5000, 3) := by decide +kernel
theorem dcM_650 : decode cX12_init 650 = .ok (.newarray .int, 2) := by decide +kernel
theorem dcM_652 : decode cX12_init 652 = .ok (.putfield 237, 3) := by decide +kernel
theorem dcM_655 : decode cX12_init 655 = .ok (.aload_n 0, 1) := by decide +kernel
theorem dcM_656 : decode cX12_init 656 = .ok (.sipush 5000, 3) := by decide +kernel
theorem dcM_659 : decode cX12_init 659 = .ok (.newarray .int, 2) := by decide +kernel
theorem dcM_661 : decode cX12_init 661 = .ok (.putfield 240, 3) := by decide +kernel
theorem dcM_664 : decode cX12_init 664 = .ok (.aload_n 0, 1) := by decide +kernel
theorem dcM_665 : decode cX12_init 665 = .ok (.sipush 4800, 3) := by decide +kernel
theorem dcM_668 : decode cX12_init 668 = .ok (.newarray .int, 2) := by decide +kernel
theorem dcM_670 : decode cX12_init 670 = .ok (.putfield 243, 3) := by decide +kernel
theorem dcM_673 : decode cX12_init 673 = .ok (.aload_n 0, 1) := by decide +kernel
theorem dcM_674 : decode cX12_init 674 = .ok (.sipush 4800, 3) := by decide +kernel
theorem dcM_677 : decode cX12_init 677 = .ok (.newarray .int, 2) := by decide +kernel
theorem dcM_679 : decode cX12_init 679 = .ok (.putfield 246, 3) := by decide +kernel
theorem dcM_682 : decode cX12_init 682 = .ok (.aload_n 0, 1) := by decide +kernel
theorem dcM_683 : decode cX12_init 683 = .ok (.sipush 4800, 3) := by decide +kernel
theorem dcM_686 : decode cX12_init 686 = .ok (.newarray .int, 2) := by decide +kernel
theorem dcM_688 : decode cX12_init 688 = .ok (.putfield 249, 3) := by decide +kernel
theorem dcM_691 : decode cX12_init 691 = .ok (.aload_n 0, 1) := by decide +kernel
theorem dcM_692 : decode cX12_init 692 = .ok (.bipush 25, 2) := by decide +kernel
theorem dcM_694 : decode cX12_init 694 = .ok (.newarray .int, 2) := by decide +kernel
theorem dcM_696 : decode cX12_init 696 = .ok (.putfield 252, 3) := by decide +kernel
theorem dcM_699 : decode cX12_init 699 = .ok (.aload_n 0, 1) := by decide +kernel
theorem dcM_700 : decode cX12_init 700 = .ok (.bipush 13, 2) := by decide +kernel
theorem dcM_702 : decode cX12_init 702 = .ok (.newarray .int, 2) := by decide +kernel
theorem dcM_704 : decode cX12_init 704 = .ok (.putfield 255, 3) := by decide +kernel
theorem dcM_707 : decode cX12_init 707 = .ok (.aload_n 0, 1) := by decide +kernel
theorem dcM_708 : decode cX12_init 708 = .ok (.sipush 1600, 3) := by decide +kernel
theorem dcM_711 : decode cX12_init 711 = .ok (.newarray .int, 2) := by decide +kernel
theorem dcM_713 : decode cX12_init 713 = .ok (.putfield 258, 3) := by decide +kernel
theorem dcM_716 : decode cX12_init 716 = .ok (.aload_n 0, 1) := by decide +kernel
theorem dcM_717 : decode cX12_init 717 = .ok (.bipush 13, 2) := by decide +kernel
theorem dcM_719 : decode cX12_init 719 = .ok (.newarray .int, 2) := by decide +kernel
theorem dcM_721 : decode cX12_init 721 = .ok (.putfield 261, 3) := by decide +kernel
theorem dcM_724 : decode cX12_init 724 = .ok (.aload_n 0, 1) := by decide +kernel
theorem dcM_725 : decode cX12_init 725 = .ok (.sipush 300, 3) := by decide +kernel
theorem dcM_728 : decode cX12_init 728 = .ok (.newarray .int, 2) := by decide +kernel
theorem dcM_730 : decode cX12_init 730 = .ok (.putfield 264, 3) := by decide +kernel
theorem dcM_733 : decode cX12_init 733 = .ok (.aload_n 0, 1) := by decide +kernel
theorem dcM_734 : decode cX12_init 734 = .ok (.sipush 300, 3) := by decide +kernel
theorem dcM_737 : decode cX12_init 737 = .ok (.newarray .int, 2) := by decide +kernel
theorem dcM_739 : decode cX12_init 739 = .ok (.putfield 267, 3) := by decide +kernel
theorem dcM_742 : decode cX12_init 742 = .ok (.aload_n 0, 1) := by decide +kernel
theorem dcM_743 : decode cX12_init 743 = .ok (.sipush 300, 3) := by decide +kernel
theorem dcM_746 : decode cX12_init 746 = .ok (.newarray .int, 2) := by decide +kernel
theorem dcM_748 : decode cX12_init 748 = .ok (.putfield 270, 3) := by decide +kernel
theorem dcM_751 : decode cX12_init 751 = .ok (.aload_n 0, 1) := by decide +kernel
theorem dcM_752 : decode cX12_init 752 = .ok (.sipush 300, 3) := by decide +kernel
theorem dcM_755 : decode cX12_init 755 = .ok (.newarray .int, 2) := by decide +kernel
theorem dcM_757 : decode cX12_init 757 = .ok (.putfield 273, 3) := by decide +kernel
theorem dcM_760 : decode cX12_init 760 = .ok (.aload_n 0, 1) := by decide +kernel
theorem dcM_761 : decode cX12_init 761 = .ok (.sipush 201, 3) := by decide +kernel
theorem dcM_764 : decode cX12_init 764 = .ok (.newarray .int, 2) := by decide +kernel
theorem dcM_766 : decode cX12_init 766 = .ok (.putfield 276, 3) := by decide +kernel
theorem dcM_769 : decode cX12_init 769 = .ok (.aload_n 0, 1) := by decide +kernel
theorem dcM_770 : decode cX12_init 770 = .ok (.sipush 24200, 3) := by decide +kernel
theorem dcM_773 : decode cX12_init 773 = .ok (.newarray .int, 2) := by decide +kernel
theorem dcM_775 : decode cX12_init 775 = .ok (.putfield 279, 3) := by decide +kernel
theorem dcM_778 : decode cX12_init 778 = .ok (.aload_n 0, 1) := by decide +kernel
theorem dcM_779 : decode cX12_init 779 = .ok (.sipush 24200, 3) := by decide +kernel
theorem dcM_782 : decode cX12_init 782 = .ok (.newarray .int, 2) := by decide +kernel
theorem dcM_784 : decode cX12_init 784 = .ok (.putfield 282, 3) := by decide +kernel
theorem dcM_787 : decode cX12_init 787 = .ok (.aload_n 0, 1) := by decide +kernel
theorem dcM_788 : decode cX12_init 788 = .ok (.sipush 16200, 3) := by decide +kernel
theorem dcM_791 : decode cX12_init 791 = .ok (.newarray .int, 2) := by decide +kernel
theorem dcM_793 : decode cX12_init 793 = .ok (.putfield 285, 3) := by decide +kernel
theorem dcM_796 : decode cX12_init 796 = .ok (.aload_n 0, 1) := by decide +kernel
theorem dcM_797 : decode cX12_init 797 = .ok (.sipush 16200, 3) := by decide +kernel
theorem dcM_800 : decode cX12_init 800 = .ok (.newarray .int, 2) := by decide +kernel
theorem dcM_802 : decode cX12_init 802 = .ok (.putfield 288, 3) := by decide +kernel
theorem dcM_805 : decode cX12_init 805 = .ok (.aload_n 0, 1) := by decide +kernel
theorem dcM_806 : decode cX12_init 806 = .ok (.sipush 6000, 3) := by decide +kernel
theorem dcM_809 : decode cX12_init 809 = .ok (.newarray .int, 2) := by decide +kernel
theorem dcM_811 : decode cX12_init 811 = .ok (.putfield 291, 3) := by decide +kernel
theorem dcM_814 : decode cX12_init 814 = .ok (.aload_n 0, 1) := by decide +kernel
theorem dcM_815 : decode cX12_init 815 = .ok (.sipush 6000, 3) := by decide +kernel
theorem dcM_818 : decode cX12_init 818 = .ok (.newarray .int, 2) := by decide +kernel
theorem dcM_820 : decode cX12_init 820 = .ok (.putfield 294, 3) := by decide +kernel
theorem dcM_823 : decode cX12_init 823 = .ok (.aload_n 0, 1) := by decide +kernel
theorem dcM_824 : decode cX12_init 824 = .ok (.sipush 3000, 3) := by decide +kernel
theorem dcM_827 : decode cX12_init 827 = .ok (.newarray .int, 2) := by decide +kernel
theorem dcM_829 : decode cX12_init 829 = .ok (.putfield 297, 3) := by decide +kernel
theorem dcM_832 : decode cX12_init 832 = .ok (.aload_n 0, 1) := by decide +kernel
theorem dcM_833 : decode cX12_init 833 = .ok (.sipush 3000, 3) := by decide +kernel
theorem dcM_836 : decode cX12_init 836 = .ok (.newarray .int, 2) := by decide +kernel
theorem dcM_838 : decode cX12_init 838 = .ok (.putfield 300, 3) := by decide +kernel
theorem dcM_841 : decode cX12_init 841 = .ok (.aload_n 0, 1) := by decide +kernel
theorem dcM_842 : decode cX12_init 842 = .ok (.sipush 3000, 3) := by decide +kernel
theorem dcM_845 : decode cX12_init 845 = .ok (.newarray .int, 2) := by decide +kernel
theorem dcM_847 : decode cX12_init 847 = .ok (.putfield 303, 3) := by decide +kernel
theorem dcM_850 : decode cX12_init 850 = .ok (.aload_n 0, 1) := by decide +kernel
theorem dcM_851 : decode cX12_init 851 = .ok (.sipush 3000, 3) := by decide +kernel
theorem dcM_854 : decode cX12_init 854 = .ok (.newarray .int, 2) := by decide +kernel
theorem dcM_856 : decode cX12_init 856 = .ok (.putfield 306, 3) := by decide +kernel
theorem dcM_859 : decode cX12_init 859 = .ok (.aload_n 0, 1) := by decide +kernel
theorem dcM_860 : decode cX12_init 860 = .ok (.sipush 3000, 3) := by decide +kernel
theorem dcM_863 : decode cX12_init 863 = .ok (.newarray .int, 2) := by decide +kernel
theorem dcM_865 : decode cX12_init 865 = .ok (.putfield 309, 3) := by decide +kernel
theorem dcM_868 : decode cX12_init 868 = .ok (.aload_n 0, 1) := by decide +kernel
theorem dcM_869 : decode cX12_init 869 = .ok (.sipush 3000, 3) := by decide +kernel
theorem dcM_872 : decode cX12_init 872 = .ok (.newarray .int, 2) := by decide +kernel
theorem dcM_874 : decode cX12_init 874 = .ok (.putfield 312, 3) := by decide +kernel
theorem dcM_877 : decode cX12_init 877 = .ok (.aload_n 0, 1) := by decide +kernel
theorem dcM_878 : decode cX12_init 878 = .ok (.sipush 3000, 3) := by decide +kernel
theorem dcM_881 : decode cX12_init 881 = .ok (.newarray .int, 2) := by decide +kernel
theorem dcM_883 : decode cX12_init 883 = .ok (.putfield 315, 3) := by decide +kernel
theorem dcM_886 : decode cX12_init 886 = .ok (.aload_n 0, 1) := by decide +kernel
theorem dcM_887 : decode cX12_init 887 = .ok (.sipush 3000, 3) := by decide +kernel
theorem dcM_890 : decode cX12_init 890 = .ok (.newarray .int, 2) := by decide +kernel
theorem dcM_892 : decode cX12_init 892 = .ok (.putfield 318, 3) := by decide +kernel
theorem dcM_895 : decode cX12_init 895 = .ok (.aload_n 0, 1) := by decide +kernel
theorem dcM_896 : decode cX12_init 896 = .ok (.sipush 3000, 3) := by decide +kernel
theorem dcM_899 : decode cX12_init 899 = .ok (.newarray .int, 2) := by decide +kernel
theorem dcM_901 : decode cX12_init 901 = .ok (.putfield 321, 3) := by decide +kernel
theorem dcM_904 : decode cX12_init 904 = .ok (.aload_n 0, 1) := by decide +kernel
theorem dcM_905 : decode cX12_init 905 = .ok (.sipush 3000, 3) := by decide +kernel
theorem dcM_908 : decode cX12_init 908 = .ok (.newarray .int, 2) := by decide +kernel
theorem dcM_910 : decode cX12_init 910 = .ok (.putfield 324, 3) := by decide +kernel
theorem dcM_913 : decode cX12_init 913 = .ok (.aload_n 0, 1) := by decide +kernel
theorem dcM_914 : decode cX12_init 914 = .ok (.sipush 3000, 3) := by decide +kernel
theorem dcM_917 : decode cX12_init 917 = .ok (.newarray .int, 2) := by decide +kernel
theorem dcM_919 : decode cX12_init 919 = .ok (.putfield 327, 3) := by decide +kernel
theorem dcM_922 : decode cX12_init 922 = .ok (.aload_n 0, 1) := by decide +kernel
theorem dcM_923 : decode cX12_init 923 = .ok (.sipush 3000, 3) := by decide +kernel
theorem dcM_926 : decode cX12_init 926 = .ok (.newarray .int, 2) := by decide +kernel
theorem dcM_928 : decode cX12_init 928 = .ok (.putfield 330, 3) := by decide +kernel
theorem dcM_931 : decode cX12_init 931 = .ok (.aload_n 0, 1) := by decide +kernel
theorem dcM_932 : decode cX12_init 932 = .ok (.sipush 18000, 3) := by decide +kernel
theorem dcM_935 : decode cX12_init 935 = .ok (.newarray .int, 2) := by decide +kernel
theorem dcM_937 : decode cX12_init 937 = .ok (.putfield 333, 3) := by decide +kernel
theorem dcM_940 : decode cX12_init 940 = .ok (.aload_n 0, 1) := by decide +kernel
theorem dcM_941 : decode cX12_init 941 = .ok (.sipush 18000, 3) := by decide +kernel
theorem dcM_944 : decode cX12_init 944 = .ok (.newarray .int, 2) := by decide +kernel
theorem dcM_946 : decode cX12_init 946 = .ok (.putfield 336, 3) := by decide +kernel
theorem dcM_949 : decode cX12_init 949 = .ok (.aload_n 0, 1) := by decide +kernel
theorem dcM_950 : decode cX12_init 950 = .ok (.sipush 500, 3) := by decide +kernel
theorem dcM_953 : decode cX12_init 953 = .ok (.newarray .int, 2) := by decide +kernel
theorem dcM_955 : decode cX12_init 955 = .ok (.putfield 339, 3) := by decide +kernel
theorem dcM_958 : decode cX12_init 958 = .ok (.aload_n 0, 1) := by decide +kernel
theorem dcM_959 : decode cX12_init 959 = .ok (.sipush 500, 3) := by decide +kernel
theorem dcM_962 : decode cX12_init 962 = .ok (.newarray .int, 2) := by decide +kernel
theorem dcM_964 : decode cX12_init 964 = .ok (.putfield 342, 3) := by decide +kernel
theorem dcM_967 : decode cX12_init 967 = .ok (.aload_n 0, 1) := by decide +kernel
theorem dcM_968 : decode cX12_init 968 = .ok (.sipush 800, 3) := by decide +kernel
theorem dcM_971 : decode cX12_init 971 = .ok (.newarray .int, 2) := by decide +kernel
theorem dcM_973 : decode cX12_init 973 = .ok (.putfield 345, 3) := by decide +kernel
theorem dcM_976 : decode cX12_init 976 = .ok (.aload_n 0, 1) := by decide +kernel
theorem dcM_977 : decode cX12_init 977 = .ok (.sipush 800, 3) := by decide +kernel
theorem dcM_980 : decode cX12_init 980 = .ok (.newarray .int, 2) := by decide +kernel
theorem dcM_982 : decode cX12_init 982 = .ok (.putfield 348, 3) := by decide +kernel
theorem dcM_985 : decode cX12_init 985 = .ok (.aload_n 0, 1) := by decide +kernel
theorem dcM_986 : decode cX12_init 986 = .ok (.sipush 800, 3) := by decide +kernel
theorem dcM_989 : decode cX12_init 989 = .ok (.newarray .int, 2) := by decide +kernel
theorem dcM_991 : decode cX12_init 991 = .ok (.putfield 351, 3) := by decide +kernel
theorem dcM_994 : decode cX12_init 994 = .ok (.aload_n 0, 1) := by decide +kernel
theorem dcM_995 : decode cX12_init 995 = .ok (.bipush 120, 2) := by decide +kernel
theorem dcM_997 : decode cX12_init 997 = .ok (.newarray .int, 2) := by decide +kernel
theorem dcM_999 : decode cX12_init 999 = .ok (.putfield 354, 3) := by decide +kernel
theorem dcM_1002 : decode cX12_init 1002 = .ok (.aload_n 0, 1) := by decide +kernel
theorem dcM_1003 : decode cX12_init 1003 = .ok (.bipush 120, 2) := by decide +kernel
theorem dcM_1005 : decode cX12_init 1005 = .ok (.newarray .int, 2) := by decide +kernel
theorem dcM_1007 : decode cX12_init 1007 = .ok (.putfield 357, 3) := by decide +kernel
theorem dcM_1010 : decode cX12_init 1010 = .ok (.aload_n 0, 1) := by decide +kernel
theorem dcM_1011 : decode cX12_init 1011 = .ok (.bipush 120, 2) := by decide +kernel
theorem dcM_1013 : decode cX12_init 1013 = .ok (.newarray .int, 2) := by decide +kernel
theorem dcM_1015 : decode cX12_init 1015 = .ok (.putfield 360, 3) := by decide +kernel
theorem dcM_1018 : decode cX12_init 1018 = .ok (.aload_n 0, 1) := by decide +kernel
theorem dcM_1019 : decode cX12_init 1019 = .ok (.bipush 120, 2) := by decide +kernel
theorem dcM_1021 : decode cX12_init 1021 = .ok (.newarray .int, 2) := by decide +kernel
theorem dcM_1023 : decode cX12_init 1023 = .ok (.putfield 363, 3) := by decide +kernel
theorem dcM_1026 : decode cX12_init 1026 = .ok (.aload_n 0, 1) := by decide +kernel
theorem dcM_1027 : decode cX12_init 1027 = .ok (.bipush 120, 2) := by decide +kernel
theorem dcM_1029 : decode cX12_init 1029 = .ok (.newarray .int, 2) := by decide +kernel
theorem dcM_1031 : decode cX12_init 1031 = .ok (.putfield 366, 3) := by decide +kernel
theorem dcM_1034 : decode cX12_init 1034 = .ok (.aload_n 0, 1) := by decide +kernel
theorem dcM_1035 : decode cX12_init 1035 = .ok (.sipush 720, 3) := by decide +kernel
theorem dcM_1038 : decode cX12_init 1038 = .ok (.newarray .int, 2) := by decide +kernel
theorem dcM_1040 : decode cX12_init 1040 = .ok (.putfield 369, 3) := by decide +kernel
theorem dcM_1043 : decode cX12_init 1043 = .ok (.aload_n 0, 1) := by decide +kernel
theorem dcM_1044 : decode cX12_init 1044 = .ok (.sipush 720, 3) := by decide +kernel
theorem dcM_1047 : decode cX12_init 1047 = .ok (.newarray .int, 2) := by decide +kernel
theorem dcM_1049 : decode cX12_init 1049 = .ok (.putfield 372, 3) := by decide +kernel
theorem dcM_1052 : decode cX12_init 1052 = .ok (.aload_n 0, 1) := by decide +kernel
theorem dcM_1053 : decode cX12_init 1053 = .ok (.bipush 120, 2) := by decide +kernel
theorem dcM_1055 : decode cX12_init 1055 = .ok (.newarray .int, 2) := by decide +kernel
theorem dcM_1057 : decode cX12_init 1057 = .ok (.putfield 375, 3) := by decide +kernel
theorem dcM_1060 : decode cX12_init 1060 = .ok (.aload_n 0, 1) := by decide +kernel
theorem dcM_1061 : decode cX12_init 1061 = .ok (.bipush 120, 2) := by decide +kernel
theorem dcM_1063 : decode cX12_init 1063 = .ok (.newarray .int, 2) := by decide +kernel
theorem dcM_1065 : decode cX12_init 1065 = .ok (.putfield 378, 3) := by decide +kernel
theorem dcM_1068 : decode cX12_init 1068 = .ok (.aload_n 0, 1) := by decide +kernel
theorem dcM_1069 : decode cX12_init 1069 = .ok (.sipush 2880, 3) := by decide +kernel
theorem dcM_1072 : decode cX12_init 1072 = .ok (.newarray .int, 2) := by decide +kernel
theorem dcM_1074 : decode cX12_init 1074 = .ok (.putfield 381, 3) := by decide +kernel
theorem dcM_1077 : decode cX12_init 1077 = .ok (.aload_n 0, 1) := by decide +kernel
theorem dcM_1078 : decode cX12_init 1078 = .ok (.sipush 2880, 3) := by decide +kernel
theorem dcM_1081 : decode cX12_init 1081 = .ok (.newarray .int, 2) := by decide +kernel
theorem dcM_1083 : decode cX12_init 1083 = .ok (.putfield 384, 3) := by decide +kernel
theorem dcM_1086 : decode cX12_init 1086 = .ok (.aload_n 0, 1) := by decide +kernel
theorem dcM_1087 : decode cX12_init 1087 = .ok (.sipush 20160, 3) := by decide +kernel
theorem dcM_1090 : decode cX12_init 1090 = .ok (.newarray .int, 2) := by decide +kernel
theorem dcM_1092 : decode cX12_init 1092 = .ok (.putfield 387, 3) := by decide +kernel
theorem dcM_1095 : decode cX12_init 1095 = .ok (.aload_n 0, 1) := by decide +kernel
theorem dcM_1096 : decode cX12_init 1096 = .ok (.sipush 20160, 3) := by decide +kernel
theorem dcM_1099 : decode cX12_init 1099 = .ok (.newarray .int, 2) := by decide +kernel
theorem dcM_1101 : decode cX12_init 1101 = .ok (.putfield 390, 3) := by decide +kernel
theorem dcM_1104 : decode cX12_init 1104 = .ok (.aload_n 0, 1) := by decide +kernel
theorem dcM_1105 : decode cX12_init 1105 = .ok (.bipush 6, 2) := by decide +kernel
theorem dcM_1107 : decode cX12_init 1107 = .ok (.newarray .int, 2) := by decide +kernel
theorem dcM_1109 : decode cX12_init 1109 = .ok (.putfield 393, 3) := by decide +kernel
theorem dcM_1112 : decode cX12_init 1112 = .ok (.aload_n 0, 1) := by decide +kernel
theorem dcM_1113 : decode cX12_init 1113 = .ok (.bipush 6, 2) := by decide +kernel
theorem dcM_1115 : decode cX12_init 1115 = .ok (.newarray .int, 2) := by decide +kernel
theorem dcM_1117 : decode cX12_init 1117 = .ok (.putfield 396, 3) := by decide +kernel
theorem dcM_1120 : decode cX12_init 1120 = .ok (.aload_n 0, 1) := by decide +kernel
theorem dcM_1121 : decode cX12_init 1121 = .ok (.bipush 14, 2) := by decide +kernel
theorem dcM_1123 : decode cX12_init 1123 = .ok (.newarray .int, 2) := by decide +kernel
theorem dcM_1125 : decode cX12_init 1125 = .ok (.putfield 399, 3) := by decide +kernel
theorem dcM_1128 : decode cX12_init 1128 = .ok (.aload_n 0, 1) := by decide +kernel
theorem dcM_1129 : decode cX12_init 1129 = .ok (.bipush 14, 2) := by decide +kernel
theorem dcM_1131 : decode cX12_init 1131 = .ok (.newarray .int, 2) := by decide +kernel
theorem dcM_1133 : decode cX12_init 1133 = .ok (.putfield 402, 3) := by decide +kernel
theorem dcM_1136 : decode cX12_init 1136 = .ok (.aload_n 0, 1) := by decide +kernel
theorem dcM_1137 : decode cX12_init 1137 = .ok (.sipush 1000, 3) := by decide +kernel
theorem dcM_1140 : decode cX12_init 1140 = .ok (.newarray .int, 2) := by decide +kernel
theorem dcM_1142 : decode cX12_init 1142 = .ok (.putfield 405, 3) := by decide +kernel
theorem dcM_1145 : decode cX12_init 1145 = .ok (.aload_n 0, 1) := by decide +kernel
theorem dcM_1146 : decode cX12_init 1146 = .ok (.sipush 1000, 3) := by decide +kernel
theorem dcM_1149 : decode cX12_init 1149 = .ok (.newarray .int, 2) := by decide +kernel
theorem dcM_1151 : decode cX12_init 1151 = .ok (.putfield 408, 3) := by decide +kernel
theorem dcM_1154 : decode cX12_init 1154 = .ok (.aload_n 0, 1) := by decide +kernel
theorem dcM_1155 : decode cX12_init 1155 = .ok (.sipush 1000, 3) := by decide +kernel
theorem dcM_1158 : decode cX12_init 1158 = .ok (.newarray .int, 2) := by decide +kernel
theorem dcM_1160 : decode cX12_init 1160 = .ok (.putfield 411, 3) := by decide +kernel
theorem dcM_1163 : decode cX12_init 1163 = .ok (.aload_n 0, 1) := by decide +kernel
theorem dcM_1164 : decode cX12_init 1164 = .ok (.sipush 1000, 3) := by decide +kernel
theorem dcM_1167 : decode cX12_init 1167 = .ok (.newarray .int, 2) := by decide +kernel
theorem dcM_1169 : decode cX12_init 1169 = .ok (.putfield 414, 3) := by decide +kernel
theorem dcM_1172 : decode cX12_init 1172 = .ok (.aload_n 0, 1) := by decide +kernel
theorem dcM_1173 : decode cX12_init 1173 = .ok (.bipush 64, 2) := by decide +kernel
theorem dcM_1175 : decode cX12_init 1175 = .ok (.newarray .int, 2) := by decide +kernel
theorem dcM_1177 : decode cX12_init 1177 = .ok (.putfield 417, 3) := by decide +kernel
theorem dcM_1180 : decode cX12_init 1180 = .ok (.aload_n 0, 1) := by decide +kernel
theorem dcM_1181 : decode cX12_init 1181 = .ok (.bipush 64, 2) := by decide +kernel
theorem dcM_1183 : decode cX12_init 1183 = .ok (.newarray .int, 2) := by decide +kernel
theorem dcM_1185 : decode cX12_init 1185 = .ok (.putfield 420, 3) := by decide +kernel
theorem dcM_1188 : decode cX12_init 1188 = .ok (.return_, 1) := by decide +kernel
def mr_tab : List (Nat × Nat × Nat) := [(0, 0, 5016), (2, 0, 903), (3, 0, 903), (4, 0, 903), (5, 0, 903), (13, 0, 2000), (14, 0, 2000), (15, 0, 2000), (16, 0, 2000), (23, 0, 13), (24, 0, 13), (25, 0, 13), (27, 0, 9), (28, 2, 9), (29, 0, 9), (30, 0, 90), (32, 0, 900), (33, 0, 900), (35, 0, 61), (36, 0, 61), (37, 0, 61), (38, 0, 61), (39, 0, 61), (40, 0, 61), (42, 0, 900), (43, 0, 900), (45, 0, 25), (46, 0, 25), (47, 0, 25), (48, 0, 25), (49, 0, 25), (50, 0, 25), (51, 0, 25), (53, 0, 25), (54, 0, 25), (55, 0, 25), (56, 0, 25), (58, 0, 13), (59, 2, 13), (60, 0, 13), (62, 0, 300), (63, 0, 300), (65, 0, 900), (69, 0, 900), (70, 0, 900), (71, 0, 900), (73, 0, 900), (78, 0, 16), (80, 0, 16), (81, 0, 16), (83, 0, 8), (89, 0, 400), (90, 0, 400), (91, 0, 400), (92, 0, 400), (93, 0, 400), (94, 0, 400), (96, 0, 900), (97, 0, 900), (98, 0, 900), (99, 0, 900), (100, 0, 900), (101, 0, 6300), (102, 0, 900), (103, 0, 900), (104, 2, 900), (105, 2, 900), (106, 0, 900), (107, 0, 900), (108, 0, 400), (110, 0, 360000), (111, 0, 360000), (112, 2, 900), (114, 0, 5000), (115, 0, 5000), (116, 0, 5000), (117, 0, 5000), (120, 0, 4800), (121, 0, 4800), (122, 0, 4800), (123, 0, 25), (124, 0, 13), (125, 0, 1600), (126, 0, 13), (133, 0, 300), (134, 0, 300), (136, 0, 300), (137, 0, 300), (139, 0, 201), (140, 0, 24200), (141, 0, 24200), (142, 0, 16200), (143, 0, 16200), (147, 0, 6000), (148, 0, 6000), (151, 0, 3000), (152, 0, 3000), (153, 0, 3000), (154, 0, 3000), (155, 0, 3000), (156, 0, 3000), (157, 0, 3000), (158, 0, 3000), (159, 0, 3000), (160, 0, 3000), (161, 0, 3000), (162, 0, 3000), (163, 0, 18000), (164, 0, 18000), (166, 0, 500), (167, 0, 500), (169, 0, 800), (170, 0, 800), (171, 0, 800), (173, 0, 120), (174, 0, 120), (175, 0, 120), (176, 0, 120), (177, 0, 120), (178, 0, 720), (179, 0, 720), (180, 0, 120), (181, 0, 120), (182, 0, 2880), (183, 0, 2880), (184, 0, 20160), (185, 0, 20160), (192, 0, 6), (193, 0, 6), (194, 0, 14), (195, 0, 14), (198, 0, 1000), (199, 0, 1000), (200, 0, 1000), (201, 0, 1000), (204, 0, 64), (205, 0, 64)]
def mr_f0 : List Value := [.null, .int 0, .null, .null, .null, .null, .int 0, .int 0, .int 0, .int 0, .int 0, .int 0, .int 0, .null, .null, .null, .null, .int 0, .int 0, .int 0, .int 0, .int 0, .int 0, .null, .null, .null, .int 0, .null, .null, .null, .null, .int 0, .null, .null, .int 0, .null, .null, .null, .null, .null, .null, .int 0, .null, .null, .int 0, .null, .null, .null, .null, .null, .null, .null, .int 0, .null, .null, .null, .null, .int 0, .null, .null, .null, .int 0, .null, .null, .int 0, .null, .int 0, .int 0, .int 0, .null, .null, .null, .int 0, .null, .int 0, .int 0, .int 0, .int 0, .null, .int 0, .null, .null, .int 0, .null, .int 0, .int 0, .int 0, .int 0, .int 0, .null, .null, .null, .null, .null, .null, .int 0, .null, .null, .null, .null, .null, .null, .null, .null, .null, .null, .null, .null, .null, .int 0, .null, .null, .null, .int 0, .null, .null, .null, .null, .int 0, .int 0, .null, .null, .null, .null, .null, .null, .null, .int 0, .int 0, .int 0, .int 0, .int 0, .int 0, .null, .null, .int 0, .null, .null, .int 0, .null, .null, .null, .null, .null, .int 0, .int 0, .int 0, .null, .null, .int 0, .int 0, .null, .null, .null, .null, .null, .null, .null, .null, .null, .null, .null, .null, .null, .null, .int 0, .null, .null, .int 0, .null, .null, .null, .int 0, .null, .null, .null, .null, .null, .null, .null, .null, .null, .null, .null, .null, .null, .int 0, .int 0, .int 0, .int 0, .int 0, .int 0, .null, .null, .null, .null, .int 0, .int 0, .null, .null, .null, .null, .int 0, .int 0, .null, .null, .int 0, .int 0, .int 0]
def mr_fs (qs : List Nat) : List Value := (mr_tab.zip qs).foldl (fun fs p => fs.set p.1.1 (.ref p.2)) mr_f0
def mr_news (cA : Nat → ClassId) (qs : List Nat) : va_W := (mr_tab.zip qs).map (fun p => (p.2, .inl (cA p.1.2.1, p.1.2.2, .inl (fun _ => 0))))
section MR
variable {l : Launch} {D : va_G} {cA : Nat → ClassId} {a z : Nat}
theorem mr_stepI {fs : List Value} {news : va_W} {n k : Nat} {Qn : List Value → va_W → Prop} {pc pcn idx j N : Nat} {v : Int32} (hl : fs.length = 209) (d0 : decode cX12_init pc = .ok (.aload_n 0, 1)) (hpush : jn_J l D cA (fun _ => True) a z 12 4 137 1024300 RX12 cX12_init 1 pcn [(0, .ref a)] (.int v :: [.ref a]) ((a, .inr (12, fs)) :: news) n k Qn → jn_J l D cA (fun _ => True) a z 12 4 137 1024300 RX12 cX12_init 1 (pc + 1) [(0, .ref a)] [.ref a] ((a, .inr (12, fs)) :: news) n k Qn)
    (d1 : decode cX12_init pcn = .ok (.newarray .int, 2)) (d2 : decode cX12_init (pcn + 2) = .ok (.putfield idx, 3)) (hj : j < 209) (hw : Cond.fieldLink RX12 idx (TX12 j).1 (TX12 j).2.1 (TX12 j).2.2.1 ∈ ja_B) (hfin : (TX12 j).2.2.2 = true) (hdecl : (TX12 j).1 = RX12) (hna : ∀ q, narrow (tyX12 j) (.ref q) = .ref q) (hfi : ∀ q, fits (tyX12 j) (.ref q) = true) (hv : ¬ v < 0) (hN : v.toNatClampNeg = N) (hb9 : N * componentBytes .int ≤ 536870912) (h1 : n + 1 ≤ 137) (h2 : k + N ≤ 1024300)
    (kk : ∀ (q : Nat) (fs' : List Value) (news' : va_W), fs' = fs.set j (.ref q) → news' = news ++ [(q, .inl (cA 0, N, .inl (fun _ => 0)))] → fs'.length = 209 → jn_J l D cA (fun _ => True) a z 12 4 137 1024300 RX12 cX12_init 1 (pcn + 2 + 3) [(0, .ref a)] [] ((a, .inr (12, fs')) :: news') (n + 1) (k + N) Qn) :
    jn_J l D cA (fun _ => True) a z 12 4 137 1024300 RX12 cX12_init 1 pc [(0, .ref a)] [] ((a, .inr (12, fs)) :: news) n k Qn := by
  refine jn_aload_n (x := a) d0 (List.mem_of_getElem? (i := 0) rfl) (hpush ?_)
  refine jn_newI (v := v) (N := N) hv hN hb9 h1 h2 d1 (fun q => ?_)
  refine jn_at ((a, .inr (12, fs)) :: (news ++ [(q, .inl (cA 0, N, .inl (fun _ => 0)))])) rfl ?_
  refine jn_putF (q0 := 0) (cj := 12) (N := 209) (C := RX12) (T := TX12) (j := j) tyX12 cl_in12 tyX12_ok nmX12 rfl rfl hj hw hfin hdecl (hna q) (hfi q) (by rw [hl]; exact hj) d2 ?_
  exact kk q _ _ rfl rfl (by rw [List.length_set]; exact hl)
theorem mr_stepZ {fs : List Value} {news : va_W} {n k : Nat} {Qn : List Value → va_W → Prop} {pc pcn idx j N : Nat} {v : Int32} (hl : fs.length = 209) (d0 : decode cX12_init pc = .ok (.aload_n 0, 1)) (hpush : jn_J l D cA (fun _ => True) a z 12 4 137 1024300 RX12 cX12_init 1 pcn [(0, .ref a)] (.int v :: [.ref a]) ((a, .inr (12, fs)) :: news) n k Qn → jn_J l D cA (fun _ => True) a z 12 4 137 1024300 RX12 cX12_init 1 (pc + 1) [(0, .ref a)] [.ref a] ((a, .inr (12, fs)) :: news) n k Qn)
    (d1 : decode cX12_init pcn = .ok (.newarray .boolean, 2)) (d2 : decode cX12_init (pcn + 2) = .ok (.putfield idx, 3)) (hj : j < 209) (hw : Cond.fieldLink RX12 idx (TX12 j).1 (TX12 j).2.1 (TX12 j).2.2.1 ∈ ja_B) (hfin : (TX12 j).2.2.2 = true) (hdecl : (TX12 j).1 = RX12) (hna : ∀ q, narrow (tyX12 j) (.ref q) = .ref q) (hfi : ∀ q, fits (tyX12 j) (.ref q) = true) (hv : ¬ v < 0) (hN : v.toNatClampNeg = N) (hb9 : N * componentBytes .boolean ≤ 536870912) (h1 : n + 1 ≤ 137) (h2 : k + N ≤ 1024300)
    (kk : ∀ (q : Nat) (fs' : List Value) (news' : va_W), fs' = fs.set j (.ref q) → news' = news ++ [(q, .inl (cA 2, N, .inl (fun _ => 0)))] → fs'.length = 209 → jn_J l D cA (fun _ => True) a z 12 4 137 1024300 RX12 cX12_init 1 (pcn + 2 + 3) [(0, .ref a)] [] ((a, .inr (12, fs')) :: news') (n + 1) (k + N) Qn) :
    jn_J l D cA (fun _ => True) a z 12 4 137 1024300 RX12 cX12_init 1 pc [(0, .ref a)] [] ((a, .inr (12, fs)) :: news) n k Qn := by
  refine jn_aload_n (x := a) d0 (List.mem_of_getElem? (i := 0) rfl) (hpush ?_)
  refine jn_newZ (v := v) (N := N) hv hN hb9 h1 h2 d1 (fun q => ?_)
  refine jn_at ((a, .inr (12, fs)) :: (news ++ [(q, .inl (cA 2, N, .inl (fun _ => 0)))])) rfl ?_
  refine jn_putF (q0 := 0) (cj := 12) (N := 209) (C := RX12) (T := TX12) (j := j) tyX12 cl_in12 tyX12_ok nmX12 rfl rfl hj hw hfin hdecl (hna q) (hfi q) (by rw [hl]; exact hj) d2 ?_
  exact kk q _ _ rfl rfl (by rw [List.length_set]; exact hl)
theorem mr_ldc {F : State → Prop} {ci d mc ms : Nat} {own : String} {cc : ByteArray} {nL pc idx : Nat} {Ls : List (Nat × Value)} {S : List Value} {ws : va_W} {n k : Nat} {Qn : List Value → va_W → Prop} {w : Int32} (hw : Cond.constant own idx w ∈ ja_B) (hd : decode cc pc = .ok (.ldc idx, 2)) (kk : jn_J l D cA F a z ci d mc ms own cc nL (pc + 2) Ls (.int w :: S) ws n k Qn) : jn_J l D cA F a z ci d mc ms own cc nL pc Ls S ws n k Qn := by
  intro p e s m args below meth c H locs ls hx hb hml hr hnm hown hts hlk hF hK hz hP hD hS hl
  exact lv_ldc hx hb hown (hts _ hw) hd (kk p e s m args below meth c H locs ls hx hb hml hr hnm hown hts hlk hF hK hz hP hD hS hl)
set_option maxHeartbeats 40000000 in
set_option maxRecDepth 100000 in
theorem ct_Model : jn_J l D cA (fun _ => True) a z 12 4 137 1024300 RX12 cX12_init 1 0 (lv_args 0 (.ref a :: [])) [] [(a, .inr (12, mr_f0))] 0 0 (fun fs news => ∃ qs : List Nat, qs.length = 137 ∧ fs = mr_fs qs ∧ news = mr_news cA qs) := by
  show jn_J l D cA (fun _ => True) a z 12 4 137 1024300 RX12 cX12_init 1 0 [(0, .ref a)] [] [(a, .inr (12, mr_f0))] 0 0 _
  refine jn_aload_n (x := a) dcM_0 (List.mem_of_getElem? (i := 0) rfl) ?_
  refine jn_obj (ja_m (ck_tb_in (p := 6838) (by decide +kernel)) rfl) jo_i jo_c (by decide) (Nat.le_of_ble_eq_true rfl) dcM_1 ?_
  refine mr_stepI (v := 5016) (N := 5016) (j := 0) (show mr_f0.length = 209 from rfl) dcM_4 (fun kk => jn_sipush (w := 5016) dcM_5 (by decide +kernel) kk) dcM_8 dcM_10 (by decide) (ja_m (ck_tb_in (p := 6840) (by decide +kernel)) rfl) rfl rfl (fun _ => rfl) (fun _ => rfl) (by decide) (by decide) (by decide) (Nat.le_of_ble_eq_true rfl) (Nat.le_of_ble_eq_true rfl) (fun q0 f0 n0 e0 g0 l0 => ?_)
  refine mr_stepI (v := 903) (N := 903) (j := 2) l0 dcM_13 (fun kk => jn_sipush (w := 903) dcM_14 (by decide +kernel) kk) dcM_17 dcM_19 (by decide) (ja_m (ck_tb_in (p := 6842) (by decide +kernel)) rfl) rfl rfl (fun _ => rfl) (fun _ => rfl) (by decide) (by decide) (by decide) (Nat.le_of_ble_eq_true rfl) (Nat.le_of_ble_eq_true rfl) (fun q1 f1 n1 e1 g1 l1 => ?_)
  refine mr_stepI (v := 903) (N := 903) (j := 3) l1 dcM_22 (fun kk => jn_sipush (w := 903) dcM_23 (by decide +kernel) kk) dcM_26 dcM_28 (by decide) (ja_m (ck_tb_in (p := 6843) (by decide +kernel)) rfl) rfl rfl (fun _ => rfl) (fun _ => rfl) (by decide) (by decide) (by decide) (Nat.le_of_ble_eq_true rfl) (Nat.le_of_ble_eq_true rfl) (fun q2 f2 n2 e2 g2 l2 => ?_)
  refine mr_stepI (v := 903) (N := 903) (j := 4) l2 dcM_31 (fun kk => jn_sipush (w := 903) dcM_32 (by decide +kernel) kk) dcM_35 dcM_37 (by decide) (ja_m (ck_tb_in (p := 6844) (by decide +kernel)) rfl) rfl rfl (fun _ => rfl) (fun _ => rfl) (by decide) (by decide) (by decide) (Nat.le_of_ble_eq_true rfl) (Nat.le_of_ble_eq_true rfl) (fun q3 f3 n3 e3 g3 l3 => ?_)
  refine mr_stepI (v := 903) (N := 903) (j := 5) l3 dcM_40 (fun kk => jn_sipush (w := 903) dcM_41 (by decide +kernel) kk) dcM_44 dcM_46 (by decide) (ja_m (ck_tb_in (p := 6845) (by decide +kernel)) rfl) rfl rfl (fun _ => rfl) (fun _ => rfl) (by decide) (by decide) (by decide) (Nat.le_of_ble_eq_true rfl) (Nat.le_of_ble_eq_true rfl) (fun q4 f4 n4 e4 g4 l4 => ?_)
  refine mr_stepI (v := 2000) (N := 2000) (j := 13) l4 dcM_49 (fun kk => jn_sipush (w := 2000) dcM_50 (by decide +kernel) kk) dcM_53 dcM_55 (by decide) (ja_m (ck_tb_in (p := 6853) (by decide +kernel)) rfl) rfl rfl (fun _ => rfl) (fun _ => rfl) (by decide) (by decide) (by decide) (Nat.le_of_ble_eq_true rfl) (Nat.le_of_ble_eq_true rfl) (fun q5 f5 n5 e5 g5 l5 => ?_)
  refine mr_stepI (v := 2000) (N := 2000) (j := 14) l5 dcM_58 (fun kk => jn_sipush (w := 2000) dcM_59 (by decide +kernel) kk) dcM_62 dcM_64 (by decide) (ja_m (ck_tb_in (p := 6854) (by decide +kernel)) rfl) rfl rfl (fun _ => rfl) (fun _ => rfl) (by decide) (by decide) (by decide) (Nat.le_of_ble_eq_true rfl) (Nat.le_of_ble_eq_true rfl) (fun q6 f6 n6 e6 g6 l6 => ?_)
  refine mr_stepI (v := 2000) (N := 2000) (j := 15) l6 dcM_67 (fun kk => jn_sipush (w := 2000) dcM_68 (by decide +kernel) kk) dcM_71 dcM_73 (by decide) (ja_m (ck_tb_in (p := 6855) (by decide +kernel)) rfl) rfl rfl (fun _ => rfl) (fun _ => rfl) (by decide) (by decide) (by decide) (Nat.le_of_ble_eq_true rfl) (Nat.le_of_ble_eq_true rfl) (fun q7 f7 n7 e7 g7 l7 => ?_)
  refine mr_stepI (v := 2000) (N := 2000) (j := 16) l7 dcM_76 (fun kk => jn_sipush (w := 2000) dcM_77 (by decide +kernel) kk) dcM_80 dcM_82 (by decide) (ja_m (ck_tb_in (p := 6856) (by decide +kernel)) rfl) rfl rfl (fun _ => rfl) (fun _ => rfl) (by decide) (by decide) (by decide) (Nat.le_of_ble_eq_true rfl) (Nat.le_of_ble_eq_true rfl) (fun q8 f8 n8 e8 g8 l8 => ?_)
  refine mr_stepI (v := 13) (N := 13) (j := 23) l8 dcM_85 (fun kk => jn_bipush (w := 13) dcM_86 (by decide +kernel) kk) dcM_88 dcM_90 (by decide) (ja_m (ck_tb_in (p := 6863) (by decide +kernel)) rfl) rfl rfl (fun _ => rfl) (fun _ => rfl) (by decide) (by decide) (by decide) (Nat.le_of_ble_eq_true rfl) (Nat.le_of_ble_eq_true rfl) (fun q9 f9 n9 e9 g9 l9 => ?_)
  refine mr_stepI (v := 13) (N := 13) (j := 24) l9 dcM_93 (fun kk => jn_bipush (w := 13) dcM_94 (by decide +kernel) kk) dcM_96 dcM_98 (by decide) (ja_m (ck_tb_in (p := 6864) (by decide +kernel)) rfl) rfl rfl (fun _ => rfl) (fun _ => rfl) (by decide) (by decide) (by decide) (Nat.le_of_ble_eq_true rfl) (Nat.le_of_ble_eq_true rfl) (fun q10 f10 n10 e10 g10 l10 => ?_)
  refine mr_stepI (v := 13) (N := 13) (j := 25) l10 dcM_101 (fun kk => jn_bipush (w := 13) dcM_102 (by decide +kernel) kk) dcM_104 dcM_106 (by decide) (ja_m (ck_tb_in (p := 6865) (by decide +kernel)) rfl) rfl rfl (fun _ => rfl) (fun _ => rfl) (by decide) (by decide) (by decide) (Nat.le_of_ble_eq_true rfl) (Nat.le_of_ble_eq_true rfl) (fun q11 f11 n11 e11 g11 l11 => ?_)
  refine mr_stepI (v := 9) (N := 9) (j := 27) l11 dcM_109 (fun kk => jn_bipush (w := 9) dcM_110 (by decide +kernel) kk) dcM_112 dcM_114 (by decide) (ja_m (ck_tb_in (p := 6867) (by decide +kernel)) rfl) rfl rfl (fun _ => rfl) (fun _ => rfl) (by decide) (by decide) (by decide) (Nat.le_of_ble_eq_true rfl) (Nat.le_of_ble_eq_true rfl) (fun q12 f12 n12 e12 g12 l12 => ?_)
  refine mr_stepZ (v := 9) (N := 9) (j := 28) l12 dcM_117 (fun kk => jn_bipush (w := 9) dcM_118 (by decide +kernel) kk) dcM_120 dcM_122 (by decide) (ja_m (ck_tb_in (p := 6868) (by decide +kernel)) rfl) rfl rfl (fun _ => rfl) (fun _ => rfl) (by decide) (by decide) (by decide) (Nat.le_of_ble_eq_true rfl) (Nat.le_of_ble_eq_true rfl) (fun q13 f13 n13 e13 g13 l13 => ?_)
  refine mr_stepI (v := 9) (N := 9) (j := 29) l13 dcM_125 (fun kk => jn_bipush (w := 9) dcM_126 (by decide +kernel) kk) dcM_128 dcM_130 (by decide) (ja_m (ck_tb_in (p := 6869) (by decide +kernel)) rfl) rfl rfl (fun _ => rfl) (fun _ => rfl) (by decide) (by decide) (by decide) (Nat.le_of_ble_eq_true rfl) (Nat.le_of_ble_eq_true rfl) (fun q14 f14 n14 e14 g14 l14 => ?_)
  refine mr_stepI (v := 90) (N := 90) (j := 30) l14 dcM_133 (fun kk => jn_bipush (w := 90) dcM_134 (by decide +kernel) kk) dcM_136 dcM_138 (by decide) (ja_m (ck_tb_in (p := 6870) (by decide +kernel)) rfl) rfl rfl (fun _ => rfl) (fun _ => rfl) (by decide) (by decide) (by decide) (Nat.le_of_ble_eq_true rfl) (Nat.le_of_ble_eq_true rfl) (fun q15 f15 n15 e15 g15 l15 => ?_)
  refine mr_stepI (v := 900) (N := 900) (j := 32) l15 dcM_141 (fun kk => jn_sipush (w := 900) dcM_142 (by decide +kernel) kk) dcM_145 dcM_147 (by decide) (ja_m (ck_tb_in (p := 6872) (by decide +kernel)) rfl) rfl rfl (fun _ => rfl) (fun _ => rfl) (by decide) (by decide) (by decide) (Nat.le_of_ble_eq_true rfl) (Nat.le_of_ble_eq_true rfl) (fun q16 f16 n16 e16 g16 l16 => ?_)
  refine mr_stepI (v := 900) (N := 900) (j := 33) l16 dcM_150 (fun kk => jn_sipush (w := 900) dcM_151 (by decide +kernel) kk) dcM_154 dcM_156 (by decide) (ja_m (ck_tb_in (p := 6873) (by decide +kernel)) rfl) rfl rfl (fun _ => rfl) (fun _ => rfl) (by decide) (by decide) (by decide) (Nat.le_of_ble_eq_true rfl) (Nat.le_of_ble_eq_true rfl) (fun q17 f17 n17 e17 g17 l17 => ?_)
  refine mr_stepI (v := 61) (N := 61) (j := 35) l17 dcM_159 (fun kk => jn_bipush (w := 61) dcM_160 (by decide +kernel) kk) dcM_162 dcM_164 (by decide) (ja_m (ck_tb_in (p := 6875) (by decide +kernel)) rfl) rfl rfl (fun _ => rfl) (fun _ => rfl) (by decide) (by decide) (by decide) (Nat.le_of_ble_eq_true rfl) (Nat.le_of_ble_eq_true rfl) (fun q18 f18 n18 e18 g18 l18 => ?_)
  refine mr_stepI (v := 61) (N := 61) (j := 36) l18 dcM_167 (fun kk => jn_bipush (w := 61) dcM_168 (by decide +kernel) kk) dcM_170 dcM_172 (by decide) (ja_m (ck_tb_in (p := 6876) (by decide +kernel)) rfl) rfl rfl (fun _ => rfl) (fun _ => rfl) (by decide) (by decide) (by decide) (Nat.le_of_ble_eq_true rfl) (Nat.le_of_ble_eq_true rfl) (fun q19 f19 n19 e19 g19 l19 => ?_)
  refine mr_stepI (v := 61) (N := 61) (j := 37) l19 dcM_175 (fun kk => jn_bipush (w := 61) dcM_176 (by decide +kernel) kk) dcM_178 dcM_180 (by decide) (ja_m (ck_tb_in (p := 6877) (by decide +kernel)) rfl) rfl rfl (fun _ => rfl) (fun _ => rfl) (by decide) (by decide) (by decide) (Nat.le_of_ble_eq_true rfl) (Nat.le_of_ble_eq_true rfl) (fun q20 f20 n20 e20 g20 l20 => ?_)
  refine mr_stepI (v := 61) (N := 61) (j := 38) l20 dcM_183 (fun kk => jn_bipush (w := 61) dcM_184 (by decide +kernel) kk) dcM_186 dcM_188 (by decide) (ja_m (ck_tb_in (p := 6878) (by decide +kernel)) rfl) rfl rfl (fun _ => rfl) (fun _ => rfl) (by decide) (by decide) (by decide) (Nat.le_of_ble_eq_true rfl) (Nat.le_of_ble_eq_true rfl) (fun q21 f21 n21 e21 g21 l21 => ?_)
  refine mr_stepI (v := 61) (N := 61) (j := 39) l21 dcM_191 (fun kk => jn_bipush (w := 61) dcM_192 (by decide +kernel) kk) dcM_194 dcM_196 (by decide) (ja_m (ck_tb_in (p := 6879) (by decide +kernel)) rfl) rfl rfl (fun _ => rfl) (fun _ => rfl) (by decide) (by decide) (by decide) (Nat.le_of_ble_eq_true rfl) (Nat.le_of_ble_eq_true rfl) (fun q22 f22 n22 e22 g22 l22 => ?_)
  refine mr_stepI (v := 61) (N := 61) (j := 40) l22 dcM_199 (fun kk => jn_bipush (w := 61) dcM_200 (by decide +kernel) kk) dcM_202 dcM_204 (by decide) (ja_m (ck_tb_in (p := 6880) (by decide +kernel)) rfl) rfl rfl (fun _ => rfl) (fun _ => rfl) (by decide) (by decide) (by decide) (Nat.le_of_ble_eq_true rfl) (Nat.le_of_ble_eq_true rfl) (fun q23 f23 n23 e23 g23 l23 => ?_)
  refine mr_stepI (v := 900) (N := 900) (j := 42) l23 dcM_207 (fun kk => jn_sipush (w := 900) dcM_208 (by decide +kernel) kk) dcM_211 dcM_213 (by decide) (ja_m (ck_tb_in (p := 6882) (by decide +kernel)) rfl) rfl rfl (fun _ => rfl) (fun _ => rfl) (by decide) (by decide) (by decide) (Nat.le_of_ble_eq_true rfl) (Nat.le_of_ble_eq_true rfl) (fun q24 f24 n24 e24 g24 l24 => ?_)
  refine mr_stepI (v := 900) (N := 900) (j := 43) l24 dcM_216 (fun kk => jn_sipush (w := 900) dcM_217 (by decide +kernel) kk) dcM_220 dcM_222 (by decide) (ja_m (ck_tb_in (p := 6883) (by decide +kernel)) rfl) rfl rfl (fun _ => rfl) (fun _ => rfl) (by decide) (by decide) (by decide) (Nat.le_of_ble_eq_true rfl) (Nat.le_of_ble_eq_true rfl) (fun q25 f25 n25 e25 g25 l25 => ?_)
  refine mr_stepI (v := 25) (N := 25) (j := 45) l25 dcM_225 (fun kk => jn_bipush (w := 25) dcM_226 (by decide +kernel) kk) dcM_228 dcM_230 (by decide) (ja_m (ck_tb_in (p := 6885) (by decide +kernel)) rfl) rfl rfl (fun _ => rfl) (fun _ => rfl) (by decide) (by decide) (by decide) (Nat.le_of_ble_eq_true rfl) (Nat.le_of_ble_eq_true rfl) (fun q26 f26 n26 e26 g26 l26 => ?_)
  refine mr_stepI (v := 25) (N := 25) (j := 46) l26 dcM_233 (fun kk => jn_bipush (w := 25) dcM_234 (by decide +kernel) kk) dcM_236 dcM_238 (by decide) (ja_m (ck_tb_in (p := 6886) (by decide +kernel)) rfl) rfl rfl (fun _ => rfl) (fun _ => rfl) (by decide) (by decide) (by decide) (Nat.le_of_ble_eq_true rfl) (Nat.le_of_ble_eq_true rfl) (fun q27 f27 n27 e27 g27 l27 => ?_)
  refine mr_stepI (v := 25) (N := 25) (j := 47) l27 dcM_241 (fun kk => jn_bipush (w := 25) dcM_242 (by decide +kernel) kk) dcM_244 dcM_246 (by decide) (ja_m (ck_tb_in (p := 6887) (by decide +kernel)) rfl) rfl rfl (fun _ => rfl) (fun _ => rfl) (by decide) (by decide) (by decide) (Nat.le_of_ble_eq_true rfl) (Nat.le_of_ble_eq_true rfl) (fun q28 f28 n28 e28 g28 l28 => ?_)
  refine mr_stepI (v := 25) (N := 25) (j := 48) l28 dcM_249 (fun kk => jn_bipush (w := 25) dcM_250 (by decide +kernel) kk) dcM_252 dcM_254 (by decide) (ja_m (ck_tb_in (p := 6888) (by decide +kernel)) rfl) rfl rfl (fun _ => rfl) (fun _ => rfl) (by decide) (by decide) (by decide) (Nat.le_of_ble_eq_true rfl) (Nat.le_of_ble_eq_true rfl) (fun q29 f29 n29 e29 g29 l29 => ?_)
  refine mr_stepI (v := 25) (N := 25) (j := 49) l29 dcM_257 (fun kk => jn_bipush (w := 25) dcM_258 (by decide +kernel) kk) dcM_260 dcM_262 (by decide) (ja_m (ck_tb_in (p := 6889) (by decide +kernel)) rfl) rfl rfl (fun _ => rfl) (fun _ => rfl) (by decide) (by decide) (by decide) (Nat.le_of_ble_eq_true rfl) (Nat.le_of_ble_eq_true rfl) (fun q30 f30 n30 e30 g30 l30 => ?_)
  refine mr_stepI (v := 25) (N := 25) (j := 50) l30 dcM_265 (fun kk => jn_bipush (w := 25) dcM_266 (by decide +kernel) kk) dcM_268 dcM_270 (by decide) (ja_m (ck_tb_in (p := 6890) (by decide +kernel)) rfl) rfl rfl (fun _ => rfl) (fun _ => rfl) (by decide) (by decide) (by decide) (Nat.le_of_ble_eq_true rfl) (Nat.le_of_ble_eq_true rfl) (fun q31 f31 n31 e31 g31 l31 => ?_)
  refine mr_stepI (v := 25) (N := 25) (j := 51) l31 dcM_273 (fun kk => jn_bipush (w := 25) dcM_274 (by decide +kernel) kk) dcM_276 dcM_278 (by decide) (ja_m (ck_tb_in (p := 6891) (by decide +kernel)) rfl) rfl rfl (fun _ => rfl) (fun _ => rfl) (by decide) (by decide) (by decide) (Nat.le_of_ble_eq_true rfl) (Nat.le_of_ble_eq_true rfl) (fun q32 f32 n32 e32 g32 l32 => ?_)
  refine mr_stepI (v := 25) (N := 25) (j := 53) l32 dcM_281 (fun kk => jn_bipush (w := 25) dcM_282 (by decide +kernel) kk) dcM_284 dcM_286 (by decide) (ja_m (ck_tb_in (p := 6893) (by decide +kernel)) rfl) rfl rfl (fun _ => rfl) (fun _ => rfl) (by decide) (by decide) (by decide) (Nat.le_of_ble_eq_true rfl) (Nat.le_of_ble_eq_true rfl) (fun q33 f33 n33 e33 g33 l33 => ?_)
  refine mr_stepI (v := 25) (N := 25) (j := 54) l33 dcM_289 (fun kk => jn_bipush (w := 25) dcM_290 (by decide +kernel) kk) dcM_292 dcM_294 (by decide) (ja_m (ck_tb_in (p := 6894) (by decide +kernel)) rfl) rfl rfl (fun _ => rfl) (fun _ => rfl) (by decide) (by decide) (by decide) (Nat.le_of_ble_eq_true rfl) (Nat.le_of_ble_eq_true rfl) (fun q34 f34 n34 e34 g34 l34 => ?_)
  refine mr_stepI (v := 25) (N := 25) (j := 55) l34 dcM_297 (fun kk => jn_bipush (w := 25) dcM_298 (by decide +kernel) kk) dcM_300 dcM_302 (by decide) (ja_m (ck_tb_in (p := 6895) (by decide +kernel)) rfl) rfl rfl (fun _ => rfl) (fun _ => rfl) (by decide) (by decide) (by decide) (Nat.le_of_ble_eq_true rfl) (Nat.le_of_ble_eq_true rfl) (fun q35 f35 n35 e35 g35 l35 => ?_)
  refine mr_stepI (v := 25) (N := 25) (j := 56) l35 dcM_305 (fun kk => jn_bipush (w := 25) dcM_306 (by decide +kernel) kk) dcM_308 dcM_310 (by decide) (ja_m (ck_tb_in (p := 6912) (by decide +kernel)) rfl) rfl rfl (fun _ => rfl) (fun _ => rfl) (by decide) (by decide) (by decide) (Nat.le_of_ble_eq_true rfl) (Nat.le_of_ble_eq_true rfl) (fun q36 f36 n36 e36 g36 l36 => ?_)
  refine mr_stepI (v := 13) (N := 13) (j := 58) l36 dcM_313 (fun kk => jn_bipush (w := 13) dcM_314 (by decide +kernel) kk) dcM_316 dcM_318 (by decide) (ja_m (ck_tb_in (p := 6914) (by decide +kernel)) rfl) rfl rfl (fun _ => rfl) (fun _ => rfl) (by decide) (by decide) (by decide) (Nat.le_of_ble_eq_true rfl) (Nat.le_of_ble_eq_true rfl) (fun q37 f37 n37 e37 g37 l37 => ?_)
  refine mr_stepZ (v := 13) (N := 13) (j := 59) l37 dcM_321 (fun kk => jn_bipush (w := 13) dcM_322 (by decide +kernel) kk) dcM_324 dcM_326 (by decide) (ja_m (ck_tb_in (p := 6915) (by decide +kernel)) rfl) rfl rfl (fun _ => rfl) (fun _ => rfl) (by decide) (by decide) (by decide) (Nat.le_of_ble_eq_true rfl) (Nat.le_of_ble_eq_true rfl) (fun q38 f38 n38 e38 g38 l38 => ?_)
  refine mr_stepI (v := 13) (N := 13) (j := 60) l38 dcM_329 (fun kk => jn_bipush (w := 13) dcM_330 (by decide +kernel) kk) dcM_332 dcM_334 (by decide) (ja_m (ck_tb_in (p := 6916) (by decide +kernel)) rfl) rfl rfl (fun _ => rfl) (fun _ => rfl) (by decide) (by decide) (by decide) (Nat.le_of_ble_eq_true rfl) (Nat.le_of_ble_eq_true rfl) (fun q39 f39 n39 e39 g39 l39 => ?_)
  refine mr_stepI (v := 300) (N := 300) (j := 62) l39 dcM_337 (fun kk => jn_sipush (w := 300) dcM_338 (by decide +kernel) kk) dcM_341 dcM_343 (by decide) (ja_m (ck_tb_in (p := 6918) (by decide +kernel)) rfl) rfl rfl (fun _ => rfl) (fun _ => rfl) (by decide) (by decide) (by decide) (Nat.le_of_ble_eq_true rfl) (Nat.le_of_ble_eq_true rfl) (fun q40 f40 n40 e40 g40 l40 => ?_)
  refine mr_stepI (v := 300) (N := 300) (j := 63) l40 dcM_346 (fun kk => jn_sipush (w := 300) dcM_347 (by decide +kernel) kk) dcM_350 dcM_352 (by decide) (ja_m (ck_tb_in (p := 6919) (by decide +kernel)) rfl) rfl rfl (fun _ => rfl) (fun _ => rfl) (by decide) (by decide) (by decide) (Nat.le_of_ble_eq_true rfl) (Nat.le_of_ble_eq_true rfl) (fun q41 f41 n41 e41 g41 l41 => ?_)
  refine mr_stepI (v := 900) (N := 900) (j := 65) l41 dcM_355 (fun kk => jn_sipush (w := 900) dcM_356 (by decide +kernel) kk) dcM_359 dcM_361 (by decide) (ja_m (ck_tb_in (p := 6921) (by decide +kernel)) rfl) rfl rfl (fun _ => rfl) (fun _ => rfl) (by decide) (by decide) (by decide) (Nat.le_of_ble_eq_true rfl) (Nat.le_of_ble_eq_true rfl) (fun q42 f42 n42 e42 g42 l42 => ?_)
  refine mr_stepI (v := 900) (N := 900) (j := 69) l42 dcM_364 (fun kk => jn_sipush (w := 900) dcM_365 (by decide +kernel) kk) dcM_368 dcM_370 (by decide) (ja_m (ck_tb_in (p := 6925) (by decide +kernel)) rfl) rfl rfl (fun _ => rfl) (fun _ => rfl) (by decide) (by decide) (by decide) (Nat.le_of_ble_eq_true rfl) (Nat.le_of_ble_eq_true rfl) (fun q43 f43 n43 e43 g43 l43 => ?_)
  refine mr_stepI (v := 900) (N := 900) (j := 70) l43 dcM_373 (fun kk => jn_sipush (w := 900) dcM_374 (by decide +kernel) kk) dcM_377 dcM_379 (by decide) (ja_m (ck_tb_in (p := 6926) (by decide +kernel)) rfl) rfl rfl (fun _ => rfl) (fun _ => rfl) (by decide) (by decide) (by decide) (Nat.le_of_ble_eq_true rfl) (Nat.le_of_ble_eq_true rfl) (fun q44 f44 n44 e44 g44 l44 => ?_)
  refine mr_stepI (v := 900) (N := 900) (j := 71) l44 dcM_382 (fun kk => jn_sipush (w := 900) dcM_383 (by decide +kernel) kk) dcM_386 dcM_388 (by decide) (ja_m (ck_tb_in (p := 6927) (by decide +kernel)) rfl) rfl rfl (fun _ => rfl) (fun _ => rfl) (by decide) (by decide) (by decide) (Nat.le_of_ble_eq_true rfl) (Nat.le_of_ble_eq_true rfl) (fun q45 f45 n45 e45 g45 l45 => ?_)
  refine mr_stepI (v := 900) (N := 900) (j := 73) l45 dcM_391 (fun kk => jn_sipush (w := 900) dcM_392 (by decide +kernel) kk) dcM_395 dcM_397 (by decide) (ja_m (ck_tb_in (p := 6929) (by decide +kernel)) rfl) rfl rfl (fun _ => rfl) (fun _ => rfl) (by decide) (by decide) (by decide) (Nat.le_of_ble_eq_true rfl) (Nat.le_of_ble_eq_true rfl) (fun q46 f46 n46 e46 g46 l46 => ?_)
  refine mr_stepI (v := 16) (N := 16) (j := 78) l46 dcM_400 (fun kk => jn_bipush (w := 16) dcM_401 (by decide +kernel) kk) dcM_403 dcM_405 (by decide) (ja_m (ck_tb_in (p := 6934) (by decide +kernel)) rfl) rfl rfl (fun _ => rfl) (fun _ => rfl) (by decide) (by decide) (by decide) (Nat.le_of_ble_eq_true rfl) (Nat.le_of_ble_eq_true rfl) (fun q47 f47 n47 e47 g47 l47 => ?_)
  refine mr_stepI (v := 16) (N := 16) (j := 80) l47 dcM_408 (fun kk => jn_bipush (w := 16) dcM_409 (by decide +kernel) kk) dcM_411 dcM_413 (by decide) (ja_m (ck_tb_in (p := 6936) (by decide +kernel)) rfl) rfl rfl (fun _ => rfl) (fun _ => rfl) (by decide) (by decide) (by decide) (Nat.le_of_ble_eq_true rfl) (Nat.le_of_ble_eq_true rfl) (fun q48 f48 n48 e48 g48 l48 => ?_)
  refine mr_stepI (v := 16) (N := 16) (j := 81) l48 dcM_416 (fun kk => jn_bipush (w := 16) dcM_417 (by decide +kernel) kk) dcM_419 dcM_421 (by decide) (ja_m (ck_tb_in (p := 6937) (by decide +kernel)) rfl) rfl rfl (fun _ => rfl) (fun _ => rfl) (by decide) (by decide) (by decide) (Nat.le_of_ble_eq_true rfl) (Nat.le_of_ble_eq_true rfl) (fun q49 f49 n49 e49 g49 l49 => ?_)
  refine mr_stepI (v := 8) (N := 8) (j := 83) l49 dcM_424 (fun kk => jn_bipush (w := 8) dcM_425 (by decide +kernel) kk) dcM_427 dcM_429 (by decide) (ja_m (ck_tb_in (p := 6939) (by decide +kernel)) rfl) rfl rfl (fun _ => rfl) (fun _ => rfl) (by decide) (by decide) (by decide) (Nat.le_of_ble_eq_true rfl) (Nat.le_of_ble_eq_true rfl) (fun q50 f50 n50 e50 g50 l50 => ?_)
  refine mr_stepI (v := 400) (N := 400) (j := 89) l50 dcM_432 (fun kk => jn_sipush (w := 400) dcM_433 (by decide +kernel) kk) dcM_436 dcM_438 (by decide) (ja_m (ck_tb_in (p := 6945) (by decide +kernel)) rfl) rfl rfl (fun _ => rfl) (fun _ => rfl) (by decide) (by decide) (by decide) (Nat.le_of_ble_eq_true rfl) (Nat.le_of_ble_eq_true rfl) (fun q51 f51 n51 e51 g51 l51 => ?_)
  refine mr_stepI (v := 400) (N := 400) (j := 90) l51 dcM_441 (fun kk => jn_sipush (w := 400) dcM_442 (by decide +kernel) kk) dcM_445 dcM_447 (by decide) (ja_m (ck_tb_in (p := 6946) (by decide +kernel)) rfl) rfl rfl (fun _ => rfl) (fun _ => rfl) (by decide) (by decide) (by decide) (Nat.le_of_ble_eq_true rfl) (Nat.le_of_ble_eq_true rfl) (fun q52 f52 n52 e52 g52 l52 => ?_)
  refine mr_stepI (v := 400) (N := 400) (j := 91) l52 dcM_450 (fun kk => jn_sipush (w := 400) dcM_451 (by decide +kernel) kk) dcM_454 dcM_456 (by decide) (ja_m (ck_tb_in (p := 6947) (by decide +kernel)) rfl) rfl rfl (fun _ => rfl) (fun _ => rfl) (by decide) (by decide) (by decide) (Nat.le_of_ble_eq_true rfl) (Nat.le_of_ble_eq_true rfl) (fun q53 f53 n53 e53 g53 l53 => ?_)
  refine mr_stepI (v := 400) (N := 400) (j := 92) l53 dcM_459 (fun kk => jn_sipush (w := 400) dcM_460 (by decide +kernel) kk) dcM_463 dcM_465 (by decide) (ja_m (ck_tb_in (p := 6948) (by decide +kernel)) rfl) rfl rfl (fun _ => rfl) (fun _ => rfl) (by decide) (by decide) (by decide) (Nat.le_of_ble_eq_true rfl) (Nat.le_of_ble_eq_true rfl) (fun q54 f54 n54 e54 g54 l54 => ?_)
  refine mr_stepI (v := 400) (N := 400) (j := 93) l54 dcM_468 (fun kk => jn_sipush (w := 400) dcM_469 (by decide +kernel) kk) dcM_472 dcM_474 (by decide) (ja_m (ck_tb_in (p := 6949) (by decide +kernel)) rfl) rfl rfl (fun _ => rfl) (fun _ => rfl) (by decide) (by decide) (by decide) (Nat.le_of_ble_eq_true rfl) (Nat.le_of_ble_eq_true rfl) (fun q55 f55 n55 e55 g55 l55 => ?_)
  refine mr_stepI (v := 400) (N := 400) (j := 94) l55 dcM_477 (fun kk => jn_sipush (w := 400) dcM_478 (by decide +kernel) kk) dcM_481 dcM_483 (by decide) (ja_m (ck_tb_in (p := 6950) (by decide +kernel)) rfl) rfl rfl (fun _ => rfl) (fun _ => rfl) (by decide) (by decide) (by decide) (Nat.le_of_ble_eq_true rfl) (Nat.le_of_ble_eq_true rfl) (fun q56 f56 n56 e56 g56 l56 => ?_)
  refine mr_stepI (v := 900) (N := 900) (j := 96) l56 dcM_486 (fun kk => jn_sipush (w := 900) dcM_487 (by decide +kernel) kk) dcM_490 dcM_492 (by decide) (ja_m (ck_tb_in (p := 6952) (by decide +kernel)) rfl) rfl rfl (fun _ => rfl) (fun _ => rfl) (by decide) (by decide) (by decide) (Nat.le_of_ble_eq_true rfl) (Nat.le_of_ble_eq_true rfl) (fun q57 f57 n57 e57 g57 l57 => ?_)
  refine mr_stepI (v := 900) (N := 900) (j := 97) l57 dcM_495 (fun kk => jn_sipush (w := 900) dcM_496 (by decide +kernel) kk) dcM_499 dcM_501 (by decide) (ja_m (ck_tb_in (p := 6953) (by decide +kernel)) rfl) rfl rfl (fun _ => rfl) (fun _ => rfl) (by decide) (by decide) (by decide) (Nat.le_of_ble_eq_true rfl) (Nat.le_of_ble_eq_true rfl) (fun q58 f58 n58 e58 g58 l58 => ?_)
  refine mr_stepI (v := 900) (N := 900) (j := 98) l58 dcM_504 (fun kk => jn_sipush (w := 900) dcM_505 (by decide +kernel) kk) dcM_508 dcM_510 (by decide) (ja_m (ck_tb_in (p := 6954) (by decide +kernel)) rfl) rfl rfl (fun _ => rfl) (fun _ => rfl) (by decide) (by decide) (by decide) (Nat.le_of_ble_eq_true rfl) (Nat.le_of_ble_eq_true rfl) (fun q59 f59 n59 e59 g59 l59 => ?_)
  refine mr_stepI (v := 900) (N := 900) (j := 99) l59 dcM_513 (fun kk => jn_sipush (w := 900) dcM_514 (by decide +kernel) kk) dcM_517 dcM_519 (by decide) (ja_m (ck_tb_in (p := 6955) (by decide +kernel)) rfl) rfl rfl (fun _ => rfl) (fun _ => rfl) (by decide) (by decide) (by decide) (Nat.le_of_ble_eq_true rfl) (Nat.le_of_ble_eq_true rfl) (fun q60 f60 n60 e60 g60 l60 => ?_)
  refine mr_stepI (v := 900) (N := 900) (j := 100) l60 dcM_522 (fun kk => jn_sipush (w := 900) dcM_523 (by decide +kernel) kk) dcM_526 dcM_528 (by decide) (ja_m (ck_tb_in (p := 6956) (by decide +kernel)) rfl) rfl rfl (fun _ => rfl) (fun _ => rfl) (by decide) (by decide) (by decide) (Nat.le_of_ble_eq_true rfl) (Nat.le_of_ble_eq_true rfl) (fun q61 f61 n61 e61 g61 l61 => ?_)
  refine mr_stepI (v := 6300) (N := 6300) (j := 101) l61 dcM_531 (fun kk => jn_sipush (w := 6300) dcM_532 (by decide +kernel) kk) dcM_535 dcM_537 (by decide) (ja_m (ck_tb_in (p := 6957) (by decide +kernel)) rfl) rfl rfl (fun _ => rfl) (fun _ => rfl) (by decide) (by decide) (by decide) (Nat.le_of_ble_eq_true rfl) (Nat.le_of_ble_eq_true rfl) (fun q62 f62 n62 e62 g62 l62 => ?_)
  refine mr_stepI (v := 900) (N := 900) (j := 102) l62 dcM_540 (fun kk => jn_sipush (w := 900) dcM_541 (by decide +kernel) kk) dcM_544 dcM_546 (by decide) (ja_m (ck_tb_in (p := 6958) (by decide +kernel)) rfl) rfl rfl (fun _ => rfl) (fun _ => rfl) (by decide) (by decide) (by decide) (Nat.le_of_ble_eq_true rfl) (Nat.le_of_ble_eq_true rfl) (fun q63 f63 n63 e63 g63 l63 => ?_)
  refine mr_stepI (v := 900) (N := 900) (j := 103) l63 dcM_549 (fun kk => jn_sipush (w := 900) dcM_550 (by decide +kernel) kk) dcM_553 dcM_555 (by decide) (ja_m (ck_tb_in (p := 6959) (by decide +kernel)) rfl) rfl rfl (fun _ => rfl) (fun _ => rfl) (by decide) (by decide) (by decide) (Nat.le_of_ble_eq_true rfl) (Nat.le_of_ble_eq_true rfl) (fun q64 f64 n64 e64 g64 l64 => ?_)
  refine mr_stepZ (v := 900) (N := 900) (j := 104) l64 dcM_558 (fun kk => jn_sipush (w := 900) dcM_559 (by decide +kernel) kk) dcM_562 dcM_564 (by decide) (ja_m (ck_tb_in (p := 6960) (by decide +kernel)) rfl) rfl rfl (fun _ => rfl) (fun _ => rfl) (by decide) (by decide) (by decide) (Nat.le_of_ble_eq_true rfl) (Nat.le_of_ble_eq_true rfl) (fun q65 f65 n65 e65 g65 l65 => ?_)
  refine mr_stepZ (v := 900) (N := 900) (j := 105) l65 dcM_567 (fun kk => jn_sipush (w := 900) dcM_568 (by decide +kernel) kk) dcM_571 dcM_573 (by decide) (ja_m (ck_tb_in (p := 6961) (by decide +kernel)) rfl) rfl rfl (fun _ => rfl) (fun _ => rfl) (by decide) (by decide) (by decide) (Nat.le_of_ble_eq_true rfl) (Nat.le_of_ble_eq_true rfl) (fun q66 f66 n66 e66 g66 l66 => ?_)
  refine mr_stepI (v := 900) (N := 900) (j := 106) l66 dcM_576 (fun kk => jn_sipush (w := 900) dcM_577 (by decide +kernel) kk) dcM_580 dcM_582 (by decide) (ja_m (ck_tb_in (p := 6962) (by decide +kernel)) rfl) rfl rfl (fun _ => rfl) (fun _ => rfl) (by decide) (by decide) (by decide) (Nat.le_of_ble_eq_true rfl) (Nat.le_of_ble_eq_true rfl) (fun q67 f67 n67 e67 g67 l67 => ?_)
  refine mr_stepI (v := 900) (N := 900) (j := 107) l67 dcM_585 (fun kk => jn_sipush (w := 900) dcM_586 (by decide +kernel) kk) dcM_589 dcM_591 (by decide) (ja_m (ck_tb_in (p := 6963) (by decide +kernel)) rfl) rfl rfl (fun _ => rfl) (fun _ => rfl) (by decide) (by decide) (by decide) (Nat.le_of_ble_eq_true rfl) (Nat.le_of_ble_eq_true rfl) (fun q68 f68 n68 e68 g68 l68 => ?_)
  refine mr_stepI (v := 400) (N := 400) (j := 108) l68 dcM_594 (fun kk => jn_sipush (w := 400) dcM_595 (by decide +kernel) kk) dcM_598 dcM_600 (by decide) (ja_m (ck_tb_in (p := 6964) (by decide +kernel)) rfl) rfl rfl (fun _ => rfl) (fun _ => rfl) (by decide) (by decide) (by decide) (Nat.le_of_ble_eq_true rfl) (Nat.le_of_ble_eq_true rfl) (fun q69 f69 n69 e69 g69 l69 => ?_)
  refine mr_stepI (v := 360000) (N := 360000) (j := 110) l69 dcM_603 (fun kk => mr_ldc (ja_m (ck_tb_in (p := 6839) (by decide +kernel)) rfl) dcM_604 kk) dcM_606 dcM_608 (by decide) (ja_m (ck_tb_in (p := 6966) (by decide +kernel)) rfl) rfl rfl (fun _ => rfl) (fun _ => rfl) (by decide) (by decide) (by decide) (Nat.le_of_ble_eq_true rfl) (Nat.le_of_ble_eq_true rfl) (fun q70 f70 n70 e70 g70 l70 => ?_)
  refine mr_stepI (v := 360000) (N := 360000) (j := 111) l70 dcM_611 (fun kk => mr_ldc (ja_m (ck_tb_in (p := 6839) (by decide +kernel)) rfl) dcM_612 kk) dcM_614 dcM_616 (by decide) (ja_m (ck_tb_in (p := 6967) (by decide +kernel)) rfl) rfl rfl (fun _ => rfl) (fun _ => rfl) (by decide) (by decide) (by decide) (Nat.le_of_ble_eq_true rfl) (Nat.le_of_ble_eq_true rfl) (fun q71 f71 n71 e71 g71 l71 => ?_)
  refine mr_stepZ (v := 900) (N := 900) (j := 112) l71 dcM_619 (fun kk => jn_sipush (w := 900) dcM_620 (by decide +kernel) kk) dcM_623 dcM_625 (by decide) (ja_m (ck_tb_in (p := 6968) (by decide +kernel)) rfl) rfl rfl (fun _ => rfl) (fun _ => rfl) (by decide) (by decide) (by decide) (Nat.le_of_ble_eq_true rfl) (Nat.le_of_ble_eq_true rfl) (fun q72 f72 n72 e72 g72 l72 => ?_)
  refine mr_stepI (v := 5000) (N := 5000) (j := 114) l72 dcM_628 (fun kk => jn_sipush (w := 5000) dcM_629 (by decide +kernel) kk) dcM_632 dcM_634 (by decide) (ja_m (ck_tb_in (p := 6970) (by decide +kernel)) rfl) rfl rfl (fun _ => rfl) (fun _ => rfl) (by decide) (by decide) (by decide) (Nat.le_of_ble_eq_true rfl) (Nat.le_of_ble_eq_true rfl) (fun q73 f73 n73 e73 g73 l73 => ?_)
  refine mr_stepI (v := 5000) (N := 5000) (j := 115) l73 dcM_637 (fun kk => jn_sipush (w := 5000) dcM_638 (by decide +kernel) kk) dcM_641 dcM_643 (by decide) (ja_m (ck_tb_in (p := 6971) (by decide +kernel)) rfl) rfl rfl (fun _ => rfl) (fun _ => rfl) (by decide) (by decide) (by decide) (Nat.le_of_ble_eq_true rfl) (Nat.le_of_ble_eq_true rfl) (fun q74 f74 n74 e74 g74 l74 => ?_)
  refine mr_stepI (v := 5000) (N := 5000) (j := 116) l74 dcM_646 (fun kk => jn_sipush (w := 5000) dcM_647 (by decide +kernel) kk) dcM_650 dcM_652 (by decide) (ja_m (ck_tb_in (p := 6972) (by decide +kernel)) rfl) rfl rfl (fun _ => rfl) (fun _ => rfl) (by decide) (by decide) (by decide) (Nat.le_of_ble_eq_true rfl) (Nat.le_of_ble_eq_true rfl) (fun q75 f75 n75 e75 g75 l75 => ?_)
  refine mr_stepI (v := 5000) (N := 5000) (j := 117) l75 dcM_655 (fun kk => jn_sipush (w := 5000) dcM_656 (by decide +kernel) kk) dcM_659 dcM_661 (by decide) (ja_m (ck_tb_in (p := 6973) (by decide +kernel)) rfl) rfl rfl (fun _ => rfl) (fun _ => rfl) (by decide) (by decide) (by decide) (Nat.le_of_ble_eq_true rfl) (Nat.le_of_ble_eq_true rfl) (fun q76 f76 n76 e76 g76 l76 => ?_)
  refine mr_stepI (v := 4800) (N := 4800) (j := 120) l76 dcM_664 (fun kk => jn_sipush (w := 4800) dcM_665 (by decide +kernel) kk) dcM_668 dcM_670 (by decide) (ja_m (ck_tb_in (p := 6976) (by decide +kernel)) rfl) rfl rfl (fun _ => rfl) (fun _ => rfl) (by decide) (by decide) (by decide) (Nat.le_of_ble_eq_true rfl) (Nat.le_of_ble_eq_true rfl) (fun q77 f77 n77 e77 g77 l77 => ?_)
  refine mr_stepI (v := 4800) (N := 4800) (j := 121) l77 dcM_673 (fun kk => jn_sipush (w := 4800) dcM_674 (by decide +kernel) kk) dcM_677 dcM_679 (by decide) (ja_m (ck_tb_in (p := 6977) (by decide +kernel)) rfl) rfl rfl (fun _ => rfl) (fun _ => rfl) (by decide) (by decide) (by decide) (Nat.le_of_ble_eq_true rfl) (Nat.le_of_ble_eq_true rfl) (fun q78 f78 n78 e78 g78 l78 => ?_)
  refine mr_stepI (v := 4800) (N := 4800) (j := 122) l78 dcM_682 (fun kk => jn_sipush (w := 4800) dcM_683 (by decide +kernel) kk) dcM_686 dcM_688 (by decide) (ja_m (ck_tb_in (p := 6978) (by decide +kernel)) rfl) rfl rfl (fun _ => rfl) (fun _ => rfl) (by decide) (by decide) (by decide) (Nat.le_of_ble_eq_true rfl) (Nat.le_of_ble_eq_true rfl) (fun q79 f79 n79 e79 g79 l79 => ?_)
  refine mr_stepI (v := 25) (N := 25) (j := 123) l79 dcM_691 (fun kk => jn_bipush (w := 25) dcM_692 (by decide +kernel) kk) dcM_694 dcM_696 (by decide) (ja_m (ck_tb_in (p := 6979) (by decide +kernel)) rfl) rfl rfl (fun _ => rfl) (fun _ => rfl) (by decide) (by decide) (by decide) (Nat.le_of_ble_eq_true rfl) (Nat.le_of_ble_eq_true rfl) (fun q80 f80 n80 e80 g80 l80 => ?_)
  refine mr_stepI (v := 13) (N := 13) (j := 124) l80 dcM_699 (fun kk => jn_bipush (w := 13) dcM_700 (by decide +kernel) kk) dcM_702 dcM_704 (by decide) (ja_m (ck_tb_in (p := 6980) (by decide +kernel)) rfl) rfl rfl (fun _ => rfl) (fun _ => rfl) (by decide) (by decide) (by decide) (Nat.le_of_ble_eq_true rfl) (Nat.le_of_ble_eq_true rfl) (fun q81 f81 n81 e81 g81 l81 => ?_)
  refine mr_stepI (v := 1600) (N := 1600) (j := 125) l81 dcM_707 (fun kk => jn_sipush (w := 1600) dcM_708 (by decide +kernel) kk) dcM_711 dcM_713 (by decide) (ja_m (ck_tb_in (p := 6981) (by decide +kernel)) rfl) rfl rfl (fun _ => rfl) (fun _ => rfl) (by decide) (by decide) (by decide) (Nat.le_of_ble_eq_true rfl) (Nat.le_of_ble_eq_true rfl) (fun q82 f82 n82 e82 g82 l82 => ?_)
  refine mr_stepI (v := 13) (N := 13) (j := 126) l82 dcM_716 (fun kk => jn_bipush (w := 13) dcM_717 (by decide +kernel) kk) dcM_719 dcM_721 (by decide) (ja_m (ck_tb_in (p := 6982) (by decide +kernel)) rfl) rfl rfl (fun _ => rfl) (fun _ => rfl) (by decide) (by decide) (by decide) (Nat.le_of_ble_eq_true rfl) (Nat.le_of_ble_eq_true rfl) (fun q83 f83 n83 e83 g83 l83 => ?_)
  refine mr_stepI (v := 300) (N := 300) (j := 133) l83 dcM_724 (fun kk => jn_sipush (w := 300) dcM_725 (by decide +kernel) kk) dcM_728 dcM_730 (by decide) (ja_m (ck_tb_in (p := 6989) (by decide +kernel)) rfl) rfl rfl (fun _ => rfl) (fun _ => rfl) (by decide) (by decide) (by decide) (Nat.le_of_ble_eq_true rfl) (Nat.le_of_ble_eq_true rfl) (fun q84 f84 n84 e84 g84 l84 => ?_)
  refine mr_stepI (v := 300) (N := 300) (j := 134) l84 dcM_733 (fun kk => jn_sipush (w := 300) dcM_734 (by decide +kernel) kk) dcM_737 dcM_739 (by decide) (ja_m (ck_tb_in (p := 6990) (by decide +kernel)) rfl) rfl rfl (fun _ => rfl) (fun _ => rfl) (by decide) (by decide) (by decide) (Nat.le_of_ble_eq_true rfl) (Nat.le_of_ble_eq_true rfl) (fun q85 f85 n85 e85 g85 l85 => ?_)
  refine mr_stepI (v := 300) (N := 300) (j := 136) l85 dcM_742 (fun kk => jn_sipush (w := 300) dcM_743 (by decide +kernel) kk) dcM_746 dcM_748 (by decide) (ja_m (ck_tb_in (p := 6992) (by decide +kernel)) rfl) rfl rfl (fun _ => rfl) (fun _ => rfl) (by decide) (by decide) (by decide) (Nat.le_of_ble_eq_true rfl) (Nat.le_of_ble_eq_true rfl) (fun q86 f86 n86 e86 g86 l86 => ?_)
  refine mr_stepI (v := 300) (N := 300) (j := 137) l86 dcM_751 (fun kk => jn_sipush (w := 300) dcM_752 (by decide +kernel) kk) dcM_755 dcM_757 (by decide) (ja_m (ck_tb_in (p := 6993) (by decide +kernel)) rfl) rfl rfl (fun _ => rfl) (fun _ => rfl) (by decide) (by decide) (by decide) (Nat.le_of_ble_eq_true rfl) (Nat.le_of_ble_eq_true rfl) (fun q87 f87 n87 e87 g87 l87 => ?_)
  refine mr_stepI (v := 201) (N := 201) (j := 139) l87 dcM_760 (fun kk => jn_sipush (w := 201) dcM_761 (by decide +kernel) kk) dcM_764 dcM_766 (by decide) (ja_m (ck_tb_in (p := 6995) (by decide +kernel)) rfl) rfl rfl (fun _ => rfl) (fun _ => rfl) (by decide) (by decide) (by decide) (Nat.le_of_ble_eq_true rfl) (Nat.le_of_ble_eq_true rfl) (fun q88 f88 n88 e88 g88 l88 => ?_)
  refine mr_stepI (v := 24200) (N := 24200) (j := 140) l88 dcM_769 (fun kk => jn_sipush (w := 24200) dcM_770 (by decide +kernel) kk) dcM_773 dcM_775 (by decide) (ja_m (ck_tb_in (p := 6996) (by decide +kernel)) rfl) rfl rfl (fun _ => rfl) (fun _ => rfl) (by decide) (by decide) (by decide) (Nat.le_of_ble_eq_true rfl) (Nat.le_of_ble_eq_true rfl) (fun q89 f89 n89 e89 g89 l89 => ?_)
  refine mr_stepI (v := 24200) (N := 24200) (j := 141) l89 dcM_778 (fun kk => jn_sipush (w := 24200) dcM_779 (by decide +kernel) kk) dcM_782 dcM_784 (by decide) (ja_m (ck_tb_in (p := 6997) (by decide +kernel)) rfl) rfl rfl (fun _ => rfl) (fun _ => rfl) (by decide) (by decide) (by decide) (Nat.le_of_ble_eq_true rfl) (Nat.le_of_ble_eq_true rfl) (fun q90 f90 n90 e90 g90 l90 => ?_)
  refine mr_stepI (v := 16200) (N := 16200) (j := 142) l90 dcM_787 (fun kk => jn_sipush (w := 16200) dcM_788 (by decide +kernel) kk) dcM_791 dcM_793 (by decide) (ja_m (ck_tb_in (p := 6998) (by decide +kernel)) rfl) rfl rfl (fun _ => rfl) (fun _ => rfl) (by decide) (by decide) (by decide) (Nat.le_of_ble_eq_true rfl) (Nat.le_of_ble_eq_true rfl) (fun q91 f91 n91 e91 g91 l91 => ?_)
  refine mr_stepI (v := 16200) (N := 16200) (j := 143) l91 dcM_796 (fun kk => jn_sipush (w := 16200) dcM_797 (by decide +kernel) kk) dcM_800 dcM_802 (by decide) (ja_m (ck_tb_in (p := 6999) (by decide +kernel)) rfl) rfl rfl (fun _ => rfl) (fun _ => rfl) (by decide) (by decide) (by decide) (Nat.le_of_ble_eq_true rfl) (Nat.le_of_ble_eq_true rfl) (fun q92 f92 n92 e92 g92 l92 => ?_)
  refine mr_stepI (v := 6000) (N := 6000) (j := 147) l92 dcM_805 (fun kk => jn_sipush (w := 6000) dcM_806 (by decide +kernel) kk) dcM_809 dcM_811 (by decide) (ja_m (ck_tb_in (p := 7003) (by decide +kernel)) rfl) rfl rfl (fun _ => rfl) (fun _ => rfl) (by decide) (by decide) (by decide) (Nat.le_of_ble_eq_true rfl) (Nat.le_of_ble_eq_true rfl) (fun q93 f93 n93 e93 g93 l93 => ?_)
  refine mr_stepI (v := 6000) (N := 6000) (j := 148) l93 dcM_814 (fun kk => jn_sipush (w := 6000) dcM_815 (by decide +kernel) kk) dcM_818 dcM_820 (by decide) (ja_m (ck_tb_in (p := 7004) (by decide +kernel)) rfl) rfl rfl (fun _ => rfl) (fun _ => rfl) (by decide) (by decide) (by decide) (Nat.le_of_ble_eq_true rfl) (Nat.le_of_ble_eq_true rfl) (fun q94 f94 n94 e94 g94 l94 => ?_)
  refine mr_stepI (v := 3000) (N := 3000) (j := 151) l94 dcM_823 (fun kk => jn_sipush (w := 3000) dcM_824 (by decide +kernel) kk) dcM_827 dcM_829 (by decide) (ja_m (ck_tb_in (p := 7007) (by decide +kernel)) rfl) rfl rfl (fun _ => rfl) (fun _ => rfl) (by decide) (by decide) (by decide) (Nat.le_of_ble_eq_true rfl) (Nat.le_of_ble_eq_true rfl) (fun q95 f95 n95 e95 g95 l95 => ?_)
  refine mr_stepI (v := 3000) (N := 3000) (j := 152) l95 dcM_832 (fun kk => jn_sipush (w := 3000) dcM_833 (by decide +kernel) kk) dcM_836 dcM_838 (by decide) (ja_m (ck_tb_in (p := 7008) (by decide +kernel)) rfl) rfl rfl (fun _ => rfl) (fun _ => rfl) (by decide) (by decide) (by decide) (Nat.le_of_ble_eq_true rfl) (Nat.le_of_ble_eq_true rfl) (fun q96 f96 n96 e96 g96 l96 => ?_)
  refine mr_stepI (v := 3000) (N := 3000) (j := 153) l96 dcM_841 (fun kk => jn_sipush (w := 3000) dcM_842 (by decide +kernel) kk) dcM_845 dcM_847 (by decide) (ja_m (ck_tb_in (p := 7009) (by decide +kernel)) rfl) rfl rfl (fun _ => rfl) (fun _ => rfl) (by decide) (by decide) (by decide) (Nat.le_of_ble_eq_true rfl) (Nat.le_of_ble_eq_true rfl) (fun q97 f97 n97 e97 g97 l97 => ?_)
  refine mr_stepI (v := 3000) (N := 3000) (j := 154) l97 dcM_850 (fun kk => jn_sipush (w := 3000) dcM_851 (by decide +kernel) kk) dcM_854 dcM_856 (by decide) (ja_m (ck_tb_in (p := 7010) (by decide +kernel)) rfl) rfl rfl (fun _ => rfl) (fun _ => rfl) (by decide) (by decide) (by decide) (Nat.le_of_ble_eq_true rfl) (Nat.le_of_ble_eq_true rfl) (fun q98 f98 n98 e98 g98 l98 => ?_)
  refine mr_stepI (v := 3000) (N := 3000) (j := 155) l98 dcM_859 (fun kk => jn_sipush (w := 3000) dcM_860 (by decide +kernel) kk) dcM_863 dcM_865 (by decide) (ja_m (ck_tb_in (p := 7011) (by decide +kernel)) rfl) rfl rfl (fun _ => rfl) (fun _ => rfl) (by decide) (by decide) (by decide) (Nat.le_of_ble_eq_true rfl) (Nat.le_of_ble_eq_true rfl) (fun q99 f99 n99 e99 g99 l99 => ?_)
  refine mr_stepI (v := 3000) (N := 3000) (j := 156) l99 dcM_868 (fun kk => jn_sipush (w := 3000) dcM_869 (by decide +kernel) kk) dcM_872 dcM_874 (by decide) (ja_m (ck_tb_in (p := 7012) (by decide +kernel)) rfl) rfl rfl (fun _ => rfl) (fun _ => rfl) (by decide) (by decide) (by decide) (Nat.le_of_ble_eq_true rfl) (Nat.le_of_ble_eq_true rfl) (fun q100 f100 n100 e100 g100 l100 => ?_)
  refine mr_stepI (v := 3000) (N := 3000) (j := 157) l100 dcM_877 (fun kk => jn_sipush (w := 3000) dcM_878 (by decide +kernel) kk) dcM_881 dcM_883 (by decide) (ja_m (ck_tb_in (p := 7013) (by decide +kernel)) rfl) rfl rfl (fun _ => rfl) (fun _ => rfl) (by decide) (by decide) (by decide) (Nat.le_of_ble_eq_true rfl) (Nat.le_of_ble_eq_true rfl) (fun q101 f101 n101 e101 g101 l101 => ?_)
  refine mr_stepI (v := 3000) (N := 3000) (j := 158) l101 dcM_886 (fun kk => jn_sipush (w := 3000) dcM_887 (by decide +kernel) kk) dcM_890 dcM_892 (by decide) (ja_m (ck_tb_in (p := 7014) (by decide +kernel)) rfl) rfl rfl (fun _ => rfl) (fun _ => rfl) (by decide) (by decide) (by decide) (Nat.le_of_ble_eq_true rfl) (Nat.le_of_ble_eq_true rfl) (fun q102 f102 n102 e102 g102 l102 => ?_)
  refine mr_stepI (v := 3000) (N := 3000) (j := 159) l102 dcM_895 (fun kk => jn_sipush (w := 3000) dcM_896 (by decide +kernel) kk) dcM_899 dcM_901 (by decide) (ja_m (ck_tb_in (p := 7015) (by decide +kernel)) rfl) rfl rfl (fun _ => rfl) (fun _ => rfl) (by decide) (by decide) (by decide) (Nat.le_of_ble_eq_true rfl) (Nat.le_of_ble_eq_true rfl) (fun q103 f103 n103 e103 g103 l103 => ?_)
  refine mr_stepI (v := 3000) (N := 3000) (j := 160) l103 dcM_904 (fun kk => jn_sipush (w := 3000) dcM_905 (by decide +kernel) kk) dcM_908 dcM_910 (by decide) (ja_m (ck_tb_in (p := 7016) (by decide +kernel)) rfl) rfl rfl (fun _ => rfl) (fun _ => rfl) (by decide) (by decide) (by decide) (Nat.le_of_ble_eq_true rfl) (Nat.le_of_ble_eq_true rfl) (fun q104 f104 n104 e104 g104 l104 => ?_)
  refine mr_stepI (v := 3000) (N := 3000) (j := 161) l104 dcM_913 (fun kk => jn_sipush (w := 3000) dcM_914 (by decide +kernel) kk) dcM_917 dcM_919 (by decide) (ja_m (ck_tb_in (p := 7017) (by decide +kernel)) rfl) rfl rfl (fun _ => rfl) (fun _ => rfl) (by decide) (by decide) (by decide) (Nat.le_of_ble_eq_true rfl) (Nat.le_of_ble_eq_true rfl) (fun q105 f105 n105 e105 g105 l105 => ?_)
  refine mr_stepI (v := 3000) (N := 3000) (j := 162) l105 dcM_922 (fun kk => jn_sipush (w := 3000) dcM_923 (by decide +kernel) kk) dcM_926 dcM_928 (by decide) (ja_m (ck_tb_in (p := 7018) (by decide +kernel)) rfl) rfl rfl (fun _ => rfl) (fun _ => rfl) (by decide) (by decide) (by decide) (Nat.le_of_ble_eq_true rfl) (Nat.le_of_ble_eq_true rfl) (fun q106 f106 n106 e106 g106 l106 => ?_)
  refine mr_stepI (v := 18000) (N := 18000) (j := 163) l106 dcM_931 (fun kk => jn_sipush (w := 18000) dcM_932 (by decide +kernel) kk) dcM_935 dcM_937 (by decide) (ja_m (ck_tb_in (p := 7019) (by decide +kernel)) rfl) rfl rfl (fun _ => rfl) (fun _ => rfl) (by decide) (by decide) (by decide) (Nat.le_of_ble_eq_true rfl) (Nat.le_of_ble_eq_true rfl) (fun q107 f107 n107 e107 g107 l107 => ?_)
  refine mr_stepI (v := 18000) (N := 18000) (j := 164) l107 dcM_940 (fun kk => jn_sipush (w := 18000) dcM_941 (by decide +kernel) kk) dcM_944 dcM_946 (by decide) (ja_m (ck_tb_in (p := 7020) (by decide +kernel)) rfl) rfl rfl (fun _ => rfl) (fun _ => rfl) (by decide) (by decide) (by decide) (Nat.le_of_ble_eq_true rfl) (Nat.le_of_ble_eq_true rfl) (fun q108 f108 n108 e108 g108 l108 => ?_)
  refine mr_stepI (v := 500) (N := 500) (j := 166) l108 dcM_949 (fun kk => jn_sipush (w := 500) dcM_950 (by decide +kernel) kk) dcM_953 dcM_955 (by decide) (ja_m (ck_tb_in (p := 7022) (by decide +kernel)) rfl) rfl rfl (fun _ => rfl) (fun _ => rfl) (by decide) (by decide) (by decide) (Nat.le_of_ble_eq_true rfl) (Nat.le_of_ble_eq_true rfl) (fun q109 f109 n109 e109 g109 l109 => ?_)
  refine mr_stepI (v := 500) (N := 500) (j := 167) l109 dcM_958 (fun kk => jn_sipush (w := 500) dcM_959 (by decide +kernel) kk) dcM_962 dcM_964 (by decide) (ja_m (ck_tb_in (p := 7023) (by decide +kernel)) rfl) rfl rfl (fun _ => rfl) (fun _ => rfl) (by decide) (by decide) (by decide) (Nat.le_of_ble_eq_true rfl) (Nat.le_of_ble_eq_true rfl) (fun q110 f110 n110 e110 g110 l110 => ?_)
  refine mr_stepI (v := 800) (N := 800) (j := 169) l110 dcM_967 (fun kk => jn_sipush (w := 800) dcM_968 (by decide +kernel) kk) dcM_971 dcM_973 (by decide) (ja_m (ck_tb_in (p := 7025) (by decide +kernel)) rfl) rfl rfl (fun _ => rfl) (fun _ => rfl) (by decide) (by decide) (by decide) (Nat.le_of_ble_eq_true rfl) (Nat.le_of_ble_eq_true rfl) (fun q111 f111 n111 e111 g111 l111 => ?_)
  refine mr_stepI (v := 800) (N := 800) (j := 170) l111 dcM_976 (fun kk => jn_sipush (w := 800) dcM_977 (by decide +kernel) kk) dcM_980 dcM_982 (by decide) (ja_m (ck_tb_in (p := 7026) (by decide +kernel)) rfl) rfl rfl (fun _ => rfl) (fun _ => rfl) (by decide) (by decide) (by decide) (Nat.le_of_ble_eq_true rfl) (Nat.le_of_ble_eq_true rfl) (fun q112 f112 n112 e112 g112 l112 => ?_)
  refine mr_stepI (v := 800) (N := 800) (j := 171) l112 dcM_985 (fun kk => jn_sipush (w := 800) dcM_986 (by decide +kernel) kk) dcM_989 dcM_991 (by decide) (ja_m (ck_tb_in (p := 7027) (by decide +kernel)) rfl) rfl rfl (fun _ => rfl) (fun _ => rfl) (by decide) (by decide) (by decide) (Nat.le_of_ble_eq_true rfl) (Nat.le_of_ble_eq_true rfl) (fun q113 f113 n113 e113 g113 l113 => ?_)
  refine mr_stepI (v := 120) (N := 120) (j := 173) l113 dcM_994 (fun kk => jn_bipush (w := 120) dcM_995 (by decide +kernel) kk) dcM_997 dcM_999 (by decide) (ja_m (ck_tb_in (p := 7029) (by decide +kernel)) rfl) rfl rfl (fun _ => rfl) (fun _ => rfl) (by decide) (by decide) (by decide) (Nat.le_of_ble_eq_true rfl) (Nat.le_of_ble_eq_true rfl) (fun q114 f114 n114 e114 g114 l114 => ?_)
  refine mr_stepI (v := 120) (N := 120) (j := 174) l114 dcM_1002 (fun kk => jn_bipush (w := 120) dcM_1003 (by decide +kernel) kk) dcM_1005 dcM_1007 (by decide) (ja_m (ck_tb_in (p := 7030) (by decide +kernel)) rfl) rfl rfl (fun _ => rfl) (fun _ => rfl) (by decide) (by decide) (by decide) (Nat.le_of_ble_eq_true rfl) (Nat.le_of_ble_eq_true rfl) (fun q115 f115 n115 e115 g115 l115 => ?_)
  refine mr_stepI (v := 120) (N := 120) (j := 175) l115 dcM_1010 (fun kk => jn_bipush (w := 120) dcM_1011 (by decide +kernel) kk) dcM_1013 dcM_1015 (by decide) (ja_m (ck_tb_in (p := 7031) (by decide +kernel)) rfl) rfl rfl (fun _ => rfl) (fun _ => rfl) (by decide) (by decide) (by decide) (Nat.le_of_ble_eq_true rfl) (Nat.le_of_ble_eq_true rfl) (fun q116 f116 n116 e116 g116 l116 => ?_)
  refine mr_stepI (v := 120) (N := 120) (j := 176) l116 dcM_1018 (fun kk => jn_bipush (w := 120) dcM_1019 (by decide +kernel) kk) dcM_1021 dcM_1023 (by decide) (ja_m (ck_tb_in (p := 7032) (by decide +kernel)) rfl) rfl rfl (fun _ => rfl) (fun _ => rfl) (by decide) (by decide) (by decide) (Nat.le_of_ble_eq_true rfl) (Nat.le_of_ble_eq_true rfl) (fun q117 f117 n117 e117 g117 l117 => ?_)
  refine mr_stepI (v := 120) (N := 120) (j := 177) l117 dcM_1026 (fun kk => jn_bipush (w := 120) dcM_1027 (by decide +kernel) kk) dcM_1029 dcM_1031 (by decide) (ja_m (ck_tb_in (p := 7033) (by decide +kernel)) rfl) rfl rfl (fun _ => rfl) (fun _ => rfl) (by decide) (by decide) (by decide) (Nat.le_of_ble_eq_true rfl) (Nat.le_of_ble_eq_true rfl) (fun q118 f118 n118 e118 g118 l118 => ?_)
  refine mr_stepI (v := 720) (N := 720) (j := 178) l118 dcM_1034 (fun kk => jn_sipush (w := 720) dcM_1035 (by decide +kernel) kk) dcM_1038 dcM_1040 (by decide) (ja_m (ck_tb_in (p := 7034) (by decide +kernel)) rfl) rfl rfl (fun _ => rfl) (fun _ => rfl) (by decide) (by decide) (by decide) (Nat.le_of_ble_eq_true rfl) (Nat.le_of_ble_eq_true rfl) (fun q119 f119 n119 e119 g119 l119 => ?_)
  refine mr_stepI (v := 720) (N := 720) (j := 179) l119 dcM_1043 (fun kk => jn_sipush (w := 720) dcM_1044 (by decide +kernel) kk) dcM_1047 dcM_1049 (by decide) (ja_m (ck_tb_in (p := 7035) (by decide +kernel)) rfl) rfl rfl (fun _ => rfl) (fun _ => rfl) (by decide) (by decide) (by decide) (Nat.le_of_ble_eq_true rfl) (Nat.le_of_ble_eq_true rfl) (fun q120 f120 n120 e120 g120 l120 => ?_)
  refine mr_stepI (v := 120) (N := 120) (j := 180) l120 dcM_1052 (fun kk => jn_bipush (w := 120) dcM_1053 (by decide +kernel) kk) dcM_1055 dcM_1057 (by decide) (ja_m (ck_tb_in (p := 7036) (by decide +kernel)) rfl) rfl rfl (fun _ => rfl) (fun _ => rfl) (by decide) (by decide) (by decide) (Nat.le_of_ble_eq_true rfl) (Nat.le_of_ble_eq_true rfl) (fun q121 f121 n121 e121 g121 l121 => ?_)
  refine mr_stepI (v := 120) (N := 120) (j := 181) l121 dcM_1060 (fun kk => jn_bipush (w := 120) dcM_1061 (by decide +kernel) kk) dcM_1063 dcM_1065 (by decide) (ja_m (ck_tb_in (p := 7037) (by decide +kernel)) rfl) rfl rfl (fun _ => rfl) (fun _ => rfl) (by decide) (by decide) (by decide) (Nat.le_of_ble_eq_true rfl) (Nat.le_of_ble_eq_true rfl) (fun q122 f122 n122 e122 g122 l122 => ?_)
  refine mr_stepI (v := 2880) (N := 2880) (j := 182) l122 dcM_1068 (fun kk => jn_sipush (w := 2880) dcM_1069 (by decide +kernel) kk) dcM_1072 dcM_1074 (by decide) (ja_m (ck_tb_in (p := 7038) (by decide +kernel)) rfl) rfl rfl (fun _ => rfl) (fun _ => rfl) (by decide) (by decide) (by decide) (Nat.le_of_ble_eq_true rfl) (Nat.le_of_ble_eq_true rfl) (fun q123 f123 n123 e123 g123 l123 => ?_)
  refine mr_stepI (v := 2880) (N := 2880) (j := 183) l123 dcM_1077 (fun kk => jn_sipush (w := 2880) dcM_1078 (by decide +kernel) kk) dcM_1081 dcM_1083 (by decide) (ja_m (ck_tb_in (p := 7039) (by decide +kernel)) rfl) rfl rfl (fun _ => rfl) (fun _ => rfl) (by decide) (by decide) (by decide) (Nat.le_of_ble_eq_true rfl) (Nat.le_of_ble_eq_true rfl) (fun q124 f124 n124 e124 g124 l124 => ?_)
  refine mr_stepI (v := 20160) (N := 20160) (j := 184) l124 dcM_1086 (fun kk => jn_sipush (w := 20160) dcM_1087 (by decide +kernel) kk) dcM_1090 dcM_1092 (by decide) (ja_m (ck_tb_in (p := 7040) (by decide +kernel)) rfl) rfl rfl (fun _ => rfl) (fun _ => rfl) (by decide) (by decide) (by decide) (Nat.le_of_ble_eq_true rfl) (Nat.le_of_ble_eq_true rfl) (fun q125 f125 n125 e125 g125 l125 => ?_)
  refine mr_stepI (v := 20160) (N := 20160) (j := 185) l125 dcM_1095 (fun kk => jn_sipush (w := 20160) dcM_1096 (by decide +kernel) kk) dcM_1099 dcM_1101 (by decide) (ja_m (ck_tb_in (p := 7041) (by decide +kernel)) rfl) rfl rfl (fun _ => rfl) (fun _ => rfl) (by decide) (by decide) (by decide) (Nat.le_of_ble_eq_true rfl) (Nat.le_of_ble_eq_true rfl) (fun q126 f126 n126 e126 g126 l126 => ?_)
  refine mr_stepI (v := 6) (N := 6) (j := 192) l126 dcM_1104 (fun kk => jn_bipush (w := 6) dcM_1105 (by decide +kernel) kk) dcM_1107 dcM_1109 (by decide) (ja_m (ck_tb_in (p := 7048) (by decide +kernel)) rfl) rfl rfl (fun _ => rfl) (fun _ => rfl) (by decide) (by decide) (by decide) (Nat.le_of_ble_eq_true rfl) (Nat.le_of_ble_eq_true rfl) (fun q127 f127 n127 e127 g127 l127 => ?_)
  refine mr_stepI (v := 6) (N := 6) (j := 193) l127 dcM_1112 (fun kk => jn_bipush (w := 6) dcM_1113 (by decide +kernel) kk) dcM_1115 dcM_1117 (by decide) (ja_m (ck_tb_in (p := 7049) (by decide +kernel)) rfl) rfl rfl (fun _ => rfl) (fun _ => rfl) (by decide) (by decide) (by decide) (Nat.le_of_ble_eq_true rfl) (Nat.le_of_ble_eq_true rfl) (fun q128 f128 n128 e128 g128 l128 => ?_)
  refine mr_stepI (v := 14) (N := 14) (j := 194) l128 dcM_1120 (fun kk => jn_bipush (w := 14) dcM_1121 (by decide +kernel) kk) dcM_1123 dcM_1125 (by decide) (ja_m (ck_tb_in (p := 7050) (by decide +kernel)) rfl) rfl rfl (fun _ => rfl) (fun _ => rfl) (by decide) (by decide) (by decide) (Nat.le_of_ble_eq_true rfl) (Nat.le_of_ble_eq_true rfl) (fun q129 f129 n129 e129 g129 l129 => ?_)
  refine mr_stepI (v := 14) (N := 14) (j := 195) l129 dcM_1128 (fun kk => jn_bipush (w := 14) dcM_1129 (by decide +kernel) kk) dcM_1131 dcM_1133 (by decide) (ja_m (ck_tb_in (p := 7051) (by decide +kernel)) rfl) rfl rfl (fun _ => rfl) (fun _ => rfl) (by decide) (by decide) (by decide) (Nat.le_of_ble_eq_true rfl) (Nat.le_of_ble_eq_true rfl) (fun q130 f130 n130 e130 g130 l130 => ?_)
  refine mr_stepI (v := 1000) (N := 1000) (j := 198) l130 dcM_1136 (fun kk => jn_sipush (w := 1000) dcM_1137 (by decide +kernel) kk) dcM_1140 dcM_1142 (by decide) (ja_m (ck_tb_in (p := 7054) (by decide +kernel)) rfl) rfl rfl (fun _ => rfl) (fun _ => rfl) (by decide) (by decide) (by decide) (Nat.le_of_ble_eq_true rfl) (Nat.le_of_ble_eq_true rfl) (fun q131 f131 n131 e131 g131 l131 => ?_)
  refine mr_stepI (v := 1000) (N := 1000) (j := 199) l131 dcM_1145 (fun kk => jn_sipush (w := 1000) dcM_1146 (by decide +kernel) kk) dcM_1149 dcM_1151 (by decide) (ja_m (ck_tb_in (p := 7055) (by decide +kernel)) rfl) rfl rfl (fun _ => rfl) (fun _ => rfl) (by decide) (by decide) (by decide) (Nat.le_of_ble_eq_true rfl) (Nat.le_of_ble_eq_true rfl) (fun q132 f132 n132 e132 g132 l132 => ?_)
  refine mr_stepI (v := 1000) (N := 1000) (j := 200) l132 dcM_1154 (fun kk => jn_sipush (w := 1000) dcM_1155 (by decide +kernel) kk) dcM_1158 dcM_1160 (by decide) (ja_m (ck_tb_in (p := 7056) (by decide +kernel)) rfl) rfl rfl (fun _ => rfl) (fun _ => rfl) (by decide) (by decide) (by decide) (Nat.le_of_ble_eq_true rfl) (Nat.le_of_ble_eq_true rfl) (fun q133 f133 n133 e133 g133 l133 => ?_)
  refine mr_stepI (v := 1000) (N := 1000) (j := 201) l133 dcM_1163 (fun kk => jn_sipush (w := 1000) dcM_1164 (by decide +kernel) kk) dcM_1167 dcM_1169 (by decide) (ja_m (ck_tb_in (p := 7057) (by decide +kernel)) rfl) rfl rfl (fun _ => rfl) (fun _ => rfl) (by decide) (by decide) (by decide) (Nat.le_of_ble_eq_true rfl) (Nat.le_of_ble_eq_true rfl) (fun q134 f134 n134 e134 g134 l134 => ?_)
  refine mr_stepI (v := 64) (N := 64) (j := 204) l134 dcM_1172 (fun kk => jn_bipush (w := 64) dcM_1173 (by decide +kernel) kk) dcM_1175 dcM_1177 (by decide) (ja_m (ck_tb_in (p := 7060) (by decide +kernel)) rfl) rfl rfl (fun _ => rfl) (fun _ => rfl) (by decide) (by decide) (by decide) (Nat.le_of_ble_eq_true rfl) (Nat.le_of_ble_eq_true rfl) (fun q135 f135 n135 e135 g135 l135 => ?_)
  refine mr_stepI (v := 64) (N := 64) (j := 205) l135 dcM_1180 (fun kk => jn_bipush (w := 64) dcM_1181 (by decide +kernel) kk) dcM_1183 dcM_1185 (by decide) (ja_m (ck_tb_in (p := 7061) (by decide +kernel)) rfl) rfl rfl (fun _ => rfl) (fun _ => rfl) (by decide) (by decide) (by decide) (Nat.le_of_ble_eq_true rfl) (Nat.le_of_ble_eq_true rfl) (fun q136 f136 n136 e136 g136 l136 => ?_)
  exact jn_ret (fs := f136) (news := n136) rfl ⟨[q0, q1, q2, q3, q4, q5, q6, q7, q8, q9, q10, q11, q12, q13, q14, q15, q16, q17, q18, q19, q20, q21, q22, q23, q24, q25, q26, q27, q28, q29, q30, q31, q32, q33, q34, q35, q36, q37, q38, q39, q40, q41, q42, q43, q44, q45, q46, q47, q48, q49, q50, q51, q52, q53, q54, q55, q56, q57, q58, q59, q60, q61, q62, q63, q64, q65, q66, q67, q68, q69, q70, q71, q72, q73, q74, q75, q76, q77, q78, q79, q80, q81, q82, q83, q84, q85, q86, q87, q88, q89, q90, q91, q92, q93, q94, q95, q96, q97, q98, q99, q100, q101, q102, q103, q104, q105, q106, q107, q108, q109, q110, q111, q112, q113, q114, q115, q116, q117, q118, q119, q120, q121, q122, q123, q124, q125, q126, q127, q128, q129, q130, q131, q132, q133, q134, q135, q136], rfl, by rw [e136, e135, e134, e133, e132, e131, e130, e129, e128, e127, e126, e125, e124, e123, e122, e121, e120, e119, e118, e117, e116, e115, e114, e113, e112, e111, e110, e109, e108, e107, e106, e105, e104, e103, e102, e101, e100, e99, e98, e97, e96, e95, e94, e93, e92, e91, e90, e89, e88, e87, e86, e85, e84, e83, e82, e81, e80, e79, e78, e77, e76, e75, e74, e73, e72, e71, e70, e69, e68, e67, e66, e65, e64, e63, e62, e61, e60, e59, e58, e57, e56, e55, e54, e53, e52, e51, e50, e49, e48, e47, e46, e45, e44, e43, e42, e41, e40, e39, e38, e37, e36, e35, e34, e33, e32, e31, e30, e29, e28, e27, e26, e25, e24, e23, e22, e21, e20, e19, e18, e17, e16, e15, e14, e13, e12, e11, e10, e9, e8, e7, e6, e5, e4, e3, e2, e1, e0]; rfl, by rw [g136, g135, g134, g133, g132, g131, g130, g129, g128, g127, g126, g125, g124, g123, g122, g121, g120, g119, g118, g117, g116, g115, g114, g113, g112, g111, g110, g109, g108, g107, g106, g105, g104, g103, g102, g101, g100, g99, g98, g97, g96, g95, g94, g93, g92, g91, g90, g89, g88, g87, g86, g85, g84, g83, g82, g81, g80, g79, g78, g77, g76, g75, g74, g73, g72, g71, g70, g69, g68, g67, g66, g65, g64, g63, g62, g61, g60, g59, g58, g57, g56, g55, g54, g53, g52, g51, g50, g49, g48, g47, g46, g45, g44, g43, g42, g41, g40, g39, g38, g37, g36, g35, g34, g33, g32, g31, g30, g29, g28, g27, g26, g25, g24, g23, g22, g21, g20, g19, g18, g17, g16, g15, g14, g13, g12, g11, g10, g9, g8, g7, g6, g5, g4, g3, g2, g1, g0]; rfl⟩ (Nat.le_of_ble_eq_true rfl) (Nat.le_of_ble_eq_true rfl) dcM_1188
end MR
