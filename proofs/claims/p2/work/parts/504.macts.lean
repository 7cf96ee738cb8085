/-! the reference: its acts, operand (written by a program) -/
variable {Zz : Zc}
theorem doperand_0 : decode cX12_operand 0 = .ok (.aload_n 0, 1) := by decide +kernel
theorem doperand_1 : decode cX12_operand 1 = .ok (.getfield 574, 3) := by decide +kernel
theorem doperand_4 : decode cX12_operand 4 = .ok (.istore_n 1, 1) := by decide +kernel
theorem doperand_5 : decode cX12_operand 5 = .ok (.aload_n 0, 1) := by decide +kernel
theorem doperand_6 : decode cX12_operand 6 = .ok (.getfield 13, 3) := by decide +kernel
theorem doperand_9 : decode cX12_operand 9 = .ok (.aload_n 0, 1) := by decide +kernel
theorem doperand_10 : decode cX12_operand 10 = .ok (.getfield 574, 3) := by decide +kernel
theorem doperand_13 : decode cX12_operand 13 = .ok (.iaload, 1) := by decide +kernel
theorem doperand_14 : decode cX12_operand 14 = .ok (.iconst 3, 1) := by decide +kernel
theorem doperand_15 : decode cX12_operand 15 = .ok (.if_icmp .ne 49, 3) := by decide +kernel
theorem doperand_18 : decode cX12_operand 18 = .ok (.aload_n 0, 1) := by decide +kernel
theorem doperand_19 : decode cX12_operand 19 = .ok (.iconst 0, 1) := by decide +kernel
theorem doperand_20 : decode cX12_operand 20 = .ok (.putfield 838, 3) := by decide +kernel
theorem doperand_23 : decode cX12_operand 23 = .ok (.aload_n 0, 1) := by decide +kernel
theorem doperand_24 : decode cX12_operand 24 = .ok (.iconst 1, 1) := by decide +kernel
theorem doperand_25 : decode cX12_operand 25 = .ok (.aload_n 0, 1) := by decide +kernel
theorem doperand_26 : decode cX12_operand 26 = .ok (.getfield 22, 3) := by decide +kernel
theorem doperand_29 : decode cX12_operand 29 = .ok (.aload_n 0, 1) := by decide +kernel
theorem doperand_30 : decode cX12_operand 30 = .ok (.getfield 574, 3) := by decide +kernel
theorem doperand_33 : decode cX12_operand 33 = .ok (.iaload, 1) := by decide +kernel
theorem doperand_34 : decode cX12_operand 34 = .ok (.iconst 0, 1) := by decide +kernel
theorem doperand_35 : decode cX12_operand 35 = .ok (.invokevirtual 732, 3) := by decide +kernel
theorem doperand_38 : decode cX12_operand 38 = .ok (.istore_n 2, 1) := by decide +kernel
theorem doperand_39 : decode cX12_operand 39 = .ok (.aload_n 0, 1) := by decide +kernel
theorem doperand_40 : decode cX12_operand 40 = .ok (.invokevirtual 589, 3) := by decide +kernel
theorem doperand_43 : decode cX12_operand 43 = .ok (.ifCond .eq 19, 3) := by decide +kernel
theorem doperand_46 : decode cX12_operand 46 = .ok (.aload_n 0, 1) := by decide +kernel
theorem doperand_47 : decode cX12_operand 47 = .ok (.bipush 7, 2) := by decide +kernel
theorem doperand_49 : decode cX12_operand 49 = .ok (.iconst 0, 1) := by decide +kernel
theorem doperand_50 : decode cX12_operand 50 = .ok (.iconst 0, 1) := by decide +kernel
theorem doperand_51 : decode cX12_operand 51 = .ok (.iconst 0, 1) := by decide +kernel
theorem doperand_52 : decode cX12_operand 52 = .ok (.invokevirtual 790, 3) := by decide +kernel
theorem doperand_55 : decode cX12_operand 55 = .ok (.ifCond .eq 7, 3) := by decide +kernel
theorem doperand_58 : decode cX12_operand 58 = .ok (.iconst 1, 1) := by decide +kernel
theorem doperand_59 : decode cX12_operand 59 = .ok (.goto 4, 3) := by decide +kernel
theorem doperand_62 : decode cX12_operand 62 = .ok (.iconst 0, 1) := by decide +kernel
theorem doperand_63 : decode cX12_operand 63 = .ok (.ireturn, 1) := by decide +kernel
theorem doperand_64 : decode cX12_operand 64 = .ok (.aload_n 0, 1) := by decide +kernel
theorem doperand_65 : decode cX12_operand 65 = .ok (.invokevirtual 599, 3) := by decide +kernel
theorem doperand_68 : decode cX12_operand 68 = .ok (.ifCond .eq 36, 3) := by decide +kernel
theorem doperand_71 : decode cX12_operand 71 = .ok (.aload_n 0, 1) := by decide +kernel
theorem doperand_72 : decode cX12_operand 72 = .ok (.aload_n 0, 1) := by decide +kernel
theorem doperand_73 : decode cX12_operand 73 = .ok (.getfield 574, 3) := by decide +kernel
theorem doperand_76 : decode cX12_operand 76 = .ok (.invokevirtual 866, 3) := by decide +kernel
theorem doperand_79 : decode cX12_operand 79 = .ok (.aload_n 0, 1) := by decide +kernel
theorem doperand_80 : decode cX12_operand 80 = .ok (.invokevirtual 589, 3) := by decide +kernel
theorem doperand_83 : decode cX12_operand 83 = .ok (.ifCond .eq 19, 3) := by decide +kernel
theorem doperand_86 : decode cX12_operand 86 = .ok (.aload_n 0, 1) := by decide +kernel
theorem doperand_87 : decode cX12_operand 87 = .ok (.bipush 7, 2) := by decide +kernel
theorem doperand_89 : decode cX12_operand 89 = .ok (.iconst 0, 1) := by decide +kernel
theorem doperand_90 : decode cX12_operand 90 = .ok (.iconst 0, 1) := by decide +kernel
theorem doperand_91 : decode cX12_operand 91 = .ok (.iconst 0, 1) := by decide +kernel
theorem doperand_92 : decode cX12_operand 92 = .ok (.invokevirtual 790, 3) := by decide +kernel
theorem doperand_95 : decode cX12_operand 95 = .ok (.ifCond .eq 7, 3) := by decide +kernel
theorem doperand_98 : decode cX12_operand 98 = .ok (.iconst 1, 1) := by decide +kernel
theorem doperand_99 : decode cX12_operand 99 = .ok (.goto 4, 3) := by decide +kernel
theorem doperand_102 : decode cX12_operand 102 = .ok (.iconst 0, 1) := by decide +kernel
theorem doperand_103 : decode cX12_operand 103 = .ok (.ireturn, 1) := by decide +kernel
theorem doperand_104 : decode cX12_operand 104 = .ok (.aload_n 0, 1) := by decide +kernel
theorem doperand_105 : decode cX12_operand 105 = .ok (.bipush 40, 2) := by decide +kernel
theorem doperand_107 : decode cX12_operand 107 = .ok (.invokevirtual 586, 3) := by decide +kernel
theorem doperand_110 : decode cX12_operand 110 = .ok (.ifCond .eq 51, 3) := by decide +kernel
theorem doperand_113 : decode cX12_operand 113 = .ok (.aload_n 0, 1) := by decide +kernel
theorem doperand_114 : decode cX12_operand 114 = .ok (.invokevirtual 589, 3) := by decide +kernel
theorem doperand_117 : decode cX12_operand 117 = .ok (.ifCond .eq 42, 3) := by decide +kernel
theorem doperand_120 : decode cX12_operand 120 = .ok (.aload_n 0, 1) := by decide +kernel
theorem doperand_121 : decode cX12_operand 121 = .ok (.bipush 7, 2) := by decide +kernel
theorem doperand_123 : decode cX12_operand 123 = .ok (.iconst 0, 1) := by decide +kernel
theorem doperand_124 : decode cX12_operand 124 = .ok (.iconst 0, 1) := by decide +kernel
theorem doperand_125 : decode cX12_operand 125 = .ok (.iconst 0, 1) := by decide +kernel
theorem doperand_126 : decode cX12_operand 126 = .ok (.invokevirtual 790, 3) := by decide +kernel
theorem doperand_129 : decode cX12_operand 129 = .ok (.ifCond .eq 30, 3) := by decide +kernel
theorem doperand_132 : decode cX12_operand 132 = .ok (.aload_n 0, 1) := by decide +kernel
theorem doperand_133 : decode cX12_operand 133 = .ok (.bipush 38, 2) := by decide +kernel
theorem doperand_135 : decode cX12_operand 135 = .ok (.iconst 0, 1) := by decide +kernel
theorem doperand_136 : decode cX12_operand 136 = .ok (.iconst 0, 1) := by decide +kernel
theorem doperand_137 : decode cX12_operand 137 = .ok (.iconst 0, 1) := by decide +kernel
theorem doperand_138 : decode cX12_operand 138 = .ok (.invokevirtual 790, 3) := by decide +kernel
theorem doperand_141 : decode cX12_operand 141 = .ok (.ifCond .eq 18, 3) := by decide +kernel
theorem doperand_144 : decode cX12_operand 144 = .ok (.aload_n 0, 1) := by decide +kernel
theorem doperand_145 : decode cX12_operand 145 = .ok (.iconst 1, 1) := by decide +kernel
theorem doperand_146 : decode cX12_operand 146 = .ok (.iconst 0, 1) := by decide +kernel
theorem doperand_147 : decode cX12_operand 147 = .ok (.iconst 0, 1) := by decide +kernel
theorem doperand_148 : decode cX12_operand 148 = .ok (.iconst 0, 1) := by decide +kernel
theorem doperand_149 : decode cX12_operand 149 = .ok (.invokevirtual 790, 3) := by decide +kernel
theorem doperand_152 : decode cX12_operand 152 = .ok (.ifCond .eq 7, 3) := by decide +kernel
theorem doperand_155 : decode cX12_operand 155 = .ok (.iconst 1, 1) := by decide +kernel
theorem doperand_156 : decode cX12_operand 156 = .ok (.goto 4, 3) := by decide +kernel
theorem doperand_159 : decode cX12_operand 159 = .ok (.iconst 0, 1) := by decide +kernel
theorem doperand_160 : decode cX12_operand 160 = .ok (.ireturn, 1) := by decide +kernel
theorem doperand_161 : decode cX12_operand 161 = .ok (.aload_n 0, 1) := by decide +kernel
theorem doperand_162 : decode cX12_operand 162 = .ok (.bipush 27, 2) := by decide +kernel
theorem doperand_164 : decode cX12_operand 164 = .ok (.invokevirtual 596, 3) := by decide +kernel
theorem doperand_167 : decode cX12_operand 167 = .ok (.ifCond .ne 12, 3) := by decide +kernel
theorem doperand_170 : decode cX12_operand 170 = .ok (.aload_n 0, 1) := by decide +kernel
theorem doperand_171 : decode cX12_operand 171 = .ok (.bipush 36, 2) := by decide +kernel
theorem doperand_173 : decode cX12_operand 173 = .ok (.invokevirtual 596, 3) := by decide +kernel
theorem doperand_176 : decode cX12_operand 176 = .ok (.ifCond .eq 80, 3) := by decide +kernel
theorem doperand_179 : decode cX12_operand 179 = .ok (.aload_n 0, 1) := by decide +kernel
theorem doperand_180 : decode cX12_operand 180 = .ok (.iconst 0, 1) := by decide +kernel
theorem doperand_181 : decode cX12_operand 181 = .ok (.putfield 838, 3) := by decide +kernel
theorem doperand_184 : decode cX12_operand 184 = .ok (.aload_n 0, 1) := by decide +kernel
theorem doperand_185 : decode cX12_operand 185 = .ok (.bipush 36, 2) := by decide +kernel
theorem doperand_187 : decode cX12_operand 187 = .ok (.invokevirtual 596, 3) := by decide +kernel
theorem doperand_190 : decode cX12_operand 190 = .ok (.ifCond .eq 20, 3) := by decide +kernel
theorem doperand_193 : decode cX12_operand 193 = .ok (.aload_n 0, 1) := by decide +kernel
theorem doperand_194 : decode cX12_operand 194 = .ok (.getfield 620, 3) := by decide +kernel
theorem doperand_197 : decode cX12_operand 197 = .ok (.iconst 1, 1) := by decide +kernel
theorem doperand_198 : decode cX12_operand 198 = .ok (.if_icmp .eq 12, 3) := by decide +kernel
theorem doperand_201 : decode cX12_operand 201 = .ok (.aload_n 0, 1) := by decide +kernel
theorem doperand_202 : decode cX12_operand 202 = .ok (.iconst 5, 1) := by decide +kernel
theorem doperand_203 : decode cX12_operand 203 = .ok (.aload_n 0, 1) := by decide +kernel
theorem doperand_204 : decode cX12_operand 204 = .ok (.getfield 574, 3) := by decide +kernel
theorem doperand_207 : decode cX12_operand 207 = .ok (.invokevirtual 719, 3) := by decide +kernel
theorem doperand_210 : decode cX12_operand 210 = .ok (.aload_n 0, 1) := by decide +kernel
theorem doperand_211 : decode cX12_operand 211 = .ok (.aload_n 0, 1) := by decide +kernel
theorem doperand_212 : decode cX12_operand 212 = .ok (.bipush 36, 2) := by decide +kernel
theorem doperand_214 : decode cX12_operand 214 = .ok (.invokevirtual 596, 3) := by decide +kernel
theorem doperand_217 : decode cX12_operand 217 = .ok (.ifCond .eq 7, 3) := by decide +kernel
theorem doperand_220 : decode cX12_operand 220 = .ok (.iconst 3, 1) := by decide +kernel
theorem doperand_221 : decode cX12_operand 221 = .ok (.goto 4, 3) := by decide +kernel
theorem doperand_224 : decode cX12_operand 224 = .ok (.iconst 2, 1) := by decide +kernel
theorem doperand_225 : decode cX12_operand 225 = .ok (.iconst 0, 1) := by decide +kernel
theorem doperand_226 : decode cX12_operand 226 = .ok (.iconst 0, 1) := by decide +kernel
theorem doperand_227 : decode cX12_operand 227 = .ok (.invokevirtual 732, 3) := by decide +kernel
theorem doperand_230 : decode cX12_operand 230 = .ok (.istore_n 2, 1) := by decide +kernel
theorem doperand_231 : decode cX12_operand 231 = .ok (.aload_n 0, 1) := by decide +kernel
theorem doperand_232 : decode cX12_operand 232 = .ok (.invokevirtual 589, 3) := by decide +kernel
theorem doperand_235 : decode cX12_operand 235 = .ok (.ifCond .eq 19, 3) := by decide +kernel
theorem doperand_238 : decode cX12_operand 238 = .ok (.aload_n 0, 1) := by decide +kernel
theorem doperand_239 : decode cX12_operand 239 = .ok (.bipush 7, 2) := by decide +kernel
theorem doperand_241 : decode cX12_operand 241 = .ok (.iconst 0, 1) := by decide +kernel
theorem doperand_242 : decode cX12_operand 242 = .ok (.iconst 0, 1) := by decide +kernel
theorem doperand_243 : decode cX12_operand 243 = .ok (.iconst 0, 1) := by decide +kernel
theorem doperand_244 : decode cX12_operand 244 = .ok (.invokevirtual 790, 3) := by decide +kernel
theorem doperand_247 : decode cX12_operand 247 = .ok (.ifCond .eq 7, 3) := by decide +kernel
theorem doperand_250 : decode cX12_operand 250 = .ok (.iconst 1, 1) := by decide +kernel
theorem doperand_251 : decode cX12_operand 251 = .ok (.goto 4, 3) := by decide +kernel
theorem doperand_254 : decode cX12_operand 254 = .ok (.iconst 0, 1) := by decide +kernel
theorem doperand_255 : decode cX12_operand 255 = .ok (.ireturn, 1) := by decide +kernel
theorem doperand_256 : decode cX12_operand 256 = .ok (.aload_n 0, 1) := by decide +kernel
theorem doperand_257 : decode cX12_operand 257 = .ok (.bipush 18, 2) := by decide +kernel
theorem doperand_259 : decode cX12_operand 259 = .ok (.invokevirtual 596, 3) := by decide +kernel
theorem doperand_262 : decode cX12_operand 262 = .ok (.ifCond .eq 104, 3) := by decide +kernel
theorem doperand_265 : decode cX12_operand 265 = .ok (.aload_n 0, 1) := by decide +kernel
theorem doperand_266 : decode cX12_operand 266 = .ok (.getfield 620, 3) := by decide +kernel
theorem doperand_269 : decode cX12_operand 269 = .ok (.iconst 3, 1) := by decide +kernel
theorem doperand_270 : decode cX12_operand 270 = .ok (.if_icmp .eq 12, 3) := by decide +kernel
theorem doperand_273 : decode cX12_operand 273 = .ok (.aload_n 0, 1) := by decide +kernel
theorem doperand_274 : decode cX12_operand 274 = .ok (.iconst 5, 1) := by decide +kernel
theorem doperand_275 : decode cX12_operand 275 = .ok (.aload_n 0, 1) := by decide +kernel
theorem doperand_276 : decode cX12_operand 276 = .ok (.getfield 574, 3) := by decide +kernel
theorem doperand_279 : decode cX12_operand 279 = .ok (.invokevirtual 719, 3) := by decide +kernel
theorem doperand_282 : decode cX12_operand 282 = .ok (.aload_n 0, 1) := by decide +kernel
theorem doperand_283 : decode cX12_operand 283 = .ok (.invokevirtual 589, 3) := by decide +kernel
theorem doperand_286 : decode cX12_operand 286 = .ok (.ifCond .ne 5, 3) := by decide +kernel
theorem doperand_289 : decode cX12_operand 289 = .ok (.iconst 0, 1) := by decide +kernel
theorem doperand_290 : decode cX12_operand 290 = .ok (.ireturn, 1) := by decide +kernel
theorem doperand_291 : decode cX12_operand 291 = .ok (.aload_n 0, 1) := by decide +kernel
theorem doperand_292 : decode cX12_operand 292 = .ok (.bipush 40, 2) := by decide +kernel
theorem doperand_294 : decode cX12_operand 294 = .ok (.invokevirtual 586, 3) := by decide +kernel
theorem doperand_297 : decode cX12_operand 297 = .ok (.ifCond .eq 45, 3) := by decide +kernel
theorem doperand_300 : decode cX12_operand 300 = .ok (.aload_n 0, 1) := by decide +kernel
theorem doperand_301 : decode cX12_operand 301 = .ok (.bipush 7, 2) := by decide +kernel
theorem doperand_303 : decode cX12_operand 303 = .ok (.iconst 0, 1) := by decide +kernel
theorem doperand_304 : decode cX12_operand 304 = .ok (.iconst 0, 1) := by decide +kernel
theorem doperand_305 : decode cX12_operand 305 = .ok (.iconst 0, 1) := by decide +kernel
theorem doperand_306 : decode cX12_operand 306 = .ok (.invokevirtual 790, 3) := by decide +kernel
theorem doperand_309 : decode cX12_operand 309 = .ok (.ifCond .eq 31, 3) := by decide +kernel
theorem doperand_312 : decode cX12_operand 312 = .ok (.aload_n 0, 1) := by decide +kernel
theorem doperand_313 : decode cX12_operand 313 = .ok (.bipush 12, 2) := by decide +kernel
theorem doperand_315 : decode cX12_operand 315 = .ok (.iconst 0, 1) := by decide +kernel
theorem doperand_316 : decode cX12_operand 316 = .ok (.iconst 0, 1) := by decide +kernel
theorem doperand_317 : decode cX12_operand 317 = .ok (.iconst 0, 1) := by decide +kernel
theorem doperand_318 : decode cX12_operand 318 = .ok (.invokevirtual 790, 3) := by decide +kernel
theorem doperand_321 : decode cX12_operand 321 = .ok (.ifCond .eq 19, 3) := by decide +kernel
theorem doperand_324 : decode cX12_operand 324 = .ok (.aload_n 0, 1) := by decide +kernel
theorem doperand_325 : decode cX12_operand 325 = .ok (.bipush 8, 2) := by decide +kernel
theorem doperand_327 : decode cX12_operand 327 = .ok (.iconst 0, 1) := by decide +kernel
theorem doperand_328 : decode cX12_operand 328 = .ok (.iconst 0, 1) := by decide +kernel
theorem doperand_329 : decode cX12_operand 329 = .ok (.iconst 0, 1) := by decide +kernel
theorem doperand_330 : decode cX12_operand 330 = .ok (.invokevirtual 790, 3) := by decide +kernel
theorem doperand_333 : decode cX12_operand 333 = .ok (.ifCond .eq 7, 3) := by decide +kernel
theorem doperand_336 : decode cX12_operand 336 = .ok (.iconst 1, 1) := by decide +kernel
theorem doperand_337 : decode cX12_operand 337 = .ok (.goto 4, 3) := by decide +kernel
theorem doperand_340 : decode cX12_operand 340 = .ok (.iconst 0, 1) := by decide +kernel
theorem doperand_341 : decode cX12_operand 341 = .ok (.ireturn, 1) := by decide +kernel
theorem doperand_342 : decode cX12_operand 342 = .ok (.aload_n 0, 1) := by decide +kernel
theorem doperand_343 : decode cX12_operand 343 = .ok (.iconst 5, 1) := by decide +kernel
theorem doperand_344 : decode cX12_operand 344 = .ok (.putfield 838, 3) := by decide +kernel
theorem doperand_347 : decode cX12_operand 347 = .ok (.aload_n 0, 1) := by decide +kernel
theorem doperand_348 : decode cX12_operand 348 = .ok (.bipush 16, 2) := by decide +kernel
theorem doperand_350 : decode cX12_operand 350 = .ok (.iconst 0, 1) := by decide +kernel
theorem doperand_351 : decode cX12_operand 351 = .ok (.iconst 0, 1) := by decide +kernel
theorem doperand_352 : decode cX12_operand 352 = .ok (.invokevirtual 732, 3) := by decide +kernel
theorem doperand_355 : decode cX12_operand 355 = .ok (.istore_n 2, 1) := by decide +kernel
theorem doperand_356 : decode cX12_operand 356 = .ok (.aload_n 0, 1) := by decide +kernel
theorem doperand_357 : decode cX12_operand 357 = .ok (.bipush 7, 2) := by decide +kernel
theorem doperand_359 : decode cX12_operand 359 = .ok (.iconst 0, 1) := by decide +kernel
theorem doperand_360 : decode cX12_operand 360 = .ok (.iconst 0, 1) := by decide +kernel
theorem doperand_361 : decode cX12_operand 361 = .ok (.iconst 0, 1) := by decide +kernel
theorem doperand_362 : decode cX12_operand 362 = .ok (.invokevirtual 790, 3) := by decide +kernel
theorem doperand_365 : decode cX12_operand 365 = .ok (.ireturn, 1) := by decide +kernel
theorem doperand_366 : decode cX12_operand 366 = .ok (.aload_n 0, 1) := by decide +kernel
theorem doperand_367 : decode cX12_operand 367 = .ok (.iconst 2, 1) := by decide +kernel
theorem doperand_368 : decode cX12_operand 368 = .ok (.invokevirtual 751, 3) := by decide +kernel
theorem doperand_371 : decode cX12_operand 371 = .ok (.istore_n 2, 1) := by decide +kernel
theorem doperand_372 : decode cX12_operand 372 = .ok (.iload_n 2, 1) := by decide +kernel
theorem doperand_373 : decode cX12_operand 373 = .ok (.ifCond .lt 10, 3) := by decide +kernel
theorem doperand_376 : decode cX12_operand 376 = .ok (.aload_n 0, 1) := by decide +kernel
theorem doperand_377 : decode cX12_operand 377 = .ok (.invokevirtual 589, 3) := by decide +kernel
theorem doperand_380 : decode cX12_operand 380 = .ok (.ifCond .ne 5, 3) := by decide +kernel
theorem doperand_383 : decode cX12_operand 383 = .ok (.iconst 0, 1) := by decide +kernel
theorem doperand_384 : decode cX12_operand 384 = .ok (.ireturn, 1) := by decide +kernel
theorem doperand_385 : decode cX12_operand 385 = .ok (.aload_n 0, 1) := by decide +kernel
theorem doperand_386 : decode cX12_operand 386 = .ok (.getfield 170, 3) := by decide +kernel
theorem doperand_389 : decode cX12_operand 389 = .ok (.iload_n 2, 1) := by decide +kernel
theorem doperand_390 : decode cX12_operand 390 = .ok (.aload_n 0, 1) := by decide +kernel
theorem doperand_391 : decode cX12_operand 391 = .ok (.getfield 574, 3) := by decide +kernel
theorem doperand_394 : decode cX12_operand 394 = .ok (.iastore, 1) := by decide +kernel
theorem doperand_395 : decode cX12_operand 395 = .ok (.aload_n 0, 1) := by decide +kernel
theorem doperand_396 : decode cX12_operand 396 = .ok (.getfield 574, 3) := by decide +kernel
theorem doperand_399 : decode cX12_operand 399 = .ok (.istore_n 3, 1) := by decide +kernel
theorem doperand_400 : decode cX12_operand 400 = .ok (.aload_n 0, 1) := by decide +kernel
theorem doperand_401 : decode cX12_operand 401 = .ok (.invokevirtual 739, 3) := by decide +kernel
theorem doperand_404 : decode cX12_operand 404 = .ok (.ifCond .ne 5, 3) := by decide +kernel
theorem doperand_407 : decode cX12_operand 407 = .ok (.iconst 0, 1) := by decide +kernel
theorem doperand_408 : decode cX12_operand 408 = .ok (.ireturn, 1) := by decide +kernel
theorem doperand_409 : decode cX12_operand 409 = .ok (.aload_n 0, 1) := by decide +kernel
theorem doperand_410 : decode cX12_operand 410 = .ok (.iconst 0, 1) := by decide +kernel
theorem doperand_411 : decode cX12_operand 411 = .ok (.iload_n 3, 1) := by decide +kernel
theorem doperand_412 : decode cX12_operand 412 = .ok (.iconst 0, 1) := by decide +kernel
theorem doperand_413 : decode cX12_operand 413 = .ok (.invokevirtual 783, 3) := by decide +kernel
theorem doperand_416 : decode cX12_operand 416 = .ok (.aload_n 0, 1) := by decide +kernel
theorem doperand_417 : decode cX12_operand 417 = .ok (.bipush 7, 2) := by decide +kernel
theorem doperand_419 : decode cX12_operand 419 = .ok (.iconst 0, 1) := by decide +kernel
theorem doperand_420 : decode cX12_operand 420 = .ok (.iconst 0, 1) := by decide +kernel
theorem doperand_421 : decode cX12_operand 421 = .ok (.iconst 0, 1) := by decide +kernel
theorem doperand_422 : decode cX12_operand 422 = .ok (.invokevirtual 790, 3) := by decide +kernel
theorem doperand_425 : decode cX12_operand 425 = .ok (.ifCond .eq 31, 3) := by decide +kernel
theorem doperand_428 : decode cX12_operand 428 = .ok (.aload_n 0, 1) := by decide +kernel
theorem doperand_429 : decode cX12_operand 429 = .ok (.bipush 11, 2) := by decide +kernel
theorem doperand_431 : decode cX12_operand 431 = .ok (.iload_n 2, 1) := by decide +kernel
theorem doperand_432 : decode cX12_operand 432 = .ok (.iconst 0, 1) := by decide +kernel
theorem doperand_433 : decode cX12_operand 433 = .ok (.iconst 0, 1) := by decide +kernel
theorem doperand_434 : decode cX12_operand 434 = .ok (.invokevirtual 790, 3) := by decide +kernel
theorem doperand_437 : decode cX12_operand 437 = .ok (.ifCond .eq 19, 3) := by decide +kernel
theorem doperand_440 : decode cX12_operand 440 = .ok (.aload_n 0, 1) := by decide +kernel
theorem doperand_441 : decode cX12_operand 441 = .ok (.bipush 8, 2) := by decide +kernel
theorem doperand_443 : decode cX12_operand 443 = .ok (.iconst 0, 1) := by decide +kernel
theorem doperand_444 : decode cX12_operand 444 = .ok (.iconst 0, 1) := by decide +kernel
theorem doperand_445 : decode cX12_operand 445 = .ok (.iconst 0, 1) := by decide +kernel
theorem doperand_446 : decode cX12_operand 446 = .ok (.invokevirtual 790, 3) := by decide +kernel
theorem doperand_449 : decode cX12_operand 449 = .ok (.ifCond .eq 7, 3) := by decide +kernel
theorem doperand_452 : decode cX12_operand 452 = .ok (.iconst 1, 1) := by decide +kernel
theorem doperand_453 : decode cX12_operand 453 = .ok (.goto 4, 3) := by decide +kernel
theorem doperand_456 : decode cX12_operand 456 = .ok (.iconst 0, 1) := by decide +kernel
theorem doperand_457 : decode cX12_operand 457 = .ok (.ireturn, 1) := by decide +kernel
section
variable {l : Launch} {D : va_G} {cA : Nat → ClassId} {ad : Nat → Nat}
theorem s_operand {R r ph q0 a b : Int} {tf : mo_TF} {s : List mo_A} {ht st rg : Nat → Int} {tu : Int} {h : ja_H} {Q : Option ja_V → ja_H → Prop} (g : mo_G Zz h) (p1 : pk_S h (h 0 17).toNat s) (p2 : piB h R r ph tf q0 ((6, a, b) :: s) ht st rg tu) (p3 : ph = 1 ∨ (h 0 74) ≤ 1 ∨ (h 0 75) ≤ 24) (k1 : ∀ (h' : ja_H), (pi_done h h' R r ph tf q0 (pi_mu h ((6, a, b) :: s))) → mo_G Zz h' → Q (some (0, 1)) h') (k2 : ∀ (h' : ja_H), (0 < (h' 0 8) ∧ (h' 0 1) = (h 0 1) ∧ (h' 0 118) = (h 0 118) ∧ (h' 0 127) = (h 0 127)) → mo_G Zz h' → Q (some (0, 0)) h') : mM_operand l D cA ad  h Q := by
  show mJ l D cA ad 4 cX12_operand 4 (some .boolean) 0 [(0, (2, ((0 : Nat) : Int)))] [] h Q
  have kn_at := gF_at g
  have kn_wTop := gF_wTop g
  have kn_words := gF_words g
  have kn_nest := gF_nest g
  have kn_inIf := gF_inIf g
  have kn_body := gF_body g
  have kn_bodyNumber := gF_bodyNumber g
  have kn_wants := gF_wants g
  have kn_points := gF_points g
  have hN := piB_num g p1 p2
  obtain ⟨N1, N2, N3, N4, N5, N6, N7, N8, N9, N10, N11, N12, N13, ⟨NK1, NK2⟩, ND1, ND2, ND3, NU1, NU2⟩ := hN
  have hn1 : (h 0 18) = 0 + pk_sum pk_c s := p2.1.1
  have hbw : (h 0 86) = 0 → (h 0 74) ≤ 1 ∨ (h 0 75) ≤ 24 := fun q => bw_ok g p2 p3 (Or.inl ⟨q, (by dsimp only; omega)⟩)
  clear p3
  have hbe := bs_be p2
  have hr3 : (h 0 86) = 0 → r ≤ 3 := fun q => (reg_3 g p2 (by dsimp only; omega) q).1
  have hrb : (h 0 86) = 0 ∧ (h 0 74) = 3 → r = 3 := fun q => by rw [(reg_3 g p2 (by dsimp only; omega) q.1).2]; exact q.2
  have hrs : (h 0 86) = 0 ∧ (h 0 74) = 1 → r = 1 := fun q => by rw [(reg_3 g p2 (by dsimp only; omega) q.1).2]; exact q.2
  refine ja_aload_n doperand_0 rfl rfl ?_
  refine fg_at (v := h 0 7) rfl doperand_1 ?_
  have f1 := gF_at g
  refine ja_istore_n doperand_4 rfl (by decide) (L2 := [(1, (0, (h 0 7))), (0, (2, ((0 : Nat) : Int)))]) rfl ?_
  refine ja_aload_n doperand_5 rfl rfl ?_
  refine fa_kinds doperand_6 ?_
  refine ja_aload_n doperand_9 rfl rfl ?_
  refine fg_at (v := h 0 7) rfl doperand_10 ?_
  refine il_kinds (v := h 2 (h 0 7).toNat) rfl ⟨by omega, by omega⟩ doperand_13 ?_
  have f2 := gC_kinds g (h 0 7).toNat
  refine ja_iconst doperand_14 ?_
  refine ja_icmp_ne 64 doperand_15 rfl ⟨by omega, by omega⟩ ⟨by decide, by decide⟩ (fun c15 => ?_) (fun c15 => ?_)
  · refine ja_aload_n doperand_64 rfl rfl ?_
    refine t_isName (by decide) (show (0 : Nat) ≤ 8 by decide) doperand_65 g  ?_
    intro w3 k65_0
    refine ja_if_eq 104 doperand_68 rfl ⟨by omega, by omega⟩ (fun c68 => ?_) (fun c68 => ?_)
    · replace k65_0 := is0 k65_0 c68
      refine ja_aload_n doperand_104 rfl rfl ?_
      refine ja_bipush 40 doperand_105 rfl ?_
      refine t_isSign (by decide) (show (0 : Nat) ≤ 8 by decide) doperand_107 g ⟨by decide, by decide⟩ ?_
      intro w4 k107_0
      refine ja_if_eq 161 doperand_110 rfl ⟨by omega, by omega⟩ (fun c110 => ?_) (fun c110 => ?_)
      · replace k107_0 := is0 k107_0 c110
        refine ja_aload_n doperand_161 rfl rfl ?_
        refine ja_bipush 27 doperand_162 rfl ?_
        refine t_isWord (by decide) (show (0 : Nat) ≤ 8 by decide) doperand_164 g ⟨by decide, by decide⟩ ?_
        intro w5 k164_0
        refine ja_if_ne 179 doperand_167 rfl ⟨by omega, by omega⟩ (fun c167 => ?_) (fun c167 => ?_)
        · have z167 := is1v k164_0 c167
          replace k164_0 := is1 k164_0 c167
          refine ja_aload_n doperand_179 rfl rfl ?_
          refine ja_iconst doperand_180 ?_
          have g6 := gP_form g (x := 0) ⟨by decide, by decide⟩
          refine fp_form doperand_181 ?_
          refine ja_aload_n doperand_184 rfl rfl ?_
          refine ja_bipush 36 doperand_185 rfl ?_
          refine t_isWord (by decide) (show (0 : Nat) ≤ 8 by decide) doperand_187 g6 ⟨by decide, by decide⟩ ?_
          intro w7 k187_0
          replace k187_0 : (w7 = 1 ∧ (h 2 (h 0 7).toNat) = 1 ∧ (h 5 (h 0 7).toNat) = 36) ∨ (w7 = 0 ∧ ¬ ((h 2 (h 0 7).toNat) = 1 ∧ (h 5 (h 0 7).toNat) = 36)) := k187_0
          refine ja_if_eq 210 doperand_190 rfl ⟨by omega, by omega⟩ (fun c190 => ?_) (fun c190 => ?_)
          · replace k187_0 := is0 k187_0 c190
            refine ja_aload_n doperand_210 rfl rfl ?_
            refine ja_aload_n doperand_211 rfl rfl ?_
            refine ja_bipush 36 doperand_212 rfl ?_
            refine t_isWord (by decide) (show (1 : Nat) ≤ 8 by decide) doperand_214 g6 ⟨by decide, by decide⟩ ?_
            intro w8 k214_0
            replace k214_0 : (w8 = 1 ∧ (h 2 (h 0 7).toNat) = 1 ∧ (h 5 (h 0 7).toNat) = 36) ∨ (w8 = 0 ∧ ¬ ((h 2 (h 0 7).toNat) = 1 ∧ (h 5 (h 0 7).toNat) = 36)) := k214_0
            refine ja_if_eq 224 doperand_217 rfl ⟨by omega, by omega⟩ (fun c217 => ?_) (fun c217 => ?_)
            · replace k214_0 := is0 k214_0 c217
              refine ja_iconst doperand_224 ?_
              refine ja_iconst doperand_225 ?_
              refine ja_iconst doperand_226 ?_
              refine t_emit (by decide) (show (0 : Nat) ≤ 8 by decide) doperand_227 g6 ⟨by decide, by decide⟩ ⟨by decide, by decide⟩ ⟨by decide, by decide⟩ (show 0 ≤ 2 ∧ 2 ≤ 26 by omega) (show (h 0 113) < 5000 by omega) ?_
              intro g9
              replace g9 : mo_G Zz (ja_up (ja_up (ja_up (ja_up (ja_up h 0 19 0) 74 ((h 0 113).toNat) 2) 75 ((h 0 113).toNat) 0) 76 ((h 0 113).toNat) 0) 0 113 ((h 0 113) + 1)) := g9
              show mJ l D cA ad 4 cX12_operand 4 (some .boolean) 230 [(1, (0, (h 0 7))), (0, (2, ((0 : Nat) : Int)))] [(0, (h 0 113))] (ja_up (ja_up (ja_up (ja_up (ja_up h 0 19 0) 74 ((h 0 113).toNat) 2) 75 ((h 0 113).toNat) 0) 76 ((h 0 113).toNat) 0) 0 113 ((h 0 113) + 1)) Q
              refine ja_istore_n doperand_230 rfl (by decide) (L2 := [(2, (0, (h 0 113))), (1, (0, (h 0 7))), (0, (2, ((0 : Nat) : Int)))]) rfl ?_
              refine ja_aload_n doperand_231 rfl rfl ?_
              refine t_take (by decide) (show (0 : Nat) ≤ 8 by decide) doperand_232 g9  ?_ ?_
              · intro k232_0 g10
                replace k232_0 : (h 0 7) < 900 := k232_0
                replace g10 : mo_G Zz (ja_up (ja_up (ja_up (ja_up (ja_up (ja_up h 0 19 0) 74 ((h 0 113).toNat) 2) 75 ((h 0 113).toNat) 0) 76 ((h 0 113).toNat) 0) 0 113 ((h 0 113) + 1)) 0 7 ((h 0 7) + 1)) := g10
                show mJ l D cA ad 4 cX12_operand 4 (some .boolean) 235 [(2, (0, (h 0 113))), (1, (0, (h 0 7))), (0, (2, ((0 : Nat) : Int)))] [(0, 1)] (ja_up (ja_up (ja_up (ja_up (ja_up (ja_up h 0 19 0) 74 ((h 0 113).toNat) 2) 75 ((h 0 113).toNat) 0) 76 ((h 0 113).toNat) 0) 0 113 ((h 0 113) + 1)) 0 7 ((h 0 7) + 1)) Q
                refine ja_if_eq 254 doperand_235 rfl ⟨by decide, by decide⟩ (fun c235 => absurd c235 (by omega)) (fun c235 => ?_)
                refine ja_aload_n doperand_238 rfl rfl ?_
                refine ja_bipush 7 doperand_239 rfl ?_
                refine ja_iconst doperand_241 ?_
                refine ja_iconst doperand_242 ?_
                refine ja_iconst doperand_243 ?_
                refine t_later (by decide) (show (0 : Nat) ≤ 8 by decide) doperand_244 g10 ⟨by decide, by decide⟩ ⟨by decide, by decide⟩ ⟨by decide, by decide⟩ ⟨by decide, by decide⟩ (show 0 ≤ 7 ∧ 7 ≤ 38 by omega) (show (h 0 17) < 2000 by omega) ?_
                intro g11
                replace g11 : mo_G Zz (ja_up (ja_up (ja_up (ja_up (ja_up (ja_up (ja_up (ja_up (ja_up (ja_up (ja_up h 0 19 0) 74 ((h 0 113).toNat) 2) 75 ((h 0 113).toNat) 0) 76 ((h 0 113).toNat) 0) 0 113 ((h 0 113) + 1)) 0 7 ((h 0 7) + 1)) 6 ((h 0 17).toNat) 7) 7 ((h 0 17).toNat) 0) 8 ((h 0 17).toNat) 0) 9 ((h 0 17).toNat) 0) 0 17 ((h 0 17) + 1)) := g11
                show mJ l D cA ad 4 cX12_operand 4 (some .boolean) 247 [(2, (0, (h 0 113))), (1, (0, (h 0 7))), (0, (2, ((0 : Nat) : Int)))] [(0, 1)] (ja_up (ja_up (ja_up (ja_up (ja_up (ja_up (ja_up (ja_up (ja_up (ja_up (ja_up h 0 19 0) 74 ((h 0 113).toNat) 2) 75 ((h 0 113).toNat) 0) 76 ((h 0 113).toNat) 0) 0 113 ((h 0 113) + 1)) 0 7 ((h 0 7) + 1)) 6 ((h 0 17).toNat) 7) 7 ((h 0 17).toNat) 0) 8 ((h 0 17).toNat) 0) 9 ((h 0 17).toNat) 0) 0 17 ((h 0 17) + 1)) Q
                refine ja_if_eq 254 doperand_247 rfl ⟨by decide, by decide⟩ (fun c247 => absurd c247 (by omega)) (fun c247 => ?_)
                refine ja_iconst doperand_250 ?_
                refine ja_goto 255 doperand_251 rfl ?_
                refine ja_zreturn doperand_255 rfl (by omega) ?_
                exact mo_fin (by omega) rfl (k1 (ja_up (ja_up (ja_up (ja_up (ja_up (ja_up (ja_up (ja_up (ja_up (ja_up (ja_up h 0 19 0) 74 ((h 0 113).toNat) 2) 75 ((h 0 113).toNat) 0) 76 ((h 0 113).toNat) 0) 0 113 ((h 0 113) + 1)) 0 7 ((h 0 7) + 1)) 6 ((h 0 17).toNat) 7) 7 ((h 0 17).toNat) 0) 8 ((h 0 17).toNat) 0) 9 ((h 0 17).toNat) 0) 0 17 ((h 0 17) + 1)) (ab_od_none (v := 0) g p1 p2) g11)
              · intro h12 k232_1 g13
                replace k232_1 : 0 < (h12 0 8) ∧ (h12 0 1) = (h 0 1) ∧ (h12 0 118) = (h 0 118) ∧ (h12 0 127) = (h 0 127) := k232_1
                refine ja_if_eq 254 doperand_235 rfl ⟨by decide, by decide⟩ (fun c235 => ?_) (fun c235 => absurd c235 (by omega))
                refine ja_iconst doperand_254 ?_
                refine ja_zreturn doperand_255 rfl (by omega) ?_
                exact mo_fin (by omega) rfl (k2 h12 (by omega) g13)
            · have z217 := is1v k214_0 c217
              replace k214_0 := is1 k214_0 c217
              exfalso; omega
          · have z190 := is1v k187_0 c190
            replace k187_0 := is1 k187_0 c190
            exfalso; omega
        · replace k164_0 := is0 k164_0 c167
          refine ja_aload_n doperand_170 rfl rfl ?_
          refine ja_bipush 36 doperand_171 rfl ?_
          refine t_isWord (by decide) (show (0 : Nat) ≤ 8 by decide) doperand_173 g ⟨by decide, by decide⟩ ?_
          intro w14 k173_0
          refine ja_if_eq 256 doperand_176 rfl ⟨by omega, by omega⟩ (fun c176 => ?_) (fun c176 => ?_)
          · replace k173_0 := is0 k173_0 c176
            have hi0 := be_new hbe c15 k65_0 k107_0 k164_0
            clear hbe
            refine ja_aload_n doperand_256 rfl rfl ?_
            refine ja_bipush 18 doperand_257 rfl ?_
            refine t_isWord (by decide) (show (0 : Nat) ≤ 8 by decide) doperand_259 g ⟨by decide, by decide⟩ ?_
            intro w15 k259_0
            refine ja_if_eq 366 doperand_262 rfl ⟨by omega, by omega⟩ (fun c262 => ?_) (fun c262 => ?_)
            · replace k259_0 := is0 k259_0 c262
              refine ja_aload_n doperand_366 rfl rfl ?_
              refine ja_iconst doperand_367 ?_
              refine t_newPoint (by decide) (show (0 : Nat) ≤ 8 by decide) doperand_368 g ⟨by decide, by decide⟩ (show 0 ≤ 2 ∧ 2 ≤ 5 by omega) ?_ ?_
              · intro w16 w17 k368_0 g18
                replace k368_0 : (h 0 88) < 400 ∧ (((h 0 74) = 3 ∧ w16 = 2) ∨ (¬ (h 0 74) = 3 ∧ w16 = (h 0 74))) ∧ (((h 0 74) = 0 ∧ w17 = 0) ∨ (¬ (h 0 74) = 0 ∧ w17 = (h 0 75))) := k368_0
                replace g18 : mo_G Zz (ja_up (ja_up (ja_up (ja_up (ja_up (ja_up (ja_up h 52 ((h 0 88).toNat) 2) 53 ((h 0 88).toNat) (h 0 7)) 54 ((h 0 88).toNat) (-1)) 55 ((h 0 88).toNat) 0) 56 ((h 0 88).toNat) w16) 57 ((h 0 88).toNat) w17) 0 88 ((h 0 88) + 1)) := g18
                show mJ l D cA ad 4 cX12_operand 4 (some .boolean) 371 [(1, (0, (h 0 7))), (0, (2, ((0 : Nat) : Int)))] [(0, (h 0 88))] (ja_up (ja_up (ja_up (ja_up (ja_up (ja_up (ja_up h 52 ((h 0 88).toNat) 2) 53 ((h 0 88).toNat) (h 0 7)) 54 ((h 0 88).toNat) (-1)) 55 ((h 0 88).toNat) 0) 56 ((h 0 88).toNat) w16) 57 ((h 0 88).toNat) w17) 0 88 ((h 0 88) + 1)) Q
                refine ja_istore_n doperand_371 rfl (by decide) (L2 := [(2, (0, (h 0 88))), (1, (0, (h 0 7))), (0, (2, ((0 : Nat) : Int)))]) rfl ?_
                refine ja_iload_n doperand_372 rfl rfl ?_
                refine ja_if_lt 383 doperand_373 rfl ⟨by omega, by omega⟩ (fun c373 => ?_) (fun c373 => ?_)
                · refine ja_iconst doperand_383 ?_
                  refine ja_zreturn doperand_384 rfl (by omega) ?_
                  exact mo_fin (by omega) rfl (k2 (ja_up (ja_up (ja_up (ja_up (ja_up (ja_up (ja_up h 52 ((h 0 88).toNat) 2) 53 ((h 0 88).toNat) (h 0 7)) 54 ((h 0 88).toNat) (-1)) 55 ((h 0 88).toNat) 0) 56 ((h 0 88).toNat) w16) 57 ((h 0 88).toNat) w17) 0 88 ((h 0 88) + 1)) (show 0 < (h 0 8) ∧ (h 0 1) = (h 0 1) ∧ (h 0 118) = (h 0 118) ∧ (h 0 127) = (h 0 127) by omega) g18)
                · refine ja_aload_n doperand_376 rfl rfl ?_
                  refine t_take (by decide) (show (0 : Nat) ≤ 8 by decide) doperand_377 g18  ?_ ?_
                  · intro k377_0 g19
                    replace k377_0 : (h 0 7) < 900 := k377_0
                    replace g19 : mo_G Zz (ja_up (ja_up (ja_up (ja_up (ja_up (ja_up (ja_up (ja_up h 52 ((h 0 88).toNat) 2) 53 ((h 0 88).toNat) (h 0 7)) 54 ((h 0 88).toNat) (-1)) 55 ((h 0 88).toNat) 0) 56 ((h 0 88).toNat) w16) 57 ((h 0 88).toNat) w17) 0 88 ((h 0 88) + 1)) 0 7 ((h 0 7) + 1)) := g19
                    show mJ l D cA ad 4 cX12_operand 4 (some .boolean) 380 [(2, (0, (h 0 88))), (1, (0, (h 0 7))), (0, (2, ((0 : Nat) : Int)))] [(0, 1)] (ja_up (ja_up (ja_up (ja_up (ja_up (ja_up (ja_up (ja_up h 52 ((h 0 88).toNat) 2) 53 ((h 0 88).toNat) (h 0 7)) 54 ((h 0 88).toNat) (-1)) 55 ((h 0 88).toNat) 0) 56 ((h 0 88).toNat) w16) 57 ((h 0 88).toNat) w17) 0 88 ((h 0 88) + 1)) 0 7 ((h 0 7) + 1)) Q
                    refine ja_if_ne 385 doperand_380 rfl ⟨by decide, by decide⟩ (fun c380 => ?_) (fun c380 => absurd c380 (by omega))
                    refine ja_aload_n doperand_385 rfl rfl ?_
                    refine fa_pointName doperand_386 ?_
                    refine ja_iload_n doperand_389 rfl rfl ?_
                    refine ja_aload_n doperand_390 rfl rfl ?_
                    refine fg_at (v := (h 0 7) + 1) rfl doperand_391 ?_
                    have g20 := gW_pointName g19 (h 0 88).toNat (x := (h 0 7) + 1) ⟨by omega, by omega⟩
                    refine is_pointName ⟨by omega, by omega⟩ doperand_394 ?_
                    refine ja_aload_n doperand_395 rfl rfl ?_
                    refine fg_at (v := (h 0 7) + 1) rfl doperand_396 ?_
                    refine ja_istore_n doperand_399 rfl (by decide) (L2 := [(3, (0, ((h 0 7) + 1))), (2, (0, (h 0 88))), (1, (0, (h 0 7))), (0, (2, ((0 : Nat) : Int)))]) rfl ?_
                    refine ja_aload_n doperand_400 rfl rfl ?_
                    refine t_name (by decide) (show (0 : Nat) ≤ 8 by decide) doperand_401 g20  ?_ ?_
                    · intro k401_0 g21
                      replace k401_0 : ((h 0 7) + 1) < 900 ∧ (h 2 ((h 0 7) + 1).toNat) = 2 := k401_0
                      replace g21 : mo_G Zz (ja_up (ja_up (ja_up (ja_up (ja_up (ja_up (ja_up (ja_up (ja_up (ja_up h 52 ((h 0 88).toNat) 2) 53 ((h 0 88).toNat) (h 0 7)) 54 ((h 0 88).toNat) (-1)) 55 ((h 0 88).toNat) 0) 56 ((h 0 88).toNat) w16) 57 ((h 0 88).toNat) w17) 0 88 ((h 0 88) + 1)) 0 7 ((h 0 7) + 1)) 54 ((h 0 88).toNat) ((h 0 7) + 1)) 0 7 (((h 0 7) + 1) + 1)) := g21
                      show mJ l D cA ad 4 cX12_operand 4 (some .boolean) 404 [(3, (0, ((h 0 7) + 1))), (2, (0, (h 0 88))), (1, (0, (h 0 7))), (0, (2, ((0 : Nat) : Int)))] [(0, 1)] (ja_up (ja_up (ja_up (ja_up (ja_up (ja_up (ja_up (ja_up (ja_up (ja_up h 52 ((h 0 88).toNat) 2) 53 ((h 0 88).toNat) (h 0 7)) 54 ((h 0 88).toNat) (-1)) 55 ((h 0 88).toNat) 0) 56 ((h 0 88).toNat) w16) 57 ((h 0 88).toNat) w17) 0 88 ((h 0 88) + 1)) 0 7 ((h 0 7) + 1)) 54 ((h 0 88).toNat) ((h 0 7) + 1)) 0 7 (((h 0 7) + 1) + 1)) Q
                      refine ja_if_ne 409 doperand_404 rfl ⟨by decide, by decide⟩ (fun c404 => ?_) (fun c404 => absurd c404 (by omega))
                      refine ja_aload_n doperand_409 rfl rfl ?_
                      refine ja_iconst doperand_410 ?_
                      refine ja_iload_n doperand_411 rfl rfl ?_
                      refine ja_iconst doperand_412 ?_
                      refine t_want (by decide) (show (0 : Nat) ≤ 8 by decide) doperand_413 g21 ⟨by decide, by decide⟩ ⟨by omega, by omega⟩ ⟨by decide, by decide⟩ (show 0 ≤ 0 ∧ 0 ≤ 1 by omega) (show 0 ≤ ((h 0 7) + 1) ∧ ((h 0 7) + 1) ≤ 900 by omega) (show 0 ≤ 0 ∧ 0 ≤ 7 by omega) (show (h 0 68) < 900 by omega) ?_
                      intro g22
                      replace g22 : mo_G Zz (ja_up (ja_up (ja_up (ja_up (ja_up (ja_up (ja_up (ja_up (ja_up (ja_up (ja_up (ja_up (ja_up (ja_up h 52 ((h 0 88).toNat) 2) 53 ((h 0 88).toNat) (h 0 7)) 54 ((h 0 88).toNat) (-1)) 55 ((h 0 88).toNat) 0) 56 ((h 0 88).toNat) w16) 57 ((h 0 88).toNat) w17) 0 88 ((h 0 88) + 1)) 0 7 ((h 0 7) + 1)) 54 ((h 0 88).toNat) ((h 0 7) + 1)) 0 7 (((h 0 7) + 1) + 1)) 45 ((h 0 68).toNat) 0) 44 ((h 0 68).toNat) ((h 0 7) + 1)) 46 ((h 0 68).toNat) 0) 0 68 ((h 0 68) + 1)) := g22
                      show mJ l D cA ad 4 cX12_operand 4 (some .boolean) 416 [(3, (0, ((h 0 7) + 1))), (2, (0, (h 0 88))), (1, (0, (h 0 7))), (0, (2, ((0 : Nat) : Int)))] [] (ja_up (ja_up (ja_up (ja_up (ja_up (ja_up (ja_up (ja_up (ja_up (ja_up (ja_up (ja_up (ja_up (ja_up h 52 ((h 0 88).toNat) 2) 53 ((h 0 88).toNat) (h 0 7)) 54 ((h 0 88).toNat) (-1)) 55 ((h 0 88).toNat) 0) 56 ((h 0 88).toNat) w16) 57 ((h 0 88).toNat) w17) 0 88 ((h 0 88) + 1)) 0 7 ((h 0 7) + 1)) 54 ((h 0 88).toNat) ((h 0 7) + 1)) 0 7 (((h 0 7) + 1) + 1)) 45 ((h 0 68).toNat) 0) 44 ((h 0 68).toNat) ((h 0 7) + 1)) 46 ((h 0 68).toNat) 0) 0 68 ((h 0 68) + 1)) Q
                      refine ja_aload_n doperand_416 rfl rfl ?_
                      refine ja_bipush 7 doperand_417 rfl ?_
                      refine ja_iconst doperand_419 ?_
                      refine ja_iconst doperand_420 ?_
                      refine ja_iconst doperand_421 ?_
                      refine t_later (by decide) (show (0 : Nat) ≤ 8 by decide) doperand_422 g22 ⟨by decide, by decide⟩ ⟨by decide, by decide⟩ ⟨by decide, by decide⟩ ⟨by decide, by decide⟩ (show 0 ≤ 7 ∧ 7 ≤ 38 by omega) (show (h 0 17) < 2000 by omega) ?_
                      intro g23
                      replace g23 : mo_G Zz (ja_up (ja_up (ja_up (ja_up (ja_up (ja_up (ja_up (ja_up (ja_up (ja_up (ja_up (ja_up (ja_up (ja_up (ja_up (ja_up (ja_up (ja_up (ja_up h 52 ((h 0 88).toNat) 2) 53 ((h 0 88).toNat) (h 0 7)) 54 ((h 0 88).toNat) (-1)) 55 ((h 0 88).toNat) 0) 56 ((h 0 88).toNat) w16) 57 ((h 0 88).toNat) w17) 0 88 ((h 0 88) + 1)) 0 7 ((h 0 7) + 1)) 54 ((h 0 88).toNat) ((h 0 7) + 1)) 0 7 (((h 0 7) + 1) + 1)) 45 ((h 0 68).toNat) 0) 44 ((h 0 68).toNat) ((h 0 7) + 1)) 46 ((h 0 68).toNat) 0) 0 68 ((h 0 68) + 1)) 6 ((h 0 17).toNat) 7) 7 ((h 0 17).toNat) 0) 8 ((h 0 17).toNat) 0) 9 ((h 0 17).toNat) 0) 0 17 ((h 0 17) + 1)) := g23
                      show mJ l D cA ad 4 cX12_operand 4 (some .boolean) 425 [(3, (0, ((h 0 7) + 1))), (2, (0, (h 0 88))), (1, (0, (h 0 7))), (0, (2, ((0 : Nat) : Int)))] [(0, 1)] (ja_up (ja_up (ja_up (ja_up (ja_up (ja_up (ja_up (ja_up (ja_up (ja_up (ja_up (ja_up (ja_up (ja_up (ja_up (ja_up (ja_up (ja_up (ja_up h 52 ((h 0 88).toNat) 2) 53 ((h 0 88).toNat) (h 0 7)) 54 ((h 0 88).toNat) (-1)) 55 ((h 0 88).toNat) 0) 56 ((h 0 88).toNat) w16) 57 ((h 0 88).toNat) w17) 0 88 ((h 0 88) + 1)) 0 7 ((h 0 7) + 1)) 54 ((h 0 88).toNat) ((h 0 7) + 1)) 0 7 (((h 0 7) + 1) + 1)) 45 ((h 0 68).toNat) 0) 44 ((h 0 68).toNat) ((h 0 7) + 1)) 46 ((h 0 68).toNat) 0) 0 68 ((h 0 68) + 1)) 6 ((h 0 17).toNat) 7) 7 ((h 0 17).toNat) 0) 8 ((h 0 17).toNat) 0) 9 ((h 0 17).toNat) 0) 0 17 ((h 0 17) + 1)) Q
                      refine ja_if_eq 456 doperand_425 rfl ⟨by decide, by decide⟩ (fun c425 => absurd c425 (by omega)) (fun c425 => ?_)
                      refine ja_aload_n doperand_428 rfl rfl ?_
                      refine ja_bipush 11 doperand_429 rfl ?_
                      refine ja_iload_n doperand_431 rfl rfl ?_
                      refine ja_iconst doperand_432 ?_
                      refine ja_iconst doperand_433 ?_
                      refine t_later (by decide) (show (0 : Nat) ≤ 8 by decide) doperand_434 g23 ⟨by decide, by decide⟩ ⟨by omega, by omega⟩ ⟨by decide, by decide⟩ ⟨by decide, by decide⟩ (show 0 ≤ 11 ∧ 11 ≤ 38 by omega) (show ((h 0 17) + 1) < 2000 by omega) ?_
                      intro g24
                      replace g24 : mo_G Zz (ja_up (ja_up (ja_up (ja_up (ja_up (ja_up (ja_up (ja_up (ja_up (ja_up (ja_up (ja_up (ja_up (ja_up (ja_up (ja_up (ja_up (ja_up (ja_up (ja_up (ja_up (ja_up (ja_up (ja_up h 52 ((h 0 88).toNat) 2) 53 ((h 0 88).toNat) (h 0 7)) 54 ((h 0 88).toNat) (-1)) 55 ((h 0 88).toNat) 0) 56 ((h 0 88).toNat) w16) 57 ((h 0 88).toNat) w17) 0 88 ((h 0 88) + 1)) 0 7 ((h 0 7) + 1)) 54 ((h 0 88).toNat) ((h 0 7) + 1)) 0 7 (((h 0 7) + 1) + 1)) 45 ((h 0 68).toNat) 0) 44 ((h 0 68).toNat) ((h 0 7) + 1)) 46 ((h 0 68).toNat) 0) 0 68 ((h 0 68) + 1)) 6 ((h 0 17).toNat) 7) 7 ((h 0 17).toNat) 0) 8 ((h 0 17).toNat) 0) 9 ((h 0 17).toNat) 0) 0 17 ((h 0 17) + 1)) 6 (((h 0 17) + 1).toNat) 11) 7 (((h 0 17) + 1).toNat) (h 0 88)) 8 (((h 0 17) + 1).toNat) 0) 9 (((h 0 17) + 1).toNat) 0) 0 17 (((h 0 17) + 1) + 1)) := g24
                      show mJ l D cA ad 4 cX12_operand 4 (some .boolean) 437 [(3, (0, ((h 0 7) + 1))), (2, (0, (h 0 88))), (1, (0, (h 0 7))), (0, (2, ((0 : Nat) : Int)))] [(0, 1)] (ja_up (ja_up (ja_up (ja_up (ja_up (ja_up (ja_up (ja_up (ja_up (ja_up (ja_up (ja_up (ja_up (ja_up (ja_up (ja_up (ja_up (ja_up (ja_up (ja_up (ja_up (ja_up (ja_up (ja_up h 52 ((h 0 88).toNat) 2) 53 ((h 0 88).toNat) (h 0 7)) 54 ((h 0 88).toNat) (-1)) 55 ((h 0 88).toNat) 0) 56 ((h 0 88).toNat) w16) 57 ((h 0 88).toNat) w17) 0 88 ((h 0 88) + 1)) 0 7 ((h 0 7) + 1)) 54 ((h 0 88).toNat) ((h 0 7) + 1)) 0 7 (((h 0 7) + 1) + 1)) 45 ((h 0 68).toNat) 0) 44 ((h 0 68).toNat) ((h 0 7) + 1)) 46 ((h 0 68).toNat) 0) 0 68 ((h 0 68) + 1)) 6 ((h 0 17).toNat) 7) 7 ((h 0 17).toNat) 0) 8 ((h 0 17).toNat) 0) 9 ((h 0 17).toNat) 0) 0 17 ((h 0 17) + 1)) 6 (((h 0 17) + 1).toNat) 11) 7 (((h 0 17) + 1).toNat) (h 0 88)) 8 (((h 0 17) + 1).toNat) 0) 9 (((h 0 17) + 1).toNat) 0) 0 17 (((h 0 17) + 1) + 1)) Q
                      refine ja_if_eq 456 doperand_437 rfl ⟨by decide, by decide⟩ (fun c437 => absurd c437 (by omega)) (fun c437 => ?_)
                      refine ja_aload_n doperand_440 rfl rfl ?_
                      refine ja_bipush 8 doperand_441 rfl ?_
                      refine ja_iconst doperand_443 ?_
                      refine ja_iconst doperand_444 ?_
                      refine ja_iconst doperand_445 ?_
                      refine t_later (by decide) (show (0 : Nat) ≤ 8 by decide) doperand_446 g24 ⟨by decide, by decide⟩ ⟨by decide, by decide⟩ ⟨by decide, by decide⟩ ⟨by decide, by decide⟩ (show 0 ≤ 8 ∧ 8 ≤ 38 by omega) (show (((h 0 17) + 1) + 1) < 2000 by omega) ?_
                      intro g25
                      replace g25 : mo_G Zz (ja_up (ja_up (ja_up (ja_up (ja_up (ja_up (ja_up (ja_up (ja_up (ja_up (ja_up (ja_up (ja_up (ja_up (ja_up (ja_up (ja_up (ja_up (ja_up (ja_up (ja_up (ja_up (ja_up (ja_up (ja_up (ja_up (ja_up (ja_up (ja_up h 52 ((h 0 88).toNat) 2) 53 ((h 0 88).toNat) (h 0 7)) 54 ((h 0 88).toNat) (-1)) 55 ((h 0 88).toNat) 0) 56 ((h 0 88).toNat) w16) 57 ((h 0 88).toNat) w17) 0 88 ((h 0 88) + 1)) 0 7 ((h 0 7) + 1)) 54 ((h 0 88).toNat) ((h 0 7) + 1)) 0 7 (((h 0 7) + 1) + 1)) 45 ((h 0 68).toNat) 0) 44 ((h 0 68).toNat) ((h 0 7) + 1)) 46 ((h 0 68).toNat) 0) 0 68 ((h 0 68) + 1)) 6 ((h 0 17).toNat) 7) 7 ((h 0 17).toNat) 0) 8 ((h 0 17).toNat) 0) 9 ((h 0 17).toNat) 0) 0 17 ((h 0 17) + 1)) 6 (((h 0 17) + 1).toNat) 11) 7 (((h 0 17) + 1).toNat) (h 0 88)) 8 (((h 0 17) + 1).toNat) 0) 9 (((h 0 17) + 1).toNat) 0) 0 17 (((h 0 17) + 1) + 1)) 6 ((((h 0 17) + 1) + 1).toNat) 8) 7 ((((h 0 17) + 1) + 1).toNat) 0) 8 ((((h 0 17) + 1) + 1).toNat) 0) 9 ((((h 0 17) + 1) + 1).toNat) 0) 0 17 ((((h 0 17) + 1) + 1) + 1)) := g25
                      show mJ l D cA ad 4 cX12_operand 4 (some .boolean) 449 [(3, (0, ((h 0 7) + 1))), (2, (0, (h 0 88))), (1, (0, (h 0 7))), (0, (2, ((0 : Nat) : Int)))] [(0, 1)] (ja_up (ja_up (ja_up (ja_up (ja_up (ja_up (ja_up (ja_up (ja_up (ja_up (ja_up (ja_up (ja_up (ja_up (ja_up (ja_up (ja_up (ja_up (ja_up (ja_up (ja_up (ja_up (ja_up (ja_up (ja_up (ja_up (ja_up (ja_up (ja_up h 52 ((h 0 88).toNat) 2) 53 ((h 0 88).toNat) (h 0 7)) 54 ((h 0 88).toNat) (-1)) 55 ((h 0 88).toNat) 0) 56 ((h 0 88).toNat) w16) 57 ((h 0 88).toNat) w17) 0 88 ((h 0 88) + 1)) 0 7 ((h 0 7) + 1)) 54 ((h 0 88).toNat) ((h 0 7) + 1)) 0 7 (((h 0 7) + 1) + 1)) 45 ((h 0 68).toNat) 0) 44 ((h 0 68).toNat) ((h 0 7) + 1)) 46 ((h 0 68).toNat) 0) 0 68 ((h 0 68) + 1)) 6 ((h 0 17).toNat) 7) 7 ((h 0 17).toNat) 0) 8 ((h 0 17).toNat) 0) 9 ((h 0 17).toNat) 0) 0 17 ((h 0 17) + 1)) 6 (((h 0 17) + 1).toNat) 11) 7 (((h 0 17) + 1).toNat) (h 0 88)) 8 (((h 0 17) + 1).toNat) 0) 9 (((h 0 17) + 1).toNat) 0) 0 17 (((h 0 17) + 1) + 1)) 6 ((((h 0 17) + 1) + 1).toNat) 8) 7 ((((h 0 17) + 1) + 1).toNat) 0) 8 ((((h 0 17) + 1) + 1).toNat) 0) 9 ((((h 0 17) + 1) + 1).toNat) 0) 0 17 ((((h 0 17) + 1) + 1) + 1)) Q
                      refine ja_if_eq 456 doperand_449 rfl ⟨by decide, by decide⟩ (fun c449 => absurd c449 (by omega)) (fun c449 => ?_)
                      refine ja_iconst doperand_452 ?_
                      refine ja_goto 457 doperand_453 rfl ?_
                      refine ja_zreturn doperand_457 rfl (by omega) ?_
                      exact mo_fin (by omega) rfl (k1 (ja_up (ja_up (ja_up (ja_up (ja_up (ja_up (ja_up (ja_up (ja_up (ja_up (ja_up (ja_up (ja_up (ja_up (ja_up (ja_up (ja_up (ja_up (ja_up (ja_up (ja_up (ja_up (ja_up (ja_up (ja_up (ja_up (ja_up (ja_up (ja_up h 52 ((h 0 88).toNat) 2) 53 ((h 0 88).toNat) (h 0 7)) 54 ((h 0 88).toNat) (-1)) 55 ((h 0 88).toNat) 0) 56 ((h 0 88).toNat) w16) 57 ((h 0 88).toNat) w17) 0 88 ((h 0 88) + 1)) 0 7 ((h 0 7) + 1)) 54 ((h 0 88).toNat) ((h 0 7) + 1)) 0 7 (((h 0 7) + 1) + 1)) 45 ((h 0 68).toNat) 0) 44 ((h 0 68).toNat) ((h 0 7) + 1)) 46 ((h 0 68).toNat) 0) 0 68 ((h 0 68) + 1)) 6 ((h 0 17).toNat) 7) 7 ((h 0 17).toNat) 0) 8 ((h 0 17).toNat) 0) 9 ((h 0 17).toNat) 0) 0 17 ((h 0 17) + 1)) 6 (((h 0 17) + 1).toNat) 11) 7 (((h 0 17) + 1).toNat) (h 0 88)) 8 (((h 0 17) + 1).toNat) 0) 9 (((h 0 17) + 1).toNat) 0) 0 17 (((h 0 17) + 1) + 1)) 6 ((((h 0 17) + 1) + 1).toNat) 8) 7 ((((h 0 17) + 1) + 1).toNat) 0) 8 ((((h 0 17) + 1) + 1).toNat) 0) 9 ((((h 0 17) + 1) + 1).toNat) 0) 0 17 ((((h 0 17) + 1) + 1) + 1)) (ab_new (sd := w16) (wh := w17) g p1 p2 hi0 (by omega)) g25)
                    · intro h26 k401_1 g27
                      replace k401_1 : 0 < (h26 0 8) ∧ (h26 0 1) = (h 0 1) ∧ (h26 0 118) = (h 0 118) ∧ (h26 0 127) = (h 0 127) := k401_1
                      refine ja_if_ne 409 doperand_404 rfl ⟨by decide, by decide⟩ (fun c404 => absurd c404 (by omega)) (fun c404 => ?_)
                      refine ja_iconst doperand_407 ?_
                      refine ja_zreturn doperand_408 rfl (by omega) ?_
                      exact mo_fin (by omega) rfl (k2 h26 (by omega) g27)
                  · intro h28 k377_1 g29
                    replace k377_1 : 0 < (h28 0 8) ∧ (h28 0 1) = (h 0 1) ∧ (h28 0 118) = (h 0 118) ∧ (h28 0 127) = (h 0 127) := k377_1
                    refine ja_if_ne 385 doperand_380 rfl ⟨by decide, by decide⟩ (fun c380 => absurd c380 (by omega)) (fun c380 => ?_)
                    refine ja_iconst doperand_383 ?_
                    refine ja_zreturn doperand_384 rfl (by omega) ?_
                    exact mo_fin (by omega) rfl (k2 h28 (by omega) g29)
              · intro h30 k368_1 g31
                refine ja_istore_n doperand_371 rfl (by decide) (L2 := [(2, (0, (-1))), (1, (0, (h 0 7))), (0, (2, ((0 : Nat) : Int)))]) rfl ?_
                refine ja_iload_n doperand_372 rfl rfl ?_
                refine ja_if_lt 383 doperand_373 rfl ⟨by decide, by decide⟩ (fun c373 => ?_) (fun c373 => absurd c373 (by omega))
                refine ja_iconst doperand_383 ?_
                refine ja_zreturn doperand_384 rfl (by omega) ?_
                exact mo_fin (by omega) rfl (k2 h30 (by omega) g31)
            · have z262 := is1v k259_0 c262
              replace k259_0 := is1 k259_0 c262
              refine ja_aload_n doperand_265 rfl rfl ?_
              refine fg_body (v := h 0 74) rfl doperand_266 ?_
              have f32 := gF_body g
              refine ja_iconst doperand_269 ?_
              refine ja_icmp_eq 282 doperand_270 rfl ⟨by omega, by omega⟩ ⟨by decide, by decide⟩ (fun c270 => ?_) (fun c270 => ?_)
              · refine ja_aload_n doperand_282 rfl rfl ?_
                refine t_take (by decide) (show (0 : Nat) ≤ 8 by decide) doperand_283 g  ?_ ?_
                · intro k283_0 g33
                  replace k283_0 : (h 0 7) < 900 := k283_0
                  replace g33 : mo_G Zz (ja_up h 0 7 ((h 0 7) + 1)) := g33
                  show mJ l D cA ad 4 cX12_operand 4 (some .boolean) 286 [(1, (0, (h 0 7))), (0, (2, ((0 : Nat) : Int)))] [(0, 1)] (ja_up h 0 7 ((h 0 7) + 1)) Q
                  refine ja_if_ne 291 doperand_286 rfl ⟨by decide, by decide⟩ (fun c286 => ?_) (fun c286 => absurd c286 (by omega))
                  refine ja_aload_n doperand_291 rfl rfl ?_
                  refine ja_bipush 40 doperand_292 rfl ?_
                  refine t_isSign (by decide) (show (0 : Nat) ≤ 8 by decide) doperand_294 g33 ⟨by decide, by decide⟩ ?_
                  intro w34 k294_0
                  replace k294_0 : (w34 = 1 ∧ (h 2 ((h 0 7) + 1).toNat) = 5 ∧ (h 5 ((h 0 7) + 1).toNat) = 40) ∨ (w34 = 0 ∧ ¬ ((h 2 ((h 0 7) + 1).toNat) = 5 ∧ (h 5 ((h 0 7) + 1).toNat) = 40)) := k294_0
                  refine ja_if_eq 342 doperand_297 rfl ⟨by omega, by omega⟩ (fun c297 => ?_) (fun c297 => ?_)
                  · replace k294_0 := is0 k294_0 c297
                    refine ja_aload_n doperand_342 rfl rfl ?_
                    refine ja_iconst doperand_343 ?_
                    have g35 := gP_form g33 (x := 5) ⟨by decide, by decide⟩
                    refine fp_form doperand_344 ?_
                    refine ja_aload_n doperand_347 rfl rfl ?_
                    refine ja_bipush 16 doperand_348 rfl ?_
                    refine ja_iconst doperand_350 ?_
                    refine ja_iconst doperand_351 ?_
                    refine t_emit (by decide) (show (0 : Nat) ≤ 8 by decide) doperand_352 g35 ⟨by decide, by decide⟩ ⟨by decide, by decide⟩ ⟨by decide, by decide⟩ (show 0 ≤ 16 ∧ 16 ≤ 26 by omega) (show (h 0 113) < 5000 by omega) ?_
                    intro g36
                    replace g36 : mo_G Zz (ja_up (ja_up (ja_up (ja_up (ja_up (ja_up h 0 7 ((h 0 7) + 1)) 0 19 5) 74 ((h 0 113).toNat) 16) 75 ((h 0 113).toNat) 0) 76 ((h 0 113).toNat) 0) 0 113 ((h 0 113) + 1)) := g36
                    show mJ l D cA ad 4 cX12_operand 4 (some .boolean) 355 [(1, (0, (h 0 7))), (0, (2, ((0 : Nat) : Int)))] [(0, (h 0 113))] (ja_up (ja_up (ja_up (ja_up (ja_up (ja_up h 0 7 ((h 0 7) + 1)) 0 19 5) 74 ((h 0 113).toNat) 16) 75 ((h 0 113).toNat) 0) 76 ((h 0 113).toNat) 0) 0 113 ((h 0 113) + 1)) Q
                    refine ja_istore_n doperand_355 rfl (by decide) (L2 := [(2, (0, (h 0 113))), (1, (0, (h 0 7))), (0, (2, ((0 : Nat) : Int)))]) rfl ?_
                    refine ja_aload_n doperand_356 rfl rfl ?_
                    refine ja_bipush 7 doperand_357 rfl ?_
                    refine ja_iconst doperand_359 ?_
                    refine ja_iconst doperand_360 ?_
                    refine ja_iconst doperand_361 ?_
                    refine t_later (by decide) (show (0 : Nat) ≤ 8 by decide) doperand_362 g36 ⟨by decide, by decide⟩ ⟨by decide, by decide⟩ ⟨by decide, by decide⟩ ⟨by decide, by decide⟩ (show 0 ≤ 7 ∧ 7 ≤ 38 by omega) (show (h 0 17) < 2000 by omega) ?_
                    intro g37
                    replace g37 : mo_G Zz (ja_up (ja_up (ja_up (ja_up (ja_up (ja_up (ja_up (ja_up (ja_up (ja_up (ja_up h 0 7 ((h 0 7) + 1)) 0 19 5) 74 ((h 0 113).toNat) 16) 75 ((h 0 113).toNat) 0) 76 ((h 0 113).toNat) 0) 0 113 ((h 0 113) + 1)) 6 ((h 0 17).toNat) 7) 7 ((h 0 17).toNat) 0) 8 ((h 0 17).toNat) 0) 9 ((h 0 17).toNat) 0) 0 17 ((h 0 17) + 1)) := g37
                    show mJ l D cA ad 4 cX12_operand 4 (some .boolean) 365 [(2, (0, (h 0 113))), (1, (0, (h 0 7))), (0, (2, ((0 : Nat) : Int)))] [(0, 1)] (ja_up (ja_up (ja_up (ja_up (ja_up (ja_up (ja_up (ja_up (ja_up (ja_up (ja_up h 0 7 ((h 0 7) + 1)) 0 19 5) 74 ((h 0 113).toNat) 16) 75 ((h 0 113).toNat) 0) 76 ((h 0 113).toNat) 0) 0 113 ((h 0 113) + 1)) 6 ((h 0 17).toNat) 7) 7 ((h 0 17).toNat) 0) 8 ((h 0 17).toNat) 0) 9 ((h 0 17).toNat) 0) 0 17 ((h 0 17) + 1)) Q
                    refine ja_zreturn doperand_365 rfl (by omega) ?_
                    exact mo_fin (by omega) rfl (k1 (ja_up (ja_up (ja_up (ja_up (ja_up (ja_up (ja_up (ja_up (ja_up (ja_up (ja_up h 0 7 ((h 0 7) + 1)) 0 19 5) 74 ((h 0 113).toNat) 16) 75 ((h 0 113).toNat) 0) 76 ((h 0 113).toNat) 0) 0 113 ((h 0 113) + 1)) 6 ((h 0 17).toNat) 7) 7 ((h 0 17).toNat) 0) 8 ((h 0 17).toNat) 0) 9 ((h 0 17).toNat) 0) 0 17 ((h 0 17) + 1)) (ab_od_go1 g p1 p2 (hr3 (by omega)) (wn_go (fun _ => hrb (by omega)))) g37)
                  · have z297 := is1v k294_0 c297
                    replace k294_0 := is1 k294_0 c297
                    refine ja_aload_n doperand_300 rfl rfl ?_
                    refine ja_bipush 7 doperand_301 rfl ?_
                    refine ja_iconst doperand_303 ?_
                    refine ja_iconst doperand_304 ?_
                    refine ja_iconst doperand_305 ?_
                    refine t_later (by decide) (show (0 : Nat) ≤ 8 by decide) doperand_306 g33 ⟨by decide, by decide⟩ ⟨by decide, by decide⟩ ⟨by decide, by decide⟩ ⟨by decide, by decide⟩ (show 0 ≤ 7 ∧ 7 ≤ 38 by omega) (show (h 0 17) < 2000 by omega) ?_
                    intro g38
                    replace g38 : mo_G Zz (ja_up (ja_up (ja_up (ja_up (ja_up (ja_up h 0 7 ((h 0 7) + 1)) 6 ((h 0 17).toNat) 7) 7 ((h 0 17).toNat) 0) 8 ((h 0 17).toNat) 0) 9 ((h 0 17).toNat) 0) 0 17 ((h 0 17) + 1)) := g38
                    show mJ l D cA ad 4 cX12_operand 4 (some .boolean) 309 [(1, (0, (h 0 7))), (0, (2, ((0 : Nat) : Int)))] [(0, 1)] (ja_up (ja_up (ja_up (ja_up (ja_up (ja_up h 0 7 ((h 0 7) + 1)) 6 ((h 0 17).toNat) 7) 7 ((h 0 17).toNat) 0) 8 ((h 0 17).toNat) 0) 9 ((h 0 17).toNat) 0) 0 17 ((h 0 17) + 1)) Q
                    refine ja_if_eq 340 doperand_309 rfl ⟨by decide, by decide⟩ (fun c309 => absurd c309 (by omega)) (fun c309 => ?_)
                    refine ja_aload_n doperand_312 rfl rfl ?_
                    refine ja_bipush 12 doperand_313 rfl ?_
                    refine ja_iconst doperand_315 ?_
                    refine ja_iconst doperand_316 ?_
                    refine ja_iconst doperand_317 ?_
                    refine t_later (by decide) (show (0 : Nat) ≤ 8 by decide) doperand_318 g38 ⟨by decide, by decide⟩ ⟨by decide, by decide⟩ ⟨by decide, by decide⟩ ⟨by decide, by decide⟩ (show 0 ≤ 12 ∧ 12 ≤ 38 by omega) (show ((h 0 17) + 1) < 2000 by omega) ?_
                    intro g39
                    replace g39 : mo_G Zz (ja_up (ja_up (ja_up (ja_up (ja_up (ja_up (ja_up (ja_up (ja_up (ja_up (ja_up h 0 7 ((h 0 7) + 1)) 6 ((h 0 17).toNat) 7) 7 ((h 0 17).toNat) 0) 8 ((h 0 17).toNat) 0) 9 ((h 0 17).toNat) 0) 0 17 ((h 0 17) + 1)) 6 (((h 0 17) + 1).toNat) 12) 7 (((h 0 17) + 1).toNat) 0) 8 (((h 0 17) + 1).toNat) 0) 9 (((h 0 17) + 1).toNat) 0) 0 17 (((h 0 17) + 1) + 1)) := g39
                    show mJ l D cA ad 4 cX12_operand 4 (some .boolean) 321 [(1, (0, (h 0 7))), (0, (2, ((0 : Nat) : Int)))] [(0, 1)] (ja_up (ja_up (ja_up (ja_up (ja_up (ja_up (ja_up (ja_up (ja_up (ja_up (ja_up h 0 7 ((h 0 7) + 1)) 6 ((h 0 17).toNat) 7) 7 ((h 0 17).toNat) 0) 8 ((h 0 17).toNat) 0) 9 ((h 0 17).toNat) 0) 0 17 ((h 0 17) + 1)) 6 (((h 0 17) + 1).toNat) 12) 7 (((h 0 17) + 1).toNat) 0) 8 (((h 0 17) + 1).toNat) 0) 9 (((h 0 17) + 1).toNat) 0) 0 17 (((h 0 17) + 1) + 1)) Q
                    refine ja_if_eq 340 doperand_321 rfl ⟨by decide, by decide⟩ (fun c321 => absurd c321 (by omega)) (fun c321 => ?_)
                    refine ja_aload_n doperand_324 rfl rfl ?_
                    refine ja_bipush 8 doperand_325 rfl ?_
                    refine ja_iconst doperand_327 ?_
                    refine ja_iconst doperand_328 ?_
                    refine ja_iconst doperand_329 ?_
                    refine t_later (by decide) (show (0 : Nat) ≤ 8 by decide) doperand_330 g39 ⟨by decide, by decide⟩ ⟨by decide, by decide⟩ ⟨by decide, by decide⟩ ⟨by decide, by decide⟩ (show 0 ≤ 8 ∧ 8 ≤ 38 by omega) (show (((h 0 17) + 1) + 1) < 2000 by omega) ?_
                    intro g40
                    replace g40 : mo_G Zz (ja_up (ja_up (ja_up (ja_up (ja_up (ja_up (ja_up (ja_up (ja_up (ja_up (ja_up (ja_up (ja_up (ja_up (ja_up (ja_up h 0 7 ((h 0 7) + 1)) 6 ((h 0 17).toNat) 7) 7 ((h 0 17).toNat) 0) 8 ((h 0 17).toNat) 0) 9 ((h 0 17).toNat) 0) 0 17 ((h 0 17) + 1)) 6 (((h 0 17) + 1).toNat) 12) 7 (((h 0 17) + 1).toNat) 0) 8 (((h 0 17) + 1).toNat) 0) 9 (((h 0 17) + 1).toNat) 0) 0 17 (((h 0 17) + 1) + 1)) 6 ((((h 0 17) + 1) + 1).toNat) 8) 7 ((((h 0 17) + 1) + 1).toNat) 0) 8 ((((h 0 17) + 1) + 1).toNat) 0) 9 ((((h 0 17) + 1) + 1).toNat) 0) 0 17 ((((h 0 17) + 1) + 1) + 1)) := g40
                    show mJ l D cA ad 4 cX12_operand 4 (some .boolean) 333 [(1, (0, (h 0 7))), (0, (2, ((0 : Nat) : Int)))] [(0, 1)] (ja_up (ja_up (ja_up (ja_up (ja_up (ja_up (ja_up (ja_up (ja_up (ja_up (ja_up (ja_up (ja_up (ja_up (ja_up (ja_up h 0 7 ((h 0 7) + 1)) 6 ((h 0 17).toNat) 7) 7 ((h 0 17).toNat) 0) 8 ((h 0 17).toNat) 0) 9 ((h 0 17).toNat) 0) 0 17 ((h 0 17) + 1)) 6 (((h 0 17) + 1).toNat) 12) 7 (((h 0 17) + 1).toNat) 0) 8 (((h 0 17) + 1).toNat) 0) 9 (((h 0 17) + 1).toNat) 0) 0 17 (((h 0 17) + 1) + 1)) 6 ((((h 0 17) + 1) + 1).toNat) 8) 7 ((((h 0 17) + 1) + 1).toNat) 0) 8 ((((h 0 17) + 1) + 1).toNat) 0) 9 ((((h 0 17) + 1) + 1).toNat) 0) 0 17 ((((h 0 17) + 1) + 1) + 1)) Q
                    refine ja_if_eq 340 doperand_333 rfl ⟨by decide, by decide⟩ (fun c333 => absurd c333 (by omega)) (fun c333 => ?_)
                    refine ja_iconst doperand_336 ?_
                    refine ja_goto 341 doperand_337 rfl ?_
                    refine ja_zreturn doperand_341 rfl (by omega) ?_
                    exact mo_fin (by omega) rfl (k1 (ja_up (ja_up (ja_up (ja_up (ja_up (ja_up (ja_up (ja_up (ja_up (ja_up (ja_up (ja_up (ja_up (ja_up (ja_up (ja_up h 0 7 ((h 0 7) + 1)) 6 ((h 0 17).toNat) 7) 7 ((h 0 17).toNat) 0) 8 ((h 0 17).toNat) 0) 9 ((h 0 17).toNat) 0) 0 17 ((h 0 17) + 1)) 6 (((h 0 17) + 1).toNat) 12) 7 (((h 0 17) + 1).toNat) 0) 8 (((h 0 17) + 1).toNat) 0) 9 (((h 0 17) + 1).toNat) 0) 0 17 (((h 0 17) + 1) + 1)) 6 ((((h 0 17) + 1) + 1).toNat) 8) 7 ((((h 0 17) + 1) + 1).toNat) 0) 8 ((((h 0 17) + 1) + 1).toNat) 0) 9 ((((h 0 17) + 1) + 1).toNat) 0) 0 17 ((((h 0 17) + 1) + 1) + 1)) (ab_od_go g p1 p2 (wn_go (fun _ => hrb (by omega))) (hr3 (by omega))) g40)
                · intro h41 k283_1 g42
                  refine ja_if_ne 291 doperand_286 rfl ⟨by decide, by decide⟩ (fun c286 => absurd c286 (by omega)) (fun c286 => ?_)
                  refine ja_iconst doperand_289 ?_
                  refine ja_zreturn doperand_290 rfl (by omega) ?_
                  exact mo_fin (by omega) rfl (k2 h41 (by omega) g42)
              · refine ja_aload_n doperand_273 rfl rfl ?_
                refine ja_iconst doperand_274 ?_
                refine ja_aload_n doperand_275 rfl rfl ?_
                refine fg_at (v := h 0 7) rfl doperand_276 ?_
                refine t_judge (by decide) (show (0 : Nat) ≤ 8 by decide) doperand_279 g ⟨by decide, by decide⟩ ⟨by omega, by omega⟩ (show 1 ≤ 5 ∧ 5 ≤ 8 by omega) (show 0 ≤ (h 0 7) ∧ (h 0 7) ≤ 900 by omega) ?_
                intro w43 w44 k279_0 g45
                replace k279_0 : 1 ≤ w43 ∧ w43 ≤ 8 ∧ -2147483648 ≤ w44 ∧ w44 ≤ 2147483647 := k279_0
                replace g45 : mo_G Zz (ja_up (ja_up h 0 11 w43) 0 12 w44) := g45
                show mJ l D cA ad 4 cX12_operand 4 (some .boolean) 282 [(1, (0, (h 0 7))), (0, (2, ((0 : Nat) : Int)))] [] (ja_up (ja_up h 0 11 w43) 0 12 w44) Q
                refine ja_aload_n doperand_282 rfl rfl ?_
                refine t_take (by decide) (show (0 : Nat) ≤ 8 by decide) doperand_283 g45  ?_ ?_
                · intro k283_0 g46
                  replace k283_0 : (h 0 7) < 900 := k283_0
                  replace g46 : mo_G Zz (ja_up (ja_up (ja_up h 0 11 w43) 0 12 w44) 0 7 ((h 0 7) + 1)) := g46
                  show mJ l D cA ad 4 cX12_operand 4 (some .boolean) 286 [(1, (0, (h 0 7))), (0, (2, ((0 : Nat) : Int)))] [(0, 1)] (ja_up (ja_up (ja_up h 0 11 w43) 0 12 w44) 0 7 ((h 0 7) + 1)) Q
                  refine ja_if_ne 291 doperand_286 rfl ⟨by decide, by decide⟩ (fun c286 => ?_) (fun c286 => absurd c286 (by omega))
                  refine ja_aload_n doperand_291 rfl rfl ?_
                  refine ja_bipush 40 doperand_292 rfl ?_
                  refine t_isSign (by decide) (show (0 : Nat) ≤ 8 by decide) doperand_294 g46 ⟨by decide, by decide⟩ ?_
                  intro w47 k294_0
                  replace k294_0 : (w47 = 1 ∧ (h 2 ((h 0 7) + 1).toNat) = 5 ∧ (h 5 ((h 0 7) + 1).toNat) = 40) ∨ (w47 = 0 ∧ ¬ ((h 2 ((h 0 7) + 1).toNat) = 5 ∧ (h 5 ((h 0 7) + 1).toNat) = 40)) := k294_0
                  refine ja_if_eq 342 doperand_297 rfl ⟨by omega, by omega⟩ (fun c297 => ?_) (fun c297 => ?_)
                  · replace k294_0 := is0 k294_0 c297
                    refine ja_aload_n doperand_342 rfl rfl ?_
                    refine ja_iconst doperand_343 ?_
                    have g48 := gP_form g46 (x := 5) ⟨by decide, by decide⟩
                    refine fp_form doperand_344 ?_
                    refine ja_aload_n doperand_347 rfl rfl ?_
                    refine ja_bipush 16 doperand_348 rfl ?_
                    refine ja_iconst doperand_350 ?_
                    refine ja_iconst doperand_351 ?_
                    refine t_emit (by decide) (show (0 : Nat) ≤ 8 by decide) doperand_352 g48 ⟨by decide, by decide⟩ ⟨by decide, by decide⟩ ⟨by decide, by decide⟩ (show 0 ≤ 16 ∧ 16 ≤ 26 by omega) (show (h 0 113) < 5000 by omega) ?_
                    intro g49
                    replace g49 : mo_G Zz (ja_up (ja_up (ja_up (ja_up (ja_up (ja_up (ja_up (ja_up h 0 11 w43) 0 12 w44) 0 7 ((h 0 7) + 1)) 0 19 5) 74 ((h 0 113).toNat) 16) 75 ((h 0 113).toNat) 0) 76 ((h 0 113).toNat) 0) 0 113 ((h 0 113) + 1)) := g49
                    show mJ l D cA ad 4 cX12_operand 4 (some .boolean) 355 [(1, (0, (h 0 7))), (0, (2, ((0 : Nat) : Int)))] [(0, (h 0 113))] (ja_up (ja_up (ja_up (ja_up (ja_up (ja_up (ja_up (ja_up h 0 11 w43) 0 12 w44) 0 7 ((h 0 7) + 1)) 0 19 5) 74 ((h 0 113).toNat) 16) 75 ((h 0 113).toNat) 0) 76 ((h 0 113).toNat) 0) 0 113 ((h 0 113) + 1)) Q
                    refine ja_istore_n doperand_355 rfl (by decide) (L2 := [(2, (0, (h 0 113))), (1, (0, (h 0 7))), (0, (2, ((0 : Nat) : Int)))]) rfl ?_
                    refine ja_aload_n doperand_356 rfl rfl ?_
                    refine ja_bipush 7 doperand_357 rfl ?_
                    refine ja_iconst doperand_359 ?_
                    refine ja_iconst doperand_360 ?_
                    refine ja_iconst doperand_361 ?_
                    refine t_later (by decide) (show (0 : Nat) ≤ 8 by decide) doperand_362 g49 ⟨by decide, by decide⟩ ⟨by decide, by decide⟩ ⟨by decide, by decide⟩ ⟨by decide, by decide⟩ (show 0 ≤ 7 ∧ 7 ≤ 38 by omega) (show (h 0 17) < 2000 by omega) ?_
                    intro g50
                    replace g50 : mo_G Zz (ja_up (ja_up (ja_up (ja_up (ja_up (ja_up (ja_up (ja_up (ja_up (ja_up (ja_up (ja_up (ja_up h 0 11 w43) 0 12 w44) 0 7 ((h 0 7) + 1)) 0 19 5) 74 ((h 0 113).toNat) 16) 75 ((h 0 113).toNat) 0) 76 ((h 0 113).toNat) 0) 0 113 ((h 0 113) + 1)) 6 ((h 0 17).toNat) 7) 7 ((h 0 17).toNat) 0) 8 ((h 0 17).toNat) 0) 9 ((h 0 17).toNat) 0) 0 17 ((h 0 17) + 1)) := g50
                    show mJ l D cA ad 4 cX12_operand 4 (some .boolean) 365 [(2, (0, (h 0 113))), (1, (0, (h 0 7))), (0, (2, ((0 : Nat) : Int)))] [(0, 1)] (ja_up (ja_up (ja_up (ja_up (ja_up (ja_up (ja_up (ja_up (ja_up (ja_up (ja_up (ja_up (ja_up h 0 11 w43) 0 12 w44) 0 7 ((h 0 7) + 1)) 0 19 5) 74 ((h 0 113).toNat) 16) 75 ((h 0 113).toNat) 0) 76 ((h 0 113).toNat) 0) 0 113 ((h 0 113) + 1)) 6 ((h 0 17).toNat) 7) 7 ((h 0 17).toNat) 0) 8 ((h 0 17).toNat) 0) 9 ((h 0 17).toNat) 0) 0 17 ((h 0 17) + 1)) Q
                    refine ja_zreturn doperand_365 rfl (by omega) ?_
                    exact mo_fin (by omega) rfl (k1 (ja_up (ja_up (ja_up (ja_up (ja_up (ja_up (ja_up (ja_up (ja_up (ja_up (ja_up (ja_up (ja_up h 0 11 w43) 0 12 w44) 0 7 ((h 0 7) + 1)) 0 19 5) 74 ((h 0 113).toNat) 16) 75 ((h 0 113).toNat) 0) 76 ((h 0 113).toNat) 0) 0 113 ((h 0 113) + 1)) 6 ((h 0 17).toNat) 7) 7 ((h 0 17).toNat) 0) 8 ((h 0 17).toNat) 0) 9 ((h 0 17).toNat) 0) 0 17 ((h 0 17) + 1)) (ab_goj1 g p1 p2 (hr3 (by omega)) (by omega)) g50)
                  · have z297 := is1v k294_0 c297
                    replace k294_0 := is1 k294_0 c297
                    refine ja_aload_n doperand_300 rfl rfl ?_
                    refine ja_bipush 7 doperand_301 rfl ?_
                    refine ja_iconst doperand_303 ?_
                    refine ja_iconst doperand_304 ?_
                    refine ja_iconst doperand_305 ?_
                    refine t_later (by decide) (show (0 : Nat) ≤ 8 by decide) doperand_306 g46 ⟨by decide, by decide⟩ ⟨by decide, by decide⟩ ⟨by decide, by decide⟩ ⟨by decide, by decide⟩ (show 0 ≤ 7 ∧ 7 ≤ 38 by omega) (show (h 0 17) < 2000 by omega) ?_
                    intro g51
                    replace g51 : mo_G Zz (ja_up (ja_up (ja_up (ja_up (ja_up (ja_up (ja_up (ja_up h 0 11 w43) 0 12 w44) 0 7 ((h 0 7) + 1)) 6 ((h 0 17).toNat) 7) 7 ((h 0 17).toNat) 0) 8 ((h 0 17).toNat) 0) 9 ((h 0 17).toNat) 0) 0 17 ((h 0 17) + 1)) := g51
                    show mJ l D cA ad 4 cX12_operand 4 (some .boolean) 309 [(1, (0, (h 0 7))), (0, (2, ((0 : Nat) : Int)))] [(0, 1)] (ja_up (ja_up (ja_up (ja_up (ja_up (ja_up (ja_up (ja_up h 0 11 w43) 0 12 w44) 0 7 ((h 0 7) + 1)) 6 ((h 0 17).toNat) 7) 7 ((h 0 17).toNat) 0) 8 ((h 0 17).toNat) 0) 9 ((h 0 17).toNat) 0) 0 17 ((h 0 17) + 1)) Q
                    refine ja_if_eq 340 doperand_309 rfl ⟨by decide, by decide⟩ (fun c309 => absurd c309 (by omega)) (fun c309 => ?_)
                    refine ja_aload_n doperand_312 rfl rfl ?_
                    refine ja_bipush 12 doperand_313 rfl ?_
                    refine ja_iconst doperand_315 ?_
                    refine ja_iconst doperand_316 ?_
                    refine ja_iconst doperand_317 ?_
                    refine t_later (by decide) (show (0 : Nat) ≤ 8 by decide) doperand_318 g51 ⟨by decide, by decide⟩ ⟨by decide, by decide⟩ ⟨by decide, by decide⟩ ⟨by decide, by decide⟩ (show 0 ≤ 12 ∧ 12 ≤ 38 by omega) (show ((h 0 17) + 1) < 2000 by omega) ?_
                    intro g52
                    replace g52 : mo_G Zz (ja_up (ja_up (ja_up (ja_up (ja_up (ja_up (ja_up (ja_up (ja_up (ja_up (ja_up (ja_up (ja_up h 0 11 w43) 0 12 w44) 0 7 ((h 0 7) + 1)) 6 ((h 0 17).toNat) 7) 7 ((h 0 17).toNat) 0) 8 ((h 0 17).toNat) 0) 9 ((h 0 17).toNat) 0) 0 17 ((h 0 17) + 1)) 6 (((h 0 17) + 1).toNat) 12) 7 (((h 0 17) + 1).toNat) 0) 8 (((h 0 17) + 1).toNat) 0) 9 (((h 0 17) + 1).toNat) 0) 0 17 (((h 0 17) + 1) + 1)) := g52
                    show mJ l D cA ad 4 cX12_operand 4 (some .boolean) 321 [(1, (0, (h 0 7))), (0, (2, ((0 : Nat) : Int)))] [(0, 1)] (ja_up (ja_up (ja_up (ja_up (ja_up (ja_up (ja_up (ja_up (ja_up (ja_up (ja_up (ja_up (ja_up h 0 11 w43) 0 12 w44) 0 7 ((h 0 7) + 1)) 6 ((h 0 17).toNat) 7) 7 ((h 0 17).toNat) 0) 8 ((h 0 17).toNat) 0) 9 ((h 0 17).toNat) 0) 0 17 ((h 0 17) + 1)) 6 (((h 0 17) + 1).toNat) 12) 7 (((h 0 17) + 1).toNat) 0) 8 (((h 0 17) + 1).toNat) 0) 9 (((h 0 17) + 1).toNat) 0) 0 17 (((h 0 17) + 1) + 1)) Q
                    refine ja_if_eq 340 doperand_321 rfl ⟨by decide, by decide⟩ (fun c321 => absurd c321 (by omega)) (fun c321 => ?_)
                    refine ja_aload_n doperand_324 rfl rfl ?_
                    refine ja_bipush 8 doperand_325 rfl ?_
                    refine ja_iconst doperand_327 ?_
                    refine ja_iconst doperand_328 ?_
                    refine ja_iconst doperand_329 ?_
                    refine t_later (by decide) (show (0 : Nat) ≤ 8 by decide) doperand_330 g52 ⟨by decide, by decide⟩ ⟨by decide, by decide⟩ ⟨by decide, by decide⟩ ⟨by decide, by decide⟩ (show 0 ≤ 8 ∧ 8 ≤ 38 by omega) (show (((h 0 17) + 1) + 1) < 2000 by omega) ?_
                    intro g53
                    replace g53 : mo_G Zz (ja_up (ja_up (ja_up (ja_up (ja_up (ja_up (ja_up (ja_up (ja_up (ja_up (ja_up (ja_up (ja_up (ja_up (ja_up (ja_up (ja_up (ja_up h 0 11 w43) 0 12 w44) 0 7 ((h 0 7) + 1)) 6 ((h 0 17).toNat) 7) 7 ((h 0 17).toNat) 0) 8 ((h 0 17).toNat) 0) 9 ((h 0 17).toNat) 0) 0 17 ((h 0 17) + 1)) 6 (((h 0 17) + 1).toNat) 12) 7 (((h 0 17) + 1).toNat) 0) 8 (((h 0 17) + 1).toNat) 0) 9 (((h 0 17) + 1).toNat) 0) 0 17 (((h 0 17) + 1) + 1)) 6 ((((h 0 17) + 1) + 1).toNat) 8) 7 ((((h 0 17) + 1) + 1).toNat) 0) 8 ((((h 0 17) + 1) + 1).toNat) 0) 9 ((((h 0 17) + 1) + 1).toNat) 0) 0 17 ((((h 0 17) + 1) + 1) + 1)) := g53
                    show mJ l D cA ad 4 cX12_operand 4 (some .boolean) 333 [(1, (0, (h 0 7))), (0, (2, ((0 : Nat) : Int)))] [(0, 1)] (ja_up (ja_up (ja_up (ja_up (ja_up (ja_up (ja_up (ja_up (ja_up (ja_up (ja_up (ja_up (ja_up (ja_up (ja_up (ja_up (ja_up (ja_up h 0 11 w43) 0 12 w44) 0 7 ((h 0 7) + 1)) 6 ((h 0 17).toNat) 7) 7 ((h 0 17).toNat) 0) 8 ((h 0 17).toNat) 0) 9 ((h 0 17).toNat) 0) 0 17 ((h 0 17) + 1)) 6 (((h 0 17) + 1).toNat) 12) 7 (((h 0 17) + 1).toNat) 0) 8 (((h 0 17) + 1).toNat) 0) 9 (((h 0 17) + 1).toNat) 0) 0 17 (((h 0 17) + 1) + 1)) 6 ((((h 0 17) + 1) + 1).toNat) 8) 7 ((((h 0 17) + 1) + 1).toNat) 0) 8 ((((h 0 17) + 1) + 1).toNat) 0) 9 ((((h 0 17) + 1) + 1).toNat) 0) 0 17 ((((h 0 17) + 1) + 1) + 1)) Q
                    refine ja_if_eq 340 doperand_333 rfl ⟨by decide, by decide⟩ (fun c333 => absurd c333 (by omega)) (fun c333 => ?_)
                    refine ja_iconst doperand_336 ?_
                    refine ja_goto 341 doperand_337 rfl ?_
                    refine ja_zreturn doperand_341 rfl (by omega) ?_
                    exact mo_fin (by omega) rfl (k1 (ja_up (ja_up (ja_up (ja_up (ja_up (ja_up (ja_up (ja_up (ja_up (ja_up (ja_up (ja_up (ja_up (ja_up (ja_up (ja_up (ja_up (ja_up h 0 11 w43) 0 12 w44) 0 7 ((h 0 7) + 1)) 6 ((h 0 17).toNat) 7) 7 ((h 0 17).toNat) 0) 8 ((h 0 17).toNat) 0) 9 ((h 0 17).toNat) 0) 0 17 ((h 0 17) + 1)) 6 (((h 0 17) + 1).toNat) 12) 7 (((h 0 17) + 1).toNat) 0) 8 (((h 0 17) + 1).toNat) 0) 9 (((h 0 17) + 1).toNat) 0) 0 17 (((h 0 17) + 1) + 1)) 6 ((((h 0 17) + 1) + 1).toNat) 8) 7 ((((h 0 17) + 1) + 1).toNat) 0) 8 ((((h 0 17) + 1) + 1).toNat) 0) 9 ((((h 0 17) + 1) + 1).toNat) 0) 0 17 ((((h 0 17) + 1) + 1) + 1)) (ab_goj g p1 p2 (hr3 (by omega)) (by omega)) g53)
                · intro h54 k283_1 g55
                  replace k283_1 : 0 < (h54 0 8) ∧ (h54 0 1) = (h 0 1) ∧ (h54 0 118) = (h 0 118) ∧ (h54 0 127) = (h 0 127) := k283_1
                  refine ja_if_ne 291 doperand_286 rfl ⟨by decide, by decide⟩ (fun c286 => absurd c286 (by omega)) (fun c286 => ?_)
                  refine ja_iconst doperand_289 ?_
                  refine ja_zreturn doperand_290 rfl (by omega) ?_
                  exact mo_fin (by omega) rfl (k2 h54 (by omega) g55)
          · have z176 := is1v k173_0 c176
            replace k173_0 := is1 k173_0 c176
            refine ja_aload_n doperand_179 rfl rfl ?_
            refine ja_iconst doperand_180 ?_
            have g56 := gP_form g (x := 0) ⟨by decide, by decide⟩
            refine fp_form doperand_181 ?_
            refine ja_aload_n doperand_184 rfl rfl ?_
            refine ja_bipush 36 doperand_185 rfl ?_
            refine t_isWord (by decide) (show (0 : Nat) ≤ 8 by decide) doperand_187 g56 ⟨by decide, by decide⟩ ?_
            intro w57 k187_0
            replace k187_0 : (w57 = 1 ∧ (h 2 (h 0 7).toNat) = 1 ∧ (h 5 (h 0 7).toNat) = 36) ∨ (w57 = 0 ∧ ¬ ((h 2 (h 0 7).toNat) = 1 ∧ (h 5 (h 0 7).toNat) = 36)) := k187_0
            refine ja_if_eq 210 doperand_190 rfl ⟨by omega, by omega⟩ (fun c190 => ?_) (fun c190 => ?_)
            · replace k187_0 := is0 k187_0 c190
              exfalso; omega
            · have z190 := is1v k187_0 c190
              replace k187_0 := is1 k187_0 c190
              refine ja_aload_n doperand_193 rfl rfl ?_
              refine fg_body (v := h 0 74) rfl doperand_194 ?_
              have f58 := gF_body g
              refine ja_iconst doperand_197 ?_
              refine ja_icmp_eq 210 doperand_198 rfl ⟨by omega, by omega⟩ ⟨by decide, by decide⟩ (fun c198 => ?_) (fun c198 => ?_)
              · refine ja_aload_n doperand_210 rfl rfl ?_
                refine ja_aload_n doperand_211 rfl rfl ?_
                refine ja_bipush 36 doperand_212 rfl ?_
                refine t_isWord (by decide) (show (1 : Nat) ≤ 8 by decide) doperand_214 g56 ⟨by decide, by decide⟩ ?_
                intro w59 k214_0
                replace k214_0 : (w59 = 1 ∧ (h 2 (h 0 7).toNat) = 1 ∧ (h 5 (h 0 7).toNat) = 36) ∨ (w59 = 0 ∧ ¬ ((h 2 (h 0 7).toNat) = 1 ∧ (h 5 (h 0 7).toNat) = 36)) := k214_0
                refine ja_if_eq 224 doperand_217 rfl ⟨by omega, by omega⟩ (fun c217 => ?_) (fun c217 => ?_)
                · replace k214_0 := is0 k214_0 c217
                  exfalso; omega
                · have z217 := is1v k214_0 c217
                  replace k214_0 := is1 k214_0 c217
                  refine ja_iconst doperand_220 ?_
                  refine ja_goto 225 doperand_221 rfl ?_
                  refine ja_iconst doperand_225 ?_
                  refine ja_iconst doperand_226 ?_
                  refine t_emit (by decide) (show (0 : Nat) ≤ 8 by decide) doperand_227 g56 ⟨by decide, by decide⟩ ⟨by decide, by decide⟩ ⟨by decide, by decide⟩ (show 0 ≤ 3 ∧ 3 ≤ 26 by omega) (show (h 0 113) < 5000 by omega) ?_
                  intro g60
                  replace g60 : mo_G Zz (ja_up (ja_up (ja_up (ja_up (ja_up h 0 19 0) 74 ((h 0 113).toNat) 3) 75 ((h 0 113).toNat) 0) 76 ((h 0 113).toNat) 0) 0 113 ((h 0 113) + 1)) := g60
                  show mJ l D cA ad 4 cX12_operand 4 (some .boolean) 230 [(1, (0, (h 0 7))), (0, (2, ((0 : Nat) : Int)))] [(0, (h 0 113))] (ja_up (ja_up (ja_up (ja_up (ja_up h 0 19 0) 74 ((h 0 113).toNat) 3) 75 ((h 0 113).toNat) 0) 76 ((h 0 113).toNat) 0) 0 113 ((h 0 113) + 1)) Q
                  refine ja_istore_n doperand_230 rfl (by decide) (L2 := [(2, (0, (h 0 113))), (1, (0, (h 0 7))), (0, (2, ((0 : Nat) : Int)))]) rfl ?_
                  refine ja_aload_n doperand_231 rfl rfl ?_
                  refine t_take (by decide) (show (0 : Nat) ≤ 8 by decide) doperand_232 g60  ?_ ?_
                  · intro k232_0 g61
                    replace k232_0 : (h 0 7) < 900 := k232_0
                    replace g61 : mo_G Zz (ja_up (ja_up (ja_up (ja_up (ja_up (ja_up h 0 19 0) 74 ((h 0 113).toNat) 3) 75 ((h 0 113).toNat) 0) 76 ((h 0 113).toNat) 0) 0 113 ((h 0 113) + 1)) 0 7 ((h 0 7) + 1)) := g61
                    show mJ l D cA ad 4 cX12_operand 4 (some .boolean) 235 [(2, (0, (h 0 113))), (1, (0, (h 0 7))), (0, (2, ((0 : Nat) : Int)))] [(0, 1)] (ja_up (ja_up (ja_up (ja_up (ja_up (ja_up h 0 19 0) 74 ((h 0 113).toNat) 3) 75 ((h 0 113).toNat) 0) 76 ((h 0 113).toNat) 0) 0 113 ((h 0 113) + 1)) 0 7 ((h 0 7) + 1)) Q
                    refine ja_if_eq 254 doperand_235 rfl ⟨by decide, by decide⟩ (fun c235 => absurd c235 (by omega)) (fun c235 => ?_)
                    refine ja_aload_n doperand_238 rfl rfl ?_
                    refine ja_bipush 7 doperand_239 rfl ?_
                    refine ja_iconst doperand_241 ?_
                    refine ja_iconst doperand_242 ?_
                    refine ja_iconst doperand_243 ?_
                    refine t_later (by decide) (show (0 : Nat) ≤ 8 by decide) doperand_244 g61 ⟨by decide, by decide⟩ ⟨by decide, by decide⟩ ⟨by decide, by decide⟩ ⟨by decide, by decide⟩ (show 0 ≤ 7 ∧ 7 ≤ 38 by omega) (show (h 0 17) < 2000 by omega) ?_
                    intro g62
                    replace g62 : mo_G Zz (ja_up (ja_up (ja_up (ja_up (ja_up (ja_up (ja_up (ja_up (ja_up (ja_up (ja_up h 0 19 0) 74 ((h 0 113).toNat) 3) 75 ((h 0 113).toNat) 0) 76 ((h 0 113).toNat) 0) 0 113 ((h 0 113) + 1)) 0 7 ((h 0 7) + 1)) 6 ((h 0 17).toNat) 7) 7 ((h 0 17).toNat) 0) 8 ((h 0 17).toNat) 0) 9 ((h 0 17).toNat) 0) 0 17 ((h 0 17) + 1)) := g62
                    show mJ l D cA ad 4 cX12_operand 4 (some .boolean) 247 [(2, (0, (h 0 113))), (1, (0, (h 0 7))), (0, (2, ((0 : Nat) : Int)))] [(0, 1)] (ja_up (ja_up (ja_up (ja_up (ja_up (ja_up (ja_up (ja_up (ja_up (ja_up (ja_up h 0 19 0) 74 ((h 0 113).toNat) 3) 75 ((h 0 113).toNat) 0) 76 ((h 0 113).toNat) 0) 0 113 ((h 0 113) + 1)) 0 7 ((h 0 7) + 1)) 6 ((h 0 17).toNat) 7) 7 ((h 0 17).toNat) 0) 8 ((h 0 17).toNat) 0) 9 ((h 0 17).toNat) 0) 0 17 ((h 0 17) + 1)) Q
                    refine ja_if_eq 254 doperand_247 rfl ⟨by decide, by decide⟩ (fun c247 => absurd c247 (by omega)) (fun c247 => ?_)
                    refine ja_iconst doperand_250 ?_
                    refine ja_goto 255 doperand_251 rfl ?_
                    refine ja_zreturn doperand_255 rfl (by omega) ?_
                    exact mo_fin (by omega) rfl (k1 (ja_up (ja_up (ja_up (ja_up (ja_up (ja_up (ja_up (ja_up (ja_up (ja_up (ja_up h 0 19 0) 74 ((h 0 113).toNat) 3) 75 ((h 0 113).toNat) 0) 76 ((h 0 113).toNat) 0) 0 113 ((h 0 113) + 1)) 0 7 ((h 0 7) + 1)) 6 ((h 0 17).toNat) 7) 7 ((h 0 17).toNat) 0) 8 ((h 0 17).toNat) 0) 9 ((h 0 17).toNat) 0) 0 17 ((h 0 17) + 1)) (ab_od_self g p1 p2 (hr3 (by omega)) (fun _ => hrs (by omega))) g62)
                  · intro h63 k232_1 g64
                    replace k232_1 : 0 < (h63 0 8) ∧ (h63 0 1) = (h 0 1) ∧ (h63 0 118) = (h 0 118) ∧ (h63 0 127) = (h 0 127) := k232_1
                    refine ja_if_eq 254 doperand_235 rfl ⟨by decide, by decide⟩ (fun c235 => ?_) (fun c235 => absurd c235 (by omega))
                    refine ja_iconst doperand_254 ?_
                    refine ja_zreturn doperand_255 rfl (by omega) ?_
                    exact mo_fin (by omega) rfl (k2 h63 (by omega) g64)
              · refine ja_aload_n doperand_201 rfl rfl ?_
                refine ja_iconst doperand_202 ?_
                refine ja_aload_n doperand_203 rfl rfl ?_
                refine fg_at (v := h 0 7) rfl doperand_204 ?_
                refine t_judge (by decide) (show (0 : Nat) ≤ 8 by decide) doperand_207 g56 ⟨by decide, by decide⟩ ⟨by omega, by omega⟩ (show 1 ≤ 5 ∧ 5 ≤ 8 by omega) (show 0 ≤ (h 0 7) ∧ (h 0 7) ≤ 900 by omega) ?_
                intro w65 w66 k207_0 g67
                replace k207_0 : 1 ≤ w65 ∧ w65 ≤ 8 ∧ -2147483648 ≤ w66 ∧ w66 ≤ 2147483647 := k207_0
                replace g67 : mo_G Zz (ja_up (ja_up (ja_up h 0 19 0) 0 11 w65) 0 12 w66) := g67
                show mJ l D cA ad 4 cX12_operand 4 (some .boolean) 210 [(1, (0, (h 0 7))), (0, (2, ((0 : Nat) : Int)))] [] (ja_up (ja_up (ja_up h 0 19 0) 0 11 w65) 0 12 w66) Q
                refine ja_aload_n doperand_210 rfl rfl ?_
                refine ja_aload_n doperand_211 rfl rfl ?_
                refine ja_bipush 36 doperand_212 rfl ?_
                refine t_isWord (by decide) (show (1 : Nat) ≤ 8 by decide) doperand_214 g67 ⟨by decide, by decide⟩ ?_
                intro w68 k214_0
                replace k214_0 : (w68 = 1 ∧ (h 2 (h 0 7).toNat) = 1 ∧ (h 5 (h 0 7).toNat) = 36) ∨ (w68 = 0 ∧ ¬ ((h 2 (h 0 7).toNat) = 1 ∧ (h 5 (h 0 7).toNat) = 36)) := k214_0
                refine ja_if_eq 224 doperand_217 rfl ⟨by omega, by omega⟩ (fun c217 => ?_) (fun c217 => ?_)
                · replace k214_0 := is0 k214_0 c217
                  exfalso; omega
                · have z217 := is1v k214_0 c217
                  replace k214_0 := is1 k214_0 c217
                  refine ja_iconst doperand_220 ?_
                  refine ja_goto 225 doperand_221 rfl ?_
                  refine ja_iconst doperand_225 ?_
                  refine ja_iconst doperand_226 ?_
                  refine t_emit (by decide) (show (0 : Nat) ≤ 8 by decide) doperand_227 g67 ⟨by decide, by decide⟩ ⟨by decide, by decide⟩ ⟨by decide, by decide⟩ (show 0 ≤ 3 ∧ 3 ≤ 26 by omega) (show (h 0 113) < 5000 by omega) ?_
                  intro g69
                  replace g69 : mo_G Zz (ja_up (ja_up (ja_up (ja_up (ja_up (ja_up (ja_up h 0 19 0) 0 11 w65) 0 12 w66) 74 ((h 0 113).toNat) 3) 75 ((h 0 113).toNat) 0) 76 ((h 0 113).toNat) 0) 0 113 ((h 0 113) + 1)) := g69
                  show mJ l D cA ad 4 cX12_operand 4 (some .boolean) 230 [(1, (0, (h 0 7))), (0, (2, ((0 : Nat) : Int)))] [(0, (h 0 113))] (ja_up (ja_up (ja_up (ja_up (ja_up (ja_up (ja_up h 0 19 0) 0 11 w65) 0 12 w66) 74 ((h 0 113).toNat) 3) 75 ((h 0 113).toNat) 0) 76 ((h 0 113).toNat) 0) 0 113 ((h 0 113) + 1)) Q
                  refine ja_istore_n doperand_230 rfl (by decide) (L2 := [(2, (0, (h 0 113))), (1, (0, (h 0 7))), (0, (2, ((0 : Nat) : Int)))]) rfl ?_
                  refine ja_aload_n doperand_231 rfl rfl ?_
                  refine t_take (by decide) (show (0 : Nat) ≤ 8 by decide) doperand_232 g69  ?_ ?_
                  · intro k232_0 g70
                    replace k232_0 : (h 0 7) < 900 := k232_0
                    replace g70 : mo_G Zz (ja_up (ja_up (ja_up (ja_up (ja_up (ja_up (ja_up (ja_up h 0 19 0) 0 11 w65) 0 12 w66) 74 ((h 0 113).toNat) 3) 75 ((h 0 113).toNat) 0) 76 ((h 0 113).toNat) 0) 0 113 ((h 0 113) + 1)) 0 7 ((h 0 7) + 1)) := g70
                    show mJ l D cA ad 4 cX12_operand 4 (some .boolean) 235 [(2, (0, (h 0 113))), (1, (0, (h 0 7))), (0, (2, ((0 : Nat) : Int)))] [(0, 1)] (ja_up (ja_up (ja_up (ja_up (ja_up (ja_up (ja_up (ja_up h 0 19 0) 0 11 w65) 0 12 w66) 74 ((h 0 113).toNat) 3) 75 ((h 0 113).toNat) 0) 76 ((h 0 113).toNat) 0) 0 113 ((h 0 113) + 1)) 0 7 ((h 0 7) + 1)) Q
                    refine ja_if_eq 254 doperand_235 rfl ⟨by decide, by decide⟩ (fun c235 => absurd c235 (by omega)) (fun c235 => ?_)
                    refine ja_aload_n doperand_238 rfl rfl ?_
                    refine ja_bipush 7 doperand_239 rfl ?_
                    refine ja_iconst doperand_241 ?_
                    refine ja_iconst doperand_242 ?_
                    refine ja_iconst doperand_243 ?_
                    refine t_later (by decide) (show (0 : Nat) ≤ 8 by decide) doperand_244 g70 ⟨by decide, by decide⟩ ⟨by decide, by decide⟩ ⟨by decide, by decide⟩ ⟨by decide, by decide⟩ (show 0 ≤ 7 ∧ 7 ≤ 38 by omega) (show (h 0 17) < 2000 by omega) ?_
                    intro g71
                    replace g71 : mo_G Zz (ja_up (ja_up (ja_up (ja_up (ja_up (ja_up (ja_up (ja_up (ja_up (ja_up (ja_up (ja_up (ja_up h 0 19 0) 0 11 w65) 0 12 w66) 74 ((h 0 113).toNat) 3) 75 ((h 0 113).toNat) 0) 76 ((h 0 113).toNat) 0) 0 113 ((h 0 113) + 1)) 0 7 ((h 0 7) + 1)) 6 ((h 0 17).toNat) 7) 7 ((h 0 17).toNat) 0) 8 ((h 0 17).toNat) 0) 9 ((h 0 17).toNat) 0) 0 17 ((h 0 17) + 1)) := g71
                    show mJ l D cA ad 4 cX12_operand 4 (some .boolean) 247 [(2, (0, (h 0 113))), (1, (0, (h 0 7))), (0, (2, ((0 : Nat) : Int)))] [(0, 1)] (ja_up (ja_up (ja_up (ja_up (ja_up (ja_up (ja_up (ja_up (ja_up (ja_up (ja_up (ja_up (ja_up h 0 19 0) 0 11 w65) 0 12 w66) 74 ((h 0 113).toNat) 3) 75 ((h 0 113).toNat) 0) 76 ((h 0 113).toNat) 0) 0 113 ((h 0 113) + 1)) 0 7 ((h 0 7) + 1)) 6 ((h 0 17).toNat) 7) 7 ((h 0 17).toNat) 0) 8 ((h 0 17).toNat) 0) 9 ((h 0 17).toNat) 0) 0 17 ((h 0 17) + 1)) Q
                    refine ja_if_eq 254 doperand_247 rfl ⟨by decide, by decide⟩ (fun c247 => absurd c247 (by omega)) (fun c247 => ?_)
                    refine ja_iconst doperand_250 ?_
                    refine ja_goto 255 doperand_251 rfl ?_
                    refine ja_zreturn doperand_255 rfl (by omega) ?_
                    exact mo_fin (by omega) rfl (k1 (ja_up (ja_up (ja_up (ja_up (ja_up (ja_up (ja_up (ja_up (ja_up (ja_up (ja_up (ja_up (ja_up h 0 19 0) 0 11 w65) 0 12 w66) 74 ((h 0 113).toNat) 3) 75 ((h 0 113).toNat) 0) 76 ((h 0 113).toNat) 0) 0 113 ((h 0 113) + 1)) 0 7 ((h 0 7) + 1)) 6 ((h 0 17).toNat) 7) 7 ((h 0 17).toNat) 0) 8 ((h 0 17).toNat) 0) 9 ((h 0 17).toNat) 0) 0 17 ((h 0 17) + 1)) (ab_selfj g p1 p2 (hr3 (by omega)) (by omega)) g71)
                  · intro h72 k232_1 g73
                    replace k232_1 : 0 < (h72 0 8) ∧ (h72 0 1) = (h 0 1) ∧ (h72 0 118) = (h 0 118) ∧ (h72 0 127) = (h 0 127) := k232_1
                    refine ja_if_eq 254 doperand_235 rfl ⟨by decide, by decide⟩ (fun c235 => ?_) (fun c235 => absurd c235 (by omega))
                    refine ja_iconst doperand_254 ?_
                    refine ja_zreturn doperand_255 rfl (by omega) ?_
                    exact mo_fin (by omega) rfl (k2 h72 (by omega) g73)
      · have z110 := is1v k107_0 c110
        replace k107_0 := is1 k107_0 c110
        refine ja_aload_n doperand_113 rfl rfl ?_
        refine t_take (by decide) (show (0 : Nat) ≤ 8 by decide) doperand_114 g  ?_ ?_
        · intro k114_0 g74
          replace k114_0 : (h 0 7) < 900 := k114_0
          replace g74 : mo_G Zz (ja_up h 0 7 ((h 0 7) + 1)) := g74
          show mJ l D cA ad 4 cX12_operand 4 (some .boolean) 117 [(1, (0, (h 0 7))), (0, (2, ((0 : Nat) : Int)))] [(0, 1)] (ja_up h 0 7 ((h 0 7) + 1)) Q
          refine ja_if_eq 159 doperand_117 rfl ⟨by decide, by decide⟩ (fun c117 => absurd c117 (by omega)) (fun c117 => ?_)
          refine ja_aload_n doperand_120 rfl rfl ?_
          refine ja_bipush 7 doperand_121 rfl ?_
          refine ja_iconst doperand_123 ?_
          refine ja_iconst doperand_124 ?_
          refine ja_iconst doperand_125 ?_
          refine t_later (by decide) (show (0 : Nat) ≤ 8 by decide) doperand_126 g74 ⟨by decide, by decide⟩ ⟨by decide, by decide⟩ ⟨by decide, by decide⟩ ⟨by decide, by decide⟩ (show 0 ≤ 7 ∧ 7 ≤ 38 by omega) (show (h 0 17) < 2000 by omega) ?_
          intro g75
          replace g75 : mo_G Zz (ja_up (ja_up (ja_up (ja_up (ja_up (ja_up h 0 7 ((h 0 7) + 1)) 6 ((h 0 17).toNat) 7) 7 ((h 0 17).toNat) 0) 8 ((h 0 17).toNat) 0) 9 ((h 0 17).toNat) 0) 0 17 ((h 0 17) + 1)) := g75
          show mJ l D cA ad 4 cX12_operand 4 (some .boolean) 129 [(1, (0, (h 0 7))), (0, (2, ((0 : Nat) : Int)))] [(0, 1)] (ja_up (ja_up (ja_up (ja_up (ja_up (ja_up h 0 7 ((h 0 7) + 1)) 6 ((h 0 17).toNat) 7) 7 ((h 0 17).toNat) 0) 8 ((h 0 17).toNat) 0) 9 ((h 0 17).toNat) 0) 0 17 ((h 0 17) + 1)) Q
          refine ja_if_eq 159 doperand_129 rfl ⟨by decide, by decide⟩ (fun c129 => absurd c129 (by omega)) (fun c129 => ?_)
          refine ja_aload_n doperand_132 rfl rfl ?_
          refine ja_bipush 38 doperand_133 rfl ?_
          refine ja_iconst doperand_135 ?_
          refine ja_iconst doperand_136 ?_
          refine ja_iconst doperand_137 ?_
          refine t_later (by decide) (show (0 : Nat) ≤ 8 by decide) doperand_138 g75 ⟨by decide, by decide⟩ ⟨by decide, by decide⟩ ⟨by decide, by decide⟩ ⟨by decide, by decide⟩ (show 0 ≤ 38 ∧ 38 ≤ 38 by omega) (show ((h 0 17) + 1) < 2000 by omega) ?_
          intro g76
          replace g76 : mo_G Zz (ja_up (ja_up (ja_up (ja_up (ja_up (ja_up (ja_up (ja_up (ja_up (ja_up (ja_up h 0 7 ((h 0 7) + 1)) 6 ((h 0 17).toNat) 7) 7 ((h 0 17).toNat) 0) 8 ((h 0 17).toNat) 0) 9 ((h 0 17).toNat) 0) 0 17 ((h 0 17) + 1)) 6 (((h 0 17) + 1).toNat) 38) 7 (((h 0 17) + 1).toNat) 0) 8 (((h 0 17) + 1).toNat) 0) 9 (((h 0 17) + 1).toNat) 0) 0 17 (((h 0 17) + 1) + 1)) := g76
          show mJ l D cA ad 4 cX12_operand 4 (some .boolean) 141 [(1, (0, (h 0 7))), (0, (2, ((0 : Nat) : Int)))] [(0, 1)] (ja_up (ja_up (ja_up (ja_up (ja_up (ja_up (ja_up (ja_up (ja_up (ja_up (ja_up h 0 7 ((h 0 7) + 1)) 6 ((h 0 17).toNat) 7) 7 ((h 0 17).toNat) 0) 8 ((h 0 17).toNat) 0) 9 ((h 0 17).toNat) 0) 0 17 ((h 0 17) + 1)) 6 (((h 0 17) + 1).toNat) 38) 7 (((h 0 17) + 1).toNat) 0) 8 (((h 0 17) + 1).toNat) 0) 9 (((h 0 17) + 1).toNat) 0) 0 17 (((h 0 17) + 1) + 1)) Q
          refine ja_if_eq 159 doperand_141 rfl ⟨by decide, by decide⟩ (fun c141 => absurd c141 (by omega)) (fun c141 => ?_)
          refine ja_aload_n doperand_144 rfl rfl ?_
          refine ja_iconst doperand_145 ?_
          refine ja_iconst doperand_146 ?_
          refine ja_iconst doperand_147 ?_
          refine ja_iconst doperand_148 ?_
          refine t_later (by decide) (show (0 : Nat) ≤ 8 by decide) doperand_149 g76 ⟨by decide, by decide⟩ ⟨by decide, by decide⟩ ⟨by decide, by decide⟩ ⟨by decide, by decide⟩ (show 0 ≤ 1 ∧ 1 ≤ 38 by omega) (show (((h 0 17) + 1) + 1) < 2000 by omega) ?_
          intro g77
          replace g77 : mo_G Zz (ja_up (ja_up (ja_up (ja_up (ja_up (ja_up (ja_up (ja_up (ja_up (ja_up (ja_up (ja_up (ja_up (ja_up (ja_up (ja_up h 0 7 ((h 0 7) + 1)) 6 ((h 0 17).toNat) 7) 7 ((h 0 17).toNat) 0) 8 ((h 0 17).toNat) 0) 9 ((h 0 17).toNat) 0) 0 17 ((h 0 17) + 1)) 6 (((h 0 17) + 1).toNat) 38) 7 (((h 0 17) + 1).toNat) 0) 8 (((h 0 17) + 1).toNat) 0) 9 (((h 0 17) + 1).toNat) 0) 0 17 (((h 0 17) + 1) + 1)) 6 ((((h 0 17) + 1) + 1).toNat) 1) 7 ((((h 0 17) + 1) + 1).toNat) 0) 8 ((((h 0 17) + 1) + 1).toNat) 0) 9 ((((h 0 17) + 1) + 1).toNat) 0) 0 17 ((((h 0 17) + 1) + 1) + 1)) := g77
          show mJ l D cA ad 4 cX12_operand 4 (some .boolean) 152 [(1, (0, (h 0 7))), (0, (2, ((0 : Nat) : Int)))] [(0, 1)] (ja_up (ja_up (ja_up (ja_up (ja_up (ja_up (ja_up (ja_up (ja_up (ja_up (ja_up (ja_up (ja_up (ja_up (ja_up (ja_up h 0 7 ((h 0 7) + 1)) 6 ((h 0 17).toNat) 7) 7 ((h 0 17).toNat) 0) 8 ((h 0 17).toNat) 0) 9 ((h 0 17).toNat) 0) 0 17 ((h 0 17) + 1)) 6 (((h 0 17) + 1).toNat) 38) 7 (((h 0 17) + 1).toNat) 0) 8 (((h 0 17) + 1).toNat) 0) 9 (((h 0 17) + 1).toNat) 0) 0 17 (((h 0 17) + 1) + 1)) 6 ((((h 0 17) + 1) + 1).toNat) 1) 7 ((((h 0 17) + 1) + 1).toNat) 0) 8 ((((h 0 17) + 1) + 1).toNat) 0) 9 ((((h 0 17) + 1) + 1).toNat) 0) 0 17 ((((h 0 17) + 1) + 1) + 1)) Q
          refine ja_if_eq 159 doperand_152 rfl ⟨by decide, by decide⟩ (fun c152 => absurd c152 (by omega)) (fun c152 => ?_)
          refine ja_iconst doperand_155 ?_
          refine ja_goto 160 doperand_156 rfl ?_
          refine ja_zreturn doperand_160 rfl (by omega) ?_
          exact mo_fin (by omega) rfl (k1 (ja_up (ja_up (ja_up (ja_up (ja_up (ja_up (ja_up (ja_up (ja_up (ja_up (ja_up (ja_up (ja_up (ja_up (ja_up (ja_up h 0 7 ((h 0 7) + 1)) 6 ((h 0 17).toNat) 7) 7 ((h 0 17).toNat) 0) 8 ((h 0 17).toNat) 0) 9 ((h 0 17).toNat) 0) 0 17 ((h 0 17) + 1)) 6 (((h 0 17) + 1).toNat) 38) 7 (((h 0 17) + 1).toNat) 0) 8 (((h 0 17) + 1).toNat) 0) 9 (((h 0 17) + 1).toNat) 0) 0 17 (((h 0 17) + 1) + 1)) 6 ((((h 0 17) + 1) + 1).toNat) 1) 7 ((((h 0 17) + 1) + 1).toNat) 0) 8 ((((h 0 17) + 1) + 1).toNat) 0) 9 ((((h 0 17) + 1) + 1).toNat) 0) 0 17 ((((h 0 17) + 1) + 1) + 1)) (ab_od_br g p1 p2) g77)
        · intro h78 k114_1 g79
          refine ja_if_eq 159 doperand_117 rfl ⟨by decide, by decide⟩ (fun c117 => ?_) (fun c117 => absurd c117 (by omega))
          refine ja_iconst doperand_159 ?_
          refine ja_zreturn doperand_160 rfl (by omega) ?_
          exact mo_fin (by omega) rfl (k2 h78 (by omega) g79)
    · have z68 := is1v k65_0 c68
      replace k65_0 := is1 k65_0 c68
      refine ja_aload_n doperand_71 rfl rfl ?_
      refine ja_aload_n doperand_72 rfl rfl ?_
      refine fg_at (v := h 0 7) rfl doperand_73 ?_
      refine t_load (by decide) (show (0 : Nat) ≤ 8 by decide) doperand_76 g ⟨by omega, by omega⟩ (show 0 ≤ (h 0 7) ∧ (h 0 7) ≤ 900 by omega) (show (h 0 113) < 5000 by omega) (show (h 0 68) < 900 by omega) ?_ ?_ ?_
      · intro w80 k76_0 g81
        replace k76_0 : 0 ≤ w80 ∧ w80 ≤ 15 ∧ ((h 0 86) = 1 → w80 ≤ 6) := k76_0
        replace g81 : mo_G Zz (ja_up (ja_up (ja_up (ja_up (ja_up h 0 19 1) 74 ((h 0 113).toNat) 4) 75 ((h 0 113).toNat) w80) 76 ((h 0 113).toNat) 0) 0 113 ((h 0 113) + 1)) := g81
        show mJ l D cA ad 4 cX12_operand 4 (some .boolean) 79 [(1, (0, (h 0 7))), (0, (2, ((0 : Nat) : Int)))] [] (ja_up (ja_up (ja_up (ja_up (ja_up h 0 19 1) 74 ((h 0 113).toNat) 4) 75 ((h 0 113).toNat) w80) 76 ((h 0 113).toNat) 0) 0 113 ((h 0 113) + 1)) Q
        refine ja_aload_n doperand_79 rfl rfl ?_
        refine t_take (by decide) (show (0 : Nat) ≤ 8 by decide) doperand_80 g81  ?_ ?_
        · intro k80_0 g82
          replace k80_0 : (h 0 7) < 900 := k80_0
          replace g82 : mo_G Zz (ja_up (ja_up (ja_up (ja_up (ja_up (ja_up h 0 19 1) 74 ((h 0 113).toNat) 4) 75 ((h 0 113).toNat) w80) 76 ((h 0 113).toNat) 0) 0 113 ((h 0 113) + 1)) 0 7 ((h 0 7) + 1)) := g82
          show mJ l D cA ad 4 cX12_operand 4 (some .boolean) 83 [(1, (0, (h 0 7))), (0, (2, ((0 : Nat) : Int)))] [(0, 1)] (ja_up (ja_up (ja_up (ja_up (ja_up (ja_up h 0 19 1) 74 ((h 0 113).toNat) 4) 75 ((h 0 113).toNat) w80) 76 ((h 0 113).toNat) 0) 0 113 ((h 0 113) + 1)) 0 7 ((h 0 7) + 1)) Q
          refine ja_if_eq 102 doperand_83 rfl ⟨by decide, by decide⟩ (fun c83 => absurd c83 (by omega)) (fun c83 => ?_)
          refine ja_aload_n doperand_86 rfl rfl ?_
          refine ja_bipush 7 doperand_87 rfl ?_
          refine ja_iconst doperand_89 ?_
          refine ja_iconst doperand_90 ?_
          refine ja_iconst doperand_91 ?_
          refine t_later (by decide) (show (0 : Nat) ≤ 8 by decide) doperand_92 g82 ⟨by decide, by decide⟩ ⟨by decide, by decide⟩ ⟨by decide, by decide⟩ ⟨by decide, by decide⟩ (show 0 ≤ 7 ∧ 7 ≤ 38 by omega) (show (h 0 17) < 2000 by omega) ?_
          intro g83
          replace g83 : mo_G Zz (ja_up (ja_up (ja_up (ja_up (ja_up (ja_up (ja_up (ja_up (ja_up (ja_up (ja_up h 0 19 1) 74 ((h 0 113).toNat) 4) 75 ((h 0 113).toNat) w80) 76 ((h 0 113).toNat) 0) 0 113 ((h 0 113) + 1)) 0 7 ((h 0 7) + 1)) 6 ((h 0 17).toNat) 7) 7 ((h 0 17).toNat) 0) 8 ((h 0 17).toNat) 0) 9 ((h 0 17).toNat) 0) 0 17 ((h 0 17) + 1)) := g83
          show mJ l D cA ad 4 cX12_operand 4 (some .boolean) 95 [(1, (0, (h 0 7))), (0, (2, ((0 : Nat) : Int)))] [(0, 1)] (ja_up (ja_up (ja_up (ja_up (ja_up (ja_up (ja_up (ja_up (ja_up (ja_up (ja_up h 0 19 1) 74 ((h 0 113).toNat) 4) 75 ((h 0 113).toNat) w80) 76 ((h 0 113).toNat) 0) 0 113 ((h 0 113) + 1)) 0 7 ((h 0 7) + 1)) 6 ((h 0 17).toNat) 7) 7 ((h 0 17).toNat) 0) 8 ((h 0 17).toNat) 0) 9 ((h 0 17).toNat) 0) 0 17 ((h 0 17) + 1)) Q
          refine ja_if_eq 102 doperand_95 rfl ⟨by decide, by decide⟩ (fun c95 => absurd c95 (by omega)) (fun c95 => ?_)
          refine ja_iconst doperand_98 ?_
          refine ja_goto 103 doperand_99 rfl ?_
          refine ja_zreturn doperand_103 rfl (by omega) ?_
          exact mo_fin (by omega) rfl (k1 (ja_up (ja_up (ja_up (ja_up (ja_up (ja_up (ja_up (ja_up (ja_up (ja_up (ja_up h 0 19 1) 74 ((h 0 113).toNat) 4) 75 ((h 0 113).toNat) w80) 76 ((h 0 113).toNat) 0) 0 113 ((h 0 113) + 1)) 0 7 ((h 0 7) + 1)) 6 ((h 0 17).toNat) 7) 7 ((h 0 17).toNat) 0) 8 ((h 0 17).toNat) 0) 9 ((h 0 17).toNat) 0) 0 17 ((h 0 17) + 1)) (ab_od_load g p1 p2 (by omega) (by omega)) g83)
        · intro h84 k80_1 g85
          replace k80_1 : 0 < (h84 0 8) ∧ (h84 0 1) = (h 0 1) ∧ (h84 0 118) = (h 0 118) ∧ (h84 0 127) = (h 0 127) := k80_1
          refine ja_if_eq 102 doperand_83 rfl ⟨by decide, by decide⟩ (fun c83 => ?_) (fun c83 => absurd c83 (by omega))
          refine ja_iconst doperand_102 ?_
          refine ja_zreturn doperand_103 rfl (by omega) ?_
          exact mo_fin (by omega) rfl (k2 h84 (by omega) g85)
      · intro k76_1 g86
        replace k76_1 : (h 0 86) = 1 ∨ 2 ≤ (h 0 74) := k76_1
        replace g86 : mo_G Zz (ja_up (ja_up (ja_up (ja_up (ja_up (ja_up (ja_up (ja_up (ja_up h 0 19 1) 45 ((h 0 68).toNat) 1) 44 ((h 0 68).toNat) (h 0 7)) 46 ((h 0 68).toNat) (h 0 76)) 0 68 ((h 0 68) + 1)) 74 ((h 0 113).toNat) 6) 75 ((h 0 113).toNat) (h 0 7)) 76 ((h 0 113).toNat) (h 0 76)) 0 113 ((h 0 113) + 1)) := g86
        show mJ l D cA ad 4 cX12_operand 4 (some .boolean) 79 [(1, (0, (h 0 7))), (0, (2, ((0 : Nat) : Int)))] [] (ja_up (ja_up (ja_up (ja_up (ja_up (ja_up (ja_up (ja_up (ja_up h 0 19 1) 45 ((h 0 68).toNat) 1) 44 ((h 0 68).toNat) (h 0 7)) 46 ((h 0 68).toNat) (h 0 76)) 0 68 ((h 0 68) + 1)) 74 ((h 0 113).toNat) 6) 75 ((h 0 113).toNat) (h 0 7)) 76 ((h 0 113).toNat) (h 0 76)) 0 113 ((h 0 113) + 1)) Q
        refine ja_aload_n doperand_79 rfl rfl ?_
        refine t_take (by decide) (show (0 : Nat) ≤ 8 by decide) doperand_80 g86  ?_ ?_
        · intro k80_0 g87
          replace k80_0 : (h 0 7) < 900 := k80_0
          replace g87 : mo_G Zz (ja_up (ja_up (ja_up (ja_up (ja_up (ja_up (ja_up (ja_up (ja_up (ja_up h 0 19 1) 45 ((h 0 68).toNat) 1) 44 ((h 0 68).toNat) (h 0 7)) 46 ((h 0 68).toNat) (h 0 76)) 0 68 ((h 0 68) + 1)) 74 ((h 0 113).toNat) 6) 75 ((h 0 113).toNat) (h 0 7)) 76 ((h 0 113).toNat) (h 0 76)) 0 113 ((h 0 113) + 1)) 0 7 ((h 0 7) + 1)) := g87
          show mJ l D cA ad 4 cX12_operand 4 (some .boolean) 83 [(1, (0, (h 0 7))), (0, (2, ((0 : Nat) : Int)))] [(0, 1)] (ja_up (ja_up (ja_up (ja_up (ja_up (ja_up (ja_up (ja_up (ja_up (ja_up h 0 19 1) 45 ((h 0 68).toNat) 1) 44 ((h 0 68).toNat) (h 0 7)) 46 ((h 0 68).toNat) (h 0 76)) 0 68 ((h 0 68) + 1)) 74 ((h 0 113).toNat) 6) 75 ((h 0 113).toNat) (h 0 7)) 76 ((h 0 113).toNat) (h 0 76)) 0 113 ((h 0 113) + 1)) 0 7 ((h 0 7) + 1)) Q
          refine ja_if_eq 102 doperand_83 rfl ⟨by decide, by decide⟩ (fun c83 => absurd c83 (by omega)) (fun c83 => ?_)
          refine ja_aload_n doperand_86 rfl rfl ?_
          refine ja_bipush 7 doperand_87 rfl ?_
          refine ja_iconst doperand_89 ?_
          refine ja_iconst doperand_90 ?_
          refine ja_iconst doperand_91 ?_
          refine t_later (by decide) (show (0 : Nat) ≤ 8 by decide) doperand_92 g87 ⟨by decide, by decide⟩ ⟨by decide, by decide⟩ ⟨by decide, by decide⟩ ⟨by decide, by decide⟩ (show 0 ≤ 7 ∧ 7 ≤ 38 by omega) (show (h 0 17) < 2000 by omega) ?_
          intro g88
          replace g88 : mo_G Zz (ja_up (ja_up (ja_up (ja_up (ja_up (ja_up (ja_up (ja_up (ja_up (ja_up (ja_up (ja_up (ja_up (ja_up (ja_up h 0 19 1) 45 ((h 0 68).toNat) 1) 44 ((h 0 68).toNat) (h 0 7)) 46 ((h 0 68).toNat) (h 0 76)) 0 68 ((h 0 68) + 1)) 74 ((h 0 113).toNat) 6) 75 ((h 0 113).toNat) (h 0 7)) 76 ((h 0 113).toNat) (h 0 76)) 0 113 ((h 0 113) + 1)) 0 7 ((h 0 7) + 1)) 6 ((h 0 17).toNat) 7) 7 ((h 0 17).toNat) 0) 8 ((h 0 17).toNat) 0) 9 ((h 0 17).toNat) 0) 0 17 ((h 0 17) + 1)) := g88
          show mJ l D cA ad 4 cX12_operand 4 (some .boolean) 95 [(1, (0, (h 0 7))), (0, (2, ((0 : Nat) : Int)))] [(0, 1)] (ja_up (ja_up (ja_up (ja_up (ja_up (ja_up (ja_up (ja_up (ja_up (ja_up (ja_up (ja_up (ja_up (ja_up (ja_up h 0 19 1) 45 ((h 0 68).toNat) 1) 44 ((h 0 68).toNat) (h 0 7)) 46 ((h 0 68).toNat) (h 0 76)) 0 68 ((h 0 68) + 1)) 74 ((h 0 113).toNat) 6) 75 ((h 0 113).toNat) (h 0 7)) 76 ((h 0 113).toNat) (h 0 76)) 0 113 ((h 0 113) + 1)) 0 7 ((h 0 7) + 1)) 6 ((h 0 17).toNat) 7) 7 ((h 0 17).toNat) 0) 8 ((h 0 17).toNat) 0) 9 ((h 0 17).toNat) 0) 0 17 ((h 0 17) + 1)) Q
          refine ja_if_eq 102 doperand_95 rfl ⟨by decide, by decide⟩ (fun c95 => absurd c95 (by omega)) (fun c95 => ?_)
          refine ja_iconst doperand_98 ?_
          refine ja_goto 103 doperand_99 rfl ?_
          refine ja_zreturn doperand_103 rfl (by omega) ?_
          exact mo_fin (by omega) rfl (k1 (ja_up (ja_up (ja_up (ja_up (ja_up (ja_up (ja_up (ja_up (ja_up (ja_up (ja_up (ja_up (ja_up (ja_up (ja_up h 0 19 1) 45 ((h 0 68).toNat) 1) 44 ((h 0 68).toNat) (h 0 7)) 46 ((h 0 68).toNat) (h 0 76)) 0 68 ((h 0 68) + 1)) 74 ((h 0 113).toNat) 6) 75 ((h 0 113).toNat) (h 0 7)) 76 ((h 0 113).toNat) (h 0 76)) 0 113 ((h 0 113) + 1)) 0 7 ((h 0 7) + 1)) 6 ((h 0 17).toNat) 7) 7 ((h 0 17).toNat) 0) 8 ((h 0 17).toNat) 0) 9 ((h 0 17).toNat) 0) 0 17 ((h 0 17) + 1)) (ab_od_loadf g p1 p2 (by omega) (by omega)) g88)
        · intro h89 k80_1 g90
          replace k80_1 : 0 < (h89 0 8) ∧ (h89 0 1) = (h 0 1) ∧ (h89 0 118) = (h 0 118) ∧ (h89 0 127) = (h 0 127) := k80_1
          refine ja_if_eq 102 doperand_83 rfl ⟨by decide, by decide⟩ (fun c83 => ?_) (fun c83 => absurd c83 (by omega))
          refine ja_iconst doperand_102 ?_
          refine ja_zreturn doperand_103 rfl (by omega) ?_
          exact mo_fin (by omega) rfl (k2 h89 (by omega) g90)
      · intro w91 w92 k76_2 g93
        replace k76_2 : 1 ≤ w91 ∧ w91 ≤ 8 ∧ -2147483648 ≤ w92 ∧ w92 ≤ 2147483647 := k76_2
        replace g93 : mo_G Zz (ja_up (ja_up (ja_up (ja_up (ja_up (ja_up (ja_up h 0 19 1) 0 11 w91) 0 12 w92) 74 ((h 0 113).toNat) 6) 75 ((h 0 113).toNat) (h 0 7)) 76 ((h 0 113).toNat) (h 0 76)) 0 113 ((h 0 113) + 1)) := g93
        show mJ l D cA ad 4 cX12_operand 4 (some .boolean) 79 [(1, (0, (h 0 7))), (0, (2, ((0 : Nat) : Int)))] [] (ja_up (ja_up (ja_up (ja_up (ja_up (ja_up (ja_up h 0 19 1) 0 11 w91) 0 12 w92) 74 ((h 0 113).toNat) 6) 75 ((h 0 113).toNat) (h 0 7)) 76 ((h 0 113).toNat) (h 0 76)) 0 113 ((h 0 113) + 1)) Q
        refine ja_aload_n doperand_79 rfl rfl ?_
        refine t_take (by decide) (show (0 : Nat) ≤ 8 by decide) doperand_80 g93  ?_ ?_
        · intro k80_0 g94
          replace k80_0 : (h 0 7) < 900 := k80_0
          replace g94 : mo_G Zz (ja_up (ja_up (ja_up (ja_up (ja_up (ja_up (ja_up (ja_up h 0 19 1) 0 11 w91) 0 12 w92) 74 ((h 0 113).toNat) 6) 75 ((h 0 113).toNat) (h 0 7)) 76 ((h 0 113).toNat) (h 0 76)) 0 113 ((h 0 113) + 1)) 0 7 ((h 0 7) + 1)) := g94
          show mJ l D cA ad 4 cX12_operand 4 (some .boolean) 83 [(1, (0, (h 0 7))), (0, (2, ((0 : Nat) : Int)))] [(0, 1)] (ja_up (ja_up (ja_up (ja_up (ja_up (ja_up (ja_up (ja_up h 0 19 1) 0 11 w91) 0 12 w92) 74 ((h 0 113).toNat) 6) 75 ((h 0 113).toNat) (h 0 7)) 76 ((h 0 113).toNat) (h 0 76)) 0 113 ((h 0 113) + 1)) 0 7 ((h 0 7) + 1)) Q
          refine ja_if_eq 102 doperand_83 rfl ⟨by decide, by decide⟩ (fun c83 => absurd c83 (by omega)) (fun c83 => ?_)
          refine ja_aload_n doperand_86 rfl rfl ?_
          refine ja_bipush 7 doperand_87 rfl ?_
          refine ja_iconst doperand_89 ?_
          refine ja_iconst doperand_90 ?_
          refine ja_iconst doperand_91 ?_
          refine t_later (by decide) (show (0 : Nat) ≤ 8 by decide) doperand_92 g94 ⟨by decide, by decide⟩ ⟨by decide, by decide⟩ ⟨by decide, by decide⟩ ⟨by decide, by decide⟩ (show 0 ≤ 7 ∧ 7 ≤ 38 by omega) (show (h 0 17) < 2000 by omega) ?_
          intro g95
          replace g95 : mo_G Zz (ja_up (ja_up (ja_up (ja_up (ja_up (ja_up (ja_up (ja_up (ja_up (ja_up (ja_up (ja_up (ja_up h 0 19 1) 0 11 w91) 0 12 w92) 74 ((h 0 113).toNat) 6) 75 ((h 0 113).toNat) (h 0 7)) 76 ((h 0 113).toNat) (h 0 76)) 0 113 ((h 0 113) + 1)) 0 7 ((h 0 7) + 1)) 6 ((h 0 17).toNat) 7) 7 ((h 0 17).toNat) 0) 8 ((h 0 17).toNat) 0) 9 ((h 0 17).toNat) 0) 0 17 ((h 0 17) + 1)) := g95
          show mJ l D cA ad 4 cX12_operand 4 (some .boolean) 95 [(1, (0, (h 0 7))), (0, (2, ((0 : Nat) : Int)))] [(0, 1)] (ja_up (ja_up (ja_up (ja_up (ja_up (ja_up (ja_up (ja_up (ja_up (ja_up (ja_up (ja_up (ja_up h 0 19 1) 0 11 w91) 0 12 w92) 74 ((h 0 113).toNat) 6) 75 ((h 0 113).toNat) (h 0 7)) 76 ((h 0 113).toNat) (h 0 76)) 0 113 ((h 0 113) + 1)) 0 7 ((h 0 7) + 1)) 6 ((h 0 17).toNat) 7) 7 ((h 0 17).toNat) 0) 8 ((h 0 17).toNat) 0) 9 ((h 0 17).toNat) 0) 0 17 ((h 0 17) + 1)) Q
          refine ja_if_eq 102 doperand_95 rfl ⟨by decide, by decide⟩ (fun c95 => absurd c95 (by omega)) (fun c95 => ?_)
          refine ja_iconst doperand_98 ?_
          refine ja_goto 103 doperand_99 rfl ?_
          refine ja_zreturn doperand_103 rfl (by omega) ?_
          exact mo_fin (by omega) rfl (k1 (ja_up (ja_up (ja_up (ja_up (ja_up (ja_up (ja_up (ja_up (ja_up (ja_up (ja_up (ja_up (ja_up h 0 19 1) 0 11 w91) 0 12 w92) 74 ((h 0 113).toNat) 6) 75 ((h 0 113).toNat) (h 0 7)) 76 ((h 0 113).toNat) (h 0 76)) 0 113 ((h 0 113) + 1)) 0 7 ((h 0 7) + 1)) 6 ((h 0 17).toNat) 7) 7 ((h 0 17).toNat) 0) 8 ((h 0 17).toNat) 0) 9 ((h 0 17).toNat) 0) 0 17 ((h 0 17) + 1)) (ab_loadj g p1 p2 (by omega) (by omega)) g95)
        · intro h96 k80_1 g97
          replace k80_1 : 0 < (h96 0 8) ∧ (h96 0 1) = (h 0 1) ∧ (h96 0 118) = (h 0 118) ∧ (h96 0 127) = (h 0 127) := k80_1
          refine ja_if_eq 102 doperand_83 rfl ⟨by decide, by decide⟩ (fun c83 => ?_) (fun c83 => absurd c83 (by omega))
          refine ja_iconst doperand_102 ?_
          refine ja_zreturn doperand_103 rfl (by omega) ?_
          exact mo_fin (by omega) rfl (k2 h96 (by omega) g97)
  · refine ja_aload_n doperand_18 rfl rfl ?_
    refine ja_iconst doperand_19 ?_
    have g98 := gP_form g (x := 0) ⟨by decide, by decide⟩
    refine fp_form doperand_20 ?_
    refine ja_aload_n doperand_23 rfl rfl ?_
    refine ja_iconst doperand_24 ?_
    refine ja_aload_n doperand_25 rfl rfl ?_
    refine fa_worths doperand_26 ?_
    refine ja_aload_n doperand_29 rfl rfl ?_
    refine fg_at (v := h 0 7) rfl doperand_30 ?_
    refine il_worths (v := h 5 (h 0 7).toNat) rfl ⟨by omega, by omega⟩ doperand_33 ?_
    have f99 := gC_worths g (h 0 7).toNat
    refine ja_iconst doperand_34 ?_
    refine t_emit (by decide) (show (0 : Nat) ≤ 8 by decide) doperand_35 g98 ⟨by decide, by decide⟩ ⟨by omega, by omega⟩ ⟨by decide, by decide⟩ (show 0 ≤ 1 ∧ 1 ≤ 26 by omega) (show (h 0 113) < 5000 by omega) ?_
    intro g100
    replace g100 : mo_G Zz (ja_up (ja_up (ja_up (ja_up (ja_up h 0 19 0) 74 ((h 0 113).toNat) 1) 75 ((h 0 113).toNat) (h 5 (h 0 7).toNat)) 76 ((h 0 113).toNat) 0) 0 113 ((h 0 113) + 1)) := g100
    show mJ l D cA ad 4 cX12_operand 4 (some .boolean) 38 [(1, (0, (h 0 7))), (0, (2, ((0 : Nat) : Int)))] [(0, (h 0 113))] (ja_up (ja_up (ja_up (ja_up (ja_up h 0 19 0) 74 ((h 0 113).toNat) 1) 75 ((h 0 113).toNat) (h 5 (h 0 7).toNat)) 76 ((h 0 113).toNat) 0) 0 113 ((h 0 113) + 1)) Q
    refine ja_istore_n doperand_38 rfl (by decide) (L2 := [(2, (0, (h 0 113))), (1, (0, (h 0 7))), (0, (2, ((0 : Nat) : Int)))]) rfl ?_
    refine ja_aload_n doperand_39 rfl rfl ?_
    refine t_take (by decide) (show (0 : Nat) ≤ 8 by decide) doperand_40 g100  ?_ ?_
    · intro k40_0 g101
      replace k40_0 : (h 0 7) < 900 := k40_0
      replace g101 : mo_G Zz (ja_up (ja_up (ja_up (ja_up (ja_up (ja_up h 0 19 0) 74 ((h 0 113).toNat) 1) 75 ((h 0 113).toNat) (h 5 (h 0 7).toNat)) 76 ((h 0 113).toNat) 0) 0 113 ((h 0 113) + 1)) 0 7 ((h 0 7) + 1)) := g101
      show mJ l D cA ad 4 cX12_operand 4 (some .boolean) 43 [(2, (0, (h 0 113))), (1, (0, (h 0 7))), (0, (2, ((0 : Nat) : Int)))] [(0, 1)] (ja_up (ja_up (ja_up (ja_up (ja_up (ja_up h 0 19 0) 74 ((h 0 113).toNat) 1) 75 ((h 0 113).toNat) (h 5 (h 0 7).toNat)) 76 ((h 0 113).toNat) 0) 0 113 ((h 0 113) + 1)) 0 7 ((h 0 7) + 1)) Q
      refine ja_if_eq 62 doperand_43 rfl ⟨by decide, by decide⟩ (fun c43 => absurd c43 (by omega)) (fun c43 => ?_)
      refine ja_aload_n doperand_46 rfl rfl ?_
      refine ja_bipush 7 doperand_47 rfl ?_
      refine ja_iconst doperand_49 ?_
      refine ja_iconst doperand_50 ?_
      refine ja_iconst doperand_51 ?_
      refine t_later (by decide) (show (0 : Nat) ≤ 8 by decide) doperand_52 g101 ⟨by decide, by decide⟩ ⟨by decide, by decide⟩ ⟨by decide, by decide⟩ ⟨by decide, by decide⟩ (show 0 ≤ 7 ∧ 7 ≤ 38 by omega) (show (h 0 17) < 2000 by omega) ?_
      intro g102
      replace g102 : mo_G Zz (ja_up (ja_up (ja_up (ja_up (ja_up (ja_up (ja_up (ja_up (ja_up (ja_up (ja_up h 0 19 0) 74 ((h 0 113).toNat) 1) 75 ((h 0 113).toNat) (h 5 (h 0 7).toNat)) 76 ((h 0 113).toNat) 0) 0 113 ((h 0 113) + 1)) 0 7 ((h 0 7) + 1)) 6 ((h 0 17).toNat) 7) 7 ((h 0 17).toNat) 0) 8 ((h 0 17).toNat) 0) 9 ((h 0 17).toNat) 0) 0 17 ((h 0 17) + 1)) := g102
      show mJ l D cA ad 4 cX12_operand 4 (some .boolean) 55 [(2, (0, (h 0 113))), (1, (0, (h 0 7))), (0, (2, ((0 : Nat) : Int)))] [(0, 1)] (ja_up (ja_up (ja_up (ja_up (ja_up (ja_up (ja_up (ja_up (ja_up (ja_up (ja_up h 0 19 0) 74 ((h 0 113).toNat) 1) 75 ((h 0 113).toNat) (h 5 (h 0 7).toNat)) 76 ((h 0 113).toNat) 0) 0 113 ((h 0 113) + 1)) 0 7 ((h 0 7) + 1)) 6 ((h 0 17).toNat) 7) 7 ((h 0 17).toNat) 0) 8 ((h 0 17).toNat) 0) 9 ((h 0 17).toNat) 0) 0 17 ((h 0 17) + 1)) Q
      refine ja_if_eq 62 doperand_55 rfl ⟨by decide, by decide⟩ (fun c55 => absurd c55 (by omega)) (fun c55 => ?_)
      refine ja_iconst doperand_58 ?_
      refine ja_goto 63 doperand_59 rfl ?_
      refine ja_zreturn doperand_63 rfl (by omega) ?_
      exact mo_fin (by omega) rfl (k1 (ja_up (ja_up (ja_up (ja_up (ja_up (ja_up (ja_up (ja_up (ja_up (ja_up (ja_up h 0 19 0) 74 ((h 0 113).toNat) 1) 75 ((h 0 113).toNat) (h 5 (h 0 7).toNat)) 76 ((h 0 113).toNat) 0) 0 113 ((h 0 113) + 1)) 0 7 ((h 0 7) + 1)) 6 ((h 0 17).toNat) 7) 7 ((h 0 17).toNat) 0) 8 ((h 0 17).toNat) 0) 9 ((h 0 17).toNat) 0) 0 17 ((h 0 17) + 1)) (ab_od_whole g p1 p2) g102)
    · intro h103 k40_1 g104
      replace k40_1 : 0 < (h103 0 8) ∧ (h103 0 1) = (h 0 1) ∧ (h103 0 118) = (h 0 118) ∧ (h103 0 127) = (h 0 127) := k40_1
      refine ja_if_eq 62 doperand_43 rfl ⟨by decide, by decide⟩ (fun c43 => ?_) (fun c43 => absurd c43 (by omega))
      refine ja_iconst doperand_62 ?_
      refine ja_zreturn doperand_63 rfl (by omega) ?_
      exact mo_fin (by omega) rfl (k2 h103 (by omega) g104)
theorem t_operand {R r ph q0 a b : Int} {tf : mo_TF} {s : List mo_A} {ht st rg : Nat → Int} {tu : Int} {d nL pc : Nat} {cc : ByteArray} {rt : Option FieldType} {L : List (Nat × ja_V)} {S : List ja_V} {h : ja_H} {Q : Option ja_V → ja_H → Prop} (hdd : 4 < d) (hwd : ja_wd S ≤ 8) (hd : decode cc pc = .ok (.invokevirtual 850, 3)) (g : mo_G Zz h) (p1 : pk_S h (h 0 17).toNat s) (p2 : piB h R r ph tf q0 ((6, a, b) :: s) ht st rg tu) (p3 : ph = 1 ∨ (h 0 74) ≤ 1 ∨ (h 0 75) ≤ 24) (k1 : ∀ (h' : ja_H), (pi_done h h' R r ph tf q0 (pi_mu h ((6, a, b) :: s))) → mo_G Zz h' → mJ l D cA ad d cc nL rt (pc + 3) L ((0, 1) :: S) h' Q) (k2 : ∀ (h' : ja_H), (0 < (h' 0 8) ∧ (h' 0 1) = (h 0 1) ∧ (h' 0 118) = (h 0 118) ∧ (h' 0 127) = (h 0 127)) → mo_G Zz h' → mJ l D cA ad d cc nL rt (pc + 3) L ((0, 0) :: S) h' Q) : mJ l D cA ad d cc nL rt pc L ((2, ((0 : Nat) : Int)) :: S) h Q :=
  mc_operand hdd hwd hd (s_operand g p1 p2 p3 k1 k2)
end
