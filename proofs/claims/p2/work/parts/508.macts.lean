/-! the reference: its acts, a single P (written by a program) -/
variable {Zz : Zc}
theorem bs_q {h : ja_H} {R r ph q0 : Int} {tf : mo_TF} {x : mo_A} {s : List mo_A} {ht st rg : Nat → Int} {tu : Int} (hB : piB h R r ph tf q0 (x :: s) ht st rg tu) (n12 : 0 ≤ pk_sum pk_q s ∧ pk_sum pk_q s ≤ 110) (n13 : 0 ≤ pk_sum pk_f s ∧ pk_sum pk_f s ≤ 110) : (0 ≤ (h 0 84) ∧ (h 0 84) ≤ 112) ∧ 0 ≤ (h 0 87) ∧ (h 0 87) ≤ 111 := by
  obtain ⟨⟨-, -, -, -, -, n6, n7, n8, n9⟩, -⟩ := hB
  have e1 : pk_sum pk_q (x :: s) = pk_q x.1 + pk_sum pk_q s := rfl
  have e2 : pk_sum pk_f (x :: s) = pk_f x.1 + pk_sum pk_f s := rfl
  have e3 : 0 ≤ pk_q x.1 ∧ pk_q x.1 ≤ 1 := by unfold pk_q; split <;> omega
  have e4 : 0 ≤ pk_f x.1 ∧ pk_f x.1 ≤ 1 := by unfold pk_f; split <;> omega
  omega
theorem piB_at2 {h : ja_H} {R r ph q0 b c v w : Int} {tf : mo_TF} {s : List mo_A} {ht st rg : Nat → Int} {tu : Int} (hB : piB h R r ph tf q0 ((31, b, c) :: s) ht st rg tu) (hv : (h 0 7) ≤ w) : piB (ja_up (ja_up h 0 7 v) 0 7 w) R r ph tf q0 ((31, b, c) :: s) ht st rg tu := by
  obtain ⟨⟨n1, n2, n3, n4, n5, n6, n7, n8, n9⟩, bb, reg, hpt, hCU, hN, hP, hT, top⟩ := hB
  exact ⟨⟨n1, show (h 0 113) + _ < 5 * w by omega, show (h 0 95) + _ < w by omega, show (h 0 68) < w by omega, n5, n6, n7, n8, n9⟩, bb, reg, hpt, hCU, hN, hP, hT, ⟨fun e => absurd e (show ¬ ((31 : Int) = 7 ∨ (31 : Int) = 2 ∨ (31 : Int) = 18) by decide), fun e => absurd e (show ¬ (31 : Int) = 6 by decide), fun e => absurd e (show ¬ (31 : Int) = 1 by decide), fun e => absurd e (show ¬ (31 : Int) = 9 by decide)⟩⟩
theorem pi_done_at2 {h h' : ja_H} {R r ph q0 v w : Int} {tf : mo_TF} {s : List mo_A} (hw : (h 0 7) ≤ w) (q : pi_done (ja_up (ja_up h 0 7 v) 0 7 w) h' R r ph tf q0 (pi_mu (ja_up (ja_up h 0 7 v) 0 7 w) s)) : pi_done h h' R r ph tf q0 (pi_mu h s) := by
  obtain ⟨⟨s', ht', st', rg', tu', q1, q2⟩, q3⟩ := q
  refine ⟨⟨s', ht', st', rg', tu', q1, Int.lt_of_lt_of_le q2 ?_⟩, ag_trans (ag_up rfl (ag_up rfl ag_refl)) q3⟩
  show 40 * (900 - w) + pk_sum pk_m s + 13 ≤ 40 * (900 - (h 0 7)) + pk_sum pk_m s + 13
  omega
theorem dsingle_0 : decode cX12_single 0 = .ok (.aload_n 0, 1) := by decide +kernel
theorem dsingle_1 : decode cX12_single 1 = .ok (.bipush 40, 2) := by decide +kernel
theorem dsingle_3 : decode cX12_single 3 = .ok (.invokevirtual 586, 3) := by decide +kernel
theorem dsingle_6 : decode cX12_single 6 = .ok (.ifCond .eq 41, 3) := by decide +kernel
theorem dsingle_9 : decode cX12_single 9 = .ok (.aload_n 0, 1) := by decide +kernel
theorem dsingle_10 : decode cX12_single 10 = .ok (.invokevirtual 589, 3) := by decide +kernel
theorem dsingle_13 : decode cX12_single 13 = .ok (.ifCond .eq 32, 3) := by decide +kernel
theorem dsingle_16 : decode cX12_single 16 = .ok (.aload_n 0, 1) := by decide +kernel
theorem dsingle_17 : decode cX12_single 17 = .ok (.bipush 37, 2) := by decide +kernel
theorem dsingle_19 : decode cX12_single 19 = .ok (.bipush 41, 2) := by decide +kernel
theorem dsingle_21 : decode cX12_single 21 = .ok (.iconst 0, 1) := by decide +kernel
theorem dsingle_22 : decode cX12_single 22 = .ok (.iconst 0, 1) := by decide +kernel
theorem dsingle_23 : decode cX12_single 23 = .ok (.invokevirtual 790, 3) := by decide +kernel
theorem dsingle_26 : decode cX12_single 26 = .ok (.ifCond .eq 19, 3) := by decide +kernel
theorem dsingle_29 : decode cX12_single 29 = .ok (.aload_n 0, 1) := by decide +kernel
theorem dsingle_30 : decode cX12_single 30 = .ok (.bipush 31, 2) := by decide +kernel
theorem dsingle_32 : decode cX12_single 32 = .ok (.iconst 0, 1) := by decide +kernel
theorem dsingle_33 : decode cX12_single 33 = .ok (.iconst 0, 1) := by decide +kernel
theorem dsingle_34 : decode cX12_single 34 = .ok (.iconst 0, 1) := by decide +kernel
theorem dsingle_35 : decode cX12_single 35 = .ok (.invokevirtual 790, 3) := by decide +kernel
theorem dsingle_38 : decode cX12_single 38 = .ok (.ifCond .eq 7, 3) := by decide +kernel
theorem dsingle_41 : decode cX12_single 41 = .ok (.iconst 1, 1) := by decide +kernel
theorem dsingle_42 : decode cX12_single 42 = .ok (.goto 4, 3) := by decide +kernel
theorem dsingle_45 : decode cX12_single 45 = .ok (.iconst 0, 1) := by decide +kernel
theorem dsingle_46 : decode cX12_single 46 = .ok (.ireturn, 1) := by decide +kernel
theorem dsingle_47 : decode cX12_single 47 = .ok (.aload_n 0, 1) := by decide +kernel
theorem dsingle_48 : decode cX12_single 48 = .ok (.invokevirtual 599, 3) := by decide +kernel
theorem dsingle_51 : decode cX12_single 51 = .ok (.ifCond .eq 8, 3) := by decide +kernel
theorem dsingle_54 : decode cX12_single 54 = .ok (.aload_n 0, 1) := by decide +kernel
theorem dsingle_55 : decode cX12_single 55 = .ok (.invokevirtual 891, 3) := by decide +kernel
theorem dsingle_58 : decode cX12_single 58 = .ok (.ireturn, 1) := by decide +kernel
theorem dsingle_59 : decode cX12_single 59 = .ok (.aload_n 0, 1) := by decide +kernel
theorem dsingle_60 : decode cX12_single 60 = .ok (.getfield 22, 3) := by decide +kernel
theorem dsingle_63 : decode cX12_single 63 = .ok (.aload_n 0, 1) := by decide +kernel
theorem dsingle_64 : decode cX12_single 64 = .ok (.getfield 574, 3) := by decide +kernel
theorem dsingle_67 : decode cX12_single 67 = .ok (.iaload, 1) := by decide +kernel
theorem dsingle_68 : decode cX12_single 68 = .ok (.istore_n 1, 1) := by decide +kernel
theorem dsingle_69 : decode cX12_single 69 = .ok (.aload_n 0, 1) := by decide +kernel
theorem dsingle_70 : decode cX12_single 70 = .ok (.getfield 574, 3) := by decide +kernel
theorem dsingle_73 : decode cX12_single 73 = .ok (.istore_n 2, 1) := by decide +kernel
theorem dsingle_74 : decode cX12_single 74 = .ok (.iload_n 1, 1) := by decide +kernel
theorem dsingle_75 : decode cX12_single 75 = .ok (.lookupswitch 354 #[(2, 325), (9, 204), (15, 57), (19, 136), (36, 232), (38, 232)], 57) := by decide +kernel
theorem dsingle_132 : decode cX12_single 132 = .ok (.aload_n 0, 1) := by decide +kernel
theorem dsingle_133 : decode cX12_single 133 = .ok (.dup, 1) := by decide +kernel
theorem dsingle_134 : decode cX12_single 134 = .ok (.getfield 692, 3) := by decide +kernel
theorem dsingle_137 : decode cX12_single 137 = .ok (.iconst 1, 1) := by decide +kernel
theorem dsingle_138 : decode cX12_single 138 = .ok (.iadd, 1) := by decide +kernel
theorem dsingle_139 : decode cX12_single 139 = .ok (.putfield 692, 3) := by decide +kernel
theorem dsingle_142 : decode cX12_single 142 = .ok (.aload_n 0, 1) := by decide +kernel
theorem dsingle_143 : decode cX12_single 143 = .ok (.dup, 1) := by decide +kernel
theorem dsingle_144 : decode cX12_single 144 = .ok (.getfield 701, 3) := by decide +kernel
theorem dsingle_147 : decode cX12_single 147 = .ok (.iconst 1, 1) := by decide +kernel
theorem dsingle_148 : decode cX12_single 148 = .ok (.iadd, 1) := by decide +kernel
theorem dsingle_149 : decode cX12_single 149 = .ok (.putfield 701, 3) := by decide +kernel
theorem dsingle_152 : decode cX12_single 152 = .ok (.aload_n 0, 1) := by decide +kernel
theorem dsingle_153 : decode cX12_single 153 = .ok (.invokevirtual 589, 3) := by decide +kernel
theorem dsingle_156 : decode cX12_single 156 = .ok (.ifCond .eq 53, 3) := by decide +kernel
theorem dsingle_159 : decode cX12_single 159 = .ok (.aload_n 0, 1) := by decide +kernel
theorem dsingle_160 : decode cX12_single 160 = .ok (.bipush 40, 2) := by decide +kernel
theorem dsingle_162 : decode cX12_single 162 = .ok (.invokevirtual 742, 3) := by decide +kernel
theorem dsingle_165 : decode cX12_single 165 = .ok (.ifCond .eq 44, 3) := by decide +kernel
theorem dsingle_168 : decode cX12_single 168 = .ok (.aload_n 0, 1) := by decide +kernel
theorem dsingle_169 : decode cX12_single 169 = .ok (.bipush 35, 2) := by decide +kernel
theorem dsingle_171 : decode cX12_single 171 = .ok (.iconst 0, 1) := by decide +kernel
theorem dsingle_172 : decode cX12_single 172 = .ok (.iconst 0, 1) := by decide +kernel
theorem dsingle_173 : decode cX12_single 173 = .ok (.iconst 0, 1) := by decide +kernel
theorem dsingle_174 : decode cX12_single 174 = .ok (.invokevirtual 790, 3) := by decide +kernel
theorem dsingle_177 : decode cX12_single 177 = .ok (.ifCond .eq 32, 3) := by decide +kernel
theorem dsingle_180 : decode cX12_single 180 = .ok (.aload_n 0, 1) := by decide +kernel
theorem dsingle_181 : decode cX12_single 181 = .ok (.bipush 37, 2) := by decide +kernel
theorem dsingle_183 : decode cX12_single 183 = .ok (.bipush 41, 2) := by decide +kernel
theorem dsingle_185 : decode cX12_single 185 = .ok (.iconst 0, 1) := by decide +kernel
theorem dsingle_186 : decode cX12_single 186 = .ok (.iconst 0, 1) := by decide +kernel
theorem dsingle_187 : decode cX12_single 187 = .ok (.invokevirtual 790, 3) := by decide +kernel
theorem dsingle_190 : decode cX12_single 190 = .ok (.ifCond .eq 19, 3) := by decide +kernel
theorem dsingle_193 : decode cX12_single 193 = .ok (.aload_n 0, 1) := by decide +kernel
theorem dsingle_194 : decode cX12_single 194 = .ok (.bipush 31, 2) := by decide +kernel
theorem dsingle_196 : decode cX12_single 196 = .ok (.iconst 0, 1) := by decide +kernel
theorem dsingle_197 : decode cX12_single 197 = .ok (.iconst 0, 1) := by decide +kernel
theorem dsingle_198 : decode cX12_single 198 = .ok (.iconst 0, 1) := by decide +kernel
theorem dsingle_199 : decode cX12_single 199 = .ok (.invokevirtual 790, 3) := by decide +kernel
theorem dsingle_202 : decode cX12_single 202 = .ok (.ifCond .eq 7, 3) := by decide +kernel
theorem dsingle_205 : decode cX12_single 205 = .ok (.iconst 1, 1) := by decide +kernel
theorem dsingle_206 : decode cX12_single 206 = .ok (.goto 4, 3) := by decide +kernel
theorem dsingle_209 : decode cX12_single 209 = .ok (.iconst 0, 1) := by decide +kernel
theorem dsingle_210 : decode cX12_single 210 = .ok (.ireturn, 1) := by decide +kernel
theorem dsingle_211 : decode cX12_single 211 = .ok (.aload_n 0, 1) := by decide +kernel
theorem dsingle_212 : decode cX12_single 212 = .ok (.invokevirtual 589, 3) := by decide +kernel
theorem dsingle_215 : decode cX12_single 215 = .ok (.ifCond .eq 12, 3) := by decide +kernel
theorem dsingle_218 : decode cX12_single 218 = .ok (.aload_n 0, 1) := by decide +kernel
theorem dsingle_219 : decode cX12_single 219 = .ok (.bipush 40, 2) := by decide +kernel
theorem dsingle_221 : decode cX12_single 221 = .ok (.invokevirtual 742, 3) := by decide +kernel
theorem dsingle_224 : decode cX12_single 224 = .ok (.ifCond .ne 5, 3) := by decide +kernel
theorem dsingle_227 : decode cX12_single 227 = .ok (.iconst 0, 1) := by decide +kernel
theorem dsingle_228 : decode cX12_single 228 = .ok (.ireturn, 1) := by decide +kernel
theorem dsingle_229 : decode cX12_single 229 = .ok (.aload_n 0, 1) := by decide +kernel
theorem dsingle_230 : decode cX12_single 230 = .ok (.iconst 1, 1) := by decide +kernel
theorem dsingle_231 : decode cX12_single 231 = .ok (.putfield 698, 3) := by decide +kernel
theorem dsingle_234 : decode cX12_single 234 = .ok (.aload_n 0, 1) := by decide +kernel
theorem dsingle_235 : decode cX12_single 235 = .ok (.bipush 36, 2) := by decide +kernel
theorem dsingle_237 : decode cX12_single 237 = .ok (.aload_n 0, 1) := by decide +kernel
theorem dsingle_238 : decode cX12_single 238 = .ok (.getfield 611, 3) := by decide +kernel
theorem dsingle_241 : decode cX12_single 241 = .ok (.iconst 0, 1) := by decide +kernel
theorem dsingle_242 : decode cX12_single 242 = .ok (.iconst 0, 1) := by decide +kernel
theorem dsingle_243 : decode cX12_single 243 = .ok (.invokevirtual 790, 3) := by decide +kernel
theorem dsingle_246 : decode cX12_single 246 = .ok (.ifCond .eq 31, 3) := by decide +kernel
theorem dsingle_249 : decode cX12_single 249 = .ok (.aload_n 0, 1) := by decide +kernel
theorem dsingle_250 : decode cX12_single 250 = .ok (.bipush 37, 2) := by decide +kernel
theorem dsingle_252 : decode cX12_single 252 = .ok (.bipush 41, 2) := by decide +kernel
theorem dsingle_254 : decode cX12_single 254 = .ok (.iconst 0, 1) := by decide +kernel
theorem dsingle_255 : decode cX12_single 255 = .ok (.iconst 0, 1) := by decide +kernel
theorem dsingle_256 : decode cX12_single 256 = .ok (.invokevirtual 790, 3) := by decide +kernel
theorem dsingle_259 : decode cX12_single 259 = .ok (.ifCond .eq 18, 3) := by decide +kernel
theorem dsingle_262 : decode cX12_single 262 = .ok (.aload_n 0, 1) := by decide +kernel
theorem dsingle_263 : decode cX12_single 263 = .ok (.iconst 1, 1) := by decide +kernel
theorem dsingle_264 : decode cX12_single 264 = .ok (.iconst 0, 1) := by decide +kernel
theorem dsingle_265 : decode cX12_single 265 = .ok (.iconst 0, 1) := by decide +kernel
theorem dsingle_266 : decode cX12_single 266 = .ok (.iconst 0, 1) := by decide +kernel
theorem dsingle_267 : decode cX12_single 267 = .ok (.invokevirtual 790, 3) := by decide +kernel
theorem dsingle_270 : decode cX12_single 270 = .ok (.ifCond .eq 7, 3) := by decide +kernel
theorem dsingle_273 : decode cX12_single 273 = .ok (.iconst 1, 1) := by decide +kernel
theorem dsingle_274 : decode cX12_single 274 = .ok (.goto 4, 3) := by decide +kernel
theorem dsingle_277 : decode cX12_single 277 = .ok (.iconst 0, 1) := by decide +kernel
theorem dsingle_278 : decode cX12_single 278 = .ok (.ireturn, 1) := by decide +kernel
theorem dsingle_279 : decode cX12_single 279 = .ok (.aload_n 0, 1) := by decide +kernel
theorem dsingle_280 : decode cX12_single 280 = .ok (.aload_n 0, 1) := by decide +kernel
theorem dsingle_281 : decode cX12_single 281 = .ok (.iconst 5, 1) := by decide +kernel
theorem dsingle_282 : decode cX12_single 282 = .ok (.iconst 0, 1) := by decide +kernel
theorem dsingle_283 : decode cX12_single 283 = .ok (.iconst 0, 1) := by decide +kernel
theorem dsingle_284 : decode cX12_single 284 = .ok (.iload_n 2, 1) := by decide +kernel
theorem dsingle_285 : decode cX12_single 285 = .ok (.invokevirtual 878, 3) := by decide +kernel
theorem dsingle_288 : decode cX12_single 288 = .ok (.invokevirtual 882, 3) := by decide +kernel
theorem dsingle_291 : decode cX12_single 291 = .ok (.ifCond .eq 14, 3) := by decide +kernel
theorem dsingle_294 : decode cX12_single 294 = .ok (.aload_n 0, 1) := by decide +kernel
theorem dsingle_295 : decode cX12_single 295 = .ok (.invokevirtual 589, 3) := by decide +kernel
theorem dsingle_298 : decode cX12_single 298 = .ok (.ifCond .eq 7, 3) := by decide +kernel
theorem dsingle_301 : decode cX12_single 301 = .ok (.iconst 1, 1) := by decide +kernel
theorem dsingle_302 : decode cX12_single 302 = .ok (.goto 4, 3) := by decide +kernel
theorem dsingle_305 : decode cX12_single 305 = .ok (.iconst 0, 1) := by decide +kernel
theorem dsingle_306 : decode cX12_single 306 = .ok (.ireturn, 1) := by decide +kernel
theorem dsingle_307 : decode cX12_single 307 = .ok (.aload_n 0, 1) := by decide +kernel
theorem dsingle_308 : decode cX12_single 308 = .ok (.invokevirtual 589, 3) := by decide +kernel
theorem dsingle_311 : decode cX12_single 311 = .ok (.ifCond .eq 12, 3) := by decide +kernel
theorem dsingle_314 : decode cX12_single 314 = .ok (.aload_n 0, 1) := by decide +kernel
theorem dsingle_315 : decode cX12_single 315 = .ok (.bipush 40, 2) := by decide +kernel
theorem dsingle_317 : decode cX12_single 317 = .ok (.invokevirtual 742, 3) := by decide +kernel
theorem dsingle_320 : decode cX12_single 320 = .ok (.ifCond .ne 5, 3) := by decide +kernel
theorem dsingle_323 : decode cX12_single 323 = .ok (.iconst 0, 1) := by decide +kernel
theorem dsingle_324 : decode cX12_single 324 = .ok (.ireturn, 1) := by decide +kernel
theorem dsingle_325 : decode cX12_single 325 = .ok (.aload_n 0, 1) := by decide +kernel
theorem dsingle_326 : decode cX12_single 326 = .ok (.iload_n 1, 1) := by decide +kernel
theorem dsingle_327 : decode cX12_single 327 = .ok (.bipush 36, 2) := by decide +kernel
theorem dsingle_329 : decode cX12_single 329 = .ok (.if_icmp .ne 8, 3) := by decide +kernel
theorem dsingle_332 : decode cX12_single 332 = .ok (.bipush 7, 2) := by decide +kernel
theorem dsingle_334 : decode cX12_single 334 = .ok (.goto 5, 3) := by decide +kernel
theorem dsingle_337 : decode cX12_single 337 = .ok (.bipush 8, 2) := by decide +kernel
theorem dsingle_339 : decode cX12_single 339 = .ok (.iconst 0, 1) := by decide +kernel
theorem dsingle_340 : decode cX12_single 340 = .ok (.iconst 0, 1) := by decide +kernel
theorem dsingle_341 : decode cX12_single 341 = .ok (.aload_n 0, 1) := by decide +kernel
theorem dsingle_342 : decode cX12_single 342 = .ok (.getfield 574, 3) := by decide +kernel
theorem dsingle_345 : decode cX12_single 345 = .ok (.invokevirtual 878, 3) := by decide +kernel
theorem dsingle_348 : decode cX12_single 348 = .ok (.istore_n 3, 1) := by decide +kernel
theorem dsingle_349 : decode cX12_single 349 = .ok (.aload_n 0, 1) := by decide +kernel
theorem dsingle_350 : decode cX12_single 350 = .ok (.getfield 574, 3) := by decide +kernel
theorem dsingle_353 : decode cX12_single 353 = .ok (.istore 4, 2) := by decide +kernel
theorem dsingle_355 : decode cX12_single 355 = .ok (.aload_n 0, 1) := by decide +kernel
theorem dsingle_356 : decode cX12_single 356 = .ok (.invokevirtual 739, 3) := by decide +kernel
theorem dsingle_359 : decode cX12_single 359 = .ok (.ifCond .ne 5, 3) := by decide +kernel
theorem dsingle_362 : decode cX12_single 362 = .ok (.iconst 0, 1) := by decide +kernel
theorem dsingle_363 : decode cX12_single 363 = .ok (.ireturn, 1) := by decide +kernel
theorem dsingle_364 : decode cX12_single 364 = .ok (.aload_n 0, 1) := by decide +kernel
theorem dsingle_365 : decode cX12_single 365 = .ok (.getfield 185, 3) := by decide +kernel
theorem dsingle_368 : decode cX12_single 368 = .ok (.iload_n 3, 1) := by decide +kernel
theorem dsingle_369 : decode cX12_single 369 = .ok (.aload_n 0, 1) := by decide +kernel
theorem dsingle_370 : decode cX12_single 370 = .ok (.iload_n 3, 1) := by decide +kernel
theorem dsingle_371 : decode cX12_single 371 = .ok (.iload 4, 2) := by decide +kernel
theorem dsingle_373 : decode cX12_single 373 = .ok (.invokevirtual 894, 3) := by decide +kernel
theorem dsingle_376 : decode cX12_single 376 = .ok (.iastore, 1) := by decide +kernel
theorem dsingle_377 : decode cX12_single 377 = .ok (.aload_n 0, 1) := by decide +kernel
theorem dsingle_378 : decode cX12_single 378 = .ok (.iload_n 3, 1) := by decide +kernel
theorem dsingle_379 : decode cX12_single 379 = .ok (.invokevirtual 882, 3) := by decide +kernel
theorem dsingle_382 : decode cX12_single 382 = .ok (.ifCond .eq 16, 3) := by decide +kernel
theorem dsingle_385 : decode cX12_single 385 = .ok (.aload_n 0, 1) := by decide +kernel
theorem dsingle_386 : decode cX12_single 386 = .ok (.bipush 41, 2) := by decide +kernel
theorem dsingle_388 : decode cX12_single 388 = .ok (.invokevirtual 742, 3) := by decide +kernel
theorem dsingle_391 : decode cX12_single 391 = .ok (.ifCond .eq 7, 3) := by decide +kernel
theorem dsingle_394 : decode cX12_single 394 = .ok (.iconst 1, 1) := by decide +kernel
theorem dsingle_395 : decode cX12_single 395 = .ok (.goto 4, 3) := by decide +kernel
theorem dsingle_398 : decode cX12_single 398 = .ok (.iconst 0, 1) := by decide +kernel
theorem dsingle_399 : decode cX12_single 399 = .ok (.ireturn, 1) := by decide +kernel
theorem dsingle_400 : decode cX12_single 400 = .ok (.aload_n 0, 1) := by decide +kernel
theorem dsingle_401 : decode cX12_single 401 = .ok (.invokevirtual 589, 3) := by decide +kernel
theorem dsingle_404 : decode cX12_single 404 = .ok (.ifCond .eq 23, 3) := by decide +kernel
theorem dsingle_407 : decode cX12_single 407 = .ok (.aload_n 0, 1) := by decide +kernel
theorem dsingle_408 : decode cX12_single 408 = .ok (.bipush 40, 2) := by decide +kernel
theorem dsingle_410 : decode cX12_single 410 = .ok (.invokevirtual 742, 3) := by decide +kernel
theorem dsingle_413 : decode cX12_single 413 = .ok (.ifCond .eq 14, 3) := by decide +kernel
theorem dsingle_416 : decode cX12_single 416 = .ok (.aload_n 0, 1) := by decide +kernel
theorem dsingle_417 : decode cX12_single 417 = .ok (.invokevirtual 897, 3) := by decide +kernel
theorem dsingle_420 : decode cX12_single 420 = .ok (.ifCond .eq 7, 3) := by decide +kernel
theorem dsingle_423 : decode cX12_single 423 = .ok (.iconst 1, 1) := by decide +kernel
theorem dsingle_424 : decode cX12_single 424 = .ok (.goto 4, 3) := by decide +kernel
theorem dsingle_427 : decode cX12_single 427 = .ok (.iconst 0, 1) := by decide +kernel
theorem dsingle_428 : decode cX12_single 428 = .ok (.ireturn, 1) := by decide +kernel
theorem dsingle_429 : decode cX12_single 429 = .ok (.aload_n 0, 1) := by decide +kernel
theorem dsingle_430 : decode cX12_single 430 = .ok (.iload_n 1, 1) := by decide +kernel
theorem dsingle_431 : decode cX12_single 431 = .ok (.invokevirtual 900, 3) := by decide +kernel
theorem dsingle_434 : decode cX12_single 434 = .ok (.ireturn, 1) := by decide +kernel
section
variable {l : Launch} {D : va_G} {cA : Nat → ClassId} {ad : Nat → Nat}
theorem s_single {R r ph q0 b c : Int} {tf : mo_TF} {s : List mo_A} {ht st rg : Nat → Int} {tu : Int} {h : ja_H} {Q : Option ja_V → ja_H → Prop} (g : mo_G Zz h) (p1 : pk_S h (h 0 17).toNat s) (p2 : piB h R r ph tf q0 ((31, b, c) :: s) ht st rg tu) (p3 : (s.length : Int) ≤ 6 * pk_sum pk_c s + 2) (p4 : tf_ok ph tf) (p5 : (h 0 85) = 0 ∨ ¬ ((h 2 (h 0 7).toNat) = 2)) (k1 : ∀ (h' : ja_H), (pi_done h h' R r ph tf q0 (pi_mu h s)) → mo_G Zz h' → Q (some (0, 1)) h') (k2 : ∀ (h' : ja_H), (0 < (h' 0 8) ∧ (h' 0 1) = (h 0 1) ∧ (h' 0 118) = (h 0 118) ∧ (h' 0 127) = (h 0 127)) → mo_G Zz h' → Q (some (0, 0)) h') : mM_single l D cA ad  h Q := by
  show mJ l D cA ad 5 cX12_single 5 (some .boolean) 0 [(0, (2, ((0 : Nat) : Int)))] [] h Q
  have kn_at := gF_at g
  have kn_wTop := gF_wTop g
  have kn_words := gF_words g
  have kn_nest := gF_nest g
  have kn_nodes := gF_nodes g
  have kn_wants := gF_wants g
  have kn_uses := gF_uses g
  have kn_treeTop := gF_treeTop g
  have kn_quiet := gF_quiet g
  have kn_inFlow := gF_inFlow g
  have kn_false1 := gF_false1 g
  have kn_params := gF_params g
  have kn_inFlow := gF_inFlow g
  have kn_inIf := gF_inIf g
  have hN := piB_num g p1 p2
  obtain ⟨N1, N2, N3, N4, N5, N6, N7, N8, N9, N10, N11, N12, N13, ⟨NK1, NK2⟩, ND1, ND2, ND3, NU1, NU2⟩ := hN
  have hn1 : (h 0 18) = 0 + pk_sum pk_c s := p2.1.1
  obtain ⟨T1, T2, T3, T4⟩ := bs_31t (by omega) p2
  have hqf := bs_q p2 N12 N13
  refine ja_aload_n dsingle_0 rfl rfl ?_
  refine ja_bipush 40 dsingle_1 rfl ?_
  refine t_isSign (by decide) (show (0 : Nat) ≤ 8 by decide) dsingle_3 g ⟨by decide, by decide⟩ ?_
  intro w1 k3_0
  refine ja_if_eq 47 dsingle_6 rfl ⟨by omega, by omega⟩ (fun c6 => ?_) (fun c6 => ?_)
  · replace k3_0 := is0 k3_0 c6
    refine ja_aload_n dsingle_47 rfl rfl ?_
    refine t_isName (by decide) (show (0 : Nat) ≤ 8 by decide) dsingle_48 g  ?_
    intro w2 k48_0
    refine ja_if_eq 59 dsingle_51 rfl ⟨by omega, by omega⟩ (fun c51 => ?_) (fun c51 => ?_)
    · replace k48_0 := is0 k48_0 c51
      refine ja_aload_n dsingle_59 rfl rfl ?_
      refine fa_worths dsingle_60 ?_
      refine ja_aload_n dsingle_63 rfl rfl ?_
      refine fg_at (v := h 0 7) rfl dsingle_64 ?_
      have f3 := gF_at g
      refine il_worths (v := h 5 (h 0 7).toNat) rfl ⟨by omega, by omega⟩ dsingle_67 ?_
      have f4 := gC_worths g (h 0 7).toNat
      refine ja_istore_n dsingle_68 rfl (by decide) (L2 := [(1, (0, (h 5 (h 0 7).toNat))), (0, (2, ((0 : Nat) : Int)))]) rfl ?_
      refine ja_aload_n dsingle_69 rfl rfl ?_
      refine fg_at (v := h 0 7) rfl dsingle_70 ?_
      refine ja_istore_n dsingle_73 rfl (by decide) (L2 := [(2, (0, (h 0 7))), (1, (0, (h 5 (h 0 7).toNat))), (0, (2, ((0 : Nat) : Int)))]) rfl ?_
      refine ja_iload_n dsingle_74 rfl rfl ?_
      have T75_400 : (h 5 (h 0 7).toNat = 2) → mJ l D cA ad 5 cX12_single 5 (some .boolean) 400 [(2, (0, (h 0 7))), (1, (0, (h 5 (h 0 7).toNat))), (0, (2, ((0 : Nat) : Int)))] [] h Q := by
        intro e75
        refine ja_aload_n dsingle_400 rfl rfl ?_
        refine t_take (by decide) (show (0 : Nat) ≤ 8 by decide) dsingle_401 g  ?_ ?_
        · intro k401_0 g5
          replace k401_0 : (h 0 7) < 900 := k401_0
          replace g5 : mo_G Zz (ja_up h 0 7 ((h 0 7) + 1)) := g5
          show mJ l D cA ad 5 cX12_single 5 (some .boolean) 404 [(2, (0, (h 0 7))), (1, (0, (h 5 (h 0 7).toNat))), (0, (2, ((0 : Nat) : Int)))] [(0, 1)] (ja_up h 0 7 ((h 0 7) + 1)) Q
          refine ja_if_eq 427 dsingle_404 rfl ⟨by decide, by decide⟩ (fun c404 => absurd c404 (by omega)) (fun c404 => ?_)
          refine ja_aload_n dsingle_407 rfl rfl ?_
          refine ja_bipush 40 dsingle_408 rfl ?_
          refine t_sign (by decide) (show (0 : Nat) ≤ 8 by decide) dsingle_410 g5 ⟨by decide, by decide⟩ ?_ ?_
          · intro k410_0 g6
            replace k410_0 : ((h 0 7) + 1) < 900 ∧ (h 2 ((h 0 7) + 1).toNat) = 5 ∧ (h 5 ((h 0 7) + 1).toNat) = 40 := k410_0
            replace g6 : mo_G Zz (ja_up (ja_up h 0 7 ((h 0 7) + 1)) 0 7 (((h 0 7) + 1) + 1)) := g6
            show mJ l D cA ad 5 cX12_single 5 (some .boolean) 413 [(2, (0, (h 0 7))), (1, (0, (h 5 (h 0 7).toNat))), (0, (2, ((0 : Nat) : Int)))] [(0, 1)] (ja_up (ja_up h 0 7 ((h 0 7) + 1)) 0 7 (((h 0 7) + 1) + 1)) Q
            refine ja_if_eq 427 dsingle_413 rfl ⟨by decide, by decide⟩ (fun c413 => absurd c413 (by omega)) (fun c413 => ?_)
            refine ja_aload_n dsingle_416 rfl rfl ?_
            refine t_args (by decide) (show (0 : Nat) ≤ 8 by decide) dsingle_417 g6 (pk_S_ag (by (repeat (first | exact ag_refl | refine ag_up rfl ?_))) p1) (piB_at2 p2 (by omega)) (p3) ?_ ?_
            · intro h7 k417_0 g8
              refine ja_if_eq 427 dsingle_420 rfl ⟨by decide, by decide⟩ (fun c420 => absurd c420 (by omega)) (fun c420 => ?_)
              refine ja_iconst dsingle_423 ?_
              refine ja_goto 428 dsingle_424 rfl ?_
              refine ja_zreturn dsingle_428 rfl (by omega) ?_
              exact mo_fin (by omega) rfl (k1 h7 ((pi_done_at2 (by omega) k417_0)) g8)
            · intro h9 k417_1 g10
              replace k417_1 : 0 < (h9 0 8) ∧ (h9 0 1) = (h 0 1) ∧ (h9 0 118) = (h 0 118) ∧ (h9 0 127) = (h 0 127) := k417_1
              refine ja_if_eq 427 dsingle_420 rfl ⟨by decide, by decide⟩ (fun c420 => ?_) (fun c420 => absurd c420 (by omega))
              refine ja_iconst dsingle_427 ?_
              refine ja_zreturn dsingle_428 rfl (by omega) ?_
              exact mo_fin (by omega) rfl (k2 h9 (by omega) g10)
          · intro h11 k410_1 g12
            replace k410_1 : 0 < (h11 0 8) ∧ (h11 0 1) = (h 0 1) ∧ (h11 0 118) = (h 0 118) ∧ (h11 0 127) = (h 0 127) := k410_1
            refine ja_if_eq 427 dsingle_413 rfl ⟨by decide, by decide⟩ (fun c413 => ?_) (fun c413 => absurd c413 (by omega))
            refine ja_iconst dsingle_427 ?_
            refine ja_zreturn dsingle_428 rfl (by omega) ?_
            exact mo_fin (by omega) rfl (k2 h11 (by omega) g12)
        · intro h13 k401_1 g14
          refine ja_if_eq 427 dsingle_404 rfl ⟨by decide, by decide⟩ (fun c404 => ?_) (fun c404 => absurd c404 (by omega))
          refine ja_iconst dsingle_427 ?_
          refine ja_zreturn dsingle_428 rfl (by omega) ?_
          exact mo_fin (by omega) rfl (k2 h13 (by omega) g14)
      have T75_279 : (h 5 (h 0 7).toNat = 9) → mJ l D cA ad 5 cX12_single 5 (some .boolean) 279 [(2, (0, (h 0 7))), (1, (0, (h 5 (h 0 7).toNat))), (0, (2, ((0 : Nat) : Int)))] [] h Q := by
        intro e75
        refine ja_aload_n dsingle_279 rfl rfl ?_
        refine ja_aload_n dsingle_280 rfl rfl ?_
        refine ja_iconst dsingle_281 ?_
        refine ja_iconst dsingle_282 ?_
        refine ja_iconst dsingle_283 ?_
        refine ja_iload_n dsingle_284 rfl rfl ?_
        refine t_node (by decide) (show (1 : Nat) ≤ 8 by decide) dsingle_285 g ⟨by decide, by decide⟩ ⟨by decide, by decide⟩ ⟨by decide, by decide⟩ ⟨by omega, by omega⟩ (show 0 ≤ 5 ∧ 5 ≤ 15 by omega) (show 0 ≤ (h 0 7) ∧ (h 0 7) ≤ 900 by omega) (show (h 0 95) < 900 by omega) ?_
        intro w15 k285_0 g16
        replace k285_0 : (w15 = 1 ∧ (h 0 85) = 1) ∨ (w15 = 0 ∧ (h 0 85) = 0) := k285_0
        replace g16 : mo_G Zz (ja_up (ja_up (ja_up (ja_up (ja_up (ja_up (ja_up (ja_up (ja_up (ja_up h 0 95 ((h 0 95) + 1)) 58 ((h 0 95).toNat) 5) 59 ((h 0 95).toNat) 0) 60 ((h 0 95).toNat) 0) 61 ((h 0 95).toNat) (h 0 7)) 62 ((h 0 95).toNat) 0) 64 ((h 0 95).toNat) (h 0 76)) 65 ((h 0 95).toNat) 0) 66 ((h 0 95).toNat) 0) 67 ((h 0 95).toNat) w15) := g16
        show mJ l D cA ad 5 cX12_single 5 (some .boolean) 288 [(2, (0, (h 0 7))), (1, (0, (h 5 (h 0 7).toNat))), (0, (2, ((0 : Nat) : Int)))] [(0, (h 0 95)), (2, ((0 : Nat) : Int))] (ja_up (ja_up (ja_up (ja_up (ja_up (ja_up (ja_up (ja_up (ja_up (ja_up h 0 95 ((h 0 95) + 1)) 58 ((h 0 95).toNat) 5) 59 ((h 0 95).toNat) 0) 60 ((h 0 95).toNat) 0) 61 ((h 0 95).toNat) (h 0 7)) 62 ((h 0 95).toNat) 0) 64 ((h 0 95).toNat) (h 0 76)) 65 ((h 0 95).toNat) 0) 66 ((h 0 95).toNat) 0) 67 ((h 0 95).toNat) w15) Q
        refine t_leaf (by decide) (show (0 : Nat) ≤ 8 by decide) dsingle_288 g16 ⟨by omega, by omega⟩ (show 0 ≤ (h 0 95) ∧ (h 0 95) ≤ 899 by omega) (show (h 0 109) < 400 by omega) ?_
        intro g17
        replace g17 : mo_G Zz (ja_up (ja_up (ja_up (ja_up (ja_up (ja_up (ja_up (ja_up (ja_up (ja_up (ja_up (ja_up h 0 95 ((h 0 95) + 1)) 58 ((h 0 95).toNat) 5) 59 ((h 0 95).toNat) 0) 60 ((h 0 95).toNat) 0) 61 ((h 0 95).toNat) (h 0 7)) 62 ((h 0 95).toNat) 0) 64 ((h 0 95).toNat) (h 0 76)) 65 ((h 0 95).toNat) 0) 66 ((h 0 95).toNat) 0) 67 ((h 0 95).toNat) w15) 70 ((h 0 109).toNat) (h 0 95)) 0 109 ((h 0 109) + 1)) := g17
        show mJ l D cA ad 5 cX12_single 5 (some .boolean) 291 [(2, (0, (h 0 7))), (1, (0, (h 5 (h 0 7).toNat))), (0, (2, ((0 : Nat) : Int)))] [(0, 1)] (ja_up (ja_up (ja_up (ja_up (ja_up (ja_up (ja_up (ja_up (ja_up (ja_up (ja_up (ja_up h 0 95 ((h 0 95) + 1)) 58 ((h 0 95).toNat) 5) 59 ((h 0 95).toNat) 0) 60 ((h 0 95).toNat) 0) 61 ((h 0 95).toNat) (h 0 7)) 62 ((h 0 95).toNat) 0) 64 ((h 0 95).toNat) (h 0 76)) 65 ((h 0 95).toNat) 0) 66 ((h 0 95).toNat) 0) 67 ((h 0 95).toNat) w15) 70 ((h 0 109).toNat) (h 0 95)) 0 109 ((h 0 109) + 1)) Q
        refine ja_if_eq 305 dsingle_291 rfl ⟨by decide, by decide⟩ (fun c291 => absurd c291 (by omega)) (fun c291 => ?_)
        refine ja_aload_n dsingle_294 rfl rfl ?_
        refine t_take (by decide) (show (0 : Nat) ≤ 8 by decide) dsingle_295 g17  ?_ ?_
        · intro k295_0 g18
          replace k295_0 : (h 0 7) < 900 := k295_0
          replace g18 : mo_G Zz (ja_up (ja_up (ja_up (ja_up (ja_up (ja_up (ja_up (ja_up (ja_up (ja_up (ja_up (ja_up (ja_up h 0 95 ((h 0 95) + 1)) 58 ((h 0 95).toNat) 5) 59 ((h 0 95).toNat) 0) 60 ((h 0 95).toNat) 0) 61 ((h 0 95).toNat) (h 0 7)) 62 ((h 0 95).toNat) 0) 64 ((h 0 95).toNat) (h 0 76)) 65 ((h 0 95).toNat) 0) 66 ((h 0 95).toNat) 0) 67 ((h 0 95).toNat) w15) 70 ((h 0 109).toNat) (h 0 95)) 0 109 ((h 0 109) + 1)) 0 7 ((h 0 7) + 1)) := g18
          show mJ l D cA ad 5 cX12_single 5 (some .boolean) 298 [(2, (0, (h 0 7))), (1, (0, (h 5 (h 0 7).toNat))), (0, (2, ((0 : Nat) : Int)))] [(0, 1)] (ja_up (ja_up (ja_up (ja_up (ja_up (ja_up (ja_up (ja_up (ja_up (ja_up (ja_up (ja_up (ja_up h 0 95 ((h 0 95) + 1)) 58 ((h 0 95).toNat) 5) 59 ((h 0 95).toNat) 0) 60 ((h 0 95).toNat) 0) 61 ((h 0 95).toNat) (h 0 7)) 62 ((h 0 95).toNat) 0) 64 ((h 0 95).toNat) (h 0 76)) 65 ((h 0 95).toNat) 0) 66 ((h 0 95).toNat) 0) 67 ((h 0 95).toNat) w15) 70 ((h 0 109).toNat) (h 0 95)) 0 109 ((h 0 109) + 1)) 0 7 ((h 0 7) + 1)) Q
          refine ja_if_eq 305 dsingle_298 rfl ⟨by decide, by decide⟩ (fun c298 => absurd c298 (by omega)) (fun c298 => ?_)
          refine ja_iconst dsingle_301 ?_
          refine ja_goto 306 dsingle_302 rfl ?_
          refine ja_zreturn dsingle_306 rfl (by omega) ?_
          exact mo_fin (by omega) rfl (k1 (ja_up (ja_up (ja_up (ja_up (ja_up (ja_up (ja_up (ja_up (ja_up (ja_up (ja_up (ja_up (ja_up h 0 95 ((h 0 95) + 1)) 58 ((h 0 95).toNat) 5) 59 ((h 0 95).toNat) 0) 60 ((h 0 95).toNat) 0) 61 ((h 0 95).toNat) (h 0 7)) 62 ((h 0 95).toNat) 0) 64 ((h 0 95).toNat) (h 0 76)) 65 ((h 0 95).toNat) 0) 66 ((h 0 95).toNat) 0) 67 ((h 0 95).toNat) w15) 70 ((h 0 109).toNat) (h 0 95)) 0 109 ((h 0 109) + 1)) 0 7 ((h 0 7) + 1)) (ab_leaf g p1 p2 (lf0_G (lf0_init0 (by omega) (by omega) (by omega)) (pn_0 (by simp [mo_N, ja_up])))) g18)
        · intro h19 k295_1 g20
          replace k295_1 : 0 < (h19 0 8) ∧ (h19 0 1) = (h 0 1) ∧ (h19 0 118) = (h 0 118) ∧ (h19 0 127) = (h 0 127) := k295_1
          refine ja_if_eq 305 dsingle_298 rfl ⟨by decide, by decide⟩ (fun c298 => ?_) (fun c298 => absurd c298 (by omega))
          refine ja_iconst dsingle_305 ?_
          refine ja_zreturn dsingle_306 rfl (by omega) ?_
          exact mo_fin (by omega) rfl (k2 h19 (by omega) g20)
      have T75_132 : (h 5 (h 0 7).toNat = 15) → mJ l D cA ad 5 cX12_single 5 (some .boolean) 132 [(2, (0, (h 0 7))), (1, (0, (h 5 (h 0 7).toNat))), (0, (2, ((0 : Nat) : Int)))] [] h Q := by
        intro e75
        refine ja_aload_n dsingle_132 rfl rfl ?_
        refine ja_dup dsingle_133 (by decide) ?_
        refine fg_quiet (v := h 0 84) rfl dsingle_134 ?_
        have f21 := gF_quiet g
        refine ja_iconst dsingle_137 ?_
        refine ja_iadd dsingle_138 ?_
        have g22 := gP_quiet g (x := (h 0 84) + 1) ⟨by omega, by omega⟩
        refine fp_quiet dsingle_139 ?_
        refine ja_aload_n dsingle_142 rfl rfl ?_
        refine ja_dup dsingle_143 (by decide) ?_
        refine fg_inFlow (v := h 0 87) rfl dsingle_144 ?_
        have f23 := gF_inFlow g
        refine ja_iconst dsingle_147 ?_
        refine ja_iadd dsingle_148 ?_
        have g24 := gP_inFlow g22 (x := (h 0 87) + 1) ⟨by omega, by omega⟩
        refine fp_inFlow dsingle_149 ?_
        refine ja_aload_n dsingle_152 rfl rfl ?_
        refine t_take (by decide) (show (0 : Nat) ≤ 8 by decide) dsingle_153 g24  ?_ ?_
        · intro k153_0 g25
          replace k153_0 : (h 0 7) < 900 := k153_0
          replace g25 : mo_G Zz (ja_up (ja_up (ja_up h 0 84 ((h 0 84) + 1)) 0 87 ((h 0 87) + 1)) 0 7 ((h 0 7) + 1)) := g25
          show mJ l D cA ad 5 cX12_single 5 (some .boolean) 156 [(2, (0, (h 0 7))), (1, (0, (h 5 (h 0 7).toNat))), (0, (2, ((0 : Nat) : Int)))] [(0, 1)] (ja_up (ja_up (ja_up h 0 84 ((h 0 84) + 1)) 0 87 ((h 0 87) + 1)) 0 7 ((h 0 7) + 1)) Q
          refine ja_if_eq 209 dsingle_156 rfl ⟨by decide, by decide⟩ (fun c156 => absurd c156 (by omega)) (fun c156 => ?_)
          refine ja_aload_n dsingle_159 rfl rfl ?_
          refine ja_bipush 40 dsingle_160 rfl ?_
          refine t_sign (by decide) (show (0 : Nat) ≤ 8 by decide) dsingle_162 g25 ⟨by decide, by decide⟩ ?_ ?_
          · intro k162_0 g26
            replace k162_0 : ((h 0 7) + 1) < 900 ∧ (h 2 ((h 0 7) + 1).toNat) = 5 ∧ (h 5 ((h 0 7) + 1).toNat) = 40 := k162_0
            replace g26 : mo_G Zz (ja_up (ja_up (ja_up (ja_up h 0 84 ((h 0 84) + 1)) 0 87 ((h 0 87) + 1)) 0 7 ((h 0 7) + 1)) 0 7 (((h 0 7) + 1) + 1)) := g26
            show mJ l D cA ad 5 cX12_single 5 (some .boolean) 165 [(2, (0, (h 0 7))), (1, (0, (h 5 (h 0 7).toNat))), (0, (2, ((0 : Nat) : Int)))] [(0, 1)] (ja_up (ja_up (ja_up (ja_up h 0 84 ((h 0 84) + 1)) 0 87 ((h 0 87) + 1)) 0 7 ((h 0 7) + 1)) 0 7 (((h 0 7) + 1) + 1)) Q
            refine ja_if_eq 209 dsingle_165 rfl ⟨by decide, by decide⟩ (fun c165 => absurd c165 (by omega)) (fun c165 => ?_)
            refine ja_aload_n dsingle_168 rfl rfl ?_
            refine ja_bipush 35 dsingle_169 rfl ?_
            refine ja_iconst dsingle_171 ?_
            refine ja_iconst dsingle_172 ?_
            refine ja_iconst dsingle_173 ?_
            refine t_later (by decide) (show (0 : Nat) ≤ 8 by decide) dsingle_174 g26 ⟨by decide, by decide⟩ ⟨by decide, by decide⟩ ⟨by decide, by decide⟩ ⟨by decide, by decide⟩ (show 0 ≤ 35 ∧ 35 ≤ 38 by omega) (show (h 0 17) < 2000 by omega) ?_
            intro g27
            replace g27 : mo_G Zz (ja_up (ja_up (ja_up (ja_up (ja_up (ja_up (ja_up (ja_up (ja_up h 0 84 ((h 0 84) + 1)) 0 87 ((h 0 87) + 1)) 0 7 ((h 0 7) + 1)) 0 7 (((h 0 7) + 1) + 1)) 6 ((h 0 17).toNat) 35) 7 ((h 0 17).toNat) 0) 8 ((h 0 17).toNat) 0) 9 ((h 0 17).toNat) 0) 0 17 ((h 0 17) + 1)) := g27
            show mJ l D cA ad 5 cX12_single 5 (some .boolean) 177 [(2, (0, (h 0 7))), (1, (0, (h 5 (h 0 7).toNat))), (0, (2, ((0 : Nat) : Int)))] [(0, 1)] (ja_up (ja_up (ja_up (ja_up (ja_up (ja_up (ja_up (ja_up (ja_up h 0 84 ((h 0 84) + 1)) 0 87 ((h 0 87) + 1)) 0 7 ((h 0 7) + 1)) 0 7 (((h 0 7) + 1) + 1)) 6 ((h 0 17).toNat) 35) 7 ((h 0 17).toNat) 0) 8 ((h 0 17).toNat) 0) 9 ((h 0 17).toNat) 0) 0 17 ((h 0 17) + 1)) Q
            refine ja_if_eq 209 dsingle_177 rfl ⟨by decide, by decide⟩ (fun c177 => absurd c177 (by omega)) (fun c177 => ?_)
            refine ja_aload_n dsingle_180 rfl rfl ?_
            refine ja_bipush 37 dsingle_181 rfl ?_
            refine ja_bipush 41 dsingle_183 rfl ?_
            refine ja_iconst dsingle_185 ?_
            refine ja_iconst dsingle_186 ?_
            refine t_later (by decide) (show (0 : Nat) ≤ 8 by decide) dsingle_187 g27 ⟨by decide, by decide⟩ ⟨by decide, by decide⟩ ⟨by decide, by decide⟩ ⟨by decide, by decide⟩ (show 0 ≤ 37 ∧ 37 ≤ 38 by omega) (show ((h 0 17) + 1) < 2000 by omega) ?_
            intro g28
            replace g28 : mo_G Zz (ja_up (ja_up (ja_up (ja_up (ja_up (ja_up (ja_up (ja_up (ja_up (ja_up (ja_up (ja_up (ja_up (ja_up h 0 84 ((h 0 84) + 1)) 0 87 ((h 0 87) + 1)) 0 7 ((h 0 7) + 1)) 0 7 (((h 0 7) + 1) + 1)) 6 ((h 0 17).toNat) 35) 7 ((h 0 17).toNat) 0) 8 ((h 0 17).toNat) 0) 9 ((h 0 17).toNat) 0) 0 17 ((h 0 17) + 1)) 6 (((h 0 17) + 1).toNat) 37) 7 (((h 0 17) + 1).toNat) 41) 8 (((h 0 17) + 1).toNat) 0) 9 (((h 0 17) + 1).toNat) 0) 0 17 (((h 0 17) + 1) + 1)) := g28
            show mJ l D cA ad 5 cX12_single 5 (some .boolean) 190 [(2, (0, (h 0 7))), (1, (0, (h 5 (h 0 7).toNat))), (0, (2, ((0 : Nat) : Int)))] [(0, 1)] (ja_up (ja_up (ja_up (ja_up (ja_up (ja_up (ja_up (ja_up (ja_up (ja_up (ja_up (ja_up (ja_up (ja_up h 0 84 ((h 0 84) + 1)) 0 87 ((h 0 87) + 1)) 0 7 ((h 0 7) + 1)) 0 7 (((h 0 7) + 1) + 1)) 6 ((h 0 17).toNat) 35) 7 ((h 0 17).toNat) 0) 8 ((h 0 17).toNat) 0) 9 ((h 0 17).toNat) 0) 0 17 ((h 0 17) + 1)) 6 (((h 0 17) + 1).toNat) 37) 7 (((h 0 17) + 1).toNat) 41) 8 (((h 0 17) + 1).toNat) 0) 9 (((h 0 17) + 1).toNat) 0) 0 17 (((h 0 17) + 1) + 1)) Q
            refine ja_if_eq 209 dsingle_190 rfl ⟨by decide, by decide⟩ (fun c190 => absurd c190 (by omega)) (fun c190 => ?_)
            refine ja_aload_n dsingle_193 rfl rfl ?_
            refine ja_bipush 31 dsingle_194 rfl ?_
            refine ja_iconst dsingle_196 ?_
            refine ja_iconst dsingle_197 ?_
            refine ja_iconst dsingle_198 ?_
            refine t_later (by decide) (show (0 : Nat) ≤ 8 by decide) dsingle_199 g28 ⟨by decide, by decide⟩ ⟨by decide, by decide⟩ ⟨by decide, by decide⟩ ⟨by decide, by decide⟩ (show 0 ≤ 31 ∧ 31 ≤ 38 by omega) (show (((h 0 17) + 1) + 1) < 2000 by omega) ?_
            intro g29
            replace g29 : mo_G Zz (ja_up (ja_up (ja_up (ja_up (ja_up (ja_up (ja_up (ja_up (ja_up (ja_up (ja_up (ja_up (ja_up (ja_up (ja_up (ja_up (ja_up (ja_up (ja_up h 0 84 ((h 0 84) + 1)) 0 87 ((h 0 87) + 1)) 0 7 ((h 0 7) + 1)) 0 7 (((h 0 7) + 1) + 1)) 6 ((h 0 17).toNat) 35) 7 ((h 0 17).toNat) 0) 8 ((h 0 17).toNat) 0) 9 ((h 0 17).toNat) 0) 0 17 ((h 0 17) + 1)) 6 (((h 0 17) + 1).toNat) 37) 7 (((h 0 17) + 1).toNat) 41) 8 (((h 0 17) + 1).toNat) 0) 9 (((h 0 17) + 1).toNat) 0) 0 17 (((h 0 17) + 1) + 1)) 6 ((((h 0 17) + 1) + 1).toNat) 31) 7 ((((h 0 17) + 1) + 1).toNat) 0) 8 ((((h 0 17) + 1) + 1).toNat) 0) 9 ((((h 0 17) + 1) + 1).toNat) 0) 0 17 ((((h 0 17) + 1) + 1) + 1)) := g29
            show mJ l D cA ad 5 cX12_single 5 (some .boolean) 202 [(2, (0, (h 0 7))), (1, (0, (h 5 (h 0 7).toNat))), (0, (2, ((0 : Nat) : Int)))] [(0, 1)] (ja_up (ja_up (ja_up (ja_up (ja_up (ja_up (ja_up (ja_up (ja_up (ja_up (ja_up (ja_up (ja_up (ja_up (ja_up (ja_up (ja_up (ja_up (ja_up h 0 84 ((h 0 84) + 1)) 0 87 ((h 0 87) + 1)) 0 7 ((h 0 7) + 1)) 0 7 (((h 0 7) + 1) + 1)) 6 ((h 0 17).toNat) 35) 7 ((h 0 17).toNat) 0) 8 ((h 0 17).toNat) 0) 9 ((h 0 17).toNat) 0) 0 17 ((h 0 17) + 1)) 6 (((h 0 17) + 1).toNat) 37) 7 (((h 0 17) + 1).toNat) 41) 8 (((h 0 17) + 1).toNat) 0) 9 (((h 0 17) + 1).toNat) 0) 0 17 (((h 0 17) + 1) + 1)) 6 ((((h 0 17) + 1) + 1).toNat) 31) 7 ((((h 0 17) + 1) + 1).toNat) 0) 8 ((((h 0 17) + 1) + 1).toNat) 0) 9 ((((h 0 17) + 1) + 1).toNat) 0) 0 17 ((((h 0 17) + 1) + 1) + 1)) Q
            refine ja_if_eq 209 dsingle_202 rfl ⟨by decide, by decide⟩ (fun c202 => absurd c202 (by omega)) (fun c202 => ?_)
            refine ja_iconst dsingle_205 ?_
            refine ja_goto 210 dsingle_206 rfl ?_
            refine ja_zreturn dsingle_210 rfl (by omega) ?_
            exact mo_fin (by omega) rfl (k1 (ja_up (ja_up (ja_up (ja_up (ja_up (ja_up (ja_up (ja_up (ja_up (ja_up (ja_up (ja_up (ja_up (ja_up (ja_up (ja_up (ja_up (ja_up (ja_up h 0 84 ((h 0 84) + 1)) 0 87 ((h 0 87) + 1)) 0 7 ((h 0 7) + 1)) 0 7 (((h 0 7) + 1) + 1)) 6 ((h 0 17).toNat) 35) 7 ((h 0 17).toNat) 0) 8 ((h 0 17).toNat) 0) 9 ((h 0 17).toNat) 0) 0 17 ((h 0 17) + 1)) 6 (((h 0 17) + 1).toNat) 37) 7 (((h 0 17) + 1).toNat) 41) 8 (((h 0 17) + 1).toNat) 0) 9 (((h 0 17) + 1).toNat) 0) 0 17 (((h 0 17) + 1) + 1)) 6 ((((h 0 17) + 1) + 1).toNat) 31) 7 ((((h 0 17) + 1) + 1).toNat) 0) 8 ((((h 0 17) + 1) + 1).toNat) 0) 9 ((((h 0 17) + 1) + 1).toNat) 0) 0 17 ((((h 0 17) + 1) + 1) + 1)) (ab_s_flow g p1 p2 p3) g29)
          · intro h30 k162_1 g31
            replace k162_1 : 0 < (h30 0 8) ∧ (h30 0 1) = (h 0 1) ∧ (h30 0 118) = (h 0 118) ∧ (h30 0 127) = (h 0 127) := k162_1
            refine ja_if_eq 209 dsingle_165 rfl ⟨by decide, by decide⟩ (fun c165 => ?_) (fun c165 => absurd c165 (by omega))
            refine ja_iconst dsingle_209 ?_
            refine ja_zreturn dsingle_210 rfl (by omega) ?_
            exact mo_fin (by omega) rfl (k2 h30 (by omega) g31)
        · intro h32 k153_1 g33
          replace k153_1 : 0 < (h32 0 8) ∧ (h32 0 1) = (h 0 1) ∧ (h32 0 118) = (h 0 118) ∧ (h32 0 127) = (h 0 127) := k153_1
          refine ja_if_eq 209 dsingle_156 rfl ⟨by decide, by decide⟩ (fun c156 => ?_) (fun c156 => absurd c156 (by omega))
          refine ja_iconst dsingle_209 ?_
          refine ja_zreturn dsingle_210 rfl (by omega) ?_
          exact mo_fin (by omega) rfl (k2 h32 (by omega) g33)
      have T75_211 : (h 5 (h 0 7).toNat = 19) → mJ l D cA ad 5 cX12_single 5 (some .boolean) 211 [(2, (0, (h 0 7))), (1, (0, (h 5 (h 0 7).toNat))), (0, (2, ((0 : Nat) : Int)))] [] h Q := by
        intro e75
        refine ja_aload_n dsingle_211 rfl rfl ?_
        refine t_take (by decide) (show (0 : Nat) ≤ 8 by decide) dsingle_212 g  ?_ ?_
        · intro k212_0 g34
          replace k212_0 : (h 0 7) < 900 := k212_0
          replace g34 : mo_G Zz (ja_up h 0 7 ((h 0 7) + 1)) := g34
          show mJ l D cA ad 5 cX12_single 5 (some .boolean) 215 [(2, (0, (h 0 7))), (1, (0, (h 5 (h 0 7).toNat))), (0, (2, ((0 : Nat) : Int)))] [(0, 1)] (ja_up h 0 7 ((h 0 7) + 1)) Q
          refine ja_if_eq 227 dsingle_215 rfl ⟨by decide, by decide⟩ (fun c215 => absurd c215 (by omega)) (fun c215 => ?_)
          refine ja_aload_n dsingle_218 rfl rfl ?_
          refine ja_bipush 40 dsingle_219 rfl ?_
          refine t_sign (by decide) (show (0 : Nat) ≤ 8 by decide) dsingle_221 g34 ⟨by decide, by decide⟩ ?_ ?_
          · intro k221_0 g35
            replace k221_0 : ((h 0 7) + 1) < 900 ∧ (h 2 ((h 0 7) + 1).toNat) = 5 ∧ (h 5 ((h 0 7) + 1).toNat) = 40 := k221_0
            replace g35 : mo_G Zz (ja_up (ja_up h 0 7 ((h 0 7) + 1)) 0 7 (((h 0 7) + 1) + 1)) := g35
            show mJ l D cA ad 5 cX12_single 5 (some .boolean) 224 [(2, (0, (h 0 7))), (1, (0, (h 5 (h 0 7).toNat))), (0, (2, ((0 : Nat) : Int)))] [(0, 1)] (ja_up (ja_up h 0 7 ((h 0 7) + 1)) 0 7 (((h 0 7) + 1) + 1)) Q
            refine ja_if_ne 229 dsingle_224 rfl ⟨by decide, by decide⟩ (fun c224 => ?_) (fun c224 => absurd c224 (by omega))
            refine ja_aload_n dsingle_229 rfl rfl ?_
            refine ja_iconst dsingle_230 ?_
            have g36 := gP_inIf g35 (x := 1) ⟨by decide, by decide⟩
            refine fp_inIf dsingle_231 ?_
            refine ja_aload_n dsingle_234 rfl rfl ?_
            refine ja_bipush 36 dsingle_235 rfl ?_
            refine ja_aload_n dsingle_237 rfl rfl ?_
            refine fg_words (v := h 0 113) rfl dsingle_238 ?_
            have f37 := gF_words g
            refine ja_iconst dsingle_241 ?_
            refine ja_iconst dsingle_242 ?_
            refine t_later (by decide) (show (0 : Nat) ≤ 8 by decide) dsingle_243 g36 ⟨by decide, by decide⟩ ⟨by omega, by omega⟩ ⟨by decide, by decide⟩ ⟨by decide, by decide⟩ (show 0 ≤ 36 ∧ 36 ≤ 38 by omega) (show (h 0 17) < 2000 by omega) ?_
            intro g38
            replace g38 : mo_G Zz (ja_up (ja_up (ja_up (ja_up (ja_up (ja_up (ja_up (ja_up h 0 7 ((h 0 7) + 1)) 0 7 (((h 0 7) + 1) + 1)) 0 86 1) 6 ((h 0 17).toNat) 36) 7 ((h 0 17).toNat) (h 0 113)) 8 ((h 0 17).toNat) 0) 9 ((h 0 17).toNat) 0) 0 17 ((h 0 17) + 1)) := g38
            show mJ l D cA ad 5 cX12_single 5 (some .boolean) 246 [(2, (0, (h 0 7))), (1, (0, (h 5 (h 0 7).toNat))), (0, (2, ((0 : Nat) : Int)))] [(0, 1)] (ja_up (ja_up (ja_up (ja_up (ja_up (ja_up (ja_up (ja_up h 0 7 ((h 0 7) + 1)) 0 7 (((h 0 7) + 1) + 1)) 0 86 1) 6 ((h 0 17).toNat) 36) 7 ((h 0 17).toNat) (h 0 113)) 8 ((h 0 17).toNat) 0) 9 ((h 0 17).toNat) 0) 0 17 ((h 0 17) + 1)) Q
            refine ja_if_eq 277 dsingle_246 rfl ⟨by decide, by decide⟩ (fun c246 => absurd c246 (by omega)) (fun c246 => ?_)
            refine ja_aload_n dsingle_249 rfl rfl ?_
            refine ja_bipush 37 dsingle_250 rfl ?_
            refine ja_bipush 41 dsingle_252 rfl ?_
            refine ja_iconst dsingle_254 ?_
            refine ja_iconst dsingle_255 ?_
            refine t_later (by decide) (show (0 : Nat) ≤ 8 by decide) dsingle_256 g38 ⟨by decide, by decide⟩ ⟨by decide, by decide⟩ ⟨by decide, by decide⟩ ⟨by decide, by decide⟩ (show 0 ≤ 37 ∧ 37 ≤ 38 by omega) (show ((h 0 17) + 1) < 2000 by omega) ?_
            intro g39
            replace g39 : mo_G Zz (ja_up (ja_up (ja_up (ja_up (ja_up (ja_up (ja_up (ja_up (ja_up (ja_up (ja_up (ja_up (ja_up h 0 7 ((h 0 7) + 1)) 0 7 (((h 0 7) + 1) + 1)) 0 86 1) 6 ((h 0 17).toNat) 36) 7 ((h 0 17).toNat) (h 0 113)) 8 ((h 0 17).toNat) 0) 9 ((h 0 17).toNat) 0) 0 17 ((h 0 17) + 1)) 6 (((h 0 17) + 1).toNat) 37) 7 (((h 0 17) + 1).toNat) 41) 8 (((h 0 17) + 1).toNat) 0) 9 (((h 0 17) + 1).toNat) 0) 0 17 (((h 0 17) + 1) + 1)) := g39
            show mJ l D cA ad 5 cX12_single 5 (some .boolean) 259 [(2, (0, (h 0 7))), (1, (0, (h 5 (h 0 7).toNat))), (0, (2, ((0 : Nat) : Int)))] [(0, 1)] (ja_up (ja_up (ja_up (ja_up (ja_up (ja_up (ja_up (ja_up (ja_up (ja_up (ja_up (ja_up (ja_up h 0 7 ((h 0 7) + 1)) 0 7 (((h 0 7) + 1) + 1)) 0 86 1) 6 ((h 0 17).toNat) 36) 7 ((h 0 17).toNat) (h 0 113)) 8 ((h 0 17).toNat) 0) 9 ((h 0 17).toNat) 0) 0 17 ((h 0 17) + 1)) 6 (((h 0 17) + 1).toNat) 37) 7 (((h 0 17) + 1).toNat) 41) 8 (((h 0 17) + 1).toNat) 0) 9 (((h 0 17) + 1).toNat) 0) 0 17 (((h 0 17) + 1) + 1)) Q
            refine ja_if_eq 277 dsingle_259 rfl ⟨by decide, by decide⟩ (fun c259 => absurd c259 (by omega)) (fun c259 => ?_)
            refine ja_aload_n dsingle_262 rfl rfl ?_
            refine ja_iconst dsingle_263 ?_
            refine ja_iconst dsingle_264 ?_
            refine ja_iconst dsingle_265 ?_
            refine ja_iconst dsingle_266 ?_
            refine t_later (by decide) (show (0 : Nat) ≤ 8 by decide) dsingle_267 g39 ⟨by decide, by decide⟩ ⟨by decide, by decide⟩ ⟨by decide, by decide⟩ ⟨by decide, by decide⟩ (show 0 ≤ 1 ∧ 1 ≤ 38 by omega) (show (((h 0 17) + 1) + 1) < 2000 by omega) ?_
            intro g40
            replace g40 : mo_G Zz (ja_up (ja_up (ja_up (ja_up (ja_up (ja_up (ja_up (ja_up (ja_up (ja_up (ja_up (ja_up (ja_up (ja_up (ja_up (ja_up (ja_up (ja_up h 0 7 ((h 0 7) + 1)) 0 7 (((h 0 7) + 1) + 1)) 0 86 1) 6 ((h 0 17).toNat) 36) 7 ((h 0 17).toNat) (h 0 113)) 8 ((h 0 17).toNat) 0) 9 ((h 0 17).toNat) 0) 0 17 ((h 0 17) + 1)) 6 (((h 0 17) + 1).toNat) 37) 7 (((h 0 17) + 1).toNat) 41) 8 (((h 0 17) + 1).toNat) 0) 9 (((h 0 17) + 1).toNat) 0) 0 17 (((h 0 17) + 1) + 1)) 6 ((((h 0 17) + 1) + 1).toNat) 1) 7 ((((h 0 17) + 1) + 1).toNat) 0) 8 ((((h 0 17) + 1) + 1).toNat) 0) 9 ((((h 0 17) + 1) + 1).toNat) 0) 0 17 ((((h 0 17) + 1) + 1) + 1)) := g40
            show mJ l D cA ad 5 cX12_single 5 (some .boolean) 270 [(2, (0, (h 0 7))), (1, (0, (h 5 (h 0 7).toNat))), (0, (2, ((0 : Nat) : Int)))] [(0, 1)] (ja_up (ja_up (ja_up (ja_up (ja_up (ja_up (ja_up (ja_up (ja_up (ja_up (ja_up (ja_up (ja_up (ja_up (ja_up (ja_up (ja_up (ja_up h 0 7 ((h 0 7) + 1)) 0 7 (((h 0 7) + 1) + 1)) 0 86 1) 6 ((h 0 17).toNat) 36) 7 ((h 0 17).toNat) (h 0 113)) 8 ((h 0 17).toNat) 0) 9 ((h 0 17).toNat) 0) 0 17 ((h 0 17) + 1)) 6 (((h 0 17) + 1).toNat) 37) 7 (((h 0 17) + 1).toNat) 41) 8 (((h 0 17) + 1).toNat) 0) 9 (((h 0 17) + 1).toNat) 0) 0 17 (((h 0 17) + 1) + 1)) 6 ((((h 0 17) + 1) + 1).toNat) 1) 7 ((((h 0 17) + 1) + 1).toNat) 0) 8 ((((h 0 17) + 1) + 1).toNat) 0) 9 ((((h 0 17) + 1) + 1).toNat) 0) 0 17 ((((h 0 17) + 1) + 1) + 1)) Q
            refine ja_if_eq 277 dsingle_270 rfl ⟨by decide, by decide⟩ (fun c270 => absurd c270 (by omega)) (fun c270 => ?_)
            refine ja_iconst dsingle_273 ?_
            refine ja_goto 278 dsingle_274 rfl ?_
            refine ja_zreturn dsingle_278 rfl (by omega) ?_
            exact mo_fin (by omega) rfl (k1 (ja_up (ja_up (ja_up (ja_up (ja_up (ja_up (ja_up (ja_up (ja_up (ja_up (ja_up (ja_up (ja_up (ja_up (ja_up (ja_up (ja_up (ja_up h 0 7 ((h 0 7) + 1)) 0 7 (((h 0 7) + 1) + 1)) 0 86 1) 6 ((h 0 17).toNat) 36) 7 ((h 0 17).toNat) (h 0 113)) 8 ((h 0 17).toNat) 0) 9 ((h 0 17).toNat) 0) 0 17 ((h 0 17) + 1)) 6 (((h 0 17) + 1).toNat) 37) 7 (((h 0 17) + 1).toNat) 41) 8 (((h 0 17) + 1).toNat) 0) 9 (((h 0 17) + 1).toNat) 0) 0 17 (((h 0 17) + 1) + 1)) 6 ((((h 0 17) + 1) + 1).toNat) 1) 7 ((((h 0 17) + 1) + 1).toNat) 0) 8 ((((h 0 17) + 1) + 1).toNat) 0) 9 ((((h 0 17) + 1) + 1).toNat) 0) 0 17 ((((h 0 17) + 1) + 1) + 1)) (ab_if g p1 p2 p3 p4) g40)
          · intro h41 k221_1 g42
            replace k221_1 : 0 < (h41 0 8) ∧ (h41 0 1) = (h 0 1) ∧ (h41 0 118) = (h 0 118) ∧ (h41 0 127) = (h 0 127) := k221_1
            refine ja_if_ne 229 dsingle_224 rfl ⟨by decide, by decide⟩ (fun c224 => absurd c224 (by omega)) (fun c224 => ?_)
            refine ja_iconst dsingle_227 ?_
            refine ja_zreturn dsingle_228 rfl (by omega) ?_
            exact mo_fin (by omega) rfl (k2 h41 (by omega) g42)
        · intro h43 k212_1 g44
          refine ja_if_eq 227 dsingle_215 rfl ⟨by decide, by decide⟩ (fun c215 => ?_) (fun c215 => absurd c215 (by omega))
          refine ja_iconst dsingle_227 ?_
          refine ja_zreturn dsingle_228 rfl (by omega) ?_
          exact mo_fin (by omega) rfl (k2 h43 (by omega) g44)
      have T75_307 : (h 5 (h 0 7).toNat = 36 ∨ h 5 (h 0 7).toNat = 38) → mJ l D cA ad 5 cX12_single 5 (some .boolean) 307 [(2, (0, (h 0 7))), (1, (0, (h 5 (h 0 7).toNat))), (0, (2, ((0 : Nat) : Int)))] [] h Q := by
        intro e75
        refine ja_aload_n dsingle_307 rfl rfl ?_
        refine t_take (by decide) (show (0 : Nat) ≤ 8 by decide) dsingle_308 g  ?_ ?_
        · intro k308_0 g45
          replace k308_0 : (h 0 7) < 900 := k308_0
          replace g45 : mo_G Zz (ja_up h 0 7 ((h 0 7) + 1)) := g45
          show mJ l D cA ad 5 cX12_single 5 (some .boolean) 311 [(2, (0, (h 0 7))), (1, (0, (h 5 (h 0 7).toNat))), (0, (2, ((0 : Nat) : Int)))] [(0, 1)] (ja_up h 0 7 ((h 0 7) + 1)) Q
          refine ja_if_eq 323 dsingle_311 rfl ⟨by decide, by decide⟩ (fun c311 => absurd c311 (by omega)) (fun c311 => ?_)
          refine ja_aload_n dsingle_314 rfl rfl ?_
          refine ja_bipush 40 dsingle_315 rfl ?_
          refine t_sign (by decide) (show (0 : Nat) ≤ 8 by decide) dsingle_317 g45 ⟨by decide, by decide⟩ ?_ ?_
          · intro k317_0 g46
            replace k317_0 : ((h 0 7) + 1) < 900 ∧ (h 2 ((h 0 7) + 1).toNat) = 5 ∧ (h 5 ((h 0 7) + 1).toNat) = 40 := k317_0
            replace g46 : mo_G Zz (ja_up (ja_up h 0 7 ((h 0 7) + 1)) 0 7 (((h 0 7) + 1) + 1)) := g46
            show mJ l D cA ad 5 cX12_single 5 (some .boolean) 320 [(2, (0, (h 0 7))), (1, (0, (h 5 (h 0 7).toNat))), (0, (2, ((0 : Nat) : Int)))] [(0, 1)] (ja_up (ja_up h 0 7 ((h 0 7) + 1)) 0 7 (((h 0 7) + 1) + 1)) Q
            refine ja_if_ne 325 dsingle_320 rfl ⟨by decide, by decide⟩ (fun c320 => ?_) (fun c320 => absurd c320 (by omega))
            refine ja_aload_n dsingle_325 rfl rfl ?_
            refine ja_iload_n dsingle_326 rfl rfl ?_
            refine ja_bipush 36 dsingle_327 rfl ?_
            refine ja_icmp_ne 337 dsingle_329 rfl ⟨by omega, by omega⟩ ⟨by decide, by decide⟩ (fun c329 => ?_) (fun c329 => ?_)
            · refine ja_bipush 8 dsingle_337 rfl ?_
              refine ja_iconst dsingle_339 ?_
              refine ja_iconst dsingle_340 ?_
              refine ja_aload_n dsingle_341 rfl rfl ?_
              refine fg_at (v := ((h 0 7) + 1) + 1) rfl dsingle_342 ?_
              refine t_node (by decide) (show (0 : Nat) ≤ 8 by decide) dsingle_345 g46 ⟨by decide, by decide⟩ ⟨by decide, by decide⟩ ⟨by decide, by decide⟩ ⟨by omega, by omega⟩ (show 0 ≤ 8 ∧ 8 ≤ 15 by omega) (show 0 ≤ (((h 0 7) + 1) + 1) ∧ (((h 0 7) + 1) + 1) ≤ 900 by omega) (show (h 0 95) < 900 by omega) ?_
              intro w47 k345_0 g48
              replace k345_0 : (w47 = 1 ∧ (h 0 85) = 1) ∨ (w47 = 0 ∧ (h 0 85) = 0) := k345_0
              replace g48 : mo_G Zz (ja_up (ja_up (ja_up (ja_up (ja_up (ja_up (ja_up (ja_up (ja_up (ja_up (ja_up (ja_up h 0 7 ((h 0 7) + 1)) 0 7 (((h 0 7) + 1) + 1)) 0 95 ((h 0 95) + 1)) 58 ((h 0 95).toNat) 8) 59 ((h 0 95).toNat) 0) 60 ((h 0 95).toNat) 0) 61 ((h 0 95).toNat) (((h 0 7) + 1) + 1)) 62 ((h 0 95).toNat) 0) 64 ((h 0 95).toNat) (h 0 76)) 65 ((h 0 95).toNat) 0) 66 ((h 0 95).toNat) 0) 67 ((h 0 95).toNat) w47) := g48
              show mJ l D cA ad 5 cX12_single 5 (some .boolean) 348 [(2, (0, (h 0 7))), (1, (0, (h 5 (h 0 7).toNat))), (0, (2, ((0 : Nat) : Int)))] [(0, (h 0 95))] (ja_up (ja_up (ja_up (ja_up (ja_up (ja_up (ja_up (ja_up (ja_up (ja_up (ja_up (ja_up h 0 7 ((h 0 7) + 1)) 0 7 (((h 0 7) + 1) + 1)) 0 95 ((h 0 95) + 1)) 58 ((h 0 95).toNat) 8) 59 ((h 0 95).toNat) 0) 60 ((h 0 95).toNat) 0) 61 ((h 0 95).toNat) (((h 0 7) + 1) + 1)) 62 ((h 0 95).toNat) 0) 64 ((h 0 95).toNat) (h 0 76)) 65 ((h 0 95).toNat) 0) 66 ((h 0 95).toNat) 0) 67 ((h 0 95).toNat) w47) Q
              refine ja_istore_n dsingle_348 rfl (by decide) (L2 := [(3, (0, (h 0 95))), (2, (0, (h 0 7))), (1, (0, (h 5 (h 0 7).toNat))), (0, (2, ((0 : Nat) : Int)))]) rfl ?_
              refine ja_aload_n dsingle_349 rfl rfl ?_
              refine fg_at (v := ((h 0 7) + 1) + 1) rfl dsingle_350 ?_
              refine ja_istore dsingle_353 (by decide) (L2 := [(4, (0, (((h 0 7) + 1) + 1))), (3, (0, (h 0 95))), (2, (0, (h 0 7))), (1, (0, (h 5 (h 0 7).toNat))), (0, (2, ((0 : Nat) : Int)))]) rfl ?_
              refine ja_aload_n dsingle_355 rfl rfl ?_
              refine t_name (by decide) (show (0 : Nat) ≤ 8 by decide) dsingle_356 g48  ?_ ?_
              · intro k356_0 g49
                replace k356_0 : (((h 0 7) + 1) + 1) < 900 ∧ (h 2 (((h 0 7) + 1) + 1).toNat) = 2 := k356_0
                replace g49 : mo_G Zz (ja_up (ja_up (ja_up (ja_up (ja_up (ja_up (ja_up (ja_up (ja_up (ja_up (ja_up (ja_up (ja_up h 0 7 ((h 0 7) + 1)) 0 7 (((h 0 7) + 1) + 1)) 0 95 ((h 0 95) + 1)) 58 ((h 0 95).toNat) 8) 59 ((h 0 95).toNat) 0) 60 ((h 0 95).toNat) 0) 61 ((h 0 95).toNat) (((h 0 7) + 1) + 1)) 62 ((h 0 95).toNat) 0) 64 ((h 0 95).toNat) (h 0 76)) 65 ((h 0 95).toNat) 0) 66 ((h 0 95).toNat) 0) 67 ((h 0 95).toNat) w47) 0 7 ((((h 0 7) + 1) + 1) + 1)) := g49
                show mJ l D cA ad 5 cX12_single 5 (some .boolean) 359 [(4, (0, (((h 0 7) + 1) + 1))), (3, (0, (h 0 95))), (2, (0, (h 0 7))), (1, (0, (h 5 (h 0 7).toNat))), (0, (2, ((0 : Nat) : Int)))] [(0, 1)] (ja_up (ja_up (ja_up (ja_up (ja_up (ja_up (ja_up (ja_up (ja_up (ja_up (ja_up (ja_up (ja_up h 0 7 ((h 0 7) + 1)) 0 7 (((h 0 7) + 1) + 1)) 0 95 ((h 0 95) + 1)) 58 ((h 0 95).toNat) 8) 59 ((h 0 95).toNat) 0) 60 ((h 0 95).toNat) 0) 61 ((h 0 95).toNat) (((h 0 7) + 1) + 1)) 62 ((h 0 95).toNat) 0) 64 ((h 0 95).toNat) (h 0 76)) 65 ((h 0 95).toNat) 0) 66 ((h 0 95).toNat) 0) 67 ((h 0 95).toNat) w47) 0 7 ((((h 0 7) + 1) + 1) + 1)) Q
                refine ja_if_ne 364 dsingle_359 rfl ⟨by decide, by decide⟩ (fun c359 => ?_) (fun c359 => absurd c359 (by omega))
                refine ja_aload_n dsingle_364 rfl rfl ?_
                refine fa_nodeA dsingle_365 ?_
                refine ja_iload_n dsingle_368 rfl rfl ?_
                refine ja_aload_n dsingle_369 rfl rfl ?_
                refine ja_iload_n dsingle_370 rfl rfl ?_
                refine ja_iload dsingle_371 rfl ?_
                refine t_named (by decide) (show (2 : Nat) ≤ 8 by decide) dsingle_373 g49 ⟨by omega, by omega⟩ ⟨by omega, by omega⟩ (show 0 ≤ (h 0 95) ∧ (h 0 95) ≤ 899 by omega) (show 0 ≤ (((h 0 7) + 1) + 1) ∧ (((h 0 7) + 1) + 1) ≤ 900 by omega) (show (h 0 68) < 900 by omega) ?_ ?_
                · intro w50 w51 w52 w53 w54 k373_0 g55
                  replace k373_0 : 0 ≤ w50 ∧ w50 < (h 0 82) ∧ 0 ≤ w51 ∧ w51 ≤ 8 ∧ (1 ≤ w51 ∨ w51 = (h 0 11)) ∧ -2147483648 ≤ w52 ∧ w52 ≤ 2147483647 ∧ 0 ≤ w53 ∧ w53 ≤ 1 ∧ -2147483648 ≤ w54 ∧ w54 ≤ 2147483647 := k373_0
                  replace g55 : mo_G Zz (ja_up (ja_up (ja_up (ja_up (ja_up (ja_up (ja_up (ja_up (ja_up (ja_up (ja_up (ja_up (ja_up (ja_up (ja_up (ja_up (ja_up h 0 7 ((h 0 7) + 1)) 0 7 (((h 0 7) + 1) + 1)) 0 95 ((h 0 95) + 1)) 58 ((h 0 95).toNat) 8) 59 ((h 0 95).toNat) 0) 60 ((h 0 95).toNat) 0) 61 ((h 0 95).toNat) (((h 0 7) + 1) + 1)) 62 ((h 0 95).toNat) 0) 64 ((h 0 95).toNat) (h 0 76)) 65 ((h 0 95).toNat) 0) 66 ((h 0 95).toNat) 0) 67 ((h 0 95).toNat) w47) 0 7 ((((h 0 7) + 1) + 1) + 1)) 0 11 w51) 0 12 w52) 66 ((h 0 95).toNat) w53) 65 ((h 0 95).toNat) w54) := g55
                  show mJ l D cA ad 5 cX12_single 5 (some .boolean) 376 [(4, (0, (((h 0 7) + 1) + 1))), (3, (0, (h 0 95))), (2, (0, (h 0 7))), (1, (0, (h 5 (h 0 7).toNat))), (0, (2, ((0 : Nat) : Int)))] [(0, w50), (0, (h 0 95)), (2, ((59 : Nat) : Int))] (ja_up (ja_up (ja_up (ja_up (ja_up (ja_up (ja_up (ja_up (ja_up (ja_up (ja_up (ja_up (ja_up (ja_up (ja_up (ja_up (ja_up h 0 7 ((h 0 7) + 1)) 0 7 (((h 0 7) + 1) + 1)) 0 95 ((h 0 95) + 1)) 58 ((h 0 95).toNat) 8) 59 ((h 0 95).toNat) 0) 60 ((h 0 95).toNat) 0) 61 ((h 0 95).toNat) (((h 0 7) + 1) + 1)) 62 ((h 0 95).toNat) 0) 64 ((h 0 95).toNat) (h 0 76)) 65 ((h 0 95).toNat) 0) 66 ((h 0 95).toNat) 0) 67 ((h 0 95).toNat) w47) 0 7 ((((h 0 7) + 1) + 1) + 1)) 0 11 w51) 0 12 w52) 66 ((h 0 95).toNat) w53) 65 ((h 0 95).toNat) w54) Q
                  have g56 := gW_nodeA g55 (h 0 95).toNat (x := w50) ⟨by omega, by omega⟩
                  refine is_nodeA ⟨by omega, by omega⟩ dsingle_376 ?_
                  refine ja_aload_n dsingle_377 rfl rfl ?_
                  refine ja_iload_n dsingle_378 rfl rfl ?_
                  refine t_leaf (by decide) (show (0 : Nat) ≤ 8 by decide) dsingle_379 g56 ⟨by omega, by omega⟩ (show 0 ≤ (h 0 95) ∧ (h 0 95) ≤ 899 by omega) (show (h 0 109) < 400 by omega) ?_
                  intro g57
                  replace g57 : mo_G Zz (ja_up (ja_up (ja_up (ja_up (ja_up (ja_up (ja_up (ja_up (ja_up (ja_up (ja_up (ja_up (ja_up (ja_up (ja_up (ja_up (ja_up (ja_up (ja_up (ja_up h 0 7 ((h 0 7) + 1)) 0 7 (((h 0 7) + 1) + 1)) 0 95 ((h 0 95) + 1)) 58 ((h 0 95).toNat) 8) 59 ((h 0 95).toNat) 0) 60 ((h 0 95).toNat) 0) 61 ((h 0 95).toNat) (((h 0 7) + 1) + 1)) 62 ((h 0 95).toNat) 0) 64 ((h 0 95).toNat) (h 0 76)) 65 ((h 0 95).toNat) 0) 66 ((h 0 95).toNat) 0) 67 ((h 0 95).toNat) w47) 0 7 ((((h 0 7) + 1) + 1) + 1)) 0 11 w51) 0 12 w52) 66 ((h 0 95).toNat) w53) 65 ((h 0 95).toNat) w54) 59 ((h 0 95).toNat) w50) 70 ((h 0 109).toNat) (h 0 95)) 0 109 ((h 0 109) + 1)) := g57
                  show mJ l D cA ad 5 cX12_single 5 (some .boolean) 382 [(4, (0, (((h 0 7) + 1) + 1))), (3, (0, (h 0 95))), (2, (0, (h 0 7))), (1, (0, (h 5 (h 0 7).toNat))), (0, (2, ((0 : Nat) : Int)))] [(0, 1)] (ja_up (ja_up (ja_up (ja_up (ja_up (ja_up (ja_up (ja_up (ja_up (ja_up (ja_up (ja_up (ja_up (ja_up (ja_up (ja_up (ja_up (ja_up (ja_up (ja_up h 0 7 ((h 0 7) + 1)) 0 7 (((h 0 7) + 1) + 1)) 0 95 ((h 0 95) + 1)) 58 ((h 0 95).toNat) 8) 59 ((h 0 95).toNat) 0) 60 ((h 0 95).toNat) 0) 61 ((h 0 95).toNat) (((h 0 7) + 1) + 1)) 62 ((h 0 95).toNat) 0) 64 ((h 0 95).toNat) (h 0 76)) 65 ((h 0 95).toNat) 0) 66 ((h 0 95).toNat) 0) 67 ((h 0 95).toNat) w47) 0 7 ((((h 0 7) + 1) + 1) + 1)) 0 11 w51) 0 12 w52) 66 ((h 0 95).toNat) w53) 65 ((h 0 95).toNat) w54) 59 ((h 0 95).toNat) w50) 70 ((h 0 109).toNat) (h 0 95)) 0 109 ((h 0 109) + 1)) Q
                  refine ja_if_eq 398 dsingle_382 rfl ⟨by decide, by decide⟩ (fun c382 => absurd c382 (by omega)) (fun c382 => ?_)
                  refine ja_aload_n dsingle_385 rfl rfl ?_
                  refine ja_bipush 41 dsingle_386 rfl ?_
                  refine t_sign (by decide) (show (0 : Nat) ≤ 8 by decide) dsingle_388 g57 ⟨by decide, by decide⟩ ?_ ?_
                  · intro k388_0 g58
                    replace k388_0 : ((((h 0 7) + 1) + 1) + 1) < 900 ∧ (h 2 ((((h 0 7) + 1) + 1) + 1).toNat) = 5 ∧ (h 5 ((((h 0 7) + 1) + 1) + 1).toNat) = 41 := k388_0
                    replace g58 : mo_G Zz (ja_up (ja_up (ja_up (ja_up (ja_up (ja_up (ja_up (ja_up (ja_up (ja_up (ja_up (ja_up (ja_up (ja_up (ja_up (ja_up (ja_up (ja_up (ja_up (ja_up (ja_up h 0 7 ((h 0 7) + 1)) 0 7 (((h 0 7) + 1) + 1)) 0 95 ((h 0 95) + 1)) 58 ((h 0 95).toNat) 8) 59 ((h 0 95).toNat) 0) 60 ((h 0 95).toNat) 0) 61 ((h 0 95).toNat) (((h 0 7) + 1) + 1)) 62 ((h 0 95).toNat) 0) 64 ((h 0 95).toNat) (h 0 76)) 65 ((h 0 95).toNat) 0) 66 ((h 0 95).toNat) 0) 67 ((h 0 95).toNat) w47) 0 7 ((((h 0 7) + 1) + 1) + 1)) 0 11 w51) 0 12 w52) 66 ((h 0 95).toNat) w53) 65 ((h 0 95).toNat) w54) 59 ((h 0 95).toNat) w50) 70 ((h 0 109).toNat) (h 0 95)) 0 109 ((h 0 109) + 1)) 0 7 (((((h 0 7) + 1) + 1) + 1) + 1)) := g58
                    show mJ l D cA ad 5 cX12_single 5 (some .boolean) 391 [(4, (0, (((h 0 7) + 1) + 1))), (3, (0, (h 0 95))), (2, (0, (h 0 7))), (1, (0, (h 5 (h 0 7).toNat))), (0, (2, ((0 : Nat) : Int)))] [(0, 1)] (ja_up (ja_up (ja_up (ja_up (ja_up (ja_up (ja_up (ja_up (ja_up (ja_up (ja_up (ja_up (ja_up (ja_up (ja_up (ja_up (ja_up (ja_up (ja_up (ja_up (ja_up h 0 7 ((h 0 7) + 1)) 0 7 (((h 0 7) + 1) + 1)) 0 95 ((h 0 95) + 1)) 58 ((h 0 95).toNat) 8) 59 ((h 0 95).toNat) 0) 60 ((h 0 95).toNat) 0) 61 ((h 0 95).toNat) (((h 0 7) + 1) + 1)) 62 ((h 0 95).toNat) 0) 64 ((h 0 95).toNat) (h 0 76)) 65 ((h 0 95).toNat) 0) 66 ((h 0 95).toNat) 0) 67 ((h 0 95).toNat) w47) 0 7 ((((h 0 7) + 1) + 1) + 1)) 0 11 w51) 0 12 w52) 66 ((h 0 95).toNat) w53) 65 ((h 0 95).toNat) w54) 59 ((h 0 95).toNat) w50) 70 ((h 0 109).toNat) (h 0 95)) 0 109 ((h 0 109) + 1)) 0 7 (((((h 0 7) + 1) + 1) + 1) + 1)) Q
                    refine ja_if_eq 398 dsingle_391 rfl ⟨by decide, by decide⟩ (fun c391 => absurd c391 (by omega)) (fun c391 => ?_)
                    refine ja_iconst dsingle_394 ?_
                    refine ja_goto 399 dsingle_395 rfl ?_
                    refine ja_zreturn dsingle_399 rfl (by omega) ?_
                    exact mo_fin (by omega) rfl (k1 (ja_up (ja_up (ja_up (ja_up (ja_up (ja_up (ja_up (ja_up (ja_up (ja_up (ja_up (ja_up (ja_up (ja_up (ja_up (ja_up (ja_up (ja_up (ja_up (ja_up (ja_up h 0 7 ((h 0 7) + 1)) 0 7 (((h 0 7) + 1) + 1)) 0 95 ((h 0 95) + 1)) 58 ((h 0 95).toNat) 8) 59 ((h 0 95).toNat) 0) 60 ((h 0 95).toNat) 0) 61 ((h 0 95).toNat) (((h 0 7) + 1) + 1)) 62 ((h 0 95).toNat) 0) 64 ((h 0 95).toNat) (h 0 76)) 65 ((h 0 95).toNat) 0) 66 ((h 0 95).toNat) 0) 67 ((h 0 95).toNat) w47) 0 7 ((((h 0 7) + 1) + 1) + 1)) 0 11 w51) 0 12 w52) 66 ((h 0 95).toNat) w53) 65 ((h 0 95).toNat) w54) 59 ((h 0 95).toNat) w50) 70 ((h 0 109).toNat) (h 0 95)) 0 109 ((h 0 109) + 1)) 0 7 (((((h 0 7) + 1) + 1) + 1) + 1)) (ab_leaf g p1 p2 (lf_self1 at2 (by first | (simp [ja_up]; done) | (simp [ja_up]; omega)) (by omega) (by omega) (by omega) (by omega) (by first | (simp [ja_up]; done) | (simp [ja_up]; omega)) (by omega) (by omega))) g58)
                  · intro h59 k388_1 g60
                    replace k388_1 : 0 < (h59 0 8) ∧ (h59 0 1) = (h 0 1) ∧ (h59 0 118) = (h 0 118) ∧ (h59 0 127) = (h 0 127) := k388_1
                    refine ja_if_eq 398 dsingle_391 rfl ⟨by decide, by decide⟩ (fun c391 => ?_) (fun c391 => absurd c391 (by omega))
                    refine ja_iconst dsingle_398 ?_
                    refine ja_zreturn dsingle_399 rfl (by omega) ?_
                    exact mo_fin (by omega) rfl (k2 h59 (by omega) g60)
                · intro g61
                  replace g61 : mo_G Zz (ja_up (ja_up (ja_up (ja_up (ja_up (ja_up (ja_up (ja_up (ja_up (ja_up (ja_up (ja_up (ja_up (ja_up (ja_up (ja_up (ja_up h 0 7 ((h 0 7) + 1)) 0 7 (((h 0 7) + 1) + 1)) 0 95 ((h 0 95) + 1)) 58 ((h 0 95).toNat) 8) 59 ((h 0 95).toNat) 0) 60 ((h 0 95).toNat) 0) 61 ((h 0 95).toNat) (((h 0 7) + 1) + 1)) 62 ((h 0 95).toNat) 0) 64 ((h 0 95).toNat) (h 0 76)) 65 ((h 0 95).toNat) 0) 66 ((h 0 95).toNat) 0) 67 ((h 0 95).toNat) w47) 0 7 ((((h 0 7) + 1) + 1) + 1)) 45 ((h 0 68).toNat) 0) 44 ((h 0 68).toNat) (((h 0 7) + 1) + 1)) 46 ((h 0 68).toNat) 0) 0 68 ((h 0 68) + 1)) := g61
                  show mJ l D cA ad 5 cX12_single 5 (some .boolean) 376 [(4, (0, (((h 0 7) + 1) + 1))), (3, (0, (h 0 95))), (2, (0, (h 0 7))), (1, (0, (h 5 (h 0 7).toNat))), (0, (2, ((0 : Nat) : Int)))] [(0, (1000 + (((h 0 7) + 1) + 1))), (0, (h 0 95)), (2, ((59 : Nat) : Int))] (ja_up (ja_up (ja_up (ja_up (ja_up (ja_up (ja_up (ja_up (ja_up (ja_up (ja_up (ja_up (ja_up (ja_up (ja_up (ja_up (ja_up h 0 7 ((h 0 7) + 1)) 0 7 (((h 0 7) + 1) + 1)) 0 95 ((h 0 95) + 1)) 58 ((h 0 95).toNat) 8) 59 ((h 0 95).toNat) 0) 60 ((h 0 95).toNat) 0) 61 ((h 0 95).toNat) (((h 0 7) + 1) + 1)) 62 ((h 0 95).toNat) 0) 64 ((h 0 95).toNat) (h 0 76)) 65 ((h 0 95).toNat) 0) 66 ((h 0 95).toNat) 0) 67 ((h 0 95).toNat) w47) 0 7 ((((h 0 7) + 1) + 1) + 1)) 45 ((h 0 68).toNat) 0) 44 ((h 0 68).toNat) (((h 0 7) + 1) + 1)) 46 ((h 0 68).toNat) 0) 0 68 ((h 0 68) + 1)) Q
                  have g62 := gW_nodeA g61 (h 0 95).toNat (x := 1000 + (((h 0 7) + 1) + 1)) ⟨by omega, by omega⟩
                  refine is_nodeA ⟨by omega, by omega⟩ dsingle_376 ?_
                  refine ja_aload_n dsingle_377 rfl rfl ?_
                  refine ja_iload_n dsingle_378 rfl rfl ?_
                  refine t_leaf (by decide) (show (0 : Nat) ≤ 8 by decide) dsingle_379 g62 ⟨by omega, by omega⟩ (show 0 ≤ (h 0 95) ∧ (h 0 95) ≤ 899 by omega) (show (h 0 109) < 400 by omega) ?_
                  intro g63
                  replace g63 : mo_G Zz (ja_up (ja_up (ja_up (ja_up (ja_up (ja_up (ja_up (ja_up (ja_up (ja_up (ja_up (ja_up (ja_up (ja_up (ja_up (ja_up (ja_up (ja_up (ja_up (ja_up h 0 7 ((h 0 7) + 1)) 0 7 (((h 0 7) + 1) + 1)) 0 95 ((h 0 95) + 1)) 58 ((h 0 95).toNat) 8) 59 ((h 0 95).toNat) 0) 60 ((h 0 95).toNat) 0) 61 ((h 0 95).toNat) (((h 0 7) + 1) + 1)) 62 ((h 0 95).toNat) 0) 64 ((h 0 95).toNat) (h 0 76)) 65 ((h 0 95).toNat) 0) 66 ((h 0 95).toNat) 0) 67 ((h 0 95).toNat) w47) 0 7 ((((h 0 7) + 1) + 1) + 1)) 45 ((h 0 68).toNat) 0) 44 ((h 0 68).toNat) (((h 0 7) + 1) + 1)) 46 ((h 0 68).toNat) 0) 0 68 ((h 0 68) + 1)) 59 ((h 0 95).toNat) (1000 + (((h 0 7) + 1) + 1))) 70 ((h 0 109).toNat) (h 0 95)) 0 109 ((h 0 109) + 1)) := g63
                  show mJ l D cA ad 5 cX12_single 5 (some .boolean) 382 [(4, (0, (((h 0 7) + 1) + 1))), (3, (0, (h 0 95))), (2, (0, (h 0 7))), (1, (0, (h 5 (h 0 7).toNat))), (0, (2, ((0 : Nat) : Int)))] [(0, 1)] (ja_up (ja_up (ja_up (ja_up (ja_up (ja_up (ja_up (ja_up (ja_up (ja_up (ja_up (ja_up (ja_up (ja_up (ja_up (ja_up (ja_up (ja_up (ja_up (ja_up h 0 7 ((h 0 7) + 1)) 0 7 (((h 0 7) + 1) + 1)) 0 95 ((h 0 95) + 1)) 58 ((h 0 95).toNat) 8) 59 ((h 0 95).toNat) 0) 60 ((h 0 95).toNat) 0) 61 ((h 0 95).toNat) (((h 0 7) + 1) + 1)) 62 ((h 0 95).toNat) 0) 64 ((h 0 95).toNat) (h 0 76)) 65 ((h 0 95).toNat) 0) 66 ((h 0 95).toNat) 0) 67 ((h 0 95).toNat) w47) 0 7 ((((h 0 7) + 1) + 1) + 1)) 45 ((h 0 68).toNat) 0) 44 ((h 0 68).toNat) (((h 0 7) + 1) + 1)) 46 ((h 0 68).toNat) 0) 0 68 ((h 0 68) + 1)) 59 ((h 0 95).toNat) (1000 + (((h 0 7) + 1) + 1))) 70 ((h 0 109).toNat) (h 0 95)) 0 109 ((h 0 109) + 1)) Q
                  refine ja_if_eq 398 dsingle_382 rfl ⟨by decide, by decide⟩ (fun c382 => absurd c382 (by omega)) (fun c382 => ?_)
                  refine ja_aload_n dsingle_385 rfl rfl ?_
                  refine ja_bipush 41 dsingle_386 rfl ?_
                  refine t_sign (by decide) (show (0 : Nat) ≤ 8 by decide) dsingle_388 g63 ⟨by decide, by decide⟩ ?_ ?_
                  · intro k388_0 g64
                    replace k388_0 : ((((h 0 7) + 1) + 1) + 1) < 900 ∧ (h 2 ((((h 0 7) + 1) + 1) + 1).toNat) = 5 ∧ (h 5 ((((h 0 7) + 1) + 1) + 1).toNat) = 41 := k388_0
                    replace g64 : mo_G Zz (ja_up (ja_up (ja_up (ja_up (ja_up (ja_up (ja_up (ja_up (ja_up (ja_up (ja_up (ja_up (ja_up (ja_up (ja_up (ja_up (ja_up (ja_up (ja_up (ja_up (ja_up h 0 7 ((h 0 7) + 1)) 0 7 (((h 0 7) + 1) + 1)) 0 95 ((h 0 95) + 1)) 58 ((h 0 95).toNat) 8) 59 ((h 0 95).toNat) 0) 60 ((h 0 95).toNat) 0) 61 ((h 0 95).toNat) (((h 0 7) + 1) + 1)) 62 ((h 0 95).toNat) 0) 64 ((h 0 95).toNat) (h 0 76)) 65 ((h 0 95).toNat) 0) 66 ((h 0 95).toNat) 0) 67 ((h 0 95).toNat) w47) 0 7 ((((h 0 7) + 1) + 1) + 1)) 45 ((h 0 68).toNat) 0) 44 ((h 0 68).toNat) (((h 0 7) + 1) + 1)) 46 ((h 0 68).toNat) 0) 0 68 ((h 0 68) + 1)) 59 ((h 0 95).toNat) (1000 + (((h 0 7) + 1) + 1))) 70 ((h 0 109).toNat) (h 0 95)) 0 109 ((h 0 109) + 1)) 0 7 (((((h 0 7) + 1) + 1) + 1) + 1)) := g64
                    show mJ l D cA ad 5 cX12_single 5 (some .boolean) 391 [(4, (0, (((h 0 7) + 1) + 1))), (3, (0, (h 0 95))), (2, (0, (h 0 7))), (1, (0, (h 5 (h 0 7).toNat))), (0, (2, ((0 : Nat) : Int)))] [(0, 1)] (ja_up (ja_up (ja_up (ja_up (ja_up (ja_up (ja_up (ja_up (ja_up (ja_up (ja_up (ja_up (ja_up (ja_up (ja_up (ja_up (ja_up (ja_up (ja_up (ja_up (ja_up h 0 7 ((h 0 7) + 1)) 0 7 (((h 0 7) + 1) + 1)) 0 95 ((h 0 95) + 1)) 58 ((h 0 95).toNat) 8) 59 ((h 0 95).toNat) 0) 60 ((h 0 95).toNat) 0) 61 ((h 0 95).toNat) (((h 0 7) + 1) + 1)) 62 ((h 0 95).toNat) 0) 64 ((h 0 95).toNat) (h 0 76)) 65 ((h 0 95).toNat) 0) 66 ((h 0 95).toNat) 0) 67 ((h 0 95).toNat) w47) 0 7 ((((h 0 7) + 1) + 1) + 1)) 45 ((h 0 68).toNat) 0) 44 ((h 0 68).toNat) (((h 0 7) + 1) + 1)) 46 ((h 0 68).toNat) 0) 0 68 ((h 0 68) + 1)) 59 ((h 0 95).toNat) (1000 + (((h 0 7) + 1) + 1))) 70 ((h 0 109).toNat) (h 0 95)) 0 109 ((h 0 109) + 1)) 0 7 (((((h 0 7) + 1) + 1) + 1) + 1)) Q
                    refine ja_if_eq 398 dsingle_391 rfl ⟨by decide, by decide⟩ (fun c391 => absurd c391 (by omega)) (fun c391 => ?_)
                    refine ja_iconst dsingle_394 ?_
                    refine ja_goto 399 dsingle_395 rfl ?_
                    refine ja_zreturn dsingle_399 rfl (by omega) ?_
                    exact mo_fin (by omega) rfl (k1 (ja_up (ja_up (ja_up (ja_up (ja_up (ja_up (ja_up (ja_up (ja_up (ja_up (ja_up (ja_up (ja_up (ja_up (ja_up (ja_up (ja_up (ja_up (ja_up (ja_up (ja_up h 0 7 ((h 0 7) + 1)) 0 7 (((h 0 7) + 1) + 1)) 0 95 ((h 0 95) + 1)) 58 ((h 0 95).toNat) 8) 59 ((h 0 95).toNat) 0) 60 ((h 0 95).toNat) 0) 61 ((h 0 95).toNat) (((h 0 7) + 1) + 1)) 62 ((h 0 95).toNat) 0) 64 ((h 0 95).toNat) (h 0 76)) 65 ((h 0 95).toNat) 0) 66 ((h 0 95).toNat) 0) 67 ((h 0 95).toNat) w47) 0 7 ((((h 0 7) + 1) + 1) + 1)) 45 ((h 0 68).toNat) 0) 44 ((h 0 68).toNat) (((h 0 7) + 1) + 1)) 46 ((h 0 68).toNat) 0) 0 68 ((h 0 68) + 1)) 59 ((h 0 95).toNat) (1000 + (((h 0 7) + 1) + 1))) 70 ((h 0 109).toNat) (h 0 95)) 0 109 ((h 0 109) + 1)) 0 7 (((((h 0 7) + 1) + 1) + 1) + 1)) (ab_leaf g p1 p2 (lf_self2 g at2 (by first | (simp [ja_up]; done) | (simp [ja_up]; omega)) (by omega) (by omega) (by omega) (by omega) (by first | (simp [ja_up]; done) | (simp [ja_up]; omega)) (by omega))) g64)
                  · intro h65 k388_1 g66
                    replace k388_1 : 0 < (h65 0 8) ∧ (h65 0 1) = (h 0 1) ∧ (h65 0 118) = (h 0 118) ∧ (h65 0 127) = (h 0 127) := k388_1
                    refine ja_if_eq 398 dsingle_391 rfl ⟨by decide, by decide⟩ (fun c391 => ?_) (fun c391 => absurd c391 (by omega))
                    refine ja_iconst dsingle_398 ?_
                    refine ja_zreturn dsingle_399 rfl (by omega) ?_
                    exact mo_fin (by omega) rfl (k2 h65 (by omega) g66)
              · intro h67 k356_1 g68
                replace k356_1 : 0 < (h67 0 8) ∧ (h67 0 1) = (h 0 1) ∧ (h67 0 118) = (h 0 118) ∧ (h67 0 127) = (h 0 127) := k356_1
                refine ja_if_ne 364 dsingle_359 rfl ⟨by decide, by decide⟩ (fun c359 => absurd c359 (by omega)) (fun c359 => ?_)
                refine ja_iconst dsingle_362 ?_
                refine ja_zreturn dsingle_363 rfl (by omega) ?_
                exact mo_fin (by omega) rfl (k2 h67 (by omega) g68)
            · refine ja_bipush 7 dsingle_332 rfl ?_
              refine ja_goto 339 dsingle_334 rfl ?_
              refine ja_iconst dsingle_339 ?_
              refine ja_iconst dsingle_340 ?_
              refine ja_aload_n dsingle_341 rfl rfl ?_
              refine fg_at (v := ((h 0 7) + 1) + 1) rfl dsingle_342 ?_
              refine t_node (by decide) (show (0 : Nat) ≤ 8 by decide) dsingle_345 g46 ⟨by decide, by decide⟩ ⟨by decide, by decide⟩ ⟨by decide, by decide⟩ ⟨by omega, by omega⟩ (show 0 ≤ 7 ∧ 7 ≤ 15 by omega) (show 0 ≤ (((h 0 7) + 1) + 1) ∧ (((h 0 7) + 1) + 1) ≤ 900 by omega) (show (h 0 95) < 900 by omega) ?_
              intro w69 k345_0 g70
              replace k345_0 : (w69 = 1 ∧ (h 0 85) = 1) ∨ (w69 = 0 ∧ (h 0 85) = 0) := k345_0
              replace g70 : mo_G Zz (ja_up (ja_up (ja_up (ja_up (ja_up (ja_up (ja_up (ja_up (ja_up (ja_up (ja_up (ja_up h 0 7 ((h 0 7) + 1)) 0 7 (((h 0 7) + 1) + 1)) 0 95 ((h 0 95) + 1)) 58 ((h 0 95).toNat) 7) 59 ((h 0 95).toNat) 0) 60 ((h 0 95).toNat) 0) 61 ((h 0 95).toNat) (((h 0 7) + 1) + 1)) 62 ((h 0 95).toNat) 0) 64 ((h 0 95).toNat) (h 0 76)) 65 ((h 0 95).toNat) 0) 66 ((h 0 95).toNat) 0) 67 ((h 0 95).toNat) w69) := g70
              show mJ l D cA ad 5 cX12_single 5 (some .boolean) 348 [(2, (0, (h 0 7))), (1, (0, (h 5 (h 0 7).toNat))), (0, (2, ((0 : Nat) : Int)))] [(0, (h 0 95))] (ja_up (ja_up (ja_up (ja_up (ja_up (ja_up (ja_up (ja_up (ja_up (ja_up (ja_up (ja_up h 0 7 ((h 0 7) + 1)) 0 7 (((h 0 7) + 1) + 1)) 0 95 ((h 0 95) + 1)) 58 ((h 0 95).toNat) 7) 59 ((h 0 95).toNat) 0) 60 ((h 0 95).toNat) 0) 61 ((h 0 95).toNat) (((h 0 7) + 1) + 1)) 62 ((h 0 95).toNat) 0) 64 ((h 0 95).toNat) (h 0 76)) 65 ((h 0 95).toNat) 0) 66 ((h 0 95).toNat) 0) 67 ((h 0 95).toNat) w69) Q
              refine ja_istore_n dsingle_348 rfl (by decide) (L2 := [(3, (0, (h 0 95))), (2, (0, (h 0 7))), (1, (0, (h 5 (h 0 7).toNat))), (0, (2, ((0 : Nat) : Int)))]) rfl ?_
              refine ja_aload_n dsingle_349 rfl rfl ?_
              refine fg_at (v := ((h 0 7) + 1) + 1) rfl dsingle_350 ?_
              refine ja_istore dsingle_353 (by decide) (L2 := [(4, (0, (((h 0 7) + 1) + 1))), (3, (0, (h 0 95))), (2, (0, (h 0 7))), (1, (0, (h 5 (h 0 7).toNat))), (0, (2, ((0 : Nat) : Int)))]) rfl ?_
              refine ja_aload_n dsingle_355 rfl rfl ?_
              refine t_name (by decide) (show (0 : Nat) ≤ 8 by decide) dsingle_356 g70  ?_ ?_
              · intro k356_0 g71
                replace k356_0 : (((h 0 7) + 1) + 1) < 900 ∧ (h 2 (((h 0 7) + 1) + 1).toNat) = 2 := k356_0
                replace g71 : mo_G Zz (ja_up (ja_up (ja_up (ja_up (ja_up (ja_up (ja_up (ja_up (ja_up (ja_up (ja_up (ja_up (ja_up h 0 7 ((h 0 7) + 1)) 0 7 (((h 0 7) + 1) + 1)) 0 95 ((h 0 95) + 1)) 58 ((h 0 95).toNat) 7) 59 ((h 0 95).toNat) 0) 60 ((h 0 95).toNat) 0) 61 ((h 0 95).toNat) (((h 0 7) + 1) + 1)) 62 ((h 0 95).toNat) 0) 64 ((h 0 95).toNat) (h 0 76)) 65 ((h 0 95).toNat) 0) 66 ((h 0 95).toNat) 0) 67 ((h 0 95).toNat) w69) 0 7 ((((h 0 7) + 1) + 1) + 1)) := g71
                show mJ l D cA ad 5 cX12_single 5 (some .boolean) 359 [(4, (0, (((h 0 7) + 1) + 1))), (3, (0, (h 0 95))), (2, (0, (h 0 7))), (1, (0, (h 5 (h 0 7).toNat))), (0, (2, ((0 : Nat) : Int)))] [(0, 1)] (ja_up (ja_up (ja_up (ja_up (ja_up (ja_up (ja_up (ja_up (ja_up (ja_up (ja_up (ja_up (ja_up h 0 7 ((h 0 7) + 1)) 0 7 (((h 0 7) + 1) + 1)) 0 95 ((h 0 95) + 1)) 58 ((h 0 95).toNat) 7) 59 ((h 0 95).toNat) 0) 60 ((h 0 95).toNat) 0) 61 ((h 0 95).toNat) (((h 0 7) + 1) + 1)) 62 ((h 0 95).toNat) 0) 64 ((h 0 95).toNat) (h 0 76)) 65 ((h 0 95).toNat) 0) 66 ((h 0 95).toNat) 0) 67 ((h 0 95).toNat) w69) 0 7 ((((h 0 7) + 1) + 1) + 1)) Q
                refine ja_if_ne 364 dsingle_359 rfl ⟨by decide, by decide⟩ (fun c359 => ?_) (fun c359 => absurd c359 (by omega))
                refine ja_aload_n dsingle_364 rfl rfl ?_
                refine fa_nodeA dsingle_365 ?_
                refine ja_iload_n dsingle_368 rfl rfl ?_
                refine ja_aload_n dsingle_369 rfl rfl ?_
                refine ja_iload_n dsingle_370 rfl rfl ?_
                refine ja_iload dsingle_371 rfl ?_
                refine t_named (by decide) (show (2 : Nat) ≤ 8 by decide) dsingle_373 g71 ⟨by omega, by omega⟩ ⟨by omega, by omega⟩ (show 0 ≤ (h 0 95) ∧ (h 0 95) ≤ 899 by omega) (show 0 ≤ (((h 0 7) + 1) + 1) ∧ (((h 0 7) + 1) + 1) ≤ 900 by omega) (show (h 0 68) < 900 by omega) ?_ ?_
                · intro w72 w73 w74 w75 w76 k373_0 g77
                  replace k373_0 : 0 ≤ w72 ∧ w72 < (h 0 82) ∧ 0 ≤ w73 ∧ w73 ≤ 8 ∧ (1 ≤ w73 ∨ w73 = (h 0 11)) ∧ -2147483648 ≤ w74 ∧ w74 ≤ 2147483647 ∧ 0 ≤ w75 ∧ w75 ≤ 1 ∧ -2147483648 ≤ w76 ∧ w76 ≤ 2147483647 := k373_0
                  replace g77 : mo_G Zz (ja_up (ja_up (ja_up (ja_up (ja_up (ja_up (ja_up (ja_up (ja_up (ja_up (ja_up (ja_up (ja_up (ja_up (ja_up (ja_up (ja_up h 0 7 ((h 0 7) + 1)) 0 7 (((h 0 7) + 1) + 1)) 0 95 ((h 0 95) + 1)) 58 ((h 0 95).toNat) 7) 59 ((h 0 95).toNat) 0) 60 ((h 0 95).toNat) 0) 61 ((h 0 95).toNat) (((h 0 7) + 1) + 1)) 62 ((h 0 95).toNat) 0) 64 ((h 0 95).toNat) (h 0 76)) 65 ((h 0 95).toNat) 0) 66 ((h 0 95).toNat) 0) 67 ((h 0 95).toNat) w69) 0 7 ((((h 0 7) + 1) + 1) + 1)) 0 11 w73) 0 12 w74) 66 ((h 0 95).toNat) w75) 65 ((h 0 95).toNat) w76) := g77
                  show mJ l D cA ad 5 cX12_single 5 (some .boolean) 376 [(4, (0, (((h 0 7) + 1) + 1))), (3, (0, (h 0 95))), (2, (0, (h 0 7))), (1, (0, (h 5 (h 0 7).toNat))), (0, (2, ((0 : Nat) : Int)))] [(0, w72), (0, (h 0 95)), (2, ((59 : Nat) : Int))] (ja_up (ja_up (ja_up (ja_up (ja_up (ja_up (ja_up (ja_up (ja_up (ja_up (ja_up (ja_up (ja_up (ja_up (ja_up (ja_up (ja_up h 0 7 ((h 0 7) + 1)) 0 7 (((h 0 7) + 1) + 1)) 0 95 ((h 0 95) + 1)) 58 ((h 0 95).toNat) 7) 59 ((h 0 95).toNat) 0) 60 ((h 0 95).toNat) 0) 61 ((h 0 95).toNat) (((h 0 7) + 1) + 1)) 62 ((h 0 95).toNat) 0) 64 ((h 0 95).toNat) (h 0 76)) 65 ((h 0 95).toNat) 0) 66 ((h 0 95).toNat) 0) 67 ((h 0 95).toNat) w69) 0 7 ((((h 0 7) + 1) + 1) + 1)) 0 11 w73) 0 12 w74) 66 ((h 0 95).toNat) w75) 65 ((h 0 95).toNat) w76) Q
                  have g78 := gW_nodeA g77 (h 0 95).toNat (x := w72) ⟨by omega, by omega⟩
                  refine is_nodeA ⟨by omega, by omega⟩ dsingle_376 ?_
                  refine ja_aload_n dsingle_377 rfl rfl ?_
                  refine ja_iload_n dsingle_378 rfl rfl ?_
                  refine t_leaf (by decide) (show (0 : Nat) ≤ 8 by decide) dsingle_379 g78 ⟨by omega, by omega⟩ (show 0 ≤ (h 0 95) ∧ (h 0 95) ≤ 899 by omega) (show (h 0 109) < 400 by omega) ?_
                  intro g79
                  replace g79 : mo_G Zz (ja_up (ja_up (ja_up (ja_up (ja_up (ja_up (ja_up (ja_up (ja_up (ja_up (ja_up (ja_up (ja_up (ja_up (ja_up (ja_up (ja_up (ja_up (ja_up (ja_up h 0 7 ((h 0 7) + 1)) 0 7 (((h 0 7) + 1) + 1)) 0 95 ((h 0 95) + 1)) 58 ((h 0 95).toNat) 7) 59 ((h 0 95).toNat) 0) 60 ((h 0 95).toNat) 0) 61 ((h 0 95).toNat) (((h 0 7) + 1) + 1)) 62 ((h 0 95).toNat) 0) 64 ((h 0 95).toNat) (h 0 76)) 65 ((h 0 95).toNat) 0) 66 ((h 0 95).toNat) 0) 67 ((h 0 95).toNat) w69) 0 7 ((((h 0 7) + 1) + 1) + 1)) 0 11 w73) 0 12 w74) 66 ((h 0 95).toNat) w75) 65 ((h 0 95).toNat) w76) 59 ((h 0 95).toNat) w72) 70 ((h 0 109).toNat) (h 0 95)) 0 109 ((h 0 109) + 1)) := g79
                  show mJ l D cA ad 5 cX12_single 5 (some .boolean) 382 [(4, (0, (((h 0 7) + 1) + 1))), (3, (0, (h 0 95))), (2, (0, (h 0 7))), (1, (0, (h 5 (h 0 7).toNat))), (0, (2, ((0 : Nat) : Int)))] [(0, 1)] (ja_up (ja_up (ja_up (ja_up (ja_up (ja_up (ja_up (ja_up (ja_up (ja_up (ja_up (ja_up (ja_up (ja_up (ja_up (ja_up (ja_up (ja_up (ja_up (ja_up h 0 7 ((h 0 7) + 1)) 0 7 (((h 0 7) + 1) + 1)) 0 95 ((h 0 95) + 1)) 58 ((h 0 95).toNat) 7) 59 ((h 0 95).toNat) 0) 60 ((h 0 95).toNat) 0) 61 ((h 0 95).toNat) (((h 0 7) + 1) + 1)) 62 ((h 0 95).toNat) 0) 64 ((h 0 95).toNat) (h 0 76)) 65 ((h 0 95).toNat) 0) 66 ((h 0 95).toNat) 0) 67 ((h 0 95).toNat) w69) 0 7 ((((h 0 7) + 1) + 1) + 1)) 0 11 w73) 0 12 w74) 66 ((h 0 95).toNat) w75) 65 ((h 0 95).toNat) w76) 59 ((h 0 95).toNat) w72) 70 ((h 0 109).toNat) (h 0 95)) 0 109 ((h 0 109) + 1)) Q
                  refine ja_if_eq 398 dsingle_382 rfl ⟨by decide, by decide⟩ (fun c382 => absurd c382 (by omega)) (fun c382 => ?_)
                  refine ja_aload_n dsingle_385 rfl rfl ?_
                  refine ja_bipush 41 dsingle_386 rfl ?_
                  refine t_sign (by decide) (show (0 : Nat) ≤ 8 by decide) dsingle_388 g79 ⟨by decide, by decide⟩ ?_ ?_
                  · intro k388_0 g80
                    replace k388_0 : ((((h 0 7) + 1) + 1) + 1) < 900 ∧ (h 2 ((((h 0 7) + 1) + 1) + 1).toNat) = 5 ∧ (h 5 ((((h 0 7) + 1) + 1) + 1).toNat) = 41 := k388_0
                    replace g80 : mo_G Zz (ja_up (ja_up (ja_up (ja_up (ja_up (ja_up (ja_up (ja_up (ja_up (ja_up (ja_up (ja_up (ja_up (ja_up (ja_up (ja_up (ja_up (ja_up (ja_up (ja_up (ja_up h 0 7 ((h 0 7) + 1)) 0 7 (((h 0 7) + 1) + 1)) 0 95 ((h 0 95) + 1)) 58 ((h 0 95).toNat) 7) 59 ((h 0 95).toNat) 0) 60 ((h 0 95).toNat) 0) 61 ((h 0 95).toNat) (((h 0 7) + 1) + 1)) 62 ((h 0 95).toNat) 0) 64 ((h 0 95).toNat) (h 0 76)) 65 ((h 0 95).toNat) 0) 66 ((h 0 95).toNat) 0) 67 ((h 0 95).toNat) w69) 0 7 ((((h 0 7) + 1) + 1) + 1)) 0 11 w73) 0 12 w74) 66 ((h 0 95).toNat) w75) 65 ((h 0 95).toNat) w76) 59 ((h 0 95).toNat) w72) 70 ((h 0 109).toNat) (h 0 95)) 0 109 ((h 0 109) + 1)) 0 7 (((((h 0 7) + 1) + 1) + 1) + 1)) := g80
                    show mJ l D cA ad 5 cX12_single 5 (some .boolean) 391 [(4, (0, (((h 0 7) + 1) + 1))), (3, (0, (h 0 95))), (2, (0, (h 0 7))), (1, (0, (h 5 (h 0 7).toNat))), (0, (2, ((0 : Nat) : Int)))] [(0, 1)] (ja_up (ja_up (ja_up (ja_up (ja_up (ja_up (ja_up (ja_up (ja_up (ja_up (ja_up (ja_up (ja_up (ja_up (ja_up (ja_up (ja_up (ja_up (ja_up (ja_up (ja_up h 0 7 ((h 0 7) + 1)) 0 7 (((h 0 7) + 1) + 1)) 0 95 ((h 0 95) + 1)) 58 ((h 0 95).toNat) 7) 59 ((h 0 95).toNat) 0) 60 ((h 0 95).toNat) 0) 61 ((h 0 95).toNat) (((h 0 7) + 1) + 1)) 62 ((h 0 95).toNat) 0) 64 ((h 0 95).toNat) (h 0 76)) 65 ((h 0 95).toNat) 0) 66 ((h 0 95).toNat) 0) 67 ((h 0 95).toNat) w69) 0 7 ((((h 0 7) + 1) + 1) + 1)) 0 11 w73) 0 12 w74) 66 ((h 0 95).toNat) w75) 65 ((h 0 95).toNat) w76) 59 ((h 0 95).toNat) w72) 70 ((h 0 109).toNat) (h 0 95)) 0 109 ((h 0 109) + 1)) 0 7 (((((h 0 7) + 1) + 1) + 1) + 1)) Q
                    refine ja_if_eq 398 dsingle_391 rfl ⟨by decide, by decide⟩ (fun c391 => absurd c391 (by omega)) (fun c391 => ?_)
                    refine ja_iconst dsingle_394 ?_
                    refine ja_goto 399 dsingle_395 rfl ?_
                    refine ja_zreturn dsingle_399 rfl (by omega) ?_
                    exact mo_fin (by omega) rfl (k1 (ja_up (ja_up (ja_up (ja_up (ja_up (ja_up (ja_up (ja_up (ja_up (ja_up (ja_up (ja_up (ja_up (ja_up (ja_up (ja_up (ja_up (ja_up (ja_up (ja_up (ja_up h 0 7 ((h 0 7) + 1)) 0 7 (((h 0 7) + 1) + 1)) 0 95 ((h 0 95) + 1)) 58 ((h 0 95).toNat) 7) 59 ((h 0 95).toNat) 0) 60 ((h 0 95).toNat) 0) 61 ((h 0 95).toNat) (((h 0 7) + 1) + 1)) 62 ((h 0 95).toNat) 0) 64 ((h 0 95).toNat) (h 0 76)) 65 ((h 0 95).toNat) 0) 66 ((h 0 95).toNat) 0) 67 ((h 0 95).toNat) w69) 0 7 ((((h 0 7) + 1) + 1) + 1)) 0 11 w73) 0 12 w74) 66 ((h 0 95).toNat) w75) 65 ((h 0 95).toNat) w76) 59 ((h 0 95).toNat) w72) 70 ((h 0 109).toNat) (h 0 95)) 0 109 ((h 0 109) + 1)) 0 7 (((((h 0 7) + 1) + 1) + 1) + 1)) (ab_leaf g p1 p2 (lf_self1 at2 (by first | (simp [ja_up]; done) | (simp [ja_up]; omega)) (by omega) (by omega) (by omega) (by omega) (by first | (simp [ja_up]; done) | (simp [ja_up]; omega)) (by omega) (by omega))) g80)
                  · intro h81 k388_1 g82
                    replace k388_1 : 0 < (h81 0 8) ∧ (h81 0 1) = (h 0 1) ∧ (h81 0 118) = (h 0 118) ∧ (h81 0 127) = (h 0 127) := k388_1
                    refine ja_if_eq 398 dsingle_391 rfl ⟨by decide, by decide⟩ (fun c391 => ?_) (fun c391 => absurd c391 (by omega))
                    refine ja_iconst dsingle_398 ?_
                    refine ja_zreturn dsingle_399 rfl (by omega) ?_
                    exact mo_fin (by omega) rfl (k2 h81 (by omega) g82)
                · intro g83
                  replace g83 : mo_G Zz (ja_up (ja_up (ja_up (ja_up (ja_up (ja_up (ja_up (ja_up (ja_up (ja_up (ja_up (ja_up (ja_up (ja_up (ja_up (ja_up (ja_up h 0 7 ((h 0 7) + 1)) 0 7 (((h 0 7) + 1) + 1)) 0 95 ((h 0 95) + 1)) 58 ((h 0 95).toNat) 7) 59 ((h 0 95).toNat) 0) 60 ((h 0 95).toNat) 0) 61 ((h 0 95).toNat) (((h 0 7) + 1) + 1)) 62 ((h 0 95).toNat) 0) 64 ((h 0 95).toNat) (h 0 76)) 65 ((h 0 95).toNat) 0) 66 ((h 0 95).toNat) 0) 67 ((h 0 95).toNat) w69) 0 7 ((((h 0 7) + 1) + 1) + 1)) 45 ((h 0 68).toNat) 0) 44 ((h 0 68).toNat) (((h 0 7) + 1) + 1)) 46 ((h 0 68).toNat) 0) 0 68 ((h 0 68) + 1)) := g83
                  show mJ l D cA ad 5 cX12_single 5 (some .boolean) 376 [(4, (0, (((h 0 7) + 1) + 1))), (3, (0, (h 0 95))), (2, (0, (h 0 7))), (1, (0, (h 5 (h 0 7).toNat))), (0, (2, ((0 : Nat) : Int)))] [(0, (1000 + (((h 0 7) + 1) + 1))), (0, (h 0 95)), (2, ((59 : Nat) : Int))] (ja_up (ja_up (ja_up (ja_up (ja_up (ja_up (ja_up (ja_up (ja_up (ja_up (ja_up (ja_up (ja_up (ja_up (ja_up (ja_up (ja_up h 0 7 ((h 0 7) + 1)) 0 7 (((h 0 7) + 1) + 1)) 0 95 ((h 0 95) + 1)) 58 ((h 0 95).toNat) 7) 59 ((h 0 95).toNat) 0) 60 ((h 0 95).toNat) 0) 61 ((h 0 95).toNat) (((h 0 7) + 1) + 1)) 62 ((h 0 95).toNat) 0) 64 ((h 0 95).toNat) (h 0 76)) 65 ((h 0 95).toNat) 0) 66 ((h 0 95).toNat) 0) 67 ((h 0 95).toNat) w69) 0 7 ((((h 0 7) + 1) + 1) + 1)) 45 ((h 0 68).toNat) 0) 44 ((h 0 68).toNat) (((h 0 7) + 1) + 1)) 46 ((h 0 68).toNat) 0) 0 68 ((h 0 68) + 1)) Q
                  have g84 := gW_nodeA g83 (h 0 95).toNat (x := 1000 + (((h 0 7) + 1) + 1)) ⟨by omega, by omega⟩
                  refine is_nodeA ⟨by omega, by omega⟩ dsingle_376 ?_
                  refine ja_aload_n dsingle_377 rfl rfl ?_
                  refine ja_iload_n dsingle_378 rfl rfl ?_
                  refine t_leaf (by decide) (show (0 : Nat) ≤ 8 by decide) dsingle_379 g84 ⟨by omega, by omega⟩ (show 0 ≤ (h 0 95) ∧ (h 0 95) ≤ 899 by omega) (show (h 0 109) < 400 by omega) ?_
                  intro g85
                  replace g85 : mo_G Zz (ja_up (ja_up (ja_up (ja_up (ja_up (ja_up (ja_up (ja_up (ja_up (ja_up (ja_up (ja_up (ja_up (ja_up (ja_up (ja_up (ja_up (ja_up (ja_up (ja_up h 0 7 ((h 0 7) + 1)) 0 7 (((h 0 7) + 1) + 1)) 0 95 ((h 0 95) + 1)) 58 ((h 0 95).toNat) 7) 59 ((h 0 95).toNat) 0) 60 ((h 0 95).toNat) 0) 61 ((h 0 95).toNat) (((h 0 7) + 1) + 1)) 62 ((h 0 95).toNat) 0) 64 ((h 0 95).toNat) (h 0 76)) 65 ((h 0 95).toNat) 0) 66 ((h 0 95).toNat) 0) 67 ((h 0 95).toNat) w69) 0 7 ((((h 0 7) + 1) + 1) + 1)) 45 ((h 0 68).toNat) 0) 44 ((h 0 68).toNat) (((h 0 7) + 1) + 1)) 46 ((h 0 68).toNat) 0) 0 68 ((h 0 68) + 1)) 59 ((h 0 95).toNat) (1000 + (((h 0 7) + 1) + 1))) 70 ((h 0 109).toNat) (h 0 95)) 0 109 ((h 0 109) + 1)) := g85
                  show mJ l D cA ad 5 cX12_single 5 (some .boolean) 382 [(4, (0, (((h 0 7) + 1) + 1))), (3, (0, (h 0 95))), (2, (0, (h 0 7))), (1, (0, (h 5 (h 0 7).toNat))), (0, (2, ((0 : Nat) : Int)))] [(0, 1)] (ja_up (ja_up (ja_up (ja_up (ja_up (ja_up (ja_up (ja_up (ja_up (ja_up (ja_up (ja_up (ja_up (ja_up (ja_up (ja_up (ja_up (ja_up (ja_up (ja_up h 0 7 ((h 0 7) + 1)) 0 7 (((h 0 7) + 1) + 1)) 0 95 ((h 0 95) + 1)) 58 ((h 0 95).toNat) 7) 59 ((h 0 95).toNat) 0) 60 ((h 0 95).toNat) 0) 61 ((h 0 95).toNat) (((h 0 7) + 1) + 1)) 62 ((h 0 95).toNat) 0) 64 ((h 0 95).toNat) (h 0 76)) 65 ((h 0 95).toNat) 0) 66 ((h 0 95).toNat) 0) 67 ((h 0 95).toNat) w69) 0 7 ((((h 0 7) + 1) + 1) + 1)) 45 ((h 0 68).toNat) 0) 44 ((h 0 68).toNat) (((h 0 7) + 1) + 1)) 46 ((h 0 68).toNat) 0) 0 68 ((h 0 68) + 1)) 59 ((h 0 95).toNat) (1000 + (((h 0 7) + 1) + 1))) 70 ((h 0 109).toNat) (h 0 95)) 0 109 ((h 0 109) + 1)) Q
                  refine ja_if_eq 398 dsingle_382 rfl ⟨by decide, by decide⟩ (fun c382 => absurd c382 (by omega)) (fun c382 => ?_)
                  refine ja_aload_n dsingle_385 rfl rfl ?_
                  refine ja_bipush 41 dsingle_386 rfl ?_
                  refine t_sign (by decide) (show (0 : Nat) ≤ 8 by decide) dsingle_388 g85 ⟨by decide, by decide⟩ ?_ ?_
                  · intro k388_0 g86
                    replace k388_0 : ((((h 0 7) + 1) + 1) + 1) < 900 ∧ (h 2 ((((h 0 7) + 1) + 1) + 1).toNat) = 5 ∧ (h 5 ((((h 0 7) + 1) + 1) + 1).toNat) = 41 := k388_0
                    replace g86 : mo_G Zz (ja_up (ja_up (ja_up (ja_up (ja_up (ja_up (ja_up (ja_up (ja_up (ja_up (ja_up (ja_up (ja_up (ja_up (ja_up (ja_up (ja_up (ja_up (ja_up (ja_up (ja_up h 0 7 ((h 0 7) + 1)) 0 7 (((h 0 7) + 1) + 1)) 0 95 ((h 0 95) + 1)) 58 ((h 0 95).toNat) 7) 59 ((h 0 95).toNat) 0) 60 ((h 0 95).toNat) 0) 61 ((h 0 95).toNat) (((h 0 7) + 1) + 1)) 62 ((h 0 95).toNat) 0) 64 ((h 0 95).toNat) (h 0 76)) 65 ((h 0 95).toNat) 0) 66 ((h 0 95).toNat) 0) 67 ((h 0 95).toNat) w69) 0 7 ((((h 0 7) + 1) + 1) + 1)) 45 ((h 0 68).toNat) 0) 44 ((h 0 68).toNat) (((h 0 7) + 1) + 1)) 46 ((h 0 68).toNat) 0) 0 68 ((h 0 68) + 1)) 59 ((h 0 95).toNat) (1000 + (((h 0 7) + 1) + 1))) 70 ((h 0 109).toNat) (h 0 95)) 0 109 ((h 0 109) + 1)) 0 7 (((((h 0 7) + 1) + 1) + 1) + 1)) := g86
                    show mJ l D cA ad 5 cX12_single 5 (some .boolean) 391 [(4, (0, (((h 0 7) + 1) + 1))), (3, (0, (h 0 95))), (2, (0, (h 0 7))), (1, (0, (h 5 (h 0 7).toNat))), (0, (2, ((0 : Nat) : Int)))] [(0, 1)] (ja_up (ja_up (ja_up (ja_up (ja_up (ja_up (ja_up (ja_up (ja_up (ja_up (ja_up (ja_up (ja_up (ja_up (ja_up (ja_up (ja_up (ja_up (ja_up (ja_up (ja_up h 0 7 ((h 0 7) + 1)) 0 7 (((h 0 7) + 1) + 1)) 0 95 ((h 0 95) + 1)) 58 ((h 0 95).toNat) 7) 59 ((h 0 95).toNat) 0) 60 ((h 0 95).toNat) 0) 61 ((h 0 95).toNat) (((h 0 7) + 1) + 1)) 62 ((h 0 95).toNat) 0) 64 ((h 0 95).toNat) (h 0 76)) 65 ((h 0 95).toNat) 0) 66 ((h 0 95).toNat) 0) 67 ((h 0 95).toNat) w69) 0 7 ((((h 0 7) + 1) + 1) + 1)) 45 ((h 0 68).toNat) 0) 44 ((h 0 68).toNat) (((h 0 7) + 1) + 1)) 46 ((h 0 68).toNat) 0) 0 68 ((h 0 68) + 1)) 59 ((h 0 95).toNat) (1000 + (((h 0 7) + 1) + 1))) 70 ((h 0 109).toNat) (h 0 95)) 0 109 ((h 0 109) + 1)) 0 7 (((((h 0 7) + 1) + 1) + 1) + 1)) Q
                    refine ja_if_eq 398 dsingle_391 rfl ⟨by decide, by decide⟩ (fun c391 => absurd c391 (by omega)) (fun c391 => ?_)
                    refine ja_iconst dsingle_394 ?_
                    refine ja_goto 399 dsingle_395 rfl ?_
                    refine ja_zreturn dsingle_399 rfl (by omega) ?_
                    exact mo_fin (by omega) rfl (k1 (ja_up (ja_up (ja_up (ja_up (ja_up (ja_up (ja_up (ja_up (ja_up (ja_up (ja_up (ja_up (ja_up (ja_up (ja_up (ja_up (ja_up (ja_up (ja_up (ja_up (ja_up h 0 7 ((h 0 7) + 1)) 0 7 (((h 0 7) + 1) + 1)) 0 95 ((h 0 95) + 1)) 58 ((h 0 95).toNat) 7) 59 ((h 0 95).toNat) 0) 60 ((h 0 95).toNat) 0) 61 ((h 0 95).toNat) (((h 0 7) + 1) + 1)) 62 ((h 0 95).toNat) 0) 64 ((h 0 95).toNat) (h 0 76)) 65 ((h 0 95).toNat) 0) 66 ((h 0 95).toNat) 0) 67 ((h 0 95).toNat) w69) 0 7 ((((h 0 7) + 1) + 1) + 1)) 45 ((h 0 68).toNat) 0) 44 ((h 0 68).toNat) (((h 0 7) + 1) + 1)) 46 ((h 0 68).toNat) 0) 0 68 ((h 0 68) + 1)) 59 ((h 0 95).toNat) (1000 + (((h 0 7) + 1) + 1))) 70 ((h 0 109).toNat) (h 0 95)) 0 109 ((h 0 109) + 1)) 0 7 (((((h 0 7) + 1) + 1) + 1) + 1)) (ab_leaf g p1 p2 (lf_self2 g at2 (by first | (simp [ja_up]; done) | (simp [ja_up]; omega)) (by omega) (by omega) (by omega) (by omega) (by first | (simp [ja_up]; done) | (simp [ja_up]; omega)) (by omega))) g86)
                  · intro h87 k388_1 g88
                    replace k388_1 : 0 < (h87 0 8) ∧ (h87 0 1) = (h 0 1) ∧ (h87 0 118) = (h 0 118) ∧ (h87 0 127) = (h 0 127) := k388_1
                    refine ja_if_eq 398 dsingle_391 rfl ⟨by decide, by decide⟩ (fun c391 => ?_) (fun c391 => absurd c391 (by omega))
                    refine ja_iconst dsingle_398 ?_
                    refine ja_zreturn dsingle_399 rfl (by omega) ?_
                    exact mo_fin (by omega) rfl (k2 h87 (by omega) g88)
              · intro h89 k356_1 g90
                replace k356_1 : 0 < (h89 0 8) ∧ (h89 0 1) = (h 0 1) ∧ (h89 0 118) = (h 0 118) ∧ (h89 0 127) = (h 0 127) := k356_1
                refine ja_if_ne 364 dsingle_359 rfl ⟨by decide, by decide⟩ (fun c359 => absurd c359 (by omega)) (fun c359 => ?_)
                refine ja_iconst dsingle_362 ?_
                refine ja_zreturn dsingle_363 rfl (by omega) ?_
                exact mo_fin (by omega) rfl (k2 h89 (by omega) g90)
          · intro h91 k317_1 g92
            replace k317_1 : 0 < (h91 0 8) ∧ (h91 0 1) = (h 0 1) ∧ (h91 0 118) = (h 0 118) ∧ (h91 0 127) = (h 0 127) := k317_1
            refine ja_if_ne 325 dsingle_320 rfl ⟨by decide, by decide⟩ (fun c320 => absurd c320 (by omega)) (fun c320 => ?_)
            refine ja_iconst dsingle_323 ?_
            refine ja_zreturn dsingle_324 rfl (by omega) ?_
            exact mo_fin (by omega) rfl (k2 h91 (by omega) g92)
        · intro h93 k308_1 g94
          refine ja_if_eq 323 dsingle_311 rfl ⟨by decide, by decide⟩ (fun c311 => ?_) (fun c311 => absurd c311 (by omega))
          refine ja_iconst dsingle_323 ?_
          refine ja_zreturn dsingle_324 rfl (by omega) ?_
          exact mo_fin (by omega) rfl (k2 h93 (by omega) g94)
      have T75_429 : (¬ h 5 (h 0 7).toNat = 2 ∧ ¬ h 5 (h 0 7).toNat = 9 ∧ ¬ h 5 (h 0 7).toNat = 15 ∧ ¬ h 5 (h 0 7).toNat = 19 ∧ ¬ h 5 (h 0 7).toNat = 36 ∧ ¬ h 5 (h 0 7).toNat = 38) → mJ l D cA ad 5 cX12_single 5 (some .boolean) 429 [(2, (0, (h 0 7))), (1, (0, (h 5 (h 0 7).toNat))), (0, (2, ((0 : Nat) : Int)))] [] h Q := by
        intro e75
        refine ja_aload_n dsingle_429 rfl rfl ?_
        refine ja_iload_n dsingle_430 rfl rfl ?_
        refine t_pattern (by decide) (show (0 : Nat) ≤ 8 by decide) dsingle_431 g ⟨by omega, by omega⟩ (show pk_S h (h 0 17).toNat s by omega) (show piB h R r ph tf q0 ((31, b, c) :: s) ht st rg tu by omega) (p3) ?_ ?_
        · intro h95 k431_0 g96
          refine ja_zreturn dsingle_434 rfl (by omega) ?_
          exact mo_fin (by omega) rfl (k1 h95 (k431_0) g96)
        · intro h97 k431_1 g98
          refine ja_zreturn dsingle_434 rfl (by omega) ?_
          exact mo_fin (by omega) rfl (k2 h97 (by omega) g98)
      rcases (by omega : h 5 (h 0 7).toNat = 2 ∨ h 5 (h 0 7).toNat = 9 ∨ h 5 (h 0 7).toNat = 15 ∨ h 5 (h 0 7).toNat = 19 ∨ h 5 (h 0 7).toNat = 36 ∨ h 5 (h 0 7).toNat = 38 ∨ (¬ h 5 (h 0 7).toNat = 2 ∧ ¬ h 5 (h 0 7).toNat = 9 ∧ ¬ h 5 (h 0 7).toNat = 15 ∧ ¬ h 5 (h 0 7).toNat = 19 ∧ ¬ h 5 (h 0 7).toNat = 36 ∧ ¬ h 5 (h 0 7).toNat = 38)) with e | e | e | e | e | e | e
      · exact ja_lookup 325 400 dsingle_75 (by decide) ⟨by omega, by omega⟩ (by rw [e]; rfl) rfl (T75_400 (by omega))
      · exact ja_lookup 204 279 dsingle_75 (by decide) ⟨by omega, by omega⟩ (by rw [e]; rfl) rfl (T75_279 (by omega))
      · exact ja_lookup 57 132 dsingle_75 (by decide) ⟨by omega, by omega⟩ (by rw [e]; rfl) rfl (T75_132 (by omega))
      · exact ja_lookup 136 211 dsingle_75 (by decide) ⟨by omega, by omega⟩ (by rw [e]; rfl) rfl (T75_211 (by omega))
      · exact ja_lookup 232 307 dsingle_75 (by decide) ⟨by omega, by omega⟩ (by rw [e]; rfl) rfl (T75_307 (by omega))
      · exact ja_lookup 232 307 dsingle_75 (by decide) ⟨by omega, by omega⟩ (by rw [e]; rfl) rfl (T75_307 (by omega))
      · refine ja_lookup 354 429 dsingle_75 (by decide) ⟨by omega, by omega⟩ ?_ rfl (T75_429 (by omega))
        simp only [Op.lookupswitch.offset]; repeat (rw [if_neg (by omega)])
    · have z51 := is1v k48_0 c51
      replace k48_0 := is1 k48_0 c51
      refine ja_aload_n dsingle_54 rfl rfl ?_
      refine t_use (by decide) (show (0 : Nat) ≤ 8 by decide) dsingle_55 g (show pk_S h (h 0 17).toNat s by omega) (show piB h R r ph tf q0 ((31, b, c) :: s) ht st rg tu by omega) (p3) (show (h 0 85) = 0 by omega) ?_ ?_
      · intro h99 k55_0 g100
        refine ja_zreturn dsingle_58 rfl (by omega) ?_
        exact mo_fin (by omega) rfl (k1 h99 (k55_0) g100)
      · intro h101 k55_1 g102
        refine ja_zreturn dsingle_58 rfl (by omega) ?_
        exact mo_fin (by omega) rfl (k2 h101 (by omega) g102)
  · have z6 := is1v k3_0 c6
    replace k3_0 := is1 k3_0 c6
    refine ja_aload_n dsingle_9 rfl rfl ?_
    refine t_take (by decide) (show (0 : Nat) ≤ 8 by decide) dsingle_10 g  ?_ ?_
    · intro k10_0 g103
      replace k10_0 : (h 0 7) < 900 := k10_0
      replace g103 : mo_G Zz (ja_up h 0 7 ((h 0 7) + 1)) := g103
      show mJ l D cA ad 5 cX12_single 5 (some .boolean) 13 [(0, (2, ((0 : Nat) : Int)))] [(0, 1)] (ja_up h 0 7 ((h 0 7) + 1)) Q
      refine ja_if_eq 45 dsingle_13 rfl ⟨by decide, by decide⟩ (fun c13 => absurd c13 (by omega)) (fun c13 => ?_)
      refine ja_aload_n dsingle_16 rfl rfl ?_
      refine ja_bipush 37 dsingle_17 rfl ?_
      refine ja_bipush 41 dsingle_19 rfl ?_
      refine ja_iconst dsingle_21 ?_
      refine ja_iconst dsingle_22 ?_
      refine t_later (by decide) (show (0 : Nat) ≤ 8 by decide) dsingle_23 g103 ⟨by decide, by decide⟩ ⟨by decide, by decide⟩ ⟨by decide, by decide⟩ ⟨by decide, by decide⟩ (show 0 ≤ 37 ∧ 37 ≤ 38 by omega) (show (h 0 17) < 2000 by omega) ?_
      intro g104
      replace g104 : mo_G Zz (ja_up (ja_up (ja_up (ja_up (ja_up (ja_up h 0 7 ((h 0 7) + 1)) 6 ((h 0 17).toNat) 37) 7 ((h 0 17).toNat) 41) 8 ((h 0 17).toNat) 0) 9 ((h 0 17).toNat) 0) 0 17 ((h 0 17) + 1)) := g104
      show mJ l D cA ad 5 cX12_single 5 (some .boolean) 26 [(0, (2, ((0 : Nat) : Int)))] [(0, 1)] (ja_up (ja_up (ja_up (ja_up (ja_up (ja_up h 0 7 ((h 0 7) + 1)) 6 ((h 0 17).toNat) 37) 7 ((h 0 17).toNat) 41) 8 ((h 0 17).toNat) 0) 9 ((h 0 17).toNat) 0) 0 17 ((h 0 17) + 1)) Q
      refine ja_if_eq 45 dsingle_26 rfl ⟨by decide, by decide⟩ (fun c26 => absurd c26 (by omega)) (fun c26 => ?_)
      refine ja_aload_n dsingle_29 rfl rfl ?_
      refine ja_bipush 31 dsingle_30 rfl ?_
      refine ja_iconst dsingle_32 ?_
      refine ja_iconst dsingle_33 ?_
      refine ja_iconst dsingle_34 ?_
      refine t_later (by decide) (show (0 : Nat) ≤ 8 by decide) dsingle_35 g104 ⟨by decide, by decide⟩ ⟨by decide, by decide⟩ ⟨by decide, by decide⟩ ⟨by decide, by decide⟩ (show 0 ≤ 31 ∧ 31 ≤ 38 by omega) (show ((h 0 17) + 1) < 2000 by omega) ?_
      intro g105
      replace g105 : mo_G Zz (ja_up (ja_up (ja_up (ja_up (ja_up (ja_up (ja_up (ja_up (ja_up (ja_up (ja_up h 0 7 ((h 0 7) + 1)) 6 ((h 0 17).toNat) 37) 7 ((h 0 17).toNat) 41) 8 ((h 0 17).toNat) 0) 9 ((h 0 17).toNat) 0) 0 17 ((h 0 17) + 1)) 6 (((h 0 17) + 1).toNat) 31) 7 (((h 0 17) + 1).toNat) 0) 8 (((h 0 17) + 1).toNat) 0) 9 (((h 0 17) + 1).toNat) 0) 0 17 (((h 0 17) + 1) + 1)) := g105
      show mJ l D cA ad 5 cX12_single 5 (some .boolean) 38 [(0, (2, ((0 : Nat) : Int)))] [(0, 1)] (ja_up (ja_up (ja_up (ja_up (ja_up (ja_up (ja_up (ja_up (ja_up (ja_up (ja_up h 0 7 ((h 0 7) + 1)) 6 ((h 0 17).toNat) 37) 7 ((h 0 17).toNat) 41) 8 ((h 0 17).toNat) 0) 9 ((h 0 17).toNat) 0) 0 17 ((h 0 17) + 1)) 6 (((h 0 17) + 1).toNat) 31) 7 (((h 0 17) + 1).toNat) 0) 8 (((h 0 17) + 1).toNat) 0) 9 (((h 0 17) + 1).toNat) 0) 0 17 (((h 0 17) + 1) + 1)) Q
      refine ja_if_eq 45 dsingle_38 rfl ⟨by decide, by decide⟩ (fun c38 => absurd c38 (by omega)) (fun c38 => ?_)
      refine ja_iconst dsingle_41 ?_
      refine ja_goto 46 dsingle_42 rfl ?_
      refine ja_zreturn dsingle_46 rfl (by omega) ?_
      exact mo_fin (by omega) rfl (k1 (ja_up (ja_up (ja_up (ja_up (ja_up (ja_up (ja_up (ja_up (ja_up (ja_up (ja_up h 0 7 ((h 0 7) + 1)) 6 ((h 0 17).toNat) 37) 7 ((h 0 17).toNat) 41) 8 ((h 0 17).toNat) 0) 9 ((h 0 17).toNat) 0) 0 17 ((h 0 17) + 1)) 6 (((h 0 17) + 1).toNat) 31) 7 (((h 0 17) + 1).toNat) 0) 8 (((h 0 17) + 1).toNat) 0) 9 (((h 0 17) + 1).toNat) 0) 0 17 (((h 0 17) + 1) + 1)) (ab_s_br g p1 p2 p3) g105)
    · intro h106 k10_1 g107
      refine ja_if_eq 45 dsingle_13 rfl ⟨by decide, by decide⟩ (fun c13 => ?_) (fun c13 => absurd c13 (by omega))
      refine ja_iconst dsingle_45 ?_
      refine ja_zreturn dsingle_46 rfl (by omega) ?_
      exact mo_fin (by omega) rfl (k2 h106 (by omega) g107)
theorem t_single {R r ph q0 b c : Int} {tf : mo_TF} {s : List mo_A} {ht st rg : Nat → Int} {tu : Int} {d nL pc : Nat} {cc : ByteArray} {rt : Option FieldType} {L : List (Nat × ja_V)} {S : List ja_V} {h : ja_H} {Q : Option ja_V → ja_H → Prop} (hdd : 5 < d) (hwd : ja_wd S ≤ 8) (hd : decode cc pc = .ok (.invokevirtual 872, 3)) (g : mo_G Zz h) (p1 : pk_S h (h 0 17).toNat s) (p2 : piB h R r ph tf q0 ((31, b, c) :: s) ht st rg tu) (p3 : (s.length : Int) ≤ 6 * pk_sum pk_c s + 2) (p4 : tf_ok ph tf) (p5 : (h 0 85) = 0 ∨ ¬ ((h 2 (h 0 7).toNat) = 2)) (k1 : ∀ (h' : ja_H), (pi_done h h' R r ph tf q0 (pi_mu h s)) → mo_G Zz h' → mJ l D cA ad d cc nL rt (pc + 3) L ((0, 1) :: S) h' Q) (k2 : ∀ (h' : ja_H), (0 < (h' 0 8) ∧ (h' 0 1) = (h 0 1) ∧ (h' 0 118) = (h 0 118) ∧ (h' 0 127) = (h 0 127)) → mo_G Zz h' → mJ l D cA ad d cc nL rt (pc + 3) L ((0, 0) :: S) h' Q) : mJ l D cA ad d cc nL rt pc L ((2, ((0 : Nat) : Int)) :: S) h Q :=
  mc_single hdd hwd hd (s_single g p1 p2 p3 p4 p5 k1 k2)
end
