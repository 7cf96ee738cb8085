/-! the reference: words (written by a program) -/
/-! the reference: words -/
theorem ex_bod {h0 h : ja_H} {ht st rg : Nat → Int} {w f : Int} (q : EX h0 h ht st rg w f) : 0 ≤ (h 0 144) ∧ 1 ≤ (h 0 150) := by
  have a := (ex_f q).2.2.1
  obtain ⟨g0, b, q, hu, hf, hw, h25, eh⟩ := q
  have n := ri_n g0 b.2.1 q
  subst eh
  exact ⟨n.2.2.2.2.2, n.1⟩
theorem ex_jA {h0 h : ja_H} {ht st rg : Nat → Int} {w f : Int} (q : EX h0 h ht st rg w f) (j : pw_jmp ((h 74) w.toNat)) : 0 ≤ (h 75) w.toNat ∧ (h 75) w.toNat ≤ 5000 := by
  obtain ⟨rb, ⟨w1, w2, w3, w4⟩, -⟩ := ex_f q
  have := (rb.2.1.1 w.toNat (by omega)).2.2.2.2.2.2.2.2.2.1 j
  omega
theorem ex_24 {h0 h : ja_H} {ht st rg : Nat → Int} {w f : Int} (q : EX h0 h ht st rg w f) (o : (h 74) w.toNat = 24) : 8 ≤ rg w.toNat := by
  obtain ⟨rb, ⟨w1, w2, w3, w4⟩, -⟩ := ex_f q
  obtain ⟨x1, x2, x3, x4, x5, x6⟩ := w_jump rb.2.1 w1 w2 w3 (by unfold pw_jmp; omega) (by omega)
  have tj : pw_tj ((h 74) w.toNat) = -1 := by rw [o]; rfl
  rw [tj] at x3
  omega
/-- what a word may name -/
theorem ex_A {h0 h : ja_H} {ht st rg : Nat → Int} {w f : Int} (q : EX h0 h ht st rg w f) : ((h 74) w.toNat = 4 ∨ (h 74) w.toNat = 5 → 0 ≤ (h 75) w.toNat ∧ (h 75) w.toNat ≤ 15) ∧ ((h 74) w.toNat = 6 ∨ (h 74) w.toNat = 7 → 0 ≤ (h 75) w.toNat ∧ (h 75) w.toNat ≤ 9 ∧ 0 ≤ (h 76) w.toNat ∧ (h 76) w.toNat ≤ 7) ∧ ((h 74) w.toNat = 8 → 0 ≤ (h 75) w.toNat ∧ (h 75) w.toNat ≤ 11) := by
  obtain ⟨rb, ⟨w1, w2, w3, w4⟩, -⟩ := ex_f q
  have P := (rb.2.1.1 w.toNat (by omega)).2.2.2.2.2.2.2.2.2.2
  refine ⟨P.1, fun z => ?_, P.2.2.2.2.1⟩
  have := P.2.2.2.1 z
  omega
theorem dflowWord_0 : decode cX12_flowWord 0 = .ok (.aload_n 0, 1) := by decide +kernel
theorem dflowWord_1 : decode cX12_flowWord 1 = .ok (.getfield 234, 3) := by decide +kernel
theorem dflowWord_4 : decode cX12_flowWord 4 = .ok (.iload_n 1, 1) := by decide +kernel
theorem dflowWord_5 : decode cX12_flowWord 5 = .ok (.iaload, 1) := by decide +kernel
theorem dflowWord_6 : decode cX12_flowWord 6 = .ok (.istore_n 3, 1) := by decide +kernel
theorem dflowWord_7 : decode cX12_flowWord 7 = .ok (.aload_n 0, 1) := by decide +kernel
theorem dflowWord_8 : decode cX12_flowWord 8 = .ok (.getfield 231, 3) := by decide +kernel
theorem dflowWord_11 : decode cX12_flowWord 11 = .ok (.iload_n 1, 1) := by decide +kernel
theorem dflowWord_12 : decode cX12_flowWord 12 = .ok (.iaload, 1) := by decide +kernel
theorem dflowWord_13 : decode cX12_flowWord 13 = .ok (.tableswitch 433 12 24 #[67, 67, 141, 433, 433, 183, 196, 433, 265, 314, 324, 377, 413], 67) := by decide +kernel
theorem dflowWord_80 : decode cX12_flowWord 80 = .ok (.aload_n 0, 1) := by decide +kernel
theorem dflowWord_81 : decode cX12_flowWord 81 = .ok (.dup, 1) := by decide +kernel
theorem dflowWord_82 : decode cX12_flowWord 82 = .ok (.getfield 993, 3) := by decide +kernel
theorem dflowWord_85 : decode cX12_flowWord 85 = .ok (.iconst 1, 1) := by decide +kernel
theorem dflowWord_86 : decode cX12_flowWord 86 = .ok (.isub, 1) := by decide +kernel
theorem dflowWord_87 : decode cX12_flowWord 87 = .ok (.putfield 993, 3) := by decide +kernel
theorem dflowWord_90 : decode cX12_flowWord 90 = .ok (.aload_n 0, 1) := by decide +kernel
theorem dflowWord_91 : decode cX12_flowWord 91 = .ok (.getfield 291, 3) := by decide +kernel
theorem dflowWord_94 : decode cX12_flowWord 94 = .ok (.aload_n 0, 1) := by decide +kernel
theorem dflowWord_95 : decode cX12_flowWord 95 = .ok (.getfield 993, 3) := by decide +kernel
theorem dflowWord_98 : decode cX12_flowWord 98 = .ok (.iaload, 1) := by decide +kernel
theorem dflowWord_99 : decode cX12_flowWord 99 = .ok (.aload_n 0, 1) := by decide +kernel
theorem dflowWord_100 : decode cX12_flowWord 100 = .ok (.getfield 294, 3) := by decide +kernel
theorem dflowWord_103 : decode cX12_flowWord 103 = .ok (.aload_n 0, 1) := by decide +kernel
theorem dflowWord_104 : decode cX12_flowWord 104 = .ok (.getfield 993, 3) := by decide +kernel
theorem dflowWord_107 : decode cX12_flowWord 107 = .ok (.iaload, 1) := by decide +kernel
theorem dflowWord_108 : decode cX12_flowWord 108 = .ok (.invokestatic 1111, 3) := by decide +kernel
theorem dflowWord_111 : decode cX12_flowWord 111 = .ok (.istore 4, 2) := by decide +kernel
theorem dflowWord_113 : decode cX12_flowWord 113 = .ok (.iload 4, 2) := by decide +kernel
theorem dflowWord_115 : decode cX12_flowWord 115 = .ok (.aload_n 0, 1) := by decide +kernel
theorem dflowWord_116 : decode cX12_flowWord 116 = .ok (.getfield 231, 3) := by decide +kernel
theorem dflowWord_119 : decode cX12_flowWord 119 = .ok (.iload_n 1, 1) := by decide +kernel
theorem dflowWord_120 : decode cX12_flowWord 120 = .ok (.iaload, 1) := by decide +kernel
theorem dflowWord_121 : decode cX12_flowWord 121 = .ok (.bipush 13, 2) := by decide +kernel
theorem dflowWord_123 : decode cX12_flowWord 123 = .ok (.if_icmp .ne 7, 3) := by decide +kernel
theorem dflowWord_126 : decode cX12_flowWord 126 = .ok (.iconst 1, 1) := by decide +kernel
theorem dflowWord_127 : decode cX12_flowWord 127 = .ok (.goto 4, 3) := by decide +kernel
theorem dflowWord_130 : decode cX12_flowWord 130 = .ok (.iconst 0, 1) := by decide +kernel
theorem dflowWord_131 : decode cX12_flowWord 131 = .ok (.if_icmp .ne 418, 3) := by decide +kernel
theorem dflowWord_134 : decode cX12_flowWord 134 = .ok (.aload_n 0, 1) := by decide +kernel
theorem dflowWord_135 : decode cX12_flowWord 135 = .ok (.iconst 1, 1) := by decide +kernel
theorem dflowWord_136 : decode cX12_flowWord 136 = .ok (.iload 4, 2) := by decide +kernel
theorem dflowWord_138 : decode cX12_flowWord 138 = .ok (.invokestatic 1098, 3) := by decide +kernel
theorem dflowWord_141 : decode cX12_flowWord 141 = .ok (.invokevirtual 1045, 3) := by decide +kernel
theorem dflowWord_144 : decode cX12_flowWord 144 = .ok (.aload_n 0, 1) := by decide +kernel
theorem dflowWord_145 : decode cX12_flowWord 145 = .ok (.getfield 300, 3) := by decide +kernel
theorem dflowWord_148 : decode cX12_flowWord 148 = .ok (.iload_n 2, 1) := by decide +kernel
theorem dflowWord_149 : decode cX12_flowWord 149 = .ok (.iload_n 3, 1) := by decide +kernel
theorem dflowWord_150 : decode cX12_flowWord 150 = .ok (.iastore, 1) := by decide +kernel
theorem dflowWord_151 : decode cX12_flowWord 151 = .ok (.goto 398, 3) := by decide +kernel
theorem dflowWord_154 : decode cX12_flowWord 154 = .ok (.aload_n 0, 1) := by decide +kernel
theorem dflowWord_155 : decode cX12_flowWord 155 = .ok (.dup, 1) := by decide +kernel
theorem dflowWord_156 : decode cX12_flowWord 156 = .ok (.getfield 993, 3) := by decide +kernel
theorem dflowWord_159 : decode cX12_flowWord 159 = .ok (.iconst 1, 1) := by decide +kernel
theorem dflowWord_160 : decode cX12_flowWord 160 = .ok (.isub, 1) := by decide +kernel
theorem dflowWord_161 : decode cX12_flowWord 161 = .ok (.putfield 993, 3) := by decide +kernel
theorem dflowWord_164 : decode cX12_flowWord 164 = .ok (.aload_n 0, 1) := by decide +kernel
theorem dflowWord_165 : decode cX12_flowWord 165 = .ok (.iconst 1, 1) := by decide +kernel
theorem dflowWord_166 : decode cX12_flowWord 166 = .ok (.aload_n 0, 1) := by decide +kernel
theorem dflowWord_167 : decode cX12_flowWord 167 = .ok (.getfield 291, 3) := by decide +kernel
theorem dflowWord_170 : decode cX12_flowWord 170 = .ok (.aload_n 0, 1) := by decide +kernel
theorem dflowWord_171 : decode cX12_flowWord 171 = .ok (.getfield 993, 3) := by decide +kernel
theorem dflowWord_174 : decode cX12_flowWord 174 = .ok (.iaload, 1) := by decide +kernel
theorem dflowWord_175 : decode cX12_flowWord 175 = .ok (.aload_n 0, 1) := by decide +kernel
theorem dflowWord_176 : decode cX12_flowWord 176 = .ok (.getfield 294, 3) := by decide +kernel
theorem dflowWord_179 : decode cX12_flowWord 179 = .ok (.aload_n 0, 1) := by decide +kernel
theorem dflowWord_180 : decode cX12_flowWord 180 = .ok (.getfield 993, 3) := by decide +kernel
theorem dflowWord_183 : decode cX12_flowWord 183 = .ok (.iaload, 1) := by decide +kernel
theorem dflowWord_184 : decode cX12_flowWord 184 = .ok (.invokestatic 1111, 3) := by decide +kernel
theorem dflowWord_187 : decode cX12_flowWord 187 = .ok (.invokestatic 1098, 3) := by decide +kernel
theorem dflowWord_190 : decode cX12_flowWord 190 = .ok (.invokevirtual 1045, 3) := by decide +kernel
theorem dflowWord_193 : decode cX12_flowWord 193 = .ok (.goto 356, 3) := by decide +kernel
theorem dflowWord_196 : decode cX12_flowWord 196 = .ok (.aload_n 0, 1) := by decide +kernel
theorem dflowWord_197 : decode cX12_flowWord 197 = .ok (.dup, 1) := by decide +kernel
theorem dflowWord_198 : decode cX12_flowWord 198 = .ok (.getfield 993, 3) := by decide +kernel
theorem dflowWord_201 : decode cX12_flowWord 201 = .ok (.iconst 1, 1) := by decide +kernel
theorem dflowWord_202 : decode cX12_flowWord 202 = .ok (.isub, 1) := by decide +kernel
theorem dflowWord_203 : decode cX12_flowWord 203 = .ok (.putfield 993, 3) := by decide +kernel
theorem dflowWord_206 : decode cX12_flowWord 206 = .ok (.goto 343, 3) := by decide +kernel
theorem dflowWord_209 : decode cX12_flowWord 209 = .ok (.aload_n 0, 1) := by decide +kernel
theorem dflowWord_210 : decode cX12_flowWord 210 = .ok (.dup, 1) := by decide +kernel
theorem dflowWord_211 : decode cX12_flowWord 211 = .ok (.getfield 993, 3) := by decide +kernel
theorem dflowWord_214 : decode cX12_flowWord 214 = .ok (.iconst 1, 1) := by decide +kernel
theorem dflowWord_215 : decode cX12_flowWord 215 = .ok (.isub, 1) := by decide +kernel
theorem dflowWord_216 : decode cX12_flowWord 216 = .ok (.putfield 993, 3) := by decide +kernel
theorem dflowWord_219 : decode cX12_flowWord 219 = .ok (.aload_n 0, 1) := by decide +kernel
theorem dflowWord_220 : decode cX12_flowWord 220 = .ok (.getfield 981, 3) := by decide +kernel
theorem dflowWord_223 : decode cX12_flowWord 223 = .ok (.sipush 300, 3) := by decide +kernel
theorem dflowWord_226 : decode cX12_flowWord 226 = .ok (.if_icmp .ge 39, 3) := by decide +kernel
theorem dflowWord_229 : decode cX12_flowWord 229 = .ok (.aload_n 0, 1) := by decide +kernel
theorem dflowWord_230 : decode cX12_flowWord 230 = .ok (.getfield 264, 3) := by decide +kernel
theorem dflowWord_233 : decode cX12_flowWord 233 = .ok (.aload_n 0, 1) := by decide +kernel
theorem dflowWord_234 : decode cX12_flowWord 234 = .ok (.getfield 981, 3) := by decide +kernel
theorem dflowWord_237 : decode cX12_flowWord 237 = .ok (.aload_n 0, 1) := by decide +kernel
theorem dflowWord_238 : decode cX12_flowWord 238 = .ok (.getfield 291, 3) := by decide +kernel
theorem dflowWord_241 : decode cX12_flowWord 241 = .ok (.aload_n 0, 1) := by decide +kernel
theorem dflowWord_242 : decode cX12_flowWord 242 = .ok (.getfield 993, 3) := by decide +kernel
theorem dflowWord_245 : decode cX12_flowWord 245 = .ok (.iaload, 1) := by decide +kernel
theorem dflowWord_246 : decode cX12_flowWord 246 = .ok (.iastore, 1) := by decide +kernel
theorem dflowWord_247 : decode cX12_flowWord 247 = .ok (.aload_n 0, 1) := by decide +kernel
theorem dflowWord_248 : decode cX12_flowWord 248 = .ok (.getfield 267, 3) := by decide +kernel
theorem dflowWord_251 : decode cX12_flowWord 251 = .ok (.aload_n 0, 1) := by decide +kernel
theorem dflowWord_252 : decode cX12_flowWord 252 = .ok (.getfield 981, 3) := by decide +kernel
theorem dflowWord_255 : decode cX12_flowWord 255 = .ok (.aload_n 0, 1) := by decide +kernel
theorem dflowWord_256 : decode cX12_flowWord 256 = .ok (.getfield 294, 3) := by decide +kernel
theorem dflowWord_259 : decode cX12_flowWord 259 = .ok (.aload_n 0, 1) := by decide +kernel
theorem dflowWord_260 : decode cX12_flowWord 260 = .ok (.getfield 993, 3) := by decide +kernel
theorem dflowWord_263 : decode cX12_flowWord 263 = .ok (.iaload, 1) := by decide +kernel
theorem dflowWord_264 : decode cX12_flowWord 264 = .ok (.iastore, 1) := by decide +kernel
theorem dflowWord_265 : decode cX12_flowWord 265 = .ok (.aload_n 0, 1) := by decide +kernel
theorem dflowWord_266 : decode cX12_flowWord 266 = .ok (.dup, 1) := by decide +kernel
theorem dflowWord_267 : decode cX12_flowWord 267 = .ok (.getfield 981, 3) := by decide +kernel
theorem dflowWord_270 : decode cX12_flowWord 270 = .ok (.iconst 1, 1) := by decide +kernel
theorem dflowWord_271 : decode cX12_flowWord 271 = .ok (.iadd, 1) := by decide +kernel
theorem dflowWord_272 : decode cX12_flowWord 272 = .ok (.putfield 981, 3) := by decide +kernel
theorem dflowWord_275 : decode cX12_flowWord 275 = .ok (.goto 274, 3) := by decide +kernel
theorem dflowWord_278 : decode cX12_flowWord 278 = .ok (.aload_n 0, 1) := by decide +kernel
theorem dflowWord_279 : decode cX12_flowWord 279 = .ok (.dup, 1) := by decide +kernel
theorem dflowWord_280 : decode cX12_flowWord 280 = .ok (.getfield 993, 3) := by decide +kernel
theorem dflowWord_283 : decode cX12_flowWord 283 = .ok (.iconst 1, 1) := by decide +kernel
theorem dflowWord_284 : decode cX12_flowWord 284 = .ok (.isub, 1) := by decide +kernel
theorem dflowWord_285 : decode cX12_flowWord 285 = .ok (.putfield 993, 3) := by decide +kernel
theorem dflowWord_288 : decode cX12_flowWord 288 = .ok (.aload_n 0, 1) := by decide +kernel
theorem dflowWord_289 : decode cX12_flowWord 289 = .ok (.iconst 1, 1) := by decide +kernel
theorem dflowWord_290 : decode cX12_flowWord 290 = .ok (.putfield 1008, 3) := by decide +kernel
theorem dflowWord_293 : decode cX12_flowWord 293 = .ok (.aload_n 0, 1) := by decide +kernel
theorem dflowWord_294 : decode cX12_flowWord 294 = .ok (.iconst 1, 1) := by decide +kernel
theorem dflowWord_295 : decode cX12_flowWord 295 = .ok (.putfield 1024, 3) := by decide +kernel
theorem dflowWord_298 : decode cX12_flowWord 298 = .ok (.aload_n 0, 1) := by decide +kernel
theorem dflowWord_299 : decode cX12_flowWord 299 = .ok (.aload_n 0, 1) := by decide +kernel
theorem dflowWord_300 : decode cX12_flowWord 300 = .ok (.getfield 291, 3) := by decide +kernel
theorem dflowWord_303 : decode cX12_flowWord 303 = .ok (.aload_n 0, 1) := by decide +kernel
theorem dflowWord_304 : decode cX12_flowWord 304 = .ok (.getfield 993, 3) := by decide +kernel
theorem dflowWord_307 : decode cX12_flowWord 307 = .ok (.iaload, 1) := by decide +kernel
theorem dflowWord_308 : decode cX12_flowWord 308 = .ok (.putfield 1027, 3) := by decide +kernel
theorem dflowWord_311 : decode cX12_flowWord 311 = .ok (.aload_n 0, 1) := by decide +kernel
theorem dflowWord_312 : decode cX12_flowWord 312 = .ok (.aload_n 0, 1) := by decide +kernel
theorem dflowWord_313 : decode cX12_flowWord 313 = .ok (.getfield 294, 3) := by decide +kernel
theorem dflowWord_316 : decode cX12_flowWord 316 = .ok (.aload_n 0, 1) := by decide +kernel
theorem dflowWord_317 : decode cX12_flowWord 317 = .ok (.getfield 993, 3) := by decide +kernel
theorem dflowWord_320 : decode cX12_flowWord 320 = .ok (.iaload, 1) := by decide +kernel
theorem dflowWord_321 : decode cX12_flowWord 321 = .ok (.putfield 1030, 3) := by decide +kernel
theorem dflowWord_324 : decode cX12_flowWord 324 = .ok (.goto 225, 3) := by decide +kernel
theorem dflowWord_327 : decode cX12_flowWord 327 = .ok (.aload_n 0, 1) := by decide +kernel
theorem dflowWord_328 : decode cX12_flowWord 328 = .ok (.getfield 300, 3) := by decide +kernel
theorem dflowWord_331 : decode cX12_flowWord 331 = .ok (.iload_n 2, 1) := by decide +kernel
theorem dflowWord_332 : decode cX12_flowWord 332 = .ok (.iload_n 3, 1) := by decide +kernel
theorem dflowWord_333 : decode cX12_flowWord 333 = .ok (.iastore, 1) := by decide +kernel
theorem dflowWord_334 : decode cX12_flowWord 334 = .ok (.goto 215, 3) := by decide +kernel
theorem dflowWord_337 : decode cX12_flowWord 337 = .ok (.aload_n 0, 1) := by decide +kernel
theorem dflowWord_338 : decode cX12_flowWord 338 = .ok (.dup, 1) := by decide +kernel
theorem dflowWord_339 : decode cX12_flowWord 339 = .ok (.getfield 993, 3) := by decide +kernel
theorem dflowWord_342 : decode cX12_flowWord 342 = .ok (.iconst 1, 1) := by decide +kernel
theorem dflowWord_343 : decode cX12_flowWord 343 = .ok (.isub, 1) := by decide +kernel
theorem dflowWord_344 : decode cX12_flowWord 344 = .ok (.putfield 993, 3) := by decide +kernel
theorem dflowWord_347 : decode cX12_flowWord 347 = .ok (.aload_n 0, 1) := by decide +kernel
theorem dflowWord_348 : decode cX12_flowWord 348 = .ok (.getfield 300, 3) := by decide +kernel
theorem dflowWord_351 : decode cX12_flowWord 351 = .ok (.iload_n 2, 1) := by decide +kernel
theorem dflowWord_352 : decode cX12_flowWord 352 = .ok (.aload_n 0, 1) := by decide +kernel
theorem dflowWord_353 : decode cX12_flowWord 353 = .ok (.getfield 291, 3) := by decide +kernel
theorem dflowWord_356 : decode cX12_flowWord 356 = .ok (.aload_n 0, 1) := by decide +kernel
theorem dflowWord_357 : decode cX12_flowWord 357 = .ok (.getfield 993, 3) := by decide +kernel
theorem dflowWord_360 : decode cX12_flowWord 360 = .ok (.iaload, 1) := by decide +kernel
theorem dflowWord_361 : decode cX12_flowWord 361 = .ok (.aload_n 0, 1) := by decide +kernel
theorem dflowWord_362 : decode cX12_flowWord 362 = .ok (.getfield 294, 3) := by decide +kernel
theorem dflowWord_365 : decode cX12_flowWord 365 = .ok (.aload_n 0, 1) := by decide +kernel
theorem dflowWord_366 : decode cX12_flowWord 366 = .ok (.getfield 993, 3) := by decide +kernel
theorem dflowWord_369 : decode cX12_flowWord 369 = .ok (.iaload, 1) := by decide +kernel
theorem dflowWord_370 : decode cX12_flowWord 370 = .ok (.invokestatic 1111, 3) := by decide +kernel
theorem dflowWord_373 : decode cX12_flowWord 373 = .ok (.ifCond .eq 12, 3) := by decide +kernel
theorem dflowWord_376 : decode cX12_flowWord 376 = .ok (.aload_n 0, 1) := by decide +kernel
theorem dflowWord_377 : decode cX12_flowWord 377 = .ok (.getfield 300, 3) := by decide +kernel
theorem dflowWord_380 : decode cX12_flowWord 380 = .ok (.iload_n 2, 1) := by decide +kernel
theorem dflowWord_381 : decode cX12_flowWord 381 = .ok (.iaload, 1) := by decide +kernel
theorem dflowWord_382 : decode cX12_flowWord 382 = .ok (.goto 4, 3) := by decide +kernel
theorem dflowWord_385 : decode cX12_flowWord 385 = .ok (.iload_n 3, 1) := by decide +kernel
theorem dflowWord_386 : decode cX12_flowWord 386 = .ok (.iastore, 1) := by decide +kernel
theorem dflowWord_387 : decode cX12_flowWord 387 = .ok (.goto 162, 3) := by decide +kernel
theorem dflowWord_390 : decode cX12_flowWord 390 = .ok (.aload_n 0, 1) := by decide +kernel
theorem dflowWord_391 : decode cX12_flowWord 391 = .ok (.getfield 345, 3) := by decide +kernel
theorem dflowWord_394 : decode cX12_flowWord 394 = .ok (.aload_n 0, 1) := by decide +kernel
theorem dflowWord_395 : decode cX12_flowWord 395 = .ok (.getfield 1002, 3) := by decide +kernel
theorem dflowWord_398 : decode cX12_flowWord 398 = .ok (.iload_n 3, 1) := by decide +kernel
theorem dflowWord_399 : decode cX12_flowWord 399 = .ok (.iastore, 1) := by decide +kernel
theorem dflowWord_400 : decode cX12_flowWord 400 = .ok (.aload_n 0, 1) := by decide +kernel
theorem dflowWord_401 : decode cX12_flowWord 401 = .ok (.getfield 348, 3) := by decide +kernel
theorem dflowWord_404 : decode cX12_flowWord 404 = .ok (.aload_n 0, 1) := by decide +kernel
theorem dflowWord_405 : decode cX12_flowWord 405 = .ok (.getfield 1002, 3) := by decide +kernel
theorem dflowWord_408 : decode cX12_flowWord 408 = .ok (.aload_n 0, 1) := by decide +kernel
theorem dflowWord_409 : decode cX12_flowWord 409 = .ok (.getfield 993, 3) := by decide +kernel
theorem dflowWord_412 : decode cX12_flowWord 412 = .ok (.iastore, 1) := by decide +kernel
theorem dflowWord_413 : decode cX12_flowWord 413 = .ok (.aload_n 0, 1) := by decide +kernel
theorem dflowWord_414 : decode cX12_flowWord 414 = .ok (.dup, 1) := by decide +kernel
theorem dflowWord_415 : decode cX12_flowWord 415 = .ok (.getfield 1002, 3) := by decide +kernel
theorem dflowWord_418 : decode cX12_flowWord 418 = .ok (.iconst 1, 1) := by decide +kernel
theorem dflowWord_419 : decode cX12_flowWord 419 = .ok (.iadd, 1) := by decide +kernel
theorem dflowWord_420 : decode cX12_flowWord 420 = .ok (.putfield 1002, 3) := by decide +kernel
theorem dflowWord_423 : decode cX12_flowWord 423 = .ok (.goto 126, 3) := by decide +kernel
theorem dflowWord_426 : decode cX12_flowWord 426 = .ok (.aload_n 0, 1) := by decide +kernel
theorem dflowWord_427 : decode cX12_flowWord 427 = .ok (.dup, 1) := by decide +kernel
theorem dflowWord_428 : decode cX12_flowWord 428 = .ok (.getfield 1002, 3) := by decide +kernel
theorem dflowWord_431 : decode cX12_flowWord 431 = .ok (.iconst 1, 1) := by decide +kernel
theorem dflowWord_432 : decode cX12_flowWord 432 = .ok (.isub, 1) := by decide +kernel
theorem dflowWord_433 : decode cX12_flowWord 433 = .ok (.putfield 1002, 3) := by decide +kernel
theorem dflowWord_436 : decode cX12_flowWord 436 = .ok (.aload_n 0, 1) := by decide +kernel
theorem dflowWord_437 : decode cX12_flowWord 437 = .ok (.getfield 300, 3) := by decide +kernel
theorem dflowWord_440 : decode cX12_flowWord 440 = .ok (.iload_n 2, 1) := by decide +kernel
theorem dflowWord_441 : decode cX12_flowWord 441 = .ok (.iload_n 3, 1) := by decide +kernel
theorem dflowWord_442 : decode cX12_flowWord 442 = .ok (.iastore, 1) := by decide +kernel
theorem dflowWord_443 : decode cX12_flowWord 443 = .ok (.goto 106, 3) := by decide +kernel
theorem dflowWord_446 : decode cX12_flowWord 446 = .ok (.aload_n 0, 1) := by decide +kernel
theorem dflowWord_447 : decode cX12_flowWord 447 = .ok (.getfield 231, 3) := by decide +kernel
theorem dflowWord_450 : decode cX12_flowWord 450 = .ok (.iload_n 1, 1) := by decide +kernel
theorem dflowWord_451 : decode cX12_flowWord 451 = .ok (.iaload, 1) := by decide +kernel
theorem dflowWord_452 : decode cX12_flowWord 452 = .ok (.bipush 19, 2) := by decide +kernel
theorem dflowWord_454 : decode cX12_flowWord 454 = .ok (.if_icmp .ne 7, 3) := by decide +kernel
theorem dflowWord_457 : decode cX12_flowWord 457 = .ok (.iconst 1, 1) := by decide +kernel
theorem dflowWord_458 : decode cX12_flowWord 458 = .ok (.goto 4, 3) := by decide +kernel
theorem dflowWord_461 : decode cX12_flowWord 461 = .ok (.iconst 0, 1) := by decide +kernel
theorem dflowWord_462 : decode cX12_flowWord 462 = .ok (.istore 5, 2) := by decide +kernel
theorem dflowWord_464 : decode cX12_flowWord 464 = .ok (.iload 5, 2) := by decide +kernel
theorem dflowWord_466 : decode cX12_flowWord 466 = .ok (.ifCond .eq 17, 3) := by decide +kernel
theorem dflowWord_469 : decode cX12_flowWord 469 = .ok (.aload_n 0, 1) := by decide +kernel
theorem dflowWord_470 : decode cX12_flowWord 470 = .ok (.getfield 291, 3) := by decide +kernel
theorem dflowWord_473 : decode cX12_flowWord 473 = .ok (.aload_n 0, 1) := by decide +kernel
theorem dflowWord_474 : decode cX12_flowWord 474 = .ok (.getfield 993, 3) := by decide +kernel
theorem dflowWord_477 : decode cX12_flowWord 477 = .ok (.iconst 1, 1) := by decide +kernel
theorem dflowWord_478 : decode cX12_flowWord 478 = .ok (.isub, 1) := by decide +kernel
theorem dflowWord_479 : decode cX12_flowWord 479 = .ok (.iaload, 1) := by decide +kernel
theorem dflowWord_480 : decode cX12_flowWord 480 = .ok (.goto 4, 3) := by decide +kernel
theorem dflowWord_483 : decode cX12_flowWord 483 = .ok (.iconst 0, 1) := by decide +kernel
theorem dflowWord_484 : decode cX12_flowWord 484 = .ok (.istore 6, 2) := by decide +kernel
theorem dflowWord_486 : decode cX12_flowWord 486 = .ok (.iload 5, 2) := by decide +kernel
theorem dflowWord_488 : decode cX12_flowWord 488 = .ok (.ifCond .eq 17, 3) := by decide +kernel
theorem dflowWord_491 : decode cX12_flowWord 491 = .ok (.aload_n 0, 1) := by decide +kernel
theorem dflowWord_492 : decode cX12_flowWord 492 = .ok (.getfield 294, 3) := by decide +kernel
theorem dflowWord_495 : decode cX12_flowWord 495 = .ok (.aload_n 0, 1) := by decide +kernel
theorem dflowWord_496 : decode cX12_flowWord 496 = .ok (.getfield 993, 3) := by decide +kernel
theorem dflowWord_499 : decode cX12_flowWord 499 = .ok (.iconst 1, 1) := by decide +kernel
theorem dflowWord_500 : decode cX12_flowWord 500 = .ok (.isub, 1) := by decide +kernel
theorem dflowWord_501 : decode cX12_flowWord 501 = .ok (.iaload, 1) := by decide +kernel
theorem dflowWord_502 : decode cX12_flowWord 502 = .ok (.goto 4, 3) := by decide +kernel
theorem dflowWord_505 : decode cX12_flowWord 505 = .ok (.iconst 0, 1) := by decide +kernel
theorem dflowWord_506 : decode cX12_flowWord 506 = .ok (.istore 7, 2) := by decide +kernel
theorem dflowWord_508 : decode cX12_flowWord 508 = .ok (.aload_n 0, 1) := by decide +kernel
theorem dflowWord_509 : decode cX12_flowWord 509 = .ok (.getfield 297, 3) := by decide +kernel
theorem dflowWord_512 : decode cX12_flowWord 512 = .ok (.iload_n 2, 1) := by decide +kernel
theorem dflowWord_513 : decode cX12_flowWord 513 = .ok (.iaload, 1) := by decide +kernel
theorem dflowWord_514 : decode cX12_flowWord 514 = .ok (.ifCond .ne 7, 3) := by decide +kernel
theorem dflowWord_517 : decode cX12_flowWord 517 = .ok (.iconst 1, 1) := by decide +kernel
theorem dflowWord_518 : decode cX12_flowWord 518 = .ok (.goto 4, 3) := by decide +kernel
theorem dflowWord_521 : decode cX12_flowWord 521 = .ok (.iconst 0, 1) := by decide +kernel
theorem dflowWord_522 : decode cX12_flowWord 522 = .ok (.istore 8, 2) := by decide +kernel
theorem dflowWord_524 : decode cX12_flowWord 524 = .ok (.aload_n 0, 1) := by decide +kernel
theorem dflowWord_525 : decode cX12_flowWord 525 = .ok (.invokevirtual 1054, 3) := by decide +kernel
theorem dflowWord_528 : decode cX12_flowWord 528 = .ok (.iload 8, 2) := by decide +kernel
theorem dflowWord_530 : decode cX12_flowWord 530 = .ok (.ifCond .eq 11, 3) := by decide +kernel
theorem dflowWord_533 : decode cX12_flowWord 533 = .ok (.aload_n 0, 1) := by decide +kernel
theorem dflowWord_534 : decode cX12_flowWord 534 = .ok (.iconst 0, 1) := by decide +kernel
theorem dflowWord_535 : decode cX12_flowWord 535 = .ok (.putfield 1016, 3) := by decide +kernel
theorem dflowWord_538 : decode cX12_flowWord 538 = .ok (.goto 11, 3) := by decide +kernel
theorem dflowWord_541 : decode cX12_flowWord 541 = .ok (.aload_n 0, 1) := by decide +kernel
theorem dflowWord_542 : decode cX12_flowWord 542 = .ok (.iload 6, 2) := by decide +kernel
theorem dflowWord_544 : decode cX12_flowWord 544 = .ok (.iload 7, 2) := by decide +kernel
theorem dflowWord_546 : decode cX12_flowWord 546 = .ok (.invokevirtual 1051, 3) := by decide +kernel
theorem dflowWord_549 : decode cX12_flowWord 549 = .ok (.return_, 1) := by decide +kernel
section
variable {l : Launch} {D : va_G} {cA : Nat → ClassId} {ad : Nat → Nat}
theorem s_flowWord {a1 a2 : Int} {h9 : ja_H} {ht st rg : Nat → Int} {h : ja_H} {Q : Option ja_V → ja_H → Prop} (g : mo_G mo_zr h) (r1 : -2147483648 ≤ a1 ∧ a1 ≤ 2147483647) (r2 : -2147483648 ≤ a2 ∧ a2 ≤ 2147483647) (p1 : EX h9 h ht st rg a1 a2) (p2 : 12 ≤ (h 74 (a1).toNat) ∧ (h 74 (a1).toNat) ≠ 15 ∧ (h 74 (a1).toNat) ≠ 16) (p3 : (h 0 132) < 2147483647) (k1 : ∀ (h' : ja_H), (RO h9 h' ht st rg) → mo_G mo_zr h' → Q none h') : mM_flowWord l D cA ad a1 a2 h Q := by
  show mJ l D cA ad 2 cX12_flowWord 9 none 0 [(0, (2, ((0 : Nat) : Int))), (1, (0, a1)), (2, (0, a2))] [] h Q
  have kn_pile := gF_pile g
  have kn_tries := gF_tries g
  have kn_bodies := gF_bodies g
  have kn_outputs := gF_outputs g
  obtain ⟨xrb, xw, xf, xt, xp, xr, xl, xn, xc, xv⟩ := ex_f p1
  have qv := xrb.1
  have xop := ex_op p1
  have xnn : 0 ≤ (h 0 144) ∧ 1 ≤ (h 0 150) := ex_bod p1
  have gop := gC_opA g (a1).toNat
  have xfl := gC_frameLocals g (a2).toNat
  have xft : (h 96 ((h 0 150) - 1).toNat) = (h 96 (a2).toNat) := (by rw [xf.1])
  refine ja_aload_n dflowWord_0 rfl rfl ?_
  refine fa_opA dflowWord_1 ?_
  refine ja_iload_n dflowWord_4 rfl rfl ?_
  refine il_opA (v := h 75 (a1).toNat) rfl ⟨by omega, by omega⟩ dflowWord_5 ?_
  have f1 := gC_opA g (a1).toNat
  refine ja_istore_n dflowWord_6 rfl (by decide) (L2 := [(3, (0, (h 75 (a1).toNat))), (0, (2, ((0 : Nat) : Int))), (1, (0, a1)), (2, (0, a2))]) rfl ?_
  refine ja_aload_n dflowWord_7 rfl rfl ?_
  refine fa_op dflowWord_8 ?_
  refine ja_iload_n dflowWord_11 rfl rfl ?_
  refine il_op (v := h 74 (a1).toNat) rfl ⟨by omega, by omega⟩ dflowWord_12 ?_
  have f2 := gC_op g (a1).toNat
  have T13_80 : (h 74 (a1).toNat = 12 ∨ h 74 (a1).toNat = 13) → mJ l D cA ad 2 cX12_flowWord 9 none 80 [(3, (0, (h 75 (a1).toNat))), (0, (2, ((0 : Nat) : Int))), (1, (0, a1)), (2, (0, a2))] [] h Q := by
    intro e13
    have xe := eff_m (o := (h 74 (a1).toNat)) (a := (h 75 (a1).toNat)) (q := pw_pop h (h 75 (a1).toNat)) (by omega)
    have xth : pw_th (h 74 (a1).toNat) = 0 := (by rcases e13 with z | z <;> (rw [z]; rfl))
    have xtj : pw_tj (h 74 (a1).toNat) = 0 := (by rcases e13 with z | z <;> (rw [z]; rfl))
    have xja := ex_jA p1 (by unfold pw_jmp; omega)
    refine ja_aload_n dflowWord_80 rfl rfl ?_
    refine ja_dup dflowWord_81 (by decide) ?_
    refine fg_pile (v := h 0 149) rfl dflowWord_82 ?_
    have f3 := gF_pile g
    refine ja_iconst dflowWord_85 ?_
    refine ja_isub dflowWord_86 ?_
    have g4 := gP_pile g (x := (h 0 149) - 1) ⟨by omega, by omega⟩
    refine fp_pile dflowWord_87 ?_
    refine ja_aload_n dflowWord_90 rfl rfl ?_
    refine fa_pileKind dflowWord_91 ?_
    refine ja_aload_n dflowWord_94 rfl rfl ?_
    refine fg_pile (v := (h 0 149) - 1) rfl dflowWord_95 ?_
    refine il_pileKind (v := h 94 ((h 0 149) - 1).toNat) rfl ⟨by omega, by omega⟩ dflowWord_98 ?_
    have f5 := gC_pileKind g ((h 0 149) - 1).toNat
    refine ja_aload_n dflowWord_99 rfl rfl ?_
    refine fa_pileValue dflowWord_100 ?_
    refine ja_aload_n dflowWord_103 rfl rfl ?_
    refine fg_pile (v := (h 0 149) - 1) rfl dflowWord_104 ?_
    refine il_pileValue (v := h 95 ((h 0 149) - 1).toNat) rfl ⟨by omega, by omega⟩ dflowWord_107 ?_
    have f6 := gC_pileValue g ((h 0 149) - 1).toNat
    refine t_isTrue (by decide) (show (0 : Nat) ≤ 8 by decide) dflowWord_108 g4 ⟨by omega, by omega⟩ ⟨by omega, by omega⟩ ?_
    intro w7 k108_0
    replace k108_0 : 0 ≤ w7 ∧ w7 ≤ 1 := k108_0
    refine ja_istore dflowWord_111 (by decide) (L2 := [(4, (0, w7)), (3, (0, (h 75 (a1).toNat))), (0, (2, ((0 : Nat) : Int))), (1, (0, a1)), (2, (0, a2))]) rfl ?_
    refine ja_iload dflowWord_113 rfl ?_
    refine ja_aload_n dflowWord_115 rfl rfl ?_
    refine fa_op dflowWord_116 ?_
    refine ja_iload_n dflowWord_119 rfl rfl ?_
    refine il_op (v := h 74 (a1).toNat) rfl ⟨by omega, by omega⟩ dflowWord_120 ?_
    refine ja_bipush 13 dflowWord_121 rfl ?_
    refine ja_icmp_ne 130 dflowWord_123 rfl ⟨by omega, by omega⟩ ⟨by decide, by decide⟩ (fun c123 => ?_) (fun c123 => ?_)
    · refine ja_iconst dflowWord_130 ?_
      refine ja_icmp_ne 549 dflowWord_131 rfl ⟨by omega, by omega⟩ ⟨by decide, by decide⟩ (fun c131 => ?_) (fun c131 => ?_)
      · refine ja_return dflowWord_549 rfl ?_
        exact k1 (ja_up h 0 149 ((h 0 149) - 1)) ((ex_next (wd := 0) p1 g4 (by (repeat (first | exact qv | refine vi_set (by decide) (by decide) (by decide) ?_ (by first | exact (fun z => absurd z (by decide)) | exact vi_aS qv (by decide) _ | exact qv.2 | exact (fun z => ⟨by omega, hca⟩) | exact (fun z => ⟨by omega, hca z⟩) | (intro z; exfalso; omega)) | refine vi_res ?_ (by first | exact (fun z => absurd z (by decide)) | exact vi_aS qv (by decide) _ | exact qv.2 | exact (fun z => ⟨by omega, hca⟩) | exact (fun z => ⟨by omega, hca z⟩) | (intro z; exfalso; omega)) | refine vi_arr (by decide) (by decide) ?_ | refine vi_up (by decide) (by decide) ?_ | refine vi_val (ck := 106) (by decide) (by decide) (by decide) ?_ ⟨by omega, by omega⟩))) ⟨by omega, by omega, by omega⟩ (by (repeat (first | exact ag_refl | refine ag_up rfl ?_))) (fun _ => rfl) (tw_0 (show (h 0 186) = 0 by omega)) (Or.inl (show (h 0 186) = 0 by omega)) (show ((h 0 149) - 1) = (h 0 149) + pw_eff ((h 74 (a1).toNat)) ((h 75 (a1).toNat)) (pw_pop h ((h 75 (a1).toNat))) - 0 by omega) (Or.inl (show (h 0 132) = (h 0 132) by omega)))) g4
      · refine ja_aload_n dflowWord_134 rfl rfl ?_
        refine ja_iconst dflowWord_135 ?_
        refine ja_iload dflowWord_136 rfl ?_
        refine t_asWhole (by decide) (show (2 : Nat) ≤ 8 by decide) dflowWord_138 g4 ⟨by omega, by omega⟩ ?_
        intro w8 k138_0
        replace k138_0 : 0 ≤ w8 ∧ w8 ≤ 1 := k138_0
        refine t_put (by decide) (show (0 : Nat) ≤ 8 by decide) dflowWord_141 g4 ⟨by decide, by decide⟩ ⟨by omega, by omega⟩ (show 0 ≤ 1 ∧ 1 ≤ 2 by omega) (show ((h 0 149) - 1) < 6000 by omega) ?_
        intro g9
        replace g9 : mo_G mo_zr (ja_up (ja_up (ja_up (ja_up h 0 149 ((h 0 149) - 1)) 94 (((h 0 149) - 1).toNat) 1) 95 (((h 0 149) - 1).toNat) w8) 0 149 (((h 0 149) - 1) + 1)) := g9
        show mJ l D cA ad 2 cX12_flowWord 9 none 144 [(4, (0, w7)), (3, (0, (h 75 (a1).toNat))), (0, (2, ((0 : Nat) : Int))), (1, (0, a1)), (2, (0, a2))] [] (ja_up (ja_up (ja_up (ja_up h 0 149 ((h 0 149) - 1)) 94 (((h 0 149) - 1).toNat) 1) 95 (((h 0 149) - 1).toNat) w8) 0 149 (((h 0 149) - 1) + 1)) Q
        refine ja_aload_n dflowWord_144 rfl rfl ?_
        refine fa_framePc dflowWord_145 ?_
        refine ja_iload_n dflowWord_148 rfl rfl ?_
        refine ja_iload_n dflowWord_149 rfl rfl ?_
        have g10 := gW_framePc g9 (a2).toNat (x := h 75 (a1).toNat) ⟨by omega, by omega⟩
        refine is_framePc ⟨by omega, by omega⟩ dflowWord_150 ?_
        refine ja_goto 549 dflowWord_151 rfl ?_
        refine ja_return dflowWord_549 rfl ?_
        exact k1 (ja_up (ja_up (ja_up (ja_up (ja_up h 0 149 ((h 0 149) - 1)) 94 (((h 0 149) - 1).toNat) 1) 95 (((h 0 149) - 1).toNat) w8) 0 149 (((h 0 149) - 1) + 1)) 97 ((a2).toNat) (h 75 (a1).toNat)) ((ex_jump p1 g10 (by (repeat (first | exact qv | refine vi_set (by decide) (by decide) (by decide) ?_ (by first | exact (fun z => absurd z (by decide)) | exact vi_aS qv (by decide) _ | exact qv.2 | exact (fun z => ⟨by omega, hca⟩) | exact (fun z => ⟨by omega, hca z⟩) | (intro z; exfalso; omega)) | refine vi_res ?_ (by first | exact (fun z => absurd z (by decide)) | exact vi_aS qv (by decide) _ | exact qv.2 | exact (fun z => ⟨by omega, hca⟩) | exact (fun z => ⟨by omega, hca z⟩) | (intro z; exfalso; omega)) | refine vi_arr (by decide) (by decide) ?_ | refine vi_up (by decide) (by decide) ?_ | refine vi_val (ck := 106) (by decide) (by decide) (by decide) ?_ ⟨by omega, by omega⟩))) (by unfold pw_jmp; omega) (by omega) (by (repeat (first | exact ag_refl | refine ag_up rfl ?_))) (fun j hj => by simp [ja_up, hj]) (by simp [ja_up]) (show (((h 0 149) - 1) + 1) = (h 0 149) + pw_th ((h 74 (a1).toNat)) by rw [xth]; omega) (show (h 0 168) = (h 0 168) + pw_tj ((h 74 (a1).toNat)) by rw [xtj]; omega))) g10
    · refine ja_iconst dflowWord_126 ?_
      refine ja_goto 131 dflowWord_127 rfl ?_
      refine ja_icmp_ne 549 dflowWord_131 rfl ⟨by omega, by omega⟩ ⟨by decide, by decide⟩ (fun c131 => ?_) (fun c131 => ?_)
      · refine ja_return dflowWord_549 rfl ?_
        exact k1 (ja_up h 0 149 ((h 0 149) - 1)) ((ex_next (wd := 0) p1 g4 (by (repeat (first | exact qv | refine vi_set (by decide) (by decide) (by decide) ?_ (by first | exact (fun z => absurd z (by decide)) | exact vi_aS qv (by decide) _ | exact qv.2 | exact (fun z => ⟨by omega, hca⟩) | exact (fun z => ⟨by omega, hca z⟩) | (intro z; exfalso; omega)) | refine vi_res ?_ (by first | exact (fun z => absurd z (by decide)) | exact vi_aS qv (by decide) _ | exact qv.2 | exact (fun z => ⟨by omega, hca⟩) | exact (fun z => ⟨by omega, hca z⟩) | (intro z; exfalso; omega)) | refine vi_arr (by decide) (by decide) ?_ | refine vi_up (by decide) (by decide) ?_ | refine vi_val (ck := 106) (by decide) (by decide) (by decide) ?_ ⟨by omega, by omega⟩))) ⟨by omega, by omega, by omega⟩ (by (repeat (first | exact ag_refl | refine ag_up rfl ?_))) (fun _ => rfl) (tw_0 (show (h 0 186) = 0 by omega)) (Or.inl (show (h 0 186) = 0 by omega)) (show ((h 0 149) - 1) = (h 0 149) + pw_eff ((h 74 (a1).toNat)) ((h 75 (a1).toNat)) (pw_pop h ((h 75 (a1).toNat))) - 0 by omega) (Or.inl (show (h 0 132) = (h 0 132) by omega)))) g4
      · refine ja_aload_n dflowWord_134 rfl rfl ?_
        refine ja_iconst dflowWord_135 ?_
        refine ja_iload dflowWord_136 rfl ?_
        refine t_asWhole (by decide) (show (2 : Nat) ≤ 8 by decide) dflowWord_138 g4 ⟨by omega, by omega⟩ ?_
        intro w11 k138_0
        replace k138_0 : 0 ≤ w11 ∧ w11 ≤ 1 := k138_0
        refine t_put (by decide) (show (0 : Nat) ≤ 8 by decide) dflowWord_141 g4 ⟨by decide, by decide⟩ ⟨by omega, by omega⟩ (show 0 ≤ 1 ∧ 1 ≤ 2 by omega) (show ((h 0 149) - 1) < 6000 by omega) ?_
        intro g12
        replace g12 : mo_G mo_zr (ja_up (ja_up (ja_up (ja_up h 0 149 ((h 0 149) - 1)) 94 (((h 0 149) - 1).toNat) 1) 95 (((h 0 149) - 1).toNat) w11) 0 149 (((h 0 149) - 1) + 1)) := g12
        show mJ l D cA ad 2 cX12_flowWord 9 none 144 [(4, (0, w7)), (3, (0, (h 75 (a1).toNat))), (0, (2, ((0 : Nat) : Int))), (1, (0, a1)), (2, (0, a2))] [] (ja_up (ja_up (ja_up (ja_up h 0 149 ((h 0 149) - 1)) 94 (((h 0 149) - 1).toNat) 1) 95 (((h 0 149) - 1).toNat) w11) 0 149 (((h 0 149) - 1) + 1)) Q
        refine ja_aload_n dflowWord_144 rfl rfl ?_
        refine fa_framePc dflowWord_145 ?_
        refine ja_iload_n dflowWord_148 rfl rfl ?_
        refine ja_iload_n dflowWord_149 rfl rfl ?_
        have g13 := gW_framePc g12 (a2).toNat (x := h 75 (a1).toNat) ⟨by omega, by omega⟩
        refine is_framePc ⟨by omega, by omega⟩ dflowWord_150 ?_
        refine ja_goto 549 dflowWord_151 rfl ?_
        refine ja_return dflowWord_549 rfl ?_
        exact k1 (ja_up (ja_up (ja_up (ja_up (ja_up h 0 149 ((h 0 149) - 1)) 94 (((h 0 149) - 1).toNat) 1) 95 (((h 0 149) - 1).toNat) w11) 0 149 (((h 0 149) - 1) + 1)) 97 ((a2).toNat) (h 75 (a1).toNat)) ((ex_jump p1 g13 (by (repeat (first | exact qv | refine vi_set (by decide) (by decide) (by decide) ?_ (by first | exact (fun z => absurd z (by decide)) | exact vi_aS qv (by decide) _ | exact qv.2 | exact (fun z => ⟨by omega, hca⟩) | exact (fun z => ⟨by omega, hca z⟩) | (intro z; exfalso; omega)) | refine vi_res ?_ (by first | exact (fun z => absurd z (by decide)) | exact vi_aS qv (by decide) _ | exact qv.2 | exact (fun z => ⟨by omega, hca⟩) | exact (fun z => ⟨by omega, hca z⟩) | (intro z; exfalso; omega)) | refine vi_arr (by decide) (by decide) ?_ | refine vi_up (by decide) (by decide) ?_ | refine vi_val (ck := 106) (by decide) (by decide) (by decide) ?_ ⟨by omega, by omega⟩))) (by unfold pw_jmp; omega) (by omega) (by (repeat (first | exact ag_refl | refine ag_up rfl ?_))) (fun j hj => by simp [ja_up, hj]) (by simp [ja_up]) (show (((h 0 149) - 1) + 1) = (h 0 149) + pw_th ((h 74 (a1).toNat)) by rw [xth]; omega) (show (h 0 168) = (h 0 168) + pw_tj ((h 74 (a1).toNat)) by rw [xtj]; omega))) g13
  have T13_154 : (h 74 (a1).toNat = 14) → mJ l D cA ad 2 cX12_flowWord 9 none 154 [(3, (0, (h 75 (a1).toNat))), (0, (2, ((0 : Nat) : Int))), (1, (0, a1)), (2, (0, a2))] [] h Q := by
    intro e13
    have xe := eff_0 (o := (h 74 (a1).toNat)) (a := (h 75 (a1).toNat)) (q := pw_pop h (h 75 (a1).toNat)) (by omega)
    refine ja_aload_n dflowWord_154 rfl rfl ?_
    refine ja_dup dflowWord_155 (by decide) ?_
    refine fg_pile (v := h 0 149) rfl dflowWord_156 ?_
    have f14 := gF_pile g
    refine ja_iconst dflowWord_159 ?_
    refine ja_isub dflowWord_160 ?_
    have g15 := gP_pile g (x := (h 0 149) - 1) ⟨by omega, by omega⟩
    refine fp_pile dflowWord_161 ?_
    refine ja_aload_n dflowWord_164 rfl rfl ?_
    refine ja_iconst dflowWord_165 ?_
    refine ja_aload_n dflowWord_166 rfl rfl ?_
    refine fa_pileKind dflowWord_167 ?_
    refine ja_aload_n dflowWord_170 rfl rfl ?_
    refine fg_pile (v := (h 0 149) - 1) rfl dflowWord_171 ?_
    refine il_pileKind (v := h 94 ((h 0 149) - 1).toNat) rfl ⟨by omega, by omega⟩ dflowWord_174 ?_
    have f16 := gC_pileKind g ((h 0 149) - 1).toNat
    refine ja_aload_n dflowWord_175 rfl rfl ?_
    refine fa_pileValue dflowWord_176 ?_
    refine ja_aload_n dflowWord_179 rfl rfl ?_
    refine fg_pile (v := (h 0 149) - 1) rfl dflowWord_180 ?_
    refine il_pileValue (v := h 95 ((h 0 149) - 1).toNat) rfl ⟨by omega, by omega⟩ dflowWord_183 ?_
    have f17 := gC_pileValue g ((h 0 149) - 1).toNat
    refine t_isTrue (by decide) (show (2 : Nat) ≤ 8 by decide) dflowWord_184 g15 ⟨by omega, by omega⟩ ⟨by omega, by omega⟩ ?_
    intro w18 k184_0
    replace k184_0 : 0 ≤ w18 ∧ w18 ≤ 1 := k184_0
    refine t_asWhole (by decide) (show (2 : Nat) ≤ 8 by decide) dflowWord_187 g15 ⟨by omega, by omega⟩ ?_
    intro w19 k187_0
    replace k187_0 : 0 ≤ w19 ∧ w19 ≤ 1 := k187_0
    refine t_put (by decide) (show (0 : Nat) ≤ 8 by decide) dflowWord_190 g15 ⟨by decide, by decide⟩ ⟨by omega, by omega⟩ (show 0 ≤ 1 ∧ 1 ≤ 2 by omega) (show ((h 0 149) - 1) < 6000 by omega) ?_
    intro g20
    replace g20 : mo_G mo_zr (ja_up (ja_up (ja_up (ja_up h 0 149 ((h 0 149) - 1)) 94 (((h 0 149) - 1).toNat) 1) 95 (((h 0 149) - 1).toNat) w19) 0 149 (((h 0 149) - 1) + 1)) := g20
    show mJ l D cA ad 2 cX12_flowWord 9 none 193 [(3, (0, (h 75 (a1).toNat))), (0, (2, ((0 : Nat) : Int))), (1, (0, a1)), (2, (0, a2))] [] (ja_up (ja_up (ja_up (ja_up h 0 149 ((h 0 149) - 1)) 94 (((h 0 149) - 1).toNat) 1) 95 (((h 0 149) - 1).toNat) w19) 0 149 (((h 0 149) - 1) + 1)) Q
    refine ja_goto 549 dflowWord_193 rfl ?_
    refine ja_return dflowWord_549 rfl ?_
    exact k1 (ja_up (ja_up (ja_up (ja_up h 0 149 ((h 0 149) - 1)) 94 (((h 0 149) - 1).toNat) 1) 95 (((h 0 149) - 1).toNat) w19) 0 149 (((h 0 149) - 1) + 1)) ((ex_next (wd := 0) p1 g20 (by (repeat (first | exact qv | refine vi_set (by decide) (by decide) (by decide) ?_ (by first | exact (fun z => absurd z (by decide)) | exact vi_aS qv (by decide) _ | exact qv.2 | exact (fun z => ⟨by omega, hca⟩) | exact (fun z => ⟨by omega, hca z⟩) | (intro z; exfalso; omega)) | refine vi_res ?_ (by first | exact (fun z => absurd z (by decide)) | exact vi_aS qv (by decide) _ | exact qv.2 | exact (fun z => ⟨by omega, hca⟩) | exact (fun z => ⟨by omega, hca z⟩) | (intro z; exfalso; omega)) | refine vi_arr (by decide) (by decide) ?_ | refine vi_up (by decide) (by decide) ?_ | refine vi_val (ck := 106) (by decide) (by decide) (by decide) ?_ ⟨by omega, by omega⟩))) ⟨by omega, by omega, by omega⟩ (by (repeat (first | exact ag_refl | refine ag_up rfl ?_))) (fun _ => rfl) (tw_0 (show (h 0 186) = 0 by omega)) (Or.inl (show (h 0 186) = 0 by omega)) (show (((h 0 149) - 1) + 1) = (h 0 149) + pw_eff ((h 74 (a1).toNat)) ((h 75 (a1).toNat)) (pw_pop h ((h 75 (a1).toNat))) - 0 by omega) (Or.inl (show (h 0 132) = (h 0 132) by omega)))) g20
  have T13_196 : (h 74 (a1).toNat = 17) → mJ l D cA ad 2 cX12_flowWord 9 none 196 [(3, (0, (h 75 (a1).toNat))), (0, (2, ((0 : Nat) : Int))), (1, (0, a1)), (2, (0, a2))] [] h Q := by
    intro e13
    have xe := eff_m (o := (h 74 (a1).toNat)) (a := (h 75 (a1).toNat)) (q := pw_pop h (h 75 (a1).toNat)) (by omega)
    refine ja_aload_n dflowWord_196 rfl rfl ?_
    refine ja_dup dflowWord_197 (by decide) ?_
    refine fg_pile (v := h 0 149) rfl dflowWord_198 ?_
    have f21 := gF_pile g
    refine ja_iconst dflowWord_201 ?_
    refine ja_isub dflowWord_202 ?_
    have g22 := gP_pile g (x := (h 0 149) - 1) ⟨by omega, by omega⟩
    refine fp_pile dflowWord_203 ?_
    refine ja_goto 549 dflowWord_206 rfl ?_
    refine ja_return dflowWord_549 rfl ?_
    exact k1 (ja_up h 0 149 ((h 0 149) - 1)) ((ex_next (wd := 0) p1 g22 (by (repeat (first | exact qv | refine vi_set (by decide) (by decide) (by decide) ?_ (by first | exact (fun z => absurd z (by decide)) | exact vi_aS qv (by decide) _ | exact qv.2 | exact (fun z => ⟨by omega, hca⟩) | exact (fun z => ⟨by omega, hca z⟩) | (intro z; exfalso; omega)) | refine vi_res ?_ (by first | exact (fun z => absurd z (by decide)) | exact vi_aS qv (by decide) _ | exact qv.2 | exact (fun z => ⟨by omega, hca⟩) | exact (fun z => ⟨by omega, hca z⟩) | (intro z; exfalso; omega)) | refine vi_arr (by decide) (by decide) ?_ | refine vi_up (by decide) (by decide) ?_ | refine vi_val (ck := 106) (by decide) (by decide) (by decide) ?_ ⟨by omega, by omega⟩))) ⟨by omega, by omega, by omega⟩ (by (repeat (first | exact ag_refl | refine ag_up rfl ?_))) (fun _ => rfl) (tw_0 (show (h 0 186) = 0 by omega)) (Or.inl (show (h 0 186) = 0 by omega)) (show ((h 0 149) - 1) = (h 0 149) + pw_eff ((h 74 (a1).toNat)) ((h 75 (a1).toNat)) (pw_pop h ((h 75 (a1).toNat))) - 0 by omega) (Or.inl (show (h 0 132) = (h 0 132) by omega)))) g22
  have T13_209 : (h 74 (a1).toNat = 18) → mJ l D cA ad 2 cX12_flowWord 9 none 209 [(3, (0, (h 75 (a1).toNat))), (0, (2, ((0 : Nat) : Int))), (1, (0, a1)), (2, (0, a2))] [] h Q := by
    intro e13
    have xe := eff_m (o := (h 74 (a1).toNat)) (a := (h 75 (a1).toNat)) (q := pw_pop h (h 75 (a1).toNat)) (by omega)
    refine ja_aload_n dflowWord_209 rfl rfl ?_
    refine ja_dup dflowWord_210 (by decide) ?_
    refine fg_pile (v := h 0 149) rfl dflowWord_211 ?_
    have f23 := gF_pile g
    refine ja_iconst dflowWord_214 ?_
    refine ja_isub dflowWord_215 ?_
    have g24 := gP_pile g (x := (h 0 149) - 1) ⟨by omega, by omega⟩
    refine fp_pile dflowWord_216 ?_
    refine ja_aload_n dflowWord_219 rfl rfl ?_
    refine fg_outputs (v := h 0 132) rfl dflowWord_220 ?_
    have f25 := gF_outputs g
    refine ja_sipush 300 dflowWord_223 rfl ?_
    refine ja_icmp_ge 265 dflowWord_226 rfl ⟨by omega, by omega⟩ ⟨by decide, by decide⟩ (fun c226 => ?_) (fun c226 => ?_)
    · refine ja_aload_n dflowWord_265 rfl rfl ?_
      refine ja_dup dflowWord_266 (by decide) ?_
      refine fg_outputs (v := h 0 132) rfl dflowWord_267 ?_
      refine ja_iconst dflowWord_270 ?_
      refine ja_iadd dflowWord_271 ?_
      have g26 := gP_outputs g24 (x := (h 0 132) + 1) ⟨by omega, by omega⟩
      refine fp_outputs dflowWord_272 ?_
      refine ja_goto 549 dflowWord_275 rfl ?_
      refine ja_return dflowWord_549 rfl ?_
      exact k1 (ja_up (ja_up h 0 149 ((h 0 149) - 1)) 0 132 ((h 0 132) + 1)) ((ex_next (wd := 0) p1 g26 (by (repeat (first | exact qv | refine vi_set (by decide) (by decide) (by decide) ?_ (by first | exact (fun z => absurd z (by decide)) | exact vi_aS qv (by decide) _ | exact qv.2 | exact (fun z => ⟨by omega, hca⟩) | exact (fun z => ⟨by omega, hca z⟩) | (intro z; exfalso; omega)) | refine vi_res ?_ (by first | exact (fun z => absurd z (by decide)) | exact vi_aS qv (by decide) _ | exact qv.2 | exact (fun z => ⟨by omega, hca⟩) | exact (fun z => ⟨by omega, hca z⟩) | (intro z; exfalso; omega)) | refine vi_arr (by decide) (by decide) ?_ | refine vi_up (by decide) (by decide) ?_ | refine vi_val (ck := 106) (by decide) (by decide) (by decide) ?_ ⟨by omega, by omega⟩))) ⟨by omega, by omega, by omega⟩ (by (repeat (first | exact ag_refl | refine ag_up rfl ?_))) (fun _ => rfl) (tw_0 (show (h 0 186) = 0 by omega)) (Or.inl (show (h 0 186) = 0 by omega)) (show ((h 0 149) - 1) = (h 0 149) + pw_eff ((h 74 (a1).toNat)) ((h 75 (a1).toNat)) (pw_pop h ((h 75 (a1).toNat))) - 0 by omega) (Or.inr ⟨(show ((h 0 132) + 1) = (h 0 132) + 1 by omega), by omega⟩))) g26
    · refine ja_aload_n dflowWord_229 rfl rfl ?_
      refine fa_outputKind dflowWord_230 ?_
      refine ja_aload_n dflowWord_233 rfl rfl ?_
      refine fg_outputs (v := h 0 132) rfl dflowWord_234 ?_
      refine ja_aload_n dflowWord_237 rfl rfl ?_
      refine fa_pileKind dflowWord_238 ?_
      refine ja_aload_n dflowWord_241 rfl rfl ?_
      refine fg_pile (v := (h 0 149) - 1) rfl dflowWord_242 ?_
      refine il_pileKind (v := h 94 ((h 0 149) - 1).toNat) rfl ⟨by omega, by omega⟩ dflowWord_245 ?_
      have f27 := gC_pileKind g ((h 0 149) - 1).toNat
      have g28 := gW_outputKind g24 (h 0 132).toNat (x := h 94 ((h 0 149) - 1).toNat) ⟨by omega, by omega⟩
      refine is_outputKind ⟨by omega, by omega⟩ dflowWord_246 ?_
      refine ja_aload_n dflowWord_247 rfl rfl ?_
      refine fa_outputValue dflowWord_248 ?_
      refine ja_aload_n dflowWord_251 rfl rfl ?_
      refine fg_outputs (v := h 0 132) rfl dflowWord_252 ?_
      refine ja_aload_n dflowWord_255 rfl rfl ?_
      refine fa_pileValue dflowWord_256 ?_
      refine ja_aload_n dflowWord_259 rfl rfl ?_
      refine fg_pile (v := (h 0 149) - 1) rfl dflowWord_260 ?_
      refine il_pileValue (v := h 95 ((h 0 149) - 1).toNat) rfl ⟨by omega, by omega⟩ dflowWord_263 ?_
      have f29 := gC_pileValue g ((h 0 149) - 1).toNat
      have g30 := gW_outputValue g28 (h 0 132).toNat (x := h 95 ((h 0 149) - 1).toNat) ⟨by omega, by omega⟩
      refine is_outputValue ⟨by omega, by omega⟩ dflowWord_264 ?_
      refine ja_aload_n dflowWord_265 rfl rfl ?_
      refine ja_dup dflowWord_266 (by decide) ?_
      refine fg_outputs (v := h 0 132) rfl dflowWord_267 ?_
      refine ja_iconst dflowWord_270 ?_
      refine ja_iadd dflowWord_271 ?_
      have g31 := gP_outputs g30 (x := (h 0 132) + 1) ⟨by omega, by omega⟩
      refine fp_outputs dflowWord_272 ?_
      refine ja_goto 549 dflowWord_275 rfl ?_
      refine ja_return dflowWord_549 rfl ?_
      exact k1 (ja_up (ja_up (ja_up (ja_up h 0 149 ((h 0 149) - 1)) 85 ((h 0 132).toNat) (h 94 ((h 0 149) - 1).toNat)) 86 ((h 0 132).toNat) (h 95 ((h 0 149) - 1).toNat)) 0 132 ((h 0 132) + 1)) ((ex_next (wd := 0) p1 g31 (by (repeat (first | exact qv | refine vi_set (by decide) (by decide) (by decide) ?_ (by first | exact (fun z => absurd z (by decide)) | exact vi_aS qv (by decide) _ | exact qv.2 | exact (fun z => ⟨by omega, hca⟩) | exact (fun z => ⟨by omega, hca z⟩) | (intro z; exfalso; omega)) | refine vi_res ?_ (by first | exact (fun z => absurd z (by decide)) | exact vi_aS qv (by decide) _ | exact qv.2 | exact (fun z => ⟨by omega, hca⟩) | exact (fun z => ⟨by omega, hca z⟩) | (intro z; exfalso; omega)) | refine vi_arr (by decide) (by decide) ?_ | refine vi_up (by decide) (by decide) ?_ | refine vi_val (ck := 106) (by decide) (by decide) (by decide) ?_ ⟨by omega, by omega⟩))) ⟨by omega, by omega, by omega⟩ (by (repeat (first | exact ag_refl | refine ag_up rfl ?_))) (fun _ => rfl) (tw_0 (show (h 0 186) = 0 by omega)) (Or.inl (show (h 0 186) = 0 by omega)) (show ((h 0 149) - 1) = (h 0 149) + pw_eff ((h 74 (a1).toNat)) ((h 75 (a1).toNat)) (pw_pop h ((h 75 (a1).toNat))) - 0 by omega) (Or.inr ⟨(show ((h 0 132) + 1) = (h 0 132) + 1 by omega), by omega⟩))) g31
  have T13_278 : (h 74 (a1).toNat = 20) → mJ l D cA ad 2 cX12_flowWord 9 none 278 [(3, (0, (h 75 (a1).toNat))), (0, (2, ((0 : Nat) : Int))), (1, (0, a1)), (2, (0, a2))] [] h Q := by
    intro e13
    have xe := eff_m (o := (h 74 (a1).toNat)) (a := (h 75 (a1).toNat)) (q := pw_pop h (h 75 (a1).toNat)) (by omega)
    refine ja_aload_n dflowWord_278 rfl rfl ?_
    refine ja_dup dflowWord_279 (by decide) ?_
    refine fg_pile (v := h 0 149) rfl dflowWord_280 ?_
    have f32 := gF_pile g
    refine ja_iconst dflowWord_283 ?_
    refine ja_isub dflowWord_284 ?_
    have g33 := gP_pile g (x := (h 0 149) - 1) ⟨by omega, by omega⟩
    refine fp_pile dflowWord_285 ?_
    refine ja_aload_n dflowWord_288 rfl rfl ?_
    refine ja_iconst dflowWord_289 ?_
    have g34 := gP_under g33 (x := 1) ⟨by decide, by decide⟩
    refine fp_under dflowWord_290 ?_
    refine ja_aload_n dflowWord_293 rfl rfl ?_
    refine ja_iconst dflowWord_294 ?_
    have g35 := gP_resultFails g34 (x := 1) ⟨by decide, by decide⟩
    refine fp_resultFails (by omega) dflowWord_295 ?_
    refine ja_aload_n dflowWord_298 rfl rfl ?_
    refine ja_aload_n dflowWord_299 rfl rfl ?_
    refine fa_pileKind dflowWord_300 ?_
    refine ja_aload_n dflowWord_303 rfl rfl ?_
    refine fg_pile (v := (h 0 149) - 1) rfl dflowWord_304 ?_
    refine il_pileKind (v := h 94 ((h 0 149) - 1).toNat) rfl ⟨by omega, by omega⟩ dflowWord_307 ?_
    have f36 := gC_pileKind g ((h 0 149) - 1).toNat
    have g37 := gP_resultKind g35 (x := h 94 ((h 0 149) - 1).toNat) ⟨by omega, by omega⟩
    refine fp_resultKind dflowWord_308 ?_
    refine ja_aload_n dflowWord_311 rfl rfl ?_
    refine ja_aload_n dflowWord_312 rfl rfl ?_
    refine fa_pileValue dflowWord_313 ?_
    refine ja_aload_n dflowWord_316 rfl rfl ?_
    refine fg_pile (v := (h 0 149) - 1) rfl dflowWord_317 ?_
    refine il_pileValue (v := h 95 ((h 0 149) - 1).toNat) rfl ⟨by omega, by omega⟩ dflowWord_320 ?_
    have f38 := gC_pileValue g ((h 0 149) - 1).toNat
    have g39 := gP_resultValue g37 (x := h 95 ((h 0 149) - 1).toNat) ⟨by omega, by omega⟩
    refine fp_resultValue dflowWord_321 ?_
    refine ja_goto 549 dflowWord_324 rfl ?_
    refine ja_return dflowWord_549 rfl ?_
    exact k1 (ja_up (ja_up (ja_up (ja_up (ja_up h 0 149 ((h 0 149) - 1)) 0 186 1) 0 187 1) 0 188 (h 94 ((h 0 149) - 1).toNat)) 0 189 (h 95 ((h 0 149) - 1).toNat)) ((ex_next (wd := 0) p1 g39 (by (repeat (first | exact qv | refine vi_set (by decide) (by decide) (by decide) ?_ (by first | exact (fun z => absurd z (by decide)) | exact vi_aS qv (by decide) _ | exact qv.2 | exact (fun z => ⟨by omega, hca⟩) | exact (fun z => ⟨by omega, hca z⟩) | (intro z; exfalso; omega)) | refine vi_res ?_ (by first | exact (fun z => absurd z (by decide)) | exact vi_aS qv (by decide) _ | exact qv.2 | exact (fun z => ⟨by omega, hca⟩) | exact (fun z => ⟨by omega, hca z⟩) | (intro z; exfalso; omega)) | refine vi_arr (by decide) (by decide) ?_ | refine vi_up (by decide) (by decide) ?_ | refine vi_val (ck := 106) (by decide) (by decide) (by decide) ?_ ⟨by omega, by omega⟩))) ⟨by omega, by omega, by omega⟩ (by (repeat (first | exact ag_refl | refine ag_up rfl ?_))) (fun _ => rfl) (tw_f (by simp [ja_up]) (by simp [ja_up])) (Or.inr (by simp [ja_up])) (show ((h 0 149) - 1) = (h 0 149) + pw_eff ((h 74 (a1).toNat)) ((h 75 (a1).toNat)) (pw_pop h ((h 75 (a1).toNat))) - 0 by omega) (Or.inl (show (h 0 132) = (h 0 132) by omega)))) g39
  have T13_327 : (h 74 (a1).toNat = 21) → mJ l D cA ad 2 cX12_flowWord 9 none 327 [(3, (0, (h 75 (a1).toNat))), (0, (2, ((0 : Nat) : Int))), (1, (0, a1)), (2, (0, a2))] [] h Q := by
    intro e13
    have xth : pw_th (h 74 (a1).toNat) = 0 := (by rw [e13]; rfl)
    have xtj : pw_tj (h 74 (a1).toNat) = 0 := (by rw [e13]; rfl)
    have xja := ex_jA p1 (by unfold pw_jmp; omega)
    refine ja_aload_n dflowWord_327 rfl rfl ?_
    refine fa_framePc dflowWord_328 ?_
    refine ja_iload_n dflowWord_331 rfl rfl ?_
    refine ja_iload_n dflowWord_332 rfl rfl ?_
    have g40 := gW_framePc g (a2).toNat (x := h 75 (a1).toNat) ⟨by omega, by omega⟩
    refine is_framePc ⟨by omega, by omega⟩ dflowWord_333 ?_
    refine ja_goto 549 dflowWord_334 rfl ?_
    refine ja_return dflowWord_549 rfl ?_
    exact k1 (ja_up h 97 ((a2).toNat) (h 75 (a1).toNat)) ((ex_jump p1 g40 (by (repeat (first | exact qv | refine vi_set (by decide) (by decide) (by decide) ?_ (by first | exact (fun z => absurd z (by decide)) | exact vi_aS qv (by decide) _ | exact qv.2 | exact (fun z => ⟨by omega, hca⟩) | exact (fun z => ⟨by omega, hca z⟩) | (intro z; exfalso; omega)) | refine vi_res ?_ (by first | exact (fun z => absurd z (by decide)) | exact vi_aS qv (by decide) _ | exact qv.2 | exact (fun z => ⟨by omega, hca⟩) | exact (fun z => ⟨by omega, hca z⟩) | (intro z; exfalso; omega)) | refine vi_arr (by decide) (by decide) ?_ | refine vi_up (by decide) (by decide) ?_ | refine vi_val (ck := 106) (by decide) (by decide) (by decide) ?_ ⟨by omega, by omega⟩))) (by unfold pw_jmp; omega) (by omega) (by (repeat (first | exact ag_refl | refine ag_up rfl ?_))) (fun j hj => by simp [ja_up, hj]) (by simp [ja_up]) (show (h 0 149) = (h 0 149) + pw_th ((h 74 (a1).toNat)) by rw [xth]; omega) (show (h 0 168) = (h 0 168) + pw_tj ((h 74 (a1).toNat)) by rw [xtj]; omega))) g40
  have T13_337 : (h 74 (a1).toNat = 22) → mJ l D cA ad 2 cX12_flowWord 9 none 337 [(3, (0, (h 75 (a1).toNat))), (0, (2, ((0 : Nat) : Int))), (1, (0, a1)), (2, (0, a2))] [] h Q := by
    intro e13
    have xe := eff_m (o := (h 74 (a1).toNat)) (a := (h 75 (a1).toNat)) (q := pw_pop h (h 75 (a1).toNat)) (by omega)
    have xth : pw_th (h 74 (a1).toNat) = (-1) := (by rw [e13]; rfl)
    have xtj : pw_tj (h 74 (a1).toNat) = 0 := (by rw [e13]; rfl)
    have xja := ex_jA p1 (by unfold pw_jmp; omega)
    refine ja_aload_n dflowWord_337 rfl rfl ?_
    refine ja_dup dflowWord_338 (by decide) ?_
    refine fg_pile (v := h 0 149) rfl dflowWord_339 ?_
    have f41 := gF_pile g
    refine ja_iconst dflowWord_342 ?_
    refine ja_isub dflowWord_343 ?_
    have g42 := gP_pile g (x := (h 0 149) - 1) ⟨by omega, by omega⟩
    refine fp_pile dflowWord_344 ?_
    refine ja_aload_n dflowWord_347 rfl rfl ?_
    refine fa_framePc dflowWord_348 ?_
    refine ja_iload_n dflowWord_351 rfl rfl ?_
    refine ja_aload_n dflowWord_352 rfl rfl ?_
    refine fa_pileKind dflowWord_353 ?_
    refine ja_aload_n dflowWord_356 rfl rfl ?_
    refine fg_pile (v := (h 0 149) - 1) rfl dflowWord_357 ?_
    refine il_pileKind (v := h 94 ((h 0 149) - 1).toNat) rfl ⟨by omega, by omega⟩ dflowWord_360 ?_
    have f43 := gC_pileKind g ((h 0 149) - 1).toNat
    refine ja_aload_n dflowWord_361 rfl rfl ?_
    refine fa_pileValue dflowWord_362 ?_
    refine ja_aload_n dflowWord_365 rfl rfl ?_
    refine fg_pile (v := (h 0 149) - 1) rfl dflowWord_366 ?_
    refine il_pileValue (v := h 95 ((h 0 149) - 1).toNat) rfl ⟨by omega, by omega⟩ dflowWord_369 ?_
    have f44 := gC_pileValue g ((h 0 149) - 1).toNat
    refine t_isTrue (by decide) (show (2 : Nat) ≤ 8 by decide) dflowWord_370 g42 ⟨by omega, by omega⟩ ⟨by omega, by omega⟩ ?_
    intro w45 k370_0
    replace k370_0 : 0 ≤ w45 ∧ w45 ≤ 1 := k370_0
    refine ja_if_eq 385 dflowWord_373 rfl ⟨by omega, by omega⟩ (fun c373 => ?_) (fun c373 => ?_)
    · refine ja_iload_n dflowWord_385 rfl rfl ?_
      have g46 := gW_framePc g42 (a2).toNat (x := h 75 (a1).toNat) ⟨by omega, by omega⟩
      refine is_framePc ⟨by omega, by omega⟩ dflowWord_386 ?_
      refine ja_goto 549 dflowWord_387 rfl ?_
      refine ja_return dflowWord_549 rfl ?_
      exact k1 (ja_up (ja_up h 0 149 ((h 0 149) - 1)) 97 ((a2).toNat) (h 75 (a1).toNat)) ((ex_jump p1 g46 (by (repeat (first | exact qv | refine vi_set (by decide) (by decide) (by decide) ?_ (by first | exact (fun z => absurd z (by decide)) | exact vi_aS qv (by decide) _ | exact qv.2 | exact (fun z => ⟨by omega, hca⟩) | exact (fun z => ⟨by omega, hca z⟩) | (intro z; exfalso; omega)) | refine vi_res ?_ (by first | exact (fun z => absurd z (by decide)) | exact vi_aS qv (by decide) _ | exact qv.2 | exact (fun z => ⟨by omega, hca⟩) | exact (fun z => ⟨by omega, hca z⟩) | (intro z; exfalso; omega)) | refine vi_arr (by decide) (by decide) ?_ | refine vi_up (by decide) (by decide) ?_ | refine vi_val (ck := 106) (by decide) (by decide) (by decide) ?_ ⟨by omega, by omega⟩))) (by unfold pw_jmp; omega) (by omega) (by (repeat (first | exact ag_refl | refine ag_up rfl ?_))) (fun j hj => by simp [ja_up, hj]) (by simp [ja_up]) (show ((h 0 149) - 1) = (h 0 149) + pw_th ((h 74 (a1).toNat)) by rw [xth]; omega) (show (h 0 168) = (h 0 168) + pw_tj ((h 74 (a1).toNat)) by rw [xtj]; omega))) g46
    · refine ja_aload_n dflowWord_376 rfl rfl ?_
      refine fa_framePc dflowWord_377 ?_
      refine ja_iload_n dflowWord_380 rfl rfl ?_
      refine il_framePc (v := h 97 (a2).toNat) rfl ⟨by omega, by omega⟩ dflowWord_381 ?_
      have f47 := gC_framePc g (a2).toNat
      refine ja_goto 386 dflowWord_382 rfl ?_
      have g48 := gW_framePc g42 (a2).toNat (x := h 97 (a2).toNat) ⟨by omega, by omega⟩
      refine is_framePc ⟨by omega, by omega⟩ dflowWord_386 ?_
      refine ja_goto 549 dflowWord_387 rfl ?_
      refine ja_return dflowWord_549 rfl ?_
      exact k1 (ja_up (ja_up h 0 149 ((h 0 149) - 1)) 97 ((a2).toNat) (h 97 (a2).toNat)) ((ex_next (wd := 0) p1 g48 (by (repeat (first | exact qv | refine vi_set (by decide) (by decide) (by decide) ?_ (by first | exact (fun z => absurd z (by decide)) | exact vi_aS qv (by decide) _ | exact qv.2 | exact (fun z => ⟨by omega, hca⟩) | exact (fun z => ⟨by omega, hca z⟩) | (intro z; exfalso; omega)) | refine vi_res ?_ (by first | exact (fun z => absurd z (by decide)) | exact vi_aS qv (by decide) _ | exact qv.2 | exact (fun z => ⟨by omega, hca⟩) | exact (fun z => ⟨by omega, hca z⟩) | (intro z; exfalso; omega)) | refine vi_arr (by decide) (by decide) ?_ | refine vi_up (by decide) (by decide) ?_ | refine vi_val (ck := 106) (by decide) (by decide) (by decide) ?_ ⟨by omega, by omega⟩))) ⟨by omega, by omega, by omega⟩ (by (repeat (first | exact ag_refl | refine ag_up rfl ?_))) (fun j => by by_cases e : j = (a2).toNat; (subst e; simp [ja_up]); (simp [ja_up, e])) (tw_0 (show (h 0 186) = 0 by omega)) (Or.inl (show (h 0 186) = 0 by omega)) (show ((h 0 149) - 1) = (h 0 149) + pw_eff ((h 74 (a1).toNat)) ((h 75 (a1).toNat)) (pw_pop h ((h 75 (a1).toNat))) - 0 by omega) (Or.inl (show (h 0 132) = (h 0 132) by omega)))) g48
  have T13_390 : (h 74 (a1).toNat = 23) → mJ l D cA ad 2 cX12_flowWord 9 none 390 [(3, (0, (h 75 (a1).toNat))), (0, (2, ((0 : Nat) : Int))), (1, (0, a1)), (2, (0, a2))] [] h Q := by
    intro e13
    have xja := ex_jA p1 (by unfold pw_jmp; omega)
    refine ja_aload_n dflowWord_390 rfl rfl ?_
    refine fa_tryPc dflowWord_391 ?_
    refine ja_aload_n dflowWord_394 rfl rfl ?_
    refine fg_tries (v := h 0 168) rfl dflowWord_395 ?_
    have f49 := gF_tries g
    refine ja_iload_n dflowWord_398 rfl rfl ?_
    have g50 := gW_tryPc g (h 0 168).toNat (x := h 75 (a1).toNat) ⟨by omega, by omega⟩
    refine is_tryPc ⟨by omega, by omega⟩ dflowWord_399 ?_
    refine ja_aload_n dflowWord_400 rfl rfl ?_
    refine fa_tryPile dflowWord_401 ?_
    refine ja_aload_n dflowWord_404 rfl rfl ?_
    refine fg_tries (v := h 0 168) rfl dflowWord_405 ?_
    refine ja_aload_n dflowWord_408 rfl rfl ?_
    refine fg_pile (v := h 0 149) rfl dflowWord_409 ?_
    have f51 := gF_pile g
    have g52 := gW_tryPile g50 (h 0 168).toNat (x := h 0 149) ⟨by omega, by omega⟩
    refine is_tryPile ⟨by omega, by omega⟩ dflowWord_412 ?_
    refine ja_aload_n dflowWord_413 rfl rfl ?_
    refine ja_dup dflowWord_414 (by decide) ?_
    refine fg_tries (v := h 0 168) rfl dflowWord_415 ?_
    refine ja_iconst dflowWord_418 ?_
    refine ja_iadd dflowWord_419 ?_
    have g53 := gP_tries g52 (x := (h 0 168) + 1) ⟨by omega, by omega⟩
    refine fp_tries dflowWord_420 ?_
    refine ja_goto 549 dflowWord_423 rfl ?_
    refine ja_return dflowWord_549 rfl ?_
    exact k1 (ja_up (ja_up (ja_up h 112 ((h 0 168).toNat) (h 75 (a1).toNat)) 113 ((h 0 168).toNat) (h 0 149)) 0 168 ((h 0 168) + 1)) ((ex_try p1 g53 (by (repeat (first | exact qv | refine vi_set (by decide) (by decide) (by decide) ?_ (by first | exact (fun z => absurd z (by decide)) | exact vi_aS qv (by decide) _ | exact qv.2 | exact (fun z => ⟨by omega, hca⟩) | exact (fun z => ⟨by omega, hca z⟩) | (intro z; exfalso; omega)) | refine vi_res ?_ (by first | exact (fun z => absurd z (by decide)) | exact vi_aS qv (by decide) _ | exact qv.2 | exact (fun z => ⟨by omega, hca⟩) | exact (fun z => ⟨by omega, hca z⟩) | (intro z; exfalso; omega)) | refine vi_arr (by decide) (by decide) ?_ | refine vi_up (by decide) (by decide) ?_ | refine vi_val (ck := 106) (by decide) (by decide) (by decide) ?_ ⟨by omega, by omega⟩))) (by omega) (by (repeat (first | exact ag_refl | refine ag_up rfl ?_))) (by simp [ja_up]) (fun j hj => by simp [ja_up, hj]) (by simp [ja_up]) (by simp [ja_up]))) g53
  have T13_426 : (h 74 (a1).toNat = 24) → mJ l D cA ad 2 cX12_flowWord 9 none 426 [(3, (0, (h 75 (a1).toNat))), (0, (2, ((0 : Nat) : Int))), (1, (0, a1)), (2, (0, a2))] [] h Q := by
    intro e13
    have x24 := ex_24 p1 (by omega)
    have gft2 := gC_frameTries g (a2).toNat
    have xth : pw_th (h 74 (a1).toNat) = 0 := (by rw [e13]; rfl)
    have xtj : pw_tj (h 74 (a1).toNat) = (-1) := (by rw [e13]; rfl)
    have xja := ex_jA p1 (by unfold pw_jmp; omega)
    refine ja_aload_n dflowWord_426 rfl rfl ?_
    refine ja_dup dflowWord_427 (by decide) ?_
    refine fg_tries (v := h 0 168) rfl dflowWord_428 ?_
    have f54 := gF_tries g
    refine ja_iconst dflowWord_431 ?_
    refine ja_isub dflowWord_432 ?_
    have g55 := gP_tries g (x := (h 0 168) - 1) ⟨by omega, by omega⟩
    refine fp_tries dflowWord_433 ?_
    refine ja_aload_n dflowWord_436 rfl rfl ?_
    refine fa_framePc dflowWord_437 ?_
    refine ja_iload_n dflowWord_440 rfl rfl ?_
    refine ja_iload_n dflowWord_441 rfl rfl ?_
    have g56 := gW_framePc g55 (a2).toNat (x := h 75 (a1).toNat) ⟨by omega, by omega⟩
    refine is_framePc ⟨by omega, by omega⟩ dflowWord_442 ?_
    refine ja_goto 549 dflowWord_443 rfl ?_
    refine ja_return dflowWord_549 rfl ?_
    exact k1 (ja_up (ja_up h 0 168 ((h 0 168) - 1)) 97 ((a2).toNat) (h 75 (a1).toNat)) ((ex_jump p1 g56 (by (repeat (first | exact qv | refine vi_set (by decide) (by decide) (by decide) ?_ (by first | exact (fun z => absurd z (by decide)) | exact vi_aS qv (by decide) _ | exact qv.2 | exact (fun z => ⟨by omega, hca⟩) | exact (fun z => ⟨by omega, hca z⟩) | (intro z; exfalso; omega)) | refine vi_res ?_ (by first | exact (fun z => absurd z (by decide)) | exact vi_aS qv (by decide) _ | exact qv.2 | exact (fun z => ⟨by omega, hca⟩) | exact (fun z => ⟨by omega, hca z⟩) | (intro z; exfalso; omega)) | refine vi_arr (by decide) (by decide) ?_ | refine vi_up (by decide) (by decide) ?_ | refine vi_val (ck := 106) (by decide) (by decide) (by decide) ?_ ⟨by omega, by omega⟩))) (by unfold pw_jmp; omega) (by omega) (by (repeat (first | exact ag_refl | refine ag_up rfl ?_))) (fun j hj => by simp [ja_up, hj]) (by simp [ja_up]) (show (h 0 149) = (h 0 149) + pw_th ((h 74 (a1).toNat)) by rw [xth]; omega) (show ((h 0 168) - 1) = (h 0 168) + pw_tj ((h 74 (a1).toNat)) by rw [xtj]; omega))) g56
  have T13_446 : (h 74 (a1).toNat < 12 ∨ 24 < h 74 (a1).toNat ∨ h 74 (a1).toNat = 15 ∨ h 74 (a1).toNat = 16 ∨ h 74 (a1).toNat = 19) → mJ l D cA ad 2 cX12_flowWord 9 none 446 [(3, (0, (h 75 (a1).toNat))), (0, (2, ((0 : Nat) : Int))), (1, (0, a1)), (2, (0, a2))] [] h Q := by
    intro e13
    have xe : (h 74 (a1).toNat) = 19 → pw_need (h 74 (a1).toNat) (h 75 (a1).toNat) (pw_pop h (h 75 (a1).toNat)) = 1 := fun z => (eff_m (by omega)).2
    refine ja_aload_n dflowWord_446 rfl rfl ?_
    refine fa_op dflowWord_447 ?_
    refine ja_iload_n dflowWord_450 rfl rfl ?_
    refine il_op (v := h 74 (a1).toNat) rfl ⟨by omega, by omega⟩ dflowWord_451 ?_
    refine ja_bipush 19 dflowWord_452 rfl ?_
    refine ja_icmp_ne 461 dflowWord_454 rfl ⟨by omega, by omega⟩ ⟨by decide, by decide⟩ (fun c454 => ?_) (fun c454 => ?_)
    · refine ja_iconst dflowWord_461 ?_
      refine ja_istore dflowWord_462 (by decide) (L2 := [(5, (0, 0)), (3, (0, (h 75 (a1).toNat))), (0, (2, ((0 : Nat) : Int))), (1, (0, a1)), (2, (0, a2))]) rfl ?_
      refine ja_iload dflowWord_464 rfl ?_
      refine ja_if_eq 483 dflowWord_466 rfl ⟨by decide, by decide⟩ (fun c466 => ?_) (fun c466 => absurd c466 (by omega))
      refine ja_iconst dflowWord_483 ?_
      refine ja_istore dflowWord_484 (by decide) (L2 := [(6, (0, 0)), (5, (0, 0)), (3, (0, (h 75 (a1).toNat))), (0, (2, ((0 : Nat) : Int))), (1, (0, a1)), (2, (0, a2))]) rfl ?_
      refine ja_iload dflowWord_486 rfl ?_
      refine ja_if_eq 505 dflowWord_488 rfl ⟨by decide, by decide⟩ (fun c488 => ?_) (fun c488 => absurd c488 (by omega))
      refine ja_iconst dflowWord_505 ?_
      refine ja_istore dflowWord_506 (by decide) (L2 := [(7, (0, 0)), (6, (0, 0)), (5, (0, 0)), (3, (0, (h 75 (a1).toNat))), (0, (2, ((0 : Nat) : Int))), (1, (0, a1)), (2, (0, a2))]) rfl ?_
      refine ja_aload_n dflowWord_508 rfl rfl ?_
      refine fa_frameType dflowWord_509 ?_
      refine ja_iload_n dflowWord_512 rfl rfl ?_
      refine il_frameType (v := h 96 (a2).toNat) rfl ⟨by omega, by omega⟩ dflowWord_513 ?_
      have f57 := gC_frameType g (a2).toNat
      refine ja_if_ne 521 dflowWord_514 rfl ⟨by omega, by omega⟩ (fun c514 => ?_) (fun c514 => ?_)
      · refine ja_iconst dflowWord_521 ?_
        refine ja_istore dflowWord_522 (by decide) (L2 := [(8, (0, 0)), (7, (0, 0)), (6, (0, 0)), (5, (0, 0)), (3, (0, (h 75 (a1).toNat))), (0, (2, ((0 : Nat) : Int))), (1, (0, a1)), (2, (0, a2))]) rfl ?_
        refine ja_aload_n dflowWord_524 rfl rfl ?_
        refine t_leave (by decide) (show (0 : Nat) ≤ 8 by decide) dflowWord_525 g (show 1 ≤ (h 0 150) by omega) (show 0 ≤ (h 0 144) by omega) ?_
        intro w58 k525_0 g59
        replace k525_0 : ((h 96 ((h 0 150) - 1).toNat) = 0 ∧ w58 = (h 0 144)) ∨ (¬ (h 96 ((h 0 150) - 1).toNat) = 0 ∧ w58 = (h 0 144) - 1) := k525_0
        replace g59 : mo_G mo_zr (ja_up (ja_up (ja_up (ja_up (ja_up h 0 150 ((h 0 150) - 1)) 0 149 (h 99 ((h 0 150) - 1).toNat)) 0 168 (h 100 ((h 0 150) - 1).toNat)) 0 165 (h 101 ((h 0 150) - 1).toNat)) 0 144 w58) := g59
        show mJ l D cA ad 2 cX12_flowWord 9 none 528 [(8, (0, 0)), (7, (0, 0)), (6, (0, 0)), (5, (0, 0)), (3, (0, (h 75 (a1).toNat))), (0, (2, ((0 : Nat) : Int))), (1, (0, a1)), (2, (0, a2))] [] (ja_up (ja_up (ja_up (ja_up (ja_up h 0 150 ((h 0 150) - 1)) 0 149 (h 99 ((h 0 150) - 1).toNat)) 0 168 (h 100 ((h 0 150) - 1).toNat)) 0 165 (h 101 ((h 0 150) - 1).toNat)) 0 144 w58) Q
        refine ja_iload dflowWord_528 rfl ?_
        refine ja_if_eq 541 dflowWord_530 rfl ⟨by decide, by decide⟩ (fun c530 => ?_) (fun c530 => absurd c530 (by omega))
        refine ja_aload_n dflowWord_541 rfl rfl ?_
        refine ja_iload dflowWord_542 rfl ?_
        refine ja_iload dflowWord_544 rfl ?_
        refine t_result (by decide) (show (0 : Nat) ≤ 8 by decide) dflowWord_546 g59 ⟨by decide, by decide⟩ ⟨by decide, by decide⟩ (show 0 ≤ 0 ∧ 0 ≤ 2 by omega) ?_
        intro g60
        replace g60 : mo_G mo_zr (ja_up (ja_up (ja_up (ja_up (ja_up (ja_up (ja_up (ja_up (ja_up h 0 150 ((h 0 150) - 1)) 0 149 (h 99 ((h 0 150) - 1).toNat)) 0 168 (h 100 ((h 0 150) - 1).toNat)) 0 165 (h 101 ((h 0 150) - 1).toNat)) 0 144 w58) 0 186 1) 0 187 0) 0 188 0) 0 189 0) := g60
        show mJ l D cA ad 2 cX12_flowWord 9 none 549 [(8, (0, 0)), (7, (0, 0)), (6, (0, 0)), (5, (0, 0)), (3, (0, (h 75 (a1).toNat))), (0, (2, ((0 : Nat) : Int))), (1, (0, a1)), (2, (0, a2))] [] (ja_up (ja_up (ja_up (ja_up (ja_up (ja_up (ja_up (ja_up (ja_up h 0 150 ((h 0 150) - 1)) 0 149 (h 99 ((h 0 150) - 1).toNat)) 0 168 (h 100 ((h 0 150) - 1).toNat)) 0 165 (h 101 ((h 0 150) - 1).toNat)) 0 144 w58) 0 186 1) 0 187 0) 0 188 0) 0 189 0) Q
        refine ja_return dflowWord_549 rfl ?_
        exact k1 (ja_up (ja_up (ja_up (ja_up (ja_up (ja_up (ja_up (ja_up (ja_up h 0 150 ((h 0 150) - 1)) 0 149 (h 99 ((h 0 150) - 1).toNat)) 0 168 (h 100 ((h 0 150) - 1).toNat)) 0 165 (h 101 ((h 0 150) - 1).toNat)) 0 144 w58) 0 186 1) 0 187 0) 0 188 0) 0 189 0) ((ex_leave p1 g60 (by (repeat (first | exact qv | refine vi_set (by decide) (by decide) (by decide) ?_ (by first | exact (fun z => absurd z (by decide)) | exact vi_aS qv (by decide) _ | exact qv.2 | exact (fun z => ⟨by omega, hca⟩) | exact (fun z => ⟨by omega, hca z⟩) | (intro z; exfalso; omega)) | refine vi_res ?_ (by first | exact (fun z => absurd z (by decide)) | exact vi_aS qv (by decide) _ | exact qv.2 | exact (fun z => ⟨by omega, hca⟩) | exact (fun z => ⟨by omega, hca z⟩) | (intro z; exfalso; omega)) | refine vi_arr (by decide) (by decide) ?_ | refine vi_up (by decide) (by decide) ?_ | refine vi_val (ck := 106) (by decide) (by decide) (by decide) ?_ ⟨by omega, by omega⟩))) (by omega) (by (repeat (first | exact ag_refl | refine ag_up rfl ?_))) (by simp [ja_up]) (by rw [xf.1]; simp [ja_up]) (by rw [xf.1]; simp [ja_up]) (by rw [xf.1]; simp [ja_up]) (show w58 = (h 0 144) - 1 by omega) (by simp [ja_up]))) g60
      · refine ja_iconst dflowWord_517 ?_
        refine ja_goto 522 dflowWord_518 rfl ?_
        refine ja_istore dflowWord_522 (by decide) (L2 := [(8, (0, 1)), (7, (0, 0)), (6, (0, 0)), (5, (0, 0)), (3, (0, (h 75 (a1).toNat))), (0, (2, ((0 : Nat) : Int))), (1, (0, a1)), (2, (0, a2))]) rfl ?_
        refine ja_aload_n dflowWord_524 rfl rfl ?_
        refine t_leave (by decide) (show (0 : Nat) ≤ 8 by decide) dflowWord_525 g (show 1 ≤ (h 0 150) by omega) (show 0 ≤ (h 0 144) by omega) ?_
        intro w61 k525_0 g62
        replace k525_0 : ((h 96 ((h 0 150) - 1).toNat) = 0 ∧ w61 = (h 0 144)) ∨ (¬ (h 96 ((h 0 150) - 1).toNat) = 0 ∧ w61 = (h 0 144) - 1) := k525_0
        replace g62 : mo_G mo_zr (ja_up (ja_up (ja_up (ja_up (ja_up h 0 150 ((h 0 150) - 1)) 0 149 (h 99 ((h 0 150) - 1).toNat)) 0 168 (h 100 ((h 0 150) - 1).toNat)) 0 165 (h 101 ((h 0 150) - 1).toNat)) 0 144 w61) := g62
        show mJ l D cA ad 2 cX12_flowWord 9 none 528 [(8, (0, 1)), (7, (0, 0)), (6, (0, 0)), (5, (0, 0)), (3, (0, (h 75 (a1).toNat))), (0, (2, ((0 : Nat) : Int))), (1, (0, a1)), (2, (0, a2))] [] (ja_up (ja_up (ja_up (ja_up (ja_up h 0 150 ((h 0 150) - 1)) 0 149 (h 99 ((h 0 150) - 1).toNat)) 0 168 (h 100 ((h 0 150) - 1).toNat)) 0 165 (h 101 ((h 0 150) - 1).toNat)) 0 144 w61) Q
        refine ja_iload dflowWord_528 rfl ?_
        refine ja_if_eq 541 dflowWord_530 rfl ⟨by decide, by decide⟩ (fun c530 => absurd c530 (by omega)) (fun c530 => ?_)
        refine ja_aload_n dflowWord_533 rfl rfl ?_
        refine ja_iconst dflowWord_534 ?_
        have g63 := gP_state g62 (x := 0) ⟨by decide, by decide⟩
        refine fp_state dflowWord_535 ?_
        refine ja_goto 549 dflowWord_538 rfl ?_
        refine ja_return dflowWord_549 rfl ?_
        exact k1 (ja_up (ja_up (ja_up (ja_up (ja_up (ja_up h 0 150 ((h 0 150) - 1)) 0 149 (h 99 ((h 0 150) - 1).toNat)) 0 168 (h 100 ((h 0 150) - 1).toNat)) 0 165 (h 101 ((h 0 150) - 1).toNat)) 0 144 w61) 0 129 0) ((ex_main p1 (by (repeat (first | exact qv | refine vi_set (by decide) (by decide) (by decide) ?_ (by first | exact (fun z => absurd z (by decide)) | exact vi_aS qv (by decide) _ | exact qv.2 | exact (fun z => ⟨by omega, hca⟩) | exact (fun z => ⟨by omega, hca z⟩) | (intro z; exfalso; omega)) | refine vi_res ?_ (by first | exact (fun z => absurd z (by decide)) | exact vi_aS qv (by decide) _ | exact qv.2 | exact (fun z => ⟨by omega, hca⟩) | exact (fun z => ⟨by omega, hca z⟩) | (intro z; exfalso; omega)) | refine vi_arr (by decide) (by decide) ?_ | refine vi_up (by decide) (by decide) ?_ | refine vi_val (ck := 106) (by decide) (by decide) (by decide) ?_ ⟨by omega, by omega⟩))) (by (repeat (first | exact ag_refl | refine ag_up rfl ?_))) (by (repeat (first | exact ag_refl | refine ag_up rfl ?_))) (by simp [ja_up]))) g63
    · refine ja_iconst dflowWord_457 ?_
      refine ja_goto 462 dflowWord_458 rfl ?_
      refine ja_istore dflowWord_462 (by decide) (L2 := [(5, (0, 1)), (3, (0, (h 75 (a1).toNat))), (0, (2, ((0 : Nat) : Int))), (1, (0, a1)), (2, (0, a2))]) rfl ?_
      refine ja_iload dflowWord_464 rfl ?_
      refine ja_if_eq 483 dflowWord_466 rfl ⟨by decide, by decide⟩ (fun c466 => absurd c466 (by omega)) (fun c466 => ?_)
      refine ja_aload_n dflowWord_469 rfl rfl ?_
      refine fa_pileKind dflowWord_470 ?_
      refine ja_aload_n dflowWord_473 rfl rfl ?_
      refine fg_pile (v := h 0 149) rfl dflowWord_474 ?_
      have f64 := gF_pile g
      refine ja_iconst dflowWord_477 ?_
      refine ja_isub dflowWord_478 ?_
      refine il_pileKind (v := h 94 ((h 0 149) - 1).toNat) rfl ⟨by omega, by omega⟩ dflowWord_479 ?_
      have f65 := gC_pileKind g ((h 0 149) - 1).toNat
      refine ja_goto 484 dflowWord_480 rfl ?_
      refine ja_istore dflowWord_484 (by decide) (L2 := [(6, (0, (h 94 ((h 0 149) - 1).toNat))), (5, (0, 1)), (3, (0, (h 75 (a1).toNat))), (0, (2, ((0 : Nat) : Int))), (1, (0, a1)), (2, (0, a2))]) rfl ?_
      refine ja_iload dflowWord_486 rfl ?_
      refine ja_if_eq 505 dflowWord_488 rfl ⟨by decide, by decide⟩ (fun c488 => absurd c488 (by omega)) (fun c488 => ?_)
      refine ja_aload_n dflowWord_491 rfl rfl ?_
      refine fa_pileValue dflowWord_492 ?_
      refine ja_aload_n dflowWord_495 rfl rfl ?_
      refine fg_pile (v := h 0 149) rfl dflowWord_496 ?_
      refine ja_iconst dflowWord_499 ?_
      refine ja_isub dflowWord_500 ?_
      refine il_pileValue (v := h 95 ((h 0 149) - 1).toNat) rfl ⟨by omega, by omega⟩ dflowWord_501 ?_
      have f66 := gC_pileValue g ((h 0 149) - 1).toNat
      refine ja_goto 506 dflowWord_502 rfl ?_
      refine ja_istore dflowWord_506 (by decide) (L2 := [(7, (0, (h 95 ((h 0 149) - 1).toNat))), (6, (0, (h 94 ((h 0 149) - 1).toNat))), (5, (0, 1)), (3, (0, (h 75 (a1).toNat))), (0, (2, ((0 : Nat) : Int))), (1, (0, a1)), (2, (0, a2))]) rfl ?_
      refine ja_aload_n dflowWord_508 rfl rfl ?_
      refine fa_frameType dflowWord_509 ?_
      refine ja_iload_n dflowWord_512 rfl rfl ?_
      refine il_frameType (v := h 96 (a2).toNat) rfl ⟨by omega, by omega⟩ dflowWord_513 ?_
      have f67 := gC_frameType g (a2).toNat
      refine ja_if_ne 521 dflowWord_514 rfl ⟨by omega, by omega⟩ (fun c514 => ?_) (fun c514 => ?_)
      · refine ja_iconst dflowWord_521 ?_
        refine ja_istore dflowWord_522 (by decide) (L2 := [(8, (0, 0)), (7, (0, (h 95 ((h 0 149) - 1).toNat))), (6, (0, (h 94 ((h 0 149) - 1).toNat))), (5, (0, 1)), (3, (0, (h 75 (a1).toNat))), (0, (2, ((0 : Nat) : Int))), (1, (0, a1)), (2, (0, a2))]) rfl ?_
        refine ja_aload_n dflowWord_524 rfl rfl ?_
        refine t_leave (by decide) (show (0 : Nat) ≤ 8 by decide) dflowWord_525 g (show 1 ≤ (h 0 150) by omega) (show 0 ≤ (h 0 144) by omega) ?_
        intro w68 k525_0 g69
        replace k525_0 : ((h 96 ((h 0 150) - 1).toNat) = 0 ∧ w68 = (h 0 144)) ∨ (¬ (h 96 ((h 0 150) - 1).toNat) = 0 ∧ w68 = (h 0 144) - 1) := k525_0
        replace g69 : mo_G mo_zr (ja_up (ja_up (ja_up (ja_up (ja_up h 0 150 ((h 0 150) - 1)) 0 149 (h 99 ((h 0 150) - 1).toNat)) 0 168 (h 100 ((h 0 150) - 1).toNat)) 0 165 (h 101 ((h 0 150) - 1).toNat)) 0 144 w68) := g69
        show mJ l D cA ad 2 cX12_flowWord 9 none 528 [(8, (0, 0)), (7, (0, (h 95 ((h 0 149) - 1).toNat))), (6, (0, (h 94 ((h 0 149) - 1).toNat))), (5, (0, 1)), (3, (0, (h 75 (a1).toNat))), (0, (2, ((0 : Nat) : Int))), (1, (0, a1)), (2, (0, a2))] [] (ja_up (ja_up (ja_up (ja_up (ja_up h 0 150 ((h 0 150) - 1)) 0 149 (h 99 ((h 0 150) - 1).toNat)) 0 168 (h 100 ((h 0 150) - 1).toNat)) 0 165 (h 101 ((h 0 150) - 1).toNat)) 0 144 w68) Q
        refine ja_iload dflowWord_528 rfl ?_
        refine ja_if_eq 541 dflowWord_530 rfl ⟨by decide, by decide⟩ (fun c530 => ?_) (fun c530 => absurd c530 (by omega))
        refine ja_aload_n dflowWord_541 rfl rfl ?_
        refine ja_iload dflowWord_542 rfl ?_
        refine ja_iload dflowWord_544 rfl ?_
        refine t_result (by decide) (show (0 : Nat) ≤ 8 by decide) dflowWord_546 g69 ⟨by omega, by omega⟩ ⟨by omega, by omega⟩ (show 0 ≤ (h 94 ((h 0 149) - 1).toNat) ∧ (h 94 ((h 0 149) - 1).toNat) ≤ 2 by omega) ?_
        intro g70
        replace g70 : mo_G mo_zr (ja_up (ja_up (ja_up (ja_up (ja_up (ja_up (ja_up (ja_up (ja_up h 0 150 ((h 0 150) - 1)) 0 149 (h 99 ((h 0 150) - 1).toNat)) 0 168 (h 100 ((h 0 150) - 1).toNat)) 0 165 (h 101 ((h 0 150) - 1).toNat)) 0 144 w68) 0 186 1) 0 187 0) 0 188 (h 94 ((h 0 149) - 1).toNat)) 0 189 (h 95 ((h 0 149) - 1).toNat)) := g70
        show mJ l D cA ad 2 cX12_flowWord 9 none 549 [(8, (0, 0)), (7, (0, (h 95 ((h 0 149) - 1).toNat))), (6, (0, (h 94 ((h 0 149) - 1).toNat))), (5, (0, 1)), (3, (0, (h 75 (a1).toNat))), (0, (2, ((0 : Nat) : Int))), (1, (0, a1)), (2, (0, a2))] [] (ja_up (ja_up (ja_up (ja_up (ja_up (ja_up (ja_up (ja_up (ja_up h 0 150 ((h 0 150) - 1)) 0 149 (h 99 ((h 0 150) - 1).toNat)) 0 168 (h 100 ((h 0 150) - 1).toNat)) 0 165 (h 101 ((h 0 150) - 1).toNat)) 0 144 w68) 0 186 1) 0 187 0) 0 188 (h 94 ((h 0 149) - 1).toNat)) 0 189 (h 95 ((h 0 149) - 1).toNat)) Q
        refine ja_return dflowWord_549 rfl ?_
        exact k1 (ja_up (ja_up (ja_up (ja_up (ja_up (ja_up (ja_up (ja_up (ja_up h 0 150 ((h 0 150) - 1)) 0 149 (h 99 ((h 0 150) - 1).toNat)) 0 168 (h 100 ((h 0 150) - 1).toNat)) 0 165 (h 101 ((h 0 150) - 1).toNat)) 0 144 w68) 0 186 1) 0 187 0) 0 188 (h 94 ((h 0 149) - 1).toNat)) 0 189 (h 95 ((h 0 149) - 1).toNat)) ((ex_leave p1 g70 (by (repeat (first | exact qv | refine vi_set (by decide) (by decide) (by decide) ?_ (by first | exact (fun z => absurd z (by decide)) | exact vi_aS qv (by decide) _ | exact qv.2 | exact (fun z => ⟨by omega, hca⟩) | exact (fun z => ⟨by omega, hca z⟩) | (intro z; exfalso; omega)) | refine vi_res ?_ (by first | exact (fun z => absurd z (by decide)) | exact vi_aS qv (by decide) _ | exact qv.2 | exact (fun z => ⟨by omega, hca⟩) | exact (fun z => ⟨by omega, hca z⟩) | (intro z; exfalso; omega)) | refine vi_arr (by decide) (by decide) ?_ | refine vi_up (by decide) (by decide) ?_ | refine vi_val (ck := 106) (by decide) (by decide) (by decide) ?_ ⟨by omega, by omega⟩))) (by omega) (by (repeat (first | exact ag_refl | refine ag_up rfl ?_))) (by simp [ja_up]) (by rw [xf.1]; simp [ja_up]) (by rw [xf.1]; simp [ja_up]) (by rw [xf.1]; simp [ja_up]) (show w68 = (h 0 144) - 1 by omega) (by simp [ja_up]))) g70
      · refine ja_iconst dflowWord_517 ?_
        refine ja_goto 522 dflowWord_518 rfl ?_
        refine ja_istore dflowWord_522 (by decide) (L2 := [(8, (0, 1)), (7, (0, (h 95 ((h 0 149) - 1).toNat))), (6, (0, (h 94 ((h 0 149) - 1).toNat))), (5, (0, 1)), (3, (0, (h 75 (a1).toNat))), (0, (2, ((0 : Nat) : Int))), (1, (0, a1)), (2, (0, a2))]) rfl ?_
        refine ja_aload_n dflowWord_524 rfl rfl ?_
        refine t_leave (by decide) (show (0 : Nat) ≤ 8 by decide) dflowWord_525 g (show 1 ≤ (h 0 150) by omega) (show 0 ≤ (h 0 144) by omega) ?_
        intro w71 k525_0 g72
        replace k525_0 : ((h 96 ((h 0 150) - 1).toNat) = 0 ∧ w71 = (h 0 144)) ∨ (¬ (h 96 ((h 0 150) - 1).toNat) = 0 ∧ w71 = (h 0 144) - 1) := k525_0
        replace g72 : mo_G mo_zr (ja_up (ja_up (ja_up (ja_up (ja_up h 0 150 ((h 0 150) - 1)) 0 149 (h 99 ((h 0 150) - 1).toNat)) 0 168 (h 100 ((h 0 150) - 1).toNat)) 0 165 (h 101 ((h 0 150) - 1).toNat)) 0 144 w71) := g72
        show mJ l D cA ad 2 cX12_flowWord 9 none 528 [(8, (0, 1)), (7, (0, (h 95 ((h 0 149) - 1).toNat))), (6, (0, (h 94 ((h 0 149) - 1).toNat))), (5, (0, 1)), (3, (0, (h 75 (a1).toNat))), (0, (2, ((0 : Nat) : Int))), (1, (0, a1)), (2, (0, a2))] [] (ja_up (ja_up (ja_up (ja_up (ja_up h 0 150 ((h 0 150) - 1)) 0 149 (h 99 ((h 0 150) - 1).toNat)) 0 168 (h 100 ((h 0 150) - 1).toNat)) 0 165 (h 101 ((h 0 150) - 1).toNat)) 0 144 w71) Q
        refine ja_iload dflowWord_528 rfl ?_
        refine ja_if_eq 541 dflowWord_530 rfl ⟨by decide, by decide⟩ (fun c530 => absurd c530 (by omega)) (fun c530 => ?_)
        refine ja_aload_n dflowWord_533 rfl rfl ?_
        refine ja_iconst dflowWord_534 ?_
        have g73 := gP_state g72 (x := 0) ⟨by decide, by decide⟩
        refine fp_state dflowWord_535 ?_
        refine ja_goto 549 dflowWord_538 rfl ?_
        refine ja_return dflowWord_549 rfl ?_
        exact k1 (ja_up (ja_up (ja_up (ja_up (ja_up (ja_up h 0 150 ((h 0 150) - 1)) 0 149 (h 99 ((h 0 150) - 1).toNat)) 0 168 (h 100 ((h 0 150) - 1).toNat)) 0 165 (h 101 ((h 0 150) - 1).toNat)) 0 144 w71) 0 129 0) ((ex_main p1 (by (repeat (first | exact qv | refine vi_set (by decide) (by decide) (by decide) ?_ (by first | exact (fun z => absurd z (by decide)) | exact vi_aS qv (by decide) _ | exact qv.2 | exact (fun z => ⟨by omega, hca⟩) | exact (fun z => ⟨by omega, hca z⟩) | (intro z; exfalso; omega)) | refine vi_res ?_ (by first | exact (fun z => absurd z (by decide)) | exact vi_aS qv (by decide) _ | exact qv.2 | exact (fun z => ⟨by omega, hca⟩) | exact (fun z => ⟨by omega, hca z⟩) | (intro z; exfalso; omega)) | refine vi_arr (by decide) (by decide) ?_ | refine vi_up (by decide) (by decide) ?_ | refine vi_val (ck := 106) (by decide) (by decide) (by decide) ?_ ⟨by omega, by omega⟩))) (by (repeat (first | exact ag_refl | refine ag_up rfl ?_))) (by (repeat (first | exact ag_refl | refine ag_up rfl ?_))) (by simp [ja_up]))) g73
  rcases (by omega : h 74 (a1).toNat = 12 ∨ h 74 (a1).toNat = 13 ∨ h 74 (a1).toNat = 14 ∨ h 74 (a1).toNat = 15 ∨ h 74 (a1).toNat = 16 ∨ h 74 (a1).toNat = 17 ∨ h 74 (a1).toNat = 18 ∨ h 74 (a1).toNat = 19 ∨ h 74 (a1).toNat = 20 ∨ h 74 (a1).toNat = 21 ∨ h 74 (a1).toNat = 22 ∨ h 74 (a1).toNat = 23 ∨ h 74 (a1).toNat = 24 ∨ (h 74 (a1).toNat < 12 ∨ 24 < h 74 (a1).toNat)) with e | e | e | e | e | e | e | e | e | e | e | e | e | e
  · exact ja_tableIn 80 dflowWord_13 ⟨by omega, by omega⟩ (by omega) (by omega) (by rw [e]; rfl) rfl (T13_80 (by omega))
  · exact ja_tableIn 80 dflowWord_13 ⟨by omega, by omega⟩ (by omega) (by omega) (by rw [e]; rfl) rfl (T13_80 (by omega))
  · exact ja_tableIn 154 dflowWord_13 ⟨by omega, by omega⟩ (by omega) (by omega) (by rw [e]; rfl) rfl (T13_154 (by omega))
  · exact ja_tableIn 446 dflowWord_13 ⟨by omega, by omega⟩ (by omega) (by omega) (by rw [e]; rfl) rfl (T13_446 (by omega))
  · exact ja_tableIn 446 dflowWord_13 ⟨by omega, by omega⟩ (by omega) (by omega) (by rw [e]; rfl) rfl (T13_446 (by omega))
  · exact ja_tableIn 196 dflowWord_13 ⟨by omega, by omega⟩ (by omega) (by omega) (by rw [e]; rfl) rfl (T13_196 (by omega))
  · exact ja_tableIn 209 dflowWord_13 ⟨by omega, by omega⟩ (by omega) (by omega) (by rw [e]; rfl) rfl (T13_209 (by omega))
  · exact ja_tableIn 446 dflowWord_13 ⟨by omega, by omega⟩ (by omega) (by omega) (by rw [e]; rfl) rfl (T13_446 (by omega))
  · exact ja_tableIn 278 dflowWord_13 ⟨by omega, by omega⟩ (by omega) (by omega) (by rw [e]; rfl) rfl (T13_278 (by omega))
  · exact ja_tableIn 327 dflowWord_13 ⟨by omega, by omega⟩ (by omega) (by omega) (by rw [e]; rfl) rfl (T13_327 (by omega))
  · exact ja_tableIn 337 dflowWord_13 ⟨by omega, by omega⟩ (by omega) (by omega) (by rw [e]; rfl) rfl (T13_337 (by omega))
  · exact ja_tableIn 390 dflowWord_13 ⟨by omega, by omega⟩ (by omega) (by omega) (by rw [e]; rfl) rfl (T13_390 (by omega))
  · exact ja_tableIn 426 dflowWord_13 ⟨by omega, by omega⟩ (by omega) (by omega) (by rw [e]; rfl) rfl (T13_426 (by omega))
  · exact ja_tableOut 446 dflowWord_13 ⟨by omega, by omega⟩ (by omega) rfl (T13_446 (by omega))
theorem t_flowWord {a1 a2 : Int} {h9 : ja_H} {ht st rg : Nat → Int} {d nL pc : Nat} {cc : ByteArray} {rt : Option FieldType} {L : List (Nat × ja_V)} {S : List ja_V} {h : ja_H} {Q : Option ja_V → ja_H → Prop} (hdd : 2 < d) (hwd : ja_wd S ≤ 8) (hd : decode cc pc = .ok (.invokevirtual 1120, 3)) (g : mo_G mo_zr h) (r1 : -2147483648 ≤ a1 ∧ a1 ≤ 2147483647) (r2 : -2147483648 ≤ a2 ∧ a2 ≤ 2147483647) (p1 : EX h9 h ht st rg a1 a2) (p2 : 12 ≤ (h 74 (a1).toNat) ∧ (h 74 (a1).toNat) ≠ 15 ∧ (h 74 (a1).toNat) ≠ 16) (p3 : (h 0 132) < 2147483647) (k1 : ∀ (h' : ja_H), (RO h9 h' ht st rg) → mo_G mo_zr h' → mJ l D cA ad d cc nL rt (pc + 3) L S h' Q) : mJ l D cA ad d cc nL rt pc L ((0, a2) :: (0, a1) :: (2, ((0 : Nat) : Int)) :: S) h Q :=
  mc_flowWord hdd hwd hd (s_flowWord g r1 r2 p1 p2 p3 k1)
end
theorem dexecute_0 : decode cX12_execute 0 = .ok (.aload_n 0, 1) := by decide +kernel
theorem dexecute_1 : decode cX12_execute 1 = .ok (.getfield 234, 3) := by decide +kernel
theorem dexecute_4 : decode cX12_execute 4 = .ok (.iload_n 1, 1) := by decide +kernel
theorem dexecute_5 : decode cX12_execute 5 = .ok (.iaload, 1) := by decide +kernel
theorem dexecute_6 : decode cX12_execute 6 = .ok (.istore_n 3, 1) := by decide +kernel
theorem dexecute_7 : decode cX12_execute 7 = .ok (.aload_n 0, 1) := by decide +kernel
theorem dexecute_8 : decode cX12_execute 8 = .ok (.getfield 231, 3) := by decide +kernel
theorem dexecute_11 : decode cX12_execute 11 = .ok (.iload_n 1, 1) := by decide +kernel
theorem dexecute_12 : decode cX12_execute 12 = .ok (.iaload, 1) := by decide +kernel
theorem dexecute_13 : decode cX12_execute 13 = .ok (.tableswitch 511 1 16 #[79, 88, 97, 111, 144, 201, 259, 341, 385, 393, 443, 511, 511, 511, 493, 502], 79) := by decide +kernel
theorem dexecute_92 : decode cX12_execute 92 = .ok (.aload_n 0, 1) := by decide +kernel
theorem dexecute_93 : decode cX12_execute 93 = .ok (.iconst 1, 1) := by decide +kernel
theorem dexecute_94 : decode cX12_execute 94 = .ok (.iload_n 3, 1) := by decide +kernel
theorem dexecute_95 : decode cX12_execute 95 = .ok (.invokevirtual 1045, 3) := by decide +kernel
theorem dexecute_98 : decode cX12_execute 98 = .ok (.goto 432, 3) := by decide +kernel
theorem dexecute_101 : decode cX12_execute 101 = .ok (.aload_n 0, 1) := by decide +kernel
theorem dexecute_102 : decode cX12_execute 102 = .ok (.iconst 0, 1) := by decide +kernel
theorem dexecute_103 : decode cX12_execute 103 = .ok (.iconst 0, 1) := by decide +kernel
theorem dexecute_104 : decode cX12_execute 104 = .ok (.invokevirtual 1045, 3) := by decide +kernel
theorem dexecute_107 : decode cX12_execute 107 = .ok (.goto 423, 3) := by decide +kernel
theorem dexecute_110 : decode cX12_execute 110 = .ok (.aload_n 0, 1) := by decide +kernel
theorem dexecute_111 : decode cX12_execute 111 = .ok (.iconst 2, 1) := by decide +kernel
theorem dexecute_112 : decode cX12_execute 112 = .ok (.aload_n 0, 1) := by decide +kernel
theorem dexecute_113 : decode cX12_execute 113 = .ok (.getfield 303, 3) := by decide +kernel
theorem dexecute_116 : decode cX12_execute 116 = .ok (.iload_n 2, 1) := by decide +kernel
theorem dexecute_117 : decode cX12_execute 117 = .ok (.iaload, 1) := by decide +kernel
theorem dexecute_118 : decode cX12_execute 118 = .ok (.invokevirtual 1045, 3) := by decide +kernel
theorem dexecute_121 : decode cX12_execute 121 = .ok (.goto 409, 3) := by decide +kernel
theorem dexecute_124 : decode cX12_execute 124 = .ok (.aload_n 0, 1) := by decide +kernel
theorem dexecute_125 : decode cX12_execute 125 = .ok (.aload_n 0, 1) := by decide +kernel
theorem dexecute_126 : decode cX12_execute 126 = .ok (.getfield 339, 3) := by decide +kernel
theorem dexecute_129 : decode cX12_execute 129 = .ok (.aload_n 0, 1) := by decide +kernel
theorem dexecute_130 : decode cX12_execute 130 = .ok (.getfield 312, 3) := by decide +kernel
theorem dexecute_133 : decode cX12_execute 133 = .ok (.iload_n 2, 1) := by decide +kernel
theorem dexecute_134 : decode cX12_execute 134 = .ok (.iaload, 1) := by decide +kernel
theorem dexecute_135 : decode cX12_execute 135 = .ok (.iload_n 3, 1) := by decide +kernel
theorem dexecute_136 : decode cX12_execute 136 = .ok (.iadd, 1) := by decide +kernel
theorem dexecute_137 : decode cX12_execute 137 = .ok (.iaload, 1) := by decide +kernel
theorem dexecute_138 : decode cX12_execute 138 = .ok (.aload_n 0, 1) := by decide +kernel
theorem dexecute_139 : decode cX12_execute 139 = .ok (.getfield 342, 3) := by decide +kernel
theorem dexecute_142 : decode cX12_execute 142 = .ok (.aload_n 0, 1) := by decide +kernel
theorem dexecute_143 : decode cX12_execute 143 = .ok (.getfield 312, 3) := by decide +kernel
theorem dexecute_146 : decode cX12_execute 146 = .ok (.iload_n 2, 1) := by decide +kernel
theorem dexecute_147 : decode cX12_execute 147 = .ok (.iaload, 1) := by decide +kernel
theorem dexecute_148 : decode cX12_execute 148 = .ok (.iload_n 3, 1) := by decide +kernel
theorem dexecute_149 : decode cX12_execute 149 = .ok (.iadd, 1) := by decide +kernel
theorem dexecute_150 : decode cX12_execute 150 = .ok (.iaload, 1) := by decide +kernel
theorem dexecute_151 : decode cX12_execute 151 = .ok (.invokevirtual 1045, 3) := by decide +kernel
theorem dexecute_154 : decode cX12_execute 154 = .ok (.goto 376, 3) := by decide +kernel
theorem dexecute_157 : decode cX12_execute 157 = .ok (.aload_n 0, 1) := by decide +kernel
theorem dexecute_158 : decode cX12_execute 158 = .ok (.dup, 1) := by decide +kernel
theorem dexecute_159 : decode cX12_execute 159 = .ok (.getfield 993, 3) := by decide +kernel
theorem dexecute_162 : decode cX12_execute 162 = .ok (.iconst 1, 1) := by decide +kernel
theorem dexecute_163 : decode cX12_execute 163 = .ok (.isub, 1) := by decide +kernel
theorem dexecute_164 : decode cX12_execute 164 = .ok (.putfield 993, 3) := by decide +kernel
theorem dexecute_167 : decode cX12_execute 167 = .ok (.aload_n 0, 1) := by decide +kernel
theorem dexecute_168 : decode cX12_execute 168 = .ok (.getfield 339, 3) := by decide +kernel
theorem dexecute_171 : decode cX12_execute 171 = .ok (.aload_n 0, 1) := by decide +kernel
theorem dexecute_172 : decode cX12_execute 172 = .ok (.getfield 312, 3) := by decide +kernel
theorem dexecute_175 : decode cX12_execute 175 = .ok (.iload_n 2, 1) := by decide +kernel
theorem dexecute_176 : decode cX12_execute 176 = .ok (.iaload, 1) := by decide +kernel
theorem dexecute_177 : decode cX12_execute 177 = .ok (.iload_n 3, 1) := by decide +kernel
theorem dexecute_178 : decode cX12_execute 178 = .ok (.iadd, 1) := by decide +kernel
theorem dexecute_179 : decode cX12_execute 179 = .ok (.aload_n 0, 1) := by decide +kernel
theorem dexecute_180 : decode cX12_execute 180 = .ok (.getfield 291, 3) := by decide +kernel
theorem dexecute_183 : decode cX12_execute 183 = .ok (.aload_n 0, 1) := by decide +kernel
theorem dexecute_184 : decode cX12_execute 184 = .ok (.getfield 993, 3) := by decide +kernel
theorem dexecute_187 : decode cX12_execute 187 = .ok (.iaload, 1) := by decide +kernel
theorem dexecute_188 : decode cX12_execute 188 = .ok (.iastore, 1) := by decide +kernel
theorem dexecute_189 : decode cX12_execute 189 = .ok (.aload_n 0, 1) := by decide +kernel
theorem dexecute_190 : decode cX12_execute 190 = .ok (.getfield 342, 3) := by decide +kernel
theorem dexecute_193 : decode cX12_execute 193 = .ok (.aload_n 0, 1) := by decide +kernel
theorem dexecute_194 : decode cX12_execute 194 = .ok (.getfield 312, 3) := by decide +kernel
theorem dexecute_197 : decode cX12_execute 197 = .ok (.iload_n 2, 1) := by decide +kernel
theorem dexecute_198 : decode cX12_execute 198 = .ok (.iaload, 1) := by decide +kernel
theorem dexecute_199 : decode cX12_execute 199 = .ok (.iload_n 3, 1) := by decide +kernel
theorem dexecute_200 : decode cX12_execute 200 = .ok (.iadd, 1) := by decide +kernel
theorem dexecute_201 : decode cX12_execute 201 = .ok (.aload_n 0, 1) := by decide +kernel
theorem dexecute_202 : decode cX12_execute 202 = .ok (.getfield 294, 3) := by decide +kernel
theorem dexecute_205 : decode cX12_execute 205 = .ok (.aload_n 0, 1) := by decide +kernel
theorem dexecute_206 : decode cX12_execute 206 = .ok (.getfield 993, 3) := by decide +kernel
theorem dexecute_209 : decode cX12_execute 209 = .ok (.iaload, 1) := by decide +kernel
theorem dexecute_210 : decode cX12_execute 210 = .ok (.iastore, 1) := by decide +kernel
theorem dexecute_211 : decode cX12_execute 211 = .ok (.goto 319, 3) := by decide +kernel
theorem dexecute_214 : decode cX12_execute 214 = .ok (.aload_n 0, 1) := by decide +kernel
theorem dexecute_215 : decode cX12_execute 215 = .ok (.aload_n 0, 1) := by decide +kernel
theorem dexecute_216 : decode cX12_execute 216 = .ok (.getfield 237, 3) := by decide +kernel
theorem dexecute_219 : decode cX12_execute 219 = .ok (.iload_n 1, 1) := by decide +kernel
theorem dexecute_220 : decode cX12_execute 220 = .ok (.iaload, 1) := by decide +kernel
theorem dexecute_221 : decode cX12_execute 221 = .ok (.aload_n 0, 1) := by decide +kernel
theorem dexecute_222 : decode cX12_execute 222 = .ok (.getfield 49, 3) := by decide +kernel
theorem dexecute_225 : decode cX12_execute 225 = .ok (.aload_n 0, 1) := by decide +kernel
theorem dexecute_226 : decode cX12_execute 226 = .ok (.getfield 237, 3) := by decide +kernel
theorem dexecute_229 : decode cX12_execute 229 = .ok (.iload_n 1, 1) := by decide +kernel
theorem dexecute_230 : decode cX12_execute 230 = .ok (.iaload, 1) := by decide +kernel
theorem dexecute_231 : decode cX12_execute 231 = .ok (.baload, 1) := by decide +kernel
theorem dexecute_232 : decode cX12_execute 232 = .ok (.ifCond .eq 12, 3) := by decide +kernel
theorem dexecute_235 : decode cX12_execute 235 = .ok (.aload_n 0, 1) := by decide +kernel
theorem dexecute_236 : decode cX12_execute 236 = .ok (.getfield 330, 3) := by decide +kernel
theorem dexecute_239 : decode cX12_execute 239 = .ok (.iload_n 2, 1) := by decide +kernel
theorem dexecute_240 : decode cX12_execute 240 = .ok (.iaload, 1) := by decide +kernel
theorem dexecute_241 : decode cX12_execute 241 = .ok (.goto 4, 3) := by decide +kernel
theorem dexecute_244 : decode cX12_execute 244 = .ok (.iconst 0, 1) := by decide +kernel
theorem dexecute_245 : decode cX12_execute 245 = .ok (.iload_n 3, 1) := by decide +kernel
theorem dexecute_246 : decode cX12_execute 246 = .ok (.invokevirtual 1102, 3) := by decide +kernel
theorem dexecute_249 : decode cX12_execute 249 = .ok (.istore 4, 2) := by decide +kernel
theorem dexecute_251 : decode cX12_execute 251 = .ok (.aload_n 0, 1) := by decide +kernel
theorem dexecute_252 : decode cX12_execute 252 = .ok (.aload_n 0, 1) := by decide +kernel
theorem dexecute_253 : decode cX12_execute 253 = .ok (.getfield 285, 3) := by decide +kernel
theorem dexecute_256 : decode cX12_execute 256 = .ok (.iload 4, 2) := by decide +kernel
theorem dexecute_258 : decode cX12_execute 258 = .ok (.iaload, 1) := by decide +kernel
theorem dexecute_259 : decode cX12_execute 259 = .ok (.aload_n 0, 1) := by decide +kernel
theorem dexecute_260 : decode cX12_execute 260 = .ok (.getfield 288, 3) := by decide +kernel
theorem dexecute_263 : decode cX12_execute 263 = .ok (.iload 4, 2) := by decide +kernel
theorem dexecute_265 : decode cX12_execute 265 = .ok (.iaload, 1) := by decide +kernel
theorem dexecute_266 : decode cX12_execute 266 = .ok (.invokevirtual 1045, 3) := by decide +kernel
theorem dexecute_269 : decode cX12_execute 269 = .ok (.goto 261, 3) := by decide +kernel
theorem dexecute_272 : decode cX12_execute 272 = .ok (.aload_n 0, 1) := by decide +kernel
theorem dexecute_273 : decode cX12_execute 273 = .ok (.aload_n 0, 1) := by decide +kernel
theorem dexecute_274 : decode cX12_execute 274 = .ok (.getfield 237, 3) := by decide +kernel
theorem dexecute_277 : decode cX12_execute 277 = .ok (.iload_n 1, 1) := by decide +kernel
theorem dexecute_278 : decode cX12_execute 278 = .ok (.iaload, 1) := by decide +kernel
theorem dexecute_279 : decode cX12_execute 279 = .ok (.aload_n 0, 1) := by decide +kernel
theorem dexecute_280 : decode cX12_execute 280 = .ok (.getfield 49, 3) := by decide +kernel
theorem dexecute_283 : decode cX12_execute 283 = .ok (.aload_n 0, 1) := by decide +kernel
theorem dexecute_284 : decode cX12_execute 284 = .ok (.getfield 237, 3) := by decide +kernel
theorem dexecute_287 : decode cX12_execute 287 = .ok (.iload_n 1, 1) := by decide +kernel
theorem dexecute_288 : decode cX12_execute 288 = .ok (.iaload, 1) := by decide +kernel
theorem dexecute_289 : decode cX12_execute 289 = .ok (.baload, 1) := by decide +kernel
theorem dexecute_290 : decode cX12_execute 290 = .ok (.ifCond .eq 12, 3) := by decide +kernel
theorem dexecute_293 : decode cX12_execute 293 = .ok (.aload_n 0, 1) := by decide +kernel
theorem dexecute_294 : decode cX12_execute 294 = .ok (.getfield 330, 3) := by decide +kernel
theorem dexecute_297 : decode cX12_execute 297 = .ok (.iload_n 2, 1) := by decide +kernel
theorem dexecute_298 : decode cX12_execute 298 = .ok (.iaload, 1) := by decide +kernel
theorem dexecute_299 : decode cX12_execute 299 = .ok (.goto 4, 3) := by decide +kernel
theorem dexecute_302 : decode cX12_execute 302 = .ok (.iconst 0, 1) := by decide +kernel
theorem dexecute_303 : decode cX12_execute 303 = .ok (.iload_n 3, 1) := by decide +kernel
theorem dexecute_304 : decode cX12_execute 304 = .ok (.invokevirtual 1102, 3) := by decide +kernel
theorem dexecute_307 : decode cX12_execute 307 = .ok (.istore 5, 2) := by decide +kernel
theorem dexecute_309 : decode cX12_execute 309 = .ok (.aload_n 0, 1) := by decide +kernel
theorem dexecute_310 : decode cX12_execute 310 = .ok (.dup, 1) := by decide +kernel
theorem dexecute_311 : decode cX12_execute 311 = .ok (.getfield 993, 3) := by decide +kernel
theorem dexecute_314 : decode cX12_execute 314 = .ok (.iconst 1, 1) := by decide +kernel
theorem dexecute_315 : decode cX12_execute 315 = .ok (.isub, 1) := by decide +kernel
theorem dexecute_316 : decode cX12_execute 316 = .ok (.putfield 993, 3) := by decide +kernel
theorem dexecute_319 : decode cX12_execute 319 = .ok (.aload_n 0, 1) := by decide +kernel
theorem dexecute_320 : decode cX12_execute 320 = .ok (.getfield 285, 3) := by decide +kernel
theorem dexecute_323 : decode cX12_execute 323 = .ok (.iload 5, 2) := by decide +kernel
theorem dexecute_325 : decode cX12_execute 325 = .ok (.aload_n 0, 1) := by decide +kernel
theorem dexecute_326 : decode cX12_execute 326 = .ok (.getfield 291, 3) := by decide +kernel
theorem dexecute_329 : decode cX12_execute 329 = .ok (.aload_n 0, 1) := by decide +kernel
theorem dexecute_330 : decode cX12_execute 330 = .ok (.getfield 993, 3) := by decide +kernel
theorem dexecute_333 : decode cX12_execute 333 = .ok (.iaload, 1) := by decide +kernel
theorem dexecute_334 : decode cX12_execute 334 = .ok (.iastore, 1) := by decide +kernel
theorem dexecute_335 : decode cX12_execute 335 = .ok (.aload_n 0, 1) := by decide +kernel
theorem dexecute_336 : decode cX12_execute 336 = .ok (.getfield 288, 3) := by decide +kernel
theorem dexecute_339 : decode cX12_execute 339 = .ok (.iload 5, 2) := by decide +kernel
theorem dexecute_341 : decode cX12_execute 341 = .ok (.aload_n 0, 1) := by decide +kernel
theorem dexecute_342 : decode cX12_execute 342 = .ok (.getfield 294, 3) := by decide +kernel
theorem dexecute_345 : decode cX12_execute 345 = .ok (.aload_n 0, 1) := by decide +kernel
theorem dexecute_346 : decode cX12_execute 346 = .ok (.getfield 993, 3) := by decide +kernel
theorem dexecute_349 : decode cX12_execute 349 = .ok (.iaload, 1) := by decide +kernel
theorem dexecute_350 : decode cX12_execute 350 = .ok (.iastore, 1) := by decide +kernel
theorem dexecute_351 : decode cX12_execute 351 = .ok (.goto 179, 3) := by decide +kernel
theorem dexecute_354 : decode cX12_execute 354 = .ok (.aload_n 0, 1) := by decide +kernel
theorem dexecute_355 : decode cX12_execute 355 = .ok (.dup, 1) := by decide +kernel
theorem dexecute_356 : decode cX12_execute 356 = .ok (.getfield 993, 3) := by decide +kernel
theorem dexecute_359 : decode cX12_execute 359 = .ok (.iconst 1, 1) := by decide +kernel
theorem dexecute_360 : decode cX12_execute 360 = .ok (.isub, 1) := by decide +kernel
theorem dexecute_361 : decode cX12_execute 361 = .ok (.putfield 993, 3) := by decide +kernel
theorem dexecute_364 : decode cX12_execute 364 = .ok (.aload_n 0, 1) := by decide +kernel
theorem dexecute_365 : decode cX12_execute 365 = .ok (.iconst 1, 1) := by decide +kernel
theorem dexecute_366 : decode cX12_execute 366 = .ok (.aload_n 0, 1) := by decide +kernel
theorem dexecute_367 : decode cX12_execute 367 = .ok (.aload_n 0, 1) := by decide +kernel
theorem dexecute_368 : decode cX12_execute 368 = .ok (.getfield 291, 3) := by decide +kernel
theorem dexecute_371 : decode cX12_execute 371 = .ok (.aload_n 0, 1) := by decide +kernel
theorem dexecute_372 : decode cX12_execute 372 = .ok (.getfield 993, 3) := by decide +kernel
theorem dexecute_375 : decode cX12_execute 375 = .ok (.iaload, 1) := by decide +kernel
theorem dexecute_376 : decode cX12_execute 376 = .ok (.aload_n 0, 1) := by decide +kernel
theorem dexecute_377 : decode cX12_execute 377 = .ok (.getfield 294, 3) := by decide +kernel
theorem dexecute_380 : decode cX12_execute 380 = .ok (.aload_n 0, 1) := by decide +kernel
theorem dexecute_381 : decode cX12_execute 381 = .ok (.getfield 993, 3) := by decide +kernel
theorem dexecute_384 : decode cX12_execute 384 = .ok (.iaload, 1) := by decide +kernel
theorem dexecute_385 : decode cX12_execute 385 = .ok (.iload_n 3, 1) := by decide +kernel
theorem dexecute_386 : decode cX12_execute 386 = .ok (.invokevirtual 1105, 3) := by decide +kernel
theorem dexecute_389 : decode cX12_execute 389 = .ok (.invokestatic 1098, 3) := by decide +kernel
theorem dexecute_392 : decode cX12_execute 392 = .ok (.invokevirtual 1045, 3) := by decide +kernel
theorem dexecute_395 : decode cX12_execute 395 = .ok (.goto 135, 3) := by decide +kernel
theorem dexecute_398 : decode cX12_execute 398 = .ok (.aload_n 0, 1) := by decide +kernel
theorem dexecute_399 : decode cX12_execute 399 = .ok (.iload_n 3, 1) := by decide +kernel
theorem dexecute_400 : decode cX12_execute 400 = .ok (.invokevirtual 1108, 3) := by decide +kernel
theorem dexecute_403 : decode cX12_execute 403 = .ok (.goto 127, 3) := by decide +kernel
theorem dexecute_406 : decode cX12_execute 406 = .ok (.aload_n 0, 1) := by decide +kernel
theorem dexecute_407 : decode cX12_execute 407 = .ok (.dup, 1) := by decide +kernel
theorem dexecute_408 : decode cX12_execute 408 = .ok (.getfield 993, 3) := by decide +kernel
theorem dexecute_411 : decode cX12_execute 411 = .ok (.iconst 1, 1) := by decide +kernel
theorem dexecute_412 : decode cX12_execute 412 = .ok (.isub, 1) := by decide +kernel
theorem dexecute_413 : decode cX12_execute 413 = .ok (.putfield 993, 3) := by decide +kernel
theorem dexecute_416 : decode cX12_execute 416 = .ok (.aload_n 0, 1) := by decide +kernel
theorem dexecute_417 : decode cX12_execute 417 = .ok (.iconst 1, 1) := by decide +kernel
theorem dexecute_418 : decode cX12_execute 418 = .ok (.aload_n 0, 1) := by decide +kernel
theorem dexecute_419 : decode cX12_execute 419 = .ok (.getfield 291, 3) := by decide +kernel
theorem dexecute_422 : decode cX12_execute 422 = .ok (.aload_n 0, 1) := by decide +kernel
theorem dexecute_423 : decode cX12_execute 423 = .ok (.getfield 993, 3) := by decide +kernel
theorem dexecute_426 : decode cX12_execute 426 = .ok (.iaload, 1) := by decide +kernel
theorem dexecute_427 : decode cX12_execute 427 = .ok (.aload_n 0, 1) := by decide +kernel
theorem dexecute_428 : decode cX12_execute 428 = .ok (.getfield 294, 3) := by decide +kernel
theorem dexecute_431 : decode cX12_execute 431 = .ok (.aload_n 0, 1) := by decide +kernel
theorem dexecute_432 : decode cX12_execute 432 = .ok (.getfield 993, 3) := by decide +kernel
theorem dexecute_435 : decode cX12_execute 435 = .ok (.iaload, 1) := by decide +kernel
theorem dexecute_436 : decode cX12_execute 436 = .ok (.invokestatic 1111, 3) := by decide +kernel
theorem dexecute_439 : decode cX12_execute 439 = .ok (.ifCond .ne 7, 3) := by decide +kernel
theorem dexecute_442 : decode cX12_execute 442 = .ok (.iconst 1, 1) := by decide +kernel
theorem dexecute_443 : decode cX12_execute 443 = .ok (.goto 4, 3) := by decide +kernel
theorem dexecute_446 : decode cX12_execute 446 = .ok (.iconst 0, 1) := by decide +kernel
theorem dexecute_447 : decode cX12_execute 447 = .ok (.invokestatic 1098, 3) := by decide +kernel
theorem dexecute_450 : decode cX12_execute 450 = .ok (.invokevirtual 1045, 3) := by decide +kernel
theorem dexecute_453 : decode cX12_execute 453 = .ok (.goto 77, 3) := by decide +kernel
theorem dexecute_456 : decode cX12_execute 456 = .ok (.aload_n 0, 1) := by decide +kernel
theorem dexecute_457 : decode cX12_execute 457 = .ok (.dup, 1) := by decide +kernel
theorem dexecute_458 : decode cX12_execute 458 = .ok (.getfield 993, 3) := by decide +kernel
theorem dexecute_461 : decode cX12_execute 461 = .ok (.iconst 1, 1) := by decide +kernel
theorem dexecute_462 : decode cX12_execute 462 = .ok (.isub, 1) := by decide +kernel
theorem dexecute_463 : decode cX12_execute 463 = .ok (.putfield 993, 3) := by decide +kernel
theorem dexecute_466 : decode cX12_execute 466 = .ok (.aload_n 0, 1) := by decide +kernel
theorem dexecute_467 : decode cX12_execute 467 = .ok (.getfield 291, 3) := by decide +kernel
theorem dexecute_470 : decode cX12_execute 470 = .ok (.aload_n 0, 1) := by decide +kernel
theorem dexecute_471 : decode cX12_execute 471 = .ok (.getfield 993, 3) := by decide +kernel
theorem dexecute_474 : decode cX12_execute 474 = .ok (.iaload, 1) := by decide +kernel
theorem dexecute_475 : decode cX12_execute 475 = .ok (.iconst 1, 1) := by decide +kernel
theorem dexecute_476 : decode cX12_execute 476 = .ok (.if_icmp .ne 21, 3) := by decide +kernel
theorem dexecute_479 : decode cX12_execute 479 = .ok (.aload_n 0, 1) := by decide +kernel
theorem dexecute_480 : decode cX12_execute 480 = .ok (.iconst 1, 1) := by decide +kernel
theorem dexecute_481 : decode cX12_execute 481 = .ok (.aload_n 0, 1) := by decide +kernel
theorem dexecute_482 : decode cX12_execute 482 = .ok (.getfield 294, 3) := by decide +kernel
theorem dexecute_485 : decode cX12_execute 485 = .ok (.aload_n 0, 1) := by decide +kernel
theorem dexecute_486 : decode cX12_execute 486 = .ok (.getfield 993, 3) := by decide +kernel
theorem dexecute_489 : decode cX12_execute 489 = .ok (.iaload, 1) := by decide +kernel
theorem dexecute_490 : decode cX12_execute 490 = .ok (.ineg, 1) := by decide +kernel
theorem dexecute_491 : decode cX12_execute 491 = .ok (.invokevirtual 1045, 3) := by decide +kernel
theorem dexecute_494 : decode cX12_execute 494 = .ok (.goto 36, 3) := by decide +kernel
theorem dexecute_497 : decode cX12_execute 497 = .ok (.aload_n 0, 1) := by decide +kernel
theorem dexecute_498 : decode cX12_execute 498 = .ok (.bipush (-5), 2) := by decide +kernel
theorem dexecute_500 : decode cX12_execute 500 = .ok (.invokevirtual 1072, 3) := by decide +kernel
theorem dexecute_503 : decode cX12_execute 503 = .ok (.goto 27, 3) := by decide +kernel
theorem dexecute_506 : decode cX12_execute 506 = .ok (.aload_n 0, 1) := by decide +kernel
theorem dexecute_507 : decode cX12_execute 507 = .ok (.iload_n 3, 1) := by decide +kernel
theorem dexecute_508 : decode cX12_execute 508 = .ok (.iload_n 2, 1) := by decide +kernel
theorem dexecute_509 : decode cX12_execute 509 = .ok (.invokevirtual 1114, 3) := by decide +kernel
theorem dexecute_512 : decode cX12_execute 512 = .ok (.goto 18, 3) := by decide +kernel
theorem dexecute_515 : decode cX12_execute 515 = .ok (.aload_n 0, 1) := by decide +kernel
theorem dexecute_516 : decode cX12_execute 516 = .ok (.iload_n 3, 1) := by decide +kernel
theorem dexecute_517 : decode cX12_execute 517 = .ok (.iload_n 2, 1) := by decide +kernel
theorem dexecute_518 : decode cX12_execute 518 = .ok (.invokevirtual 1117, 3) := by decide +kernel
theorem dexecute_521 : decode cX12_execute 521 = .ok (.goto 9, 3) := by decide +kernel
theorem dexecute_524 : decode cX12_execute 524 = .ok (.aload_n 0, 1) := by decide +kernel
theorem dexecute_525 : decode cX12_execute 525 = .ok (.iload_n 1, 1) := by decide +kernel
theorem dexecute_526 : decode cX12_execute 526 = .ok (.iload_n 2, 1) := by decide +kernel
theorem dexecute_527 : decode cX12_execute 527 = .ok (.invokevirtual 1120, 3) := by decide +kernel
theorem dexecute_530 : decode cX12_execute 530 = .ok (.return_, 1) := by decide +kernel
section
variable {l : Launch} {D : va_G} {cA : Nat → ClassId} {ad : Nat → Nat}
theorem s_execute {a1 a2 : Int} {h9 : ja_H} {ht st rg : Nat → Int} {h : ja_H} {Q : Option ja_V → ja_H → Prop} (g : mo_G mo_zr h) (r1 : -2147483648 ≤ a1 ∧ a1 ≤ 2147483647) (r2 : -2147483648 ≤ a2 ∧ a2 ≤ 2147483647) (p1 : EX h9 h ht st rg a1 a2) (p2 : (h 0 132) < 2147483647) (k1 : ∀ (h' : ja_H), (RO h9 h' ht st rg) → mo_G mo_zr h' → Q none h') : mM_execute l D cA ad a1 a2 h Q := by
  show mJ l D cA ad 12 cX12_execute 6 none 0 [(0, (2, ((0 : Nat) : Int))), (1, (0, a1)), (2, (0, a2))] [] h Q
  have kn_pile := gF_pile g
  have kn_outputs := gF_outputs g
  obtain ⟨xrb, xw, xf, xt, xp, xr, xl, xn, xc, xv⟩ := ex_f p1
  have qv := xrb.1
  have xop := ex_op p1
  obtain ⟨xa1, xa2, xa3⟩ := ex_A p1
  have gop := gC_opA g (a1).toNat
  refine ja_aload_n dexecute_0 rfl rfl ?_
  refine fa_opA dexecute_1 ?_
  refine ja_iload_n dexecute_4 rfl rfl ?_
  refine il_opA (v := h 75 (a1).toNat) rfl ⟨by omega, by omega⟩ dexecute_5 ?_
  have f1 := gC_opA g (a1).toNat
  refine ja_istore_n dexecute_6 rfl (by decide) (L2 := [(3, (0, (h 75 (a1).toNat))), (0, (2, ((0 : Nat) : Int))), (1, (0, a1)), (2, (0, a2))]) rfl ?_
  refine ja_aload_n dexecute_7 rfl rfl ?_
  refine fa_op dexecute_8 ?_
  refine ja_iload_n dexecute_11 rfl rfl ?_
  refine il_op (v := h 74 (a1).toNat) rfl ⟨by omega, by omega⟩ dexecute_12 ?_
  have f2 := gC_op g (a1).toNat
  have T13_92 : (h 74 (a1).toNat = 1) → mJ l D cA ad 12 cX12_execute 6 none 92 [(3, (0, (h 75 (a1).toNat))), (0, (2, ((0 : Nat) : Int))), (1, (0, a1)), (2, (0, a2))] [] h Q := by
    intro e13
    have xe := eff_1 (o := (h 74 (a1).toNat)) (a := (h 75 (a1).toNat)) (q := pw_pop h (h 75 (a1).toNat)) (by omega)
    refine ja_aload_n dexecute_92 rfl rfl ?_
    refine ja_iconst dexecute_93 ?_
    refine ja_iload_n dexecute_94 rfl rfl ?_
    refine t_put (by decide) (show (0 : Nat) ≤ 8 by decide) dexecute_95 g ⟨by decide, by decide⟩ ⟨by omega, by omega⟩ (show 0 ≤ 1 ∧ 1 ≤ 2 by omega) (show (h 0 149) < 6000 by omega) ?_
    intro g3
    replace g3 : mo_G mo_zr (ja_up (ja_up (ja_up h 94 ((h 0 149).toNat) 1) 95 ((h 0 149).toNat) (h 75 (a1).toNat)) 0 149 ((h 0 149) + 1)) := g3
    show mJ l D cA ad 12 cX12_execute 6 none 98 [(3, (0, (h 75 (a1).toNat))), (0, (2, ((0 : Nat) : Int))), (1, (0, a1)), (2, (0, a2))] [] (ja_up (ja_up (ja_up h 94 ((h 0 149).toNat) 1) 95 ((h 0 149).toNat) (h 75 (a1).toNat)) 0 149 ((h 0 149) + 1)) Q
    refine ja_goto 530 dexecute_98 rfl ?_
    refine ja_return dexecute_530 rfl ?_
    exact k1 (ja_up (ja_up (ja_up h 94 ((h 0 149).toNat) 1) 95 ((h 0 149).toNat) (h 75 (a1).toNat)) 0 149 ((h 0 149) + 1)) ((ex_next (wd := 0) p1 g3 (by (repeat (first | exact qv | refine vi_set (by decide) (by decide) (by decide) ?_ (by first | exact (fun z => absurd z (by decide)) | exact vi_aS qv (by decide) _ | exact qv.2 | exact (fun z => ⟨by omega, hca⟩) | exact (fun z => ⟨by omega, hca z⟩) | (intro z; exfalso; omega)) | refine vi_res ?_ (by first | exact (fun z => absurd z (by decide)) | exact vi_aS qv (by decide) _ | exact qv.2 | exact (fun z => ⟨by omega, hca⟩) | exact (fun z => ⟨by omega, hca z⟩) | (intro z; exfalso; omega)) | refine vi_arr (by decide) (by decide) ?_ | refine vi_up (by decide) (by decide) ?_ | refine vi_val (ck := 106) (by decide) (by decide) (by decide) ?_ ⟨by omega, by omega⟩))) ⟨by omega, by omega, by omega⟩ (by (repeat (first | exact ag_refl | refine ag_up rfl ?_))) (fun _ => rfl) (tw_0 (show (h 0 186) = 0 by omega)) (Or.inl (show (h 0 186) = 0 by omega)) (show ((h 0 149) + 1) = (h 0 149) + pw_eff ((h 74 (a1).toNat)) ((h 75 (a1).toNat)) (pw_pop h ((h 75 (a1).toNat))) - 0 by omega) (Or.inl (show (h 0 132) = (h 0 132) by omega)))) g3
  have T13_101 : (h 74 (a1).toNat = 2) → mJ l D cA ad 12 cX12_execute 6 none 101 [(3, (0, (h 75 (a1).toNat))), (0, (2, ((0 : Nat) : Int))), (1, (0, a1)), (2, (0, a2))] [] h Q := by
    intro e13
    have xe := eff_1 (o := (h 74 (a1).toNat)) (a := (h 75 (a1).toNat)) (q := pw_pop h (h 75 (a1).toNat)) (by omega)
    refine ja_aload_n dexecute_101 rfl rfl ?_
    refine ja_iconst dexecute_102 ?_
    refine ja_iconst dexecute_103 ?_
    refine t_put (by decide) (show (0 : Nat) ≤ 8 by decide) dexecute_104 g ⟨by decide, by decide⟩ ⟨by decide, by decide⟩ (show 0 ≤ 0 ∧ 0 ≤ 2 by omega) (show (h 0 149) < 6000 by omega) ?_
    intro g4
    replace g4 : mo_G mo_zr (ja_up (ja_up (ja_up h 94 ((h 0 149).toNat) 0) 95 ((h 0 149).toNat) 0) 0 149 ((h 0 149) + 1)) := g4
    show mJ l D cA ad 12 cX12_execute 6 none 107 [(3, (0, (h 75 (a1).toNat))), (0, (2, ((0 : Nat) : Int))), (1, (0, a1)), (2, (0, a2))] [] (ja_up (ja_up (ja_up h 94 ((h 0 149).toNat) 0) 95 ((h 0 149).toNat) 0) 0 149 ((h 0 149) + 1)) Q
    refine ja_goto 530 dexecute_107 rfl ?_
    refine ja_return dexecute_530 rfl ?_
    exact k1 (ja_up (ja_up (ja_up h 94 ((h 0 149).toNat) 0) 95 ((h 0 149).toNat) 0) 0 149 ((h 0 149) + 1)) ((ex_next (wd := 0) p1 g4 (by (repeat (first | exact qv | refine vi_set (by decide) (by decide) (by decide) ?_ (by first | exact (fun z => absurd z (by decide)) | exact vi_aS qv (by decide) _ | exact qv.2 | exact (fun z => ⟨by omega, hca⟩) | exact (fun z => ⟨by omega, hca z⟩) | (intro z; exfalso; omega)) | refine vi_res ?_ (by first | exact (fun z => absurd z (by decide)) | exact vi_aS qv (by decide) _ | exact qv.2 | exact (fun z => ⟨by omega, hca⟩) | exact (fun z => ⟨by omega, hca z⟩) | (intro z; exfalso; omega)) | refine vi_arr (by decide) (by decide) ?_ | refine vi_up (by decide) (by decide) ?_ | refine vi_val (ck := 106) (by decide) (by decide) (by decide) ?_ ⟨by omega, by omega⟩))) ⟨by omega, by omega, by omega⟩ (by (repeat (first | exact ag_refl | refine ag_up rfl ?_))) (fun _ => rfl) (tw_0 (show (h 0 186) = 0 by omega)) (Or.inl (show (h 0 186) = 0 by omega)) (show ((h 0 149) + 1) = (h 0 149) + pw_eff ((h 74 (a1).toNat)) ((h 75 (a1).toNat)) (pw_pop h ((h 75 (a1).toNat))) - 0 by omega) (Or.inl (show (h 0 132) = (h 0 132) by omega)))) g4
  have T13_110 : (h 74 (a1).toNat = 3) → mJ l D cA ad 12 cX12_execute 6 none 110 [(3, (0, (h 75 (a1).toNat))), (0, (2, ((0 : Nat) : Int))), (1, (0, a1)), (2, (0, a2))] [] h Q := by
    intro e13
    have xe := eff_1 (o := (h 74 (a1).toNat)) (a := (h 75 (a1).toNat)) (q := pw_pop h (h 75 (a1).toNat)) (by omega)
    have hca := xc (by omega)
    have gfs := gC_frameSelf g (a2).toNat
    refine ja_aload_n dexecute_110 rfl rfl ?_
    refine ja_iconst dexecute_111 ?_
    refine ja_aload_n dexecute_112 rfl rfl ?_
    refine fa_frameSelf dexecute_113 ?_
    refine ja_iload_n dexecute_116 rfl rfl ?_
    refine il_frameSelf (v := h 98 (a2).toNat) rfl ⟨by omega, by omega⟩ dexecute_117 ?_
    have f5 := gC_frameSelf g (a2).toNat
    refine t_put (by decide) (show (0 : Nat) ≤ 8 by decide) dexecute_118 g ⟨by decide, by decide⟩ ⟨by omega, by omega⟩ (show 0 ≤ 2 ∧ 2 ≤ 2 by omega) (show (h 0 149) < 6000 by omega) ?_
    intro g6
    replace g6 : mo_G mo_zr (ja_up (ja_up (ja_up h 94 ((h 0 149).toNat) 2) 95 ((h 0 149).toNat) (h 98 (a2).toNat)) 0 149 ((h 0 149) + 1)) := g6
    show mJ l D cA ad 12 cX12_execute 6 none 121 [(3, (0, (h 75 (a1).toNat))), (0, (2, ((0 : Nat) : Int))), (1, (0, a1)), (2, (0, a2))] [] (ja_up (ja_up (ja_up h 94 ((h 0 149).toNat) 2) 95 ((h 0 149).toNat) (h 98 (a2).toNat)) 0 149 ((h 0 149) + 1)) Q
    refine ja_goto 530 dexecute_121 rfl ?_
    refine ja_return dexecute_530 rfl ?_
    exact k1 (ja_up (ja_up (ja_up h 94 ((h 0 149).toNat) 2) 95 ((h 0 149).toNat) (h 98 (a2).toNat)) 0 149 ((h 0 149) + 1)) ((ex_next (wd := 0) p1 g6 (by (repeat (first | exact qv | refine vi_set (by decide) (by decide) (by decide) ?_ (by first | exact (fun z => absurd z (by decide)) | exact vi_aS qv (by decide) _ | exact qv.2 | exact (fun z => ⟨by omega, hca⟩) | exact (fun z => ⟨by omega, hca z⟩) | (intro z; exfalso; omega)) | refine vi_res ?_ (by first | exact (fun z => absurd z (by decide)) | exact vi_aS qv (by decide) _ | exact qv.2 | exact (fun z => ⟨by omega, hca⟩) | exact (fun z => ⟨by omega, hca z⟩) | (intro z; exfalso; omega)) | refine vi_arr (by decide) (by decide) ?_ | refine vi_up (by decide) (by decide) ?_ | refine vi_val (ck := 106) (by decide) (by decide) (by decide) ?_ ⟨by omega, by omega⟩))) ⟨by omega, by omega, by omega⟩ (by (repeat (first | exact ag_refl | refine ag_up rfl ?_))) (fun _ => rfl) (tw_0 (show (h 0 186) = 0 by omega)) (Or.inl (show (h 0 186) = 0 by omega)) (show ((h 0 149) + 1) = (h 0 149) + pw_eff ((h 74 (a1).toNat)) ((h 75 (a1).toNat)) (pw_pop h ((h 75 (a1).toNat))) - 0 by omega) (Or.inl (show (h 0 132) = (h 0 132) by omega)))) g6
  have T13_124 : (h 74 (a1).toNat = 4) → mJ l D cA ad 12 cX12_execute 6 none 124 [(3, (0, (h 75 (a1).toNat))), (0, (2, ((0 : Nat) : Int))), (1, (0, a1)), (2, (0, a2))] [] h Q := by
    intro e13
    have xe := eff_1 (o := (h 74 (a1).toNat)) (a := (h 75 (a1).toNat)) (q := pw_pop h (h 75 (a1).toNat)) (by omega)
    have xa1 := xa1 (by omega)
    refine ja_aload_n dexecute_124 rfl rfl ?_
    refine ja_aload_n dexecute_125 rfl rfl ?_
    refine fa_localKind dexecute_126 ?_
    refine ja_aload_n dexecute_129 rfl rfl ?_
    refine fa_frameLocals dexecute_130 ?_
    refine ja_iload_n dexecute_133 rfl rfl ?_
    refine il_frameLocals (v := h 101 (a2).toNat) rfl ⟨by omega, by omega⟩ dexecute_134 ?_
    have f7 := gC_frameLocals g (a2).toNat
    refine ja_iload_n dexecute_135 rfl rfl ?_
    refine ja_iadd dexecute_136 ?_
    refine il_localKind (v := h 110 ((h 101 (a2).toNat) + (h 75 (a1).toNat)).toNat) rfl ⟨by omega, by omega⟩ dexecute_137 ?_
    have f8 := gC_localKind g ((h 101 (a2).toNat) + (h 75 (a1).toNat)).toNat
    refine ja_aload_n dexecute_138 rfl rfl ?_
    refine fa_localValue dexecute_139 ?_
    refine ja_aload_n dexecute_142 rfl rfl ?_
    refine fa_frameLocals dexecute_143 ?_
    refine ja_iload_n dexecute_146 rfl rfl ?_
    refine il_frameLocals (v := h 101 (a2).toNat) rfl ⟨by omega, by omega⟩ dexecute_147 ?_
    refine ja_iload_n dexecute_148 rfl rfl ?_
    refine ja_iadd dexecute_149 ?_
    refine il_localValue (v := h 111 ((h 101 (a2).toNat) + (h 75 (a1).toNat)).toNat) rfl ⟨by omega, by omega⟩ dexecute_150 ?_
    have f9 := gC_localValue g ((h 101 (a2).toNat) + (h 75 (a1).toNat)).toNat
    refine t_put (by decide) (show (0 : Nat) ≤ 8 by decide) dexecute_151 g ⟨by omega, by omega⟩ ⟨by omega, by omega⟩ (show 0 ≤ (h 110 ((h 101 (a2).toNat) + (h 75 (a1).toNat)).toNat) ∧ (h 110 ((h 101 (a2).toNat) + (h 75 (a1).toNat)).toNat) ≤ 2 by omega) (show (h 0 149) < 6000 by omega) ?_
    intro g10
    replace g10 : mo_G mo_zr (ja_up (ja_up (ja_up h 94 ((h 0 149).toNat) (h 110 ((h 101 (a2).toNat) + (h 75 (a1).toNat)).toNat)) 95 ((h 0 149).toNat) (h 111 ((h 101 (a2).toNat) + (h 75 (a1).toNat)).toNat)) 0 149 ((h 0 149) + 1)) := g10
    show mJ l D cA ad 12 cX12_execute 6 none 154 [(3, (0, (h 75 (a1).toNat))), (0, (2, ((0 : Nat) : Int))), (1, (0, a1)), (2, (0, a2))] [] (ja_up (ja_up (ja_up h 94 ((h 0 149).toNat) (h 110 ((h 101 (a2).toNat) + (h 75 (a1).toNat)).toNat)) 95 ((h 0 149).toNat) (h 111 ((h 101 (a2).toNat) + (h 75 (a1).toNat)).toNat)) 0 149 ((h 0 149) + 1)) Q
    refine ja_goto 530 dexecute_154 rfl ?_
    refine ja_return dexecute_530 rfl ?_
    exact k1 (ja_up (ja_up (ja_up h 94 ((h 0 149).toNat) (h 110 ((h 101 (a2).toNat) + (h 75 (a1).toNat)).toNat)) 95 ((h 0 149).toNat) (h 111 ((h 101 (a2).toNat) + (h 75 (a1).toNat)).toNat)) 0 149 ((h 0 149) + 1)) ((ex_next (wd := 0) p1 g10 (by (repeat (first | exact qv | refine vi_set (by decide) (by decide) (by decide) ?_ (by first | exact (fun z => absurd z (by decide)) | exact vi_aS qv (by decide) _ | exact qv.2 | exact (fun z => ⟨by omega, hca⟩) | exact (fun z => ⟨by omega, hca z⟩) | (intro z; exfalso; omega)) | refine vi_res ?_ (by first | exact (fun z => absurd z (by decide)) | exact vi_aS qv (by decide) _ | exact qv.2 | exact (fun z => ⟨by omega, hca⟩) | exact (fun z => ⟨by omega, hca z⟩) | (intro z; exfalso; omega)) | refine vi_arr (by decide) (by decide) ?_ | refine vi_up (by decide) (by decide) ?_ | refine vi_val (ck := 106) (by decide) (by decide) (by decide) ?_ ⟨by omega, by omega⟩))) ⟨by omega, by omega, by omega⟩ (by (repeat (first | exact ag_refl | refine ag_up rfl ?_))) (fun _ => rfl) (tw_0 (show (h 0 186) = 0 by omega)) (Or.inl (show (h 0 186) = 0 by omega)) (show ((h 0 149) + 1) = (h 0 149) + pw_eff ((h 74 (a1).toNat)) ((h 75 (a1).toNat)) (pw_pop h ((h 75 (a1).toNat))) - 0 by omega) (Or.inl (show (h 0 132) = (h 0 132) by omega)))) g10
  have T13_157 : (h 74 (a1).toNat = 5) → mJ l D cA ad 12 cX12_execute 6 none 157 [(3, (0, (h 75 (a1).toNat))), (0, (2, ((0 : Nat) : Int))), (1, (0, a1)), (2, (0, a2))] [] h Q := by
    intro e13
    have xe := eff_m (o := (h 74 (a1).toNat)) (a := (h 75 (a1).toNat)) (q := pw_pop h (h 75 (a1).toNat)) (by omega)
    have xa1 := xa1 (by omega)
    refine ja_aload_n dexecute_157 rfl rfl ?_
    refine ja_dup dexecute_158 (by decide) ?_
    refine fg_pile (v := h 0 149) rfl dexecute_159 ?_
    have f11 := gF_pile g
    refine ja_iconst dexecute_162 ?_
    refine ja_isub dexecute_163 ?_
    have g12 := gP_pile g (x := (h 0 149) - 1) ⟨by omega, by omega⟩
    refine fp_pile dexecute_164 ?_
    refine ja_aload_n dexecute_167 rfl rfl ?_
    refine fa_localKind dexecute_168 ?_
    refine ja_aload_n dexecute_171 rfl rfl ?_
    refine fa_frameLocals dexecute_172 ?_
    refine ja_iload_n dexecute_175 rfl rfl ?_
    refine il_frameLocals (v := h 101 (a2).toNat) rfl ⟨by omega, by omega⟩ dexecute_176 ?_
    have f13 := gC_frameLocals g (a2).toNat
    refine ja_iload_n dexecute_177 rfl rfl ?_
    refine ja_iadd dexecute_178 ?_
    refine ja_aload_n dexecute_179 rfl rfl ?_
    refine fa_pileKind dexecute_180 ?_
    refine ja_aload_n dexecute_183 rfl rfl ?_
    refine fg_pile (v := (h 0 149) - 1) rfl dexecute_184 ?_
    refine il_pileKind (v := h 94 ((h 0 149) - 1).toNat) rfl ⟨by omega, by omega⟩ dexecute_187 ?_
    have f14 := gC_pileKind g ((h 0 149) - 1).toNat
    have g15 := gW_localKind g12 ((h 101 (a2).toNat) + (h 75 (a1).toNat)).toNat (x := h 94 ((h 0 149) - 1).toNat) ⟨by omega, by omega⟩
    refine is_localKind ⟨by omega, by omega⟩ dexecute_188 ?_
    refine ja_aload_n dexecute_189 rfl rfl ?_
    refine fa_localValue dexecute_190 ?_
    refine ja_aload_n dexecute_193 rfl rfl ?_
    refine fa_frameLocals dexecute_194 ?_
    refine ja_iload_n dexecute_197 rfl rfl ?_
    refine il_frameLocals (v := h 101 (a2).toNat) rfl ⟨by omega, by omega⟩ dexecute_198 ?_
    refine ja_iload_n dexecute_199 rfl rfl ?_
    refine ja_iadd dexecute_200 ?_
    refine ja_aload_n dexecute_201 rfl rfl ?_
    refine fa_pileValue dexecute_202 ?_
    refine ja_aload_n dexecute_205 rfl rfl ?_
    refine fg_pile (v := (h 0 149) - 1) rfl dexecute_206 ?_
    refine il_pileValue (v := h 95 ((h 0 149) - 1).toNat) rfl ⟨by omega, by omega⟩ dexecute_209 ?_
    have f16 := gC_pileValue g ((h 0 149) - 1).toNat
    have g17 := gW_localValue g15 ((h 101 (a2).toNat) + (h 75 (a1).toNat)).toNat (x := h 95 ((h 0 149) - 1).toNat) ⟨by omega, by omega⟩
    refine is_localValue ⟨by omega, by omega⟩ dexecute_210 ?_
    refine ja_goto 530 dexecute_211 rfl ?_
    refine ja_return dexecute_530 rfl ?_
    exact k1 (ja_up (ja_up (ja_up h 0 149 ((h 0 149) - 1)) 110 (((h 101 (a2).toNat) + (h 75 (a1).toNat)).toNat) (h 94 ((h 0 149) - 1).toNat)) 111 (((h 101 (a2).toNat) + (h 75 (a1).toNat)).toNat) (h 95 ((h 0 149) - 1).toNat)) ((ex_next (wd := 0) p1 g17 (by (repeat (first | exact qv | refine vi_set (by decide) (by decide) (by decide) ?_ (by first | exact (fun z => absurd z (by decide)) | exact vi_aS qv (by decide) _ | exact qv.2 | exact (fun z => ⟨by omega, hca⟩) | exact (fun z => ⟨by omega, hca z⟩) | (intro z; exfalso; omega)) | refine vi_res ?_ (by first | exact (fun z => absurd z (by decide)) | exact vi_aS qv (by decide) _ | exact qv.2 | exact (fun z => ⟨by omega, hca⟩) | exact (fun z => ⟨by omega, hca z⟩) | (intro z; exfalso; omega)) | refine vi_arr (by decide) (by decide) ?_ | refine vi_up (by decide) (by decide) ?_ | refine vi_val (ck := 106) (by decide) (by decide) (by decide) ?_ ⟨by omega, by omega⟩))) ⟨by omega, by omega, by omega⟩ (by (repeat (first | exact ag_refl | refine ag_up rfl ?_))) (fun _ => rfl) (tw_0 (show (h 0 186) = 0 by omega)) (Or.inl (show (h 0 186) = 0 by omega)) (show ((h 0 149) - 1) = (h 0 149) + pw_eff ((h 74 (a1).toNat)) ((h 75 (a1).toNat)) (pw_pop h ((h 75 (a1).toNat))) - 0 by omega) (Or.inl (show (h 0 132) = (h 0 132) by omega)))) g17
  have T13_214 : (h 74 (a1).toNat = 6) → mJ l D cA ad 12 cX12_execute 6 none 214 [(3, (0, (h 75 (a1).toNat))), (0, (2, ((0 : Nat) : Int))), (1, (0, a1)), (2, (0, a2))] [] h Q := by
    intro e13
    have xe := eff_1 (o := (h 74 (a1).toNat)) (a := (h 75 (a1).toNat)) (q := pw_pop h (h 75 (a1).toNat)) (by omega)
    have xa2 := xa2 (by omega)
    have xv := xv (by omega)
    refine ja_aload_n dexecute_214 rfl rfl ?_
    refine ja_aload_n dexecute_215 rfl rfl ?_
    refine fa_opB dexecute_216 ?_
    refine ja_iload_n dexecute_219 rfl rfl ?_
    refine il_opB (v := h 76 (a1).toNat) rfl ⟨by omega, by omega⟩ dexecute_220 ?_
    have f18 := gC_opB g (a1).toNat
    refine ja_aload_n dexecute_221 rfl rfl ?_
    refine fa_aspectEach dexecute_222 ?_
    refine ja_aload_n dexecute_225 rfl rfl ?_
    refine fa_opB dexecute_226 ?_
    refine ja_iload_n dexecute_229 rfl rfl ?_
    refine il_opB (v := h 76 (a1).toNat) rfl ⟨by omega, by omega⟩ dexecute_230 ?_
    refine il_aspectEach (v := h 14 (h 76 (a1).toNat).toNat) rfl ⟨by omega, by omega⟩ dexecute_231 ?_
    have f19 := gC_aspectEach g (h 76 (a1).toNat).toNat
    refine ja_if_eq 244 dexecute_232 rfl ⟨by omega, by omega⟩ (fun c232 => ?_) (fun c232 => ?_)
    · refine ja_iconst dexecute_244 ?_
      refine ja_iload_n dexecute_245 rfl rfl ?_
      refine t_heldAt (by decide) (show (0 : Nat) ≤ 8 by decide) dexecute_246 g ⟨by omega, by omega⟩ ⟨by decide, by decide⟩ ⟨by omega, by omega⟩ (show 0 ≤ (h 76 (a1).toNat) ∧ (h 76 (a1).toNat) ≤ 7 by omega) (show 0 ≤ 0 ∧ 0 ≤ 200 by omega) (show 0 ≤ (h 75 (a1).toNat) ∧ (h 75 (a1).toNat) ≤ 9 by omega) ?_
      intro w20 k246_0
      refine ja_istore dexecute_249 (by decide) (L2 := [(4, (0, w20)), (3, (0, (h 75 (a1).toNat))), (0, (2, ((0 : Nat) : Int))), (1, (0, a1)), (2, (0, a2))]) rfl ?_
      refine ja_aload_n dexecute_251 rfl rfl ?_
      refine ja_aload_n dexecute_252 rfl rfl ?_
      refine fa_heldKind dexecute_253 ?_
      refine ja_iload dexecute_256 rfl ?_
      refine il_heldKind (v := h 92 (w20).toNat) rfl ⟨by omega, by omega⟩ dexecute_258 ?_
      have f21 := gC_heldKind g (w20).toNat
      refine ja_aload_n dexecute_259 rfl rfl ?_
      refine fa_heldValue dexecute_260 ?_
      refine ja_iload dexecute_263 rfl ?_
      refine il_heldValue (v := h 93 (w20).toNat) rfl ⟨by omega, by omega⟩ dexecute_265 ?_
      have f22 := gC_heldValue g (w20).toNat
      refine t_put (by decide) (show (0 : Nat) ≤ 8 by decide) dexecute_266 g ⟨by omega, by omega⟩ ⟨by omega, by omega⟩ (show 0 ≤ (h 92 (w20).toNat) ∧ (h 92 (w20).toNat) ≤ 2 by omega) (show (h 0 149) < 6000 by omega) ?_
      intro g23
      replace g23 : mo_G mo_zr (ja_up (ja_up (ja_up h 94 ((h 0 149).toNat) (h 92 (w20).toNat)) 95 ((h 0 149).toNat) (h 93 (w20).toNat)) 0 149 ((h 0 149) + 1)) := g23
      show mJ l D cA ad 12 cX12_execute 6 none 269 [(4, (0, w20)), (3, (0, (h 75 (a1).toNat))), (0, (2, ((0 : Nat) : Int))), (1, (0, a1)), (2, (0, a2))] [] (ja_up (ja_up (ja_up h 94 ((h 0 149).toNat) (h 92 (w20).toNat)) 95 ((h 0 149).toNat) (h 93 (w20).toNat)) 0 149 ((h 0 149) + 1)) Q
      refine ja_goto 530 dexecute_269 rfl ?_
      refine ja_return dexecute_530 rfl ?_
      exact k1 (ja_up (ja_up (ja_up h 94 ((h 0 149).toNat) (h 92 (w20).toNat)) 95 ((h 0 149).toNat) (h 93 (w20).toNat)) 0 149 ((h 0 149) + 1)) ((ex_next (wd := 0) p1 g23 (by (repeat (first | exact qv | refine vi_set (by decide) (by decide) (by decide) ?_ (by first | exact (fun z => absurd z (by decide)) | exact vi_aS qv (by decide) _ | exact qv.2 | exact (fun z => ⟨by omega, hca⟩) | exact (fun z => ⟨by omega, hca z⟩) | (intro z; exfalso; omega)) | refine vi_res ?_ (by first | exact (fun z => absurd z (by decide)) | exact vi_aS qv (by decide) _ | exact qv.2 | exact (fun z => ⟨by omega, hca⟩) | exact (fun z => ⟨by omega, hca z⟩) | (intro z; exfalso; omega)) | refine vi_arr (by decide) (by decide) ?_ | refine vi_up (by decide) (by decide) ?_ | refine vi_val (ck := 106) (by decide) (by decide) (by decide) ?_ ⟨by omega, by omega⟩))) ⟨by omega, by omega, by omega⟩ (by (repeat (first | exact ag_refl | refine ag_up rfl ?_))) (fun _ => rfl) (tw_0 (show (h 0 186) = 0 by omega)) (Or.inl (show (h 0 186) = 0 by omega)) (show ((h 0 149) + 1) = (h 0 149) + pw_eff ((h 74 (a1).toNat)) ((h 75 (a1).toNat)) (pw_pop h ((h 75 (a1).toNat))) - 0 by omega) (Or.inl (show (h 0 132) = (h 0 132) by omega)))) g23
    · refine ja_aload_n dexecute_235 rfl rfl ?_
      refine fa_frameValue dexecute_236 ?_
      refine ja_iload_n dexecute_239 rfl rfl ?_
      refine il_frameValue (v := h 107 (a2).toNat) rfl ⟨by omega, by omega⟩ dexecute_240 ?_
      have f24 := gC_frameValue g (a2).toNat
      refine ja_goto 245 dexecute_241 rfl ?_
      refine ja_iload_n dexecute_245 rfl rfl ?_
      refine t_heldAt (by decide) (show (0 : Nat) ≤ 8 by decide) dexecute_246 g ⟨by omega, by omega⟩ ⟨by omega, by omega⟩ ⟨by omega, by omega⟩ (show 0 ≤ (h 76 (a1).toNat) ∧ (h 76 (a1).toNat) ≤ 7 by omega) (show 0 ≤ (h 107 (a2).toNat) ∧ (h 107 (a2).toNat) ≤ 200 by omega) (show 0 ≤ (h 75 (a1).toNat) ∧ (h 75 (a1).toNat) ≤ 9 by omega) ?_
      intro w25 k246_0
      refine ja_istore dexecute_249 (by decide) (L2 := [(4, (0, w25)), (3, (0, (h 75 (a1).toNat))), (0, (2, ((0 : Nat) : Int))), (1, (0, a1)), (2, (0, a2))]) rfl ?_
      refine ja_aload_n dexecute_251 rfl rfl ?_
      refine ja_aload_n dexecute_252 rfl rfl ?_
      refine fa_heldKind dexecute_253 ?_
      refine ja_iload dexecute_256 rfl ?_
      refine il_heldKind (v := h 92 (w25).toNat) rfl ⟨by omega, by omega⟩ dexecute_258 ?_
      have f26 := gC_heldKind g (w25).toNat
      refine ja_aload_n dexecute_259 rfl rfl ?_
      refine fa_heldValue dexecute_260 ?_
      refine ja_iload dexecute_263 rfl ?_
      refine il_heldValue (v := h 93 (w25).toNat) rfl ⟨by omega, by omega⟩ dexecute_265 ?_
      have f27 := gC_heldValue g (w25).toNat
      refine t_put (by decide) (show (0 : Nat) ≤ 8 by decide) dexecute_266 g ⟨by omega, by omega⟩ ⟨by omega, by omega⟩ (show 0 ≤ (h 92 (w25).toNat) ∧ (h 92 (w25).toNat) ≤ 2 by omega) (show (h 0 149) < 6000 by omega) ?_
      intro g28
      replace g28 : mo_G mo_zr (ja_up (ja_up (ja_up h 94 ((h 0 149).toNat) (h 92 (w25).toNat)) 95 ((h 0 149).toNat) (h 93 (w25).toNat)) 0 149 ((h 0 149) + 1)) := g28
      show mJ l D cA ad 12 cX12_execute 6 none 269 [(4, (0, w25)), (3, (0, (h 75 (a1).toNat))), (0, (2, ((0 : Nat) : Int))), (1, (0, a1)), (2, (0, a2))] [] (ja_up (ja_up (ja_up h 94 ((h 0 149).toNat) (h 92 (w25).toNat)) 95 ((h 0 149).toNat) (h 93 (w25).toNat)) 0 149 ((h 0 149) + 1)) Q
      refine ja_goto 530 dexecute_269 rfl ?_
      refine ja_return dexecute_530 rfl ?_
      exact k1 (ja_up (ja_up (ja_up h 94 ((h 0 149).toNat) (h 92 (w25).toNat)) 95 ((h 0 149).toNat) (h 93 (w25).toNat)) 0 149 ((h 0 149) + 1)) ((ex_next (wd := 0) p1 g28 (by (repeat (first | exact qv | refine vi_set (by decide) (by decide) (by decide) ?_ (by first | exact (fun z => absurd z (by decide)) | exact vi_aS qv (by decide) _ | exact qv.2 | exact (fun z => ⟨by omega, hca⟩) | exact (fun z => ⟨by omega, hca z⟩) | (intro z; exfalso; omega)) | refine vi_res ?_ (by first | exact (fun z => absurd z (by decide)) | exact vi_aS qv (by decide) _ | exact qv.2 | exact (fun z => ⟨by omega, hca⟩) | exact (fun z => ⟨by omega, hca z⟩) | (intro z; exfalso; omega)) | refine vi_arr (by decide) (by decide) ?_ | refine vi_up (by decide) (by decide) ?_ | refine vi_val (ck := 106) (by decide) (by decide) (by decide) ?_ ⟨by omega, by omega⟩))) ⟨by omega, by omega, by omega⟩ (by (repeat (first | exact ag_refl | refine ag_up rfl ?_))) (fun _ => rfl) (tw_0 (show (h 0 186) = 0 by omega)) (Or.inl (show (h 0 186) = 0 by omega)) (show ((h 0 149) + 1) = (h 0 149) + pw_eff ((h 74 (a1).toNat)) ((h 75 (a1).toNat)) (pw_pop h ((h 75 (a1).toNat))) - 0 by omega) (Or.inl (show (h 0 132) = (h 0 132) by omega)))) g28
  have T13_272 : (h 74 (a1).toNat = 7) → mJ l D cA ad 12 cX12_execute 6 none 272 [(3, (0, (h 75 (a1).toNat))), (0, (2, ((0 : Nat) : Int))), (1, (0, a1)), (2, (0, a2))] [] h Q := by
    intro e13
    have xe := eff_m (o := (h 74 (a1).toNat)) (a := (h 75 (a1).toNat)) (q := pw_pop h (h 75 (a1).toNat)) (by omega)
    have xa2 := xa2 (by omega)
    have xv := xv (by omega)
    refine ja_aload_n dexecute_272 rfl rfl ?_
    refine ja_aload_n dexecute_273 rfl rfl ?_
    refine fa_opB dexecute_274 ?_
    refine ja_iload_n dexecute_277 rfl rfl ?_
    refine il_opB (v := h 76 (a1).toNat) rfl ⟨by omega, by omega⟩ dexecute_278 ?_
    have f29 := gC_opB g (a1).toNat
    refine ja_aload_n dexecute_279 rfl rfl ?_
    refine fa_aspectEach dexecute_280 ?_
    refine ja_aload_n dexecute_283 rfl rfl ?_
    refine fa_opB dexecute_284 ?_
    refine ja_iload_n dexecute_287 rfl rfl ?_
    refine il_opB (v := h 76 (a1).toNat) rfl ⟨by omega, by omega⟩ dexecute_288 ?_
    refine il_aspectEach (v := h 14 (h 76 (a1).toNat).toNat) rfl ⟨by omega, by omega⟩ dexecute_289 ?_
    have f30 := gC_aspectEach g (h 76 (a1).toNat).toNat
    refine ja_if_eq 302 dexecute_290 rfl ⟨by omega, by omega⟩ (fun c290 => ?_) (fun c290 => ?_)
    · refine ja_iconst dexecute_302 ?_
      refine ja_iload_n dexecute_303 rfl rfl ?_
      refine t_heldAt (by decide) (show (0 : Nat) ≤ 8 by decide) dexecute_304 g ⟨by omega, by omega⟩ ⟨by decide, by decide⟩ ⟨by omega, by omega⟩ (show 0 ≤ (h 76 (a1).toNat) ∧ (h 76 (a1).toNat) ≤ 7 by omega) (show 0 ≤ 0 ∧ 0 ≤ 200 by omega) (show 0 ≤ (h 75 (a1).toNat) ∧ (h 75 (a1).toNat) ≤ 9 by omega) ?_
      intro w31 k304_0
      refine ja_istore dexecute_307 (by decide) (L2 := [(5, (0, w31)), (3, (0, (h 75 (a1).toNat))), (0, (2, ((0 : Nat) : Int))), (1, (0, a1)), (2, (0, a2))]) rfl ?_
      refine ja_aload_n dexecute_309 rfl rfl ?_
      refine ja_dup dexecute_310 (by decide) ?_
      refine fg_pile (v := h 0 149) rfl dexecute_311 ?_
      have f32 := gF_pile g
      refine ja_iconst dexecute_314 ?_
      refine ja_isub dexecute_315 ?_
      have g33 := gP_pile g (x := (h 0 149) - 1) ⟨by omega, by omega⟩
      refine fp_pile dexecute_316 ?_
      refine ja_aload_n dexecute_319 rfl rfl ?_
      refine fa_heldKind dexecute_320 ?_
      refine ja_iload dexecute_323 rfl ?_
      refine ja_aload_n dexecute_325 rfl rfl ?_
      refine fa_pileKind dexecute_326 ?_
      refine ja_aload_n dexecute_329 rfl rfl ?_
      refine fg_pile (v := (h 0 149) - 1) rfl dexecute_330 ?_
      refine il_pileKind (v := h 94 ((h 0 149) - 1).toNat) rfl ⟨by omega, by omega⟩ dexecute_333 ?_
      have f34 := gC_pileKind g ((h 0 149) - 1).toNat
      have g35 := gW_heldKind g33 (w31).toNat (x := h 94 ((h 0 149) - 1).toNat) ⟨by omega, by omega⟩
      refine is_heldKind ⟨by omega, by omega⟩ dexecute_334 ?_
      refine ja_aload_n dexecute_335 rfl rfl ?_
      refine fa_heldValue dexecute_336 ?_
      refine ja_iload dexecute_339 rfl ?_
      refine ja_aload_n dexecute_341 rfl rfl ?_
      refine fa_pileValue dexecute_342 ?_
      refine ja_aload_n dexecute_345 rfl rfl ?_
      refine fg_pile (v := (h 0 149) - 1) rfl dexecute_346 ?_
      refine il_pileValue (v := h 95 ((h 0 149) - 1).toNat) rfl ⟨by omega, by omega⟩ dexecute_349 ?_
      have f36 := gC_pileValue g ((h 0 149) - 1).toNat
      have g37 := gW_heldValue g35 (w31).toNat (x := h 95 ((h 0 149) - 1).toNat) ⟨by omega, by omega⟩
      refine is_heldValue ⟨by omega, by omega⟩ dexecute_350 ?_
      refine ja_goto 530 dexecute_351 rfl ?_
      refine ja_return dexecute_530 rfl ?_
      exact k1 (ja_up (ja_up (ja_up h 0 149 ((h 0 149) - 1)) 92 ((w31).toNat) (h 94 ((h 0 149) - 1).toNat)) 93 ((w31).toNat) (h 95 ((h 0 149) - 1).toNat)) ((ex_next (wd := 0) p1 g37 (by (repeat (first | exact qv | refine vi_set (by decide) (by decide) (by decide) ?_ (by first | exact (fun z => absurd z (by decide)) | exact vi_aS qv (by decide) _ | exact qv.2 | exact (fun z => ⟨by omega, hca⟩) | exact (fun z => ⟨by omega, hca z⟩) | (intro z; exfalso; omega)) | refine vi_res ?_ (by first | exact (fun z => absurd z (by decide)) | exact vi_aS qv (by decide) _ | exact qv.2 | exact (fun z => ⟨by omega, hca⟩) | exact (fun z => ⟨by omega, hca z⟩) | (intro z; exfalso; omega)) | refine vi_arr (by decide) (by decide) ?_ | refine vi_up (by decide) (by decide) ?_ | refine vi_val (ck := 106) (by decide) (by decide) (by decide) ?_ ⟨by omega, by omega⟩))) ⟨by omega, by omega, by omega⟩ (by (repeat (first | exact ag_refl | refine ag_up rfl ?_))) (fun _ => rfl) (tw_0 (show (h 0 186) = 0 by omega)) (Or.inl (show (h 0 186) = 0 by omega)) (show ((h 0 149) - 1) = (h 0 149) + pw_eff ((h 74 (a1).toNat)) ((h 75 (a1).toNat)) (pw_pop h ((h 75 (a1).toNat))) - 0 by omega) (Or.inl (show (h 0 132) = (h 0 132) by omega)))) g37
    · refine ja_aload_n dexecute_293 rfl rfl ?_
      refine fa_frameValue dexecute_294 ?_
      refine ja_iload_n dexecute_297 rfl rfl ?_
      refine il_frameValue (v := h 107 (a2).toNat) rfl ⟨by omega, by omega⟩ dexecute_298 ?_
      have f38 := gC_frameValue g (a2).toNat
      refine ja_goto 303 dexecute_299 rfl ?_
      refine ja_iload_n dexecute_303 rfl rfl ?_
      refine t_heldAt (by decide) (show (0 : Nat) ≤ 8 by decide) dexecute_304 g ⟨by omega, by omega⟩ ⟨by omega, by omega⟩ ⟨by omega, by omega⟩ (show 0 ≤ (h 76 (a1).toNat) ∧ (h 76 (a1).toNat) ≤ 7 by omega) (show 0 ≤ (h 107 (a2).toNat) ∧ (h 107 (a2).toNat) ≤ 200 by omega) (show 0 ≤ (h 75 (a1).toNat) ∧ (h 75 (a1).toNat) ≤ 9 by omega) ?_
      intro w39 k304_0
      refine ja_istore dexecute_307 (by decide) (L2 := [(5, (0, w39)), (3, (0, (h 75 (a1).toNat))), (0, (2, ((0 : Nat) : Int))), (1, (0, a1)), (2, (0, a2))]) rfl ?_
      refine ja_aload_n dexecute_309 rfl rfl ?_
      refine ja_dup dexecute_310 (by decide) ?_
      refine fg_pile (v := h 0 149) rfl dexecute_311 ?_
      have f40 := gF_pile g
      refine ja_iconst dexecute_314 ?_
      refine ja_isub dexecute_315 ?_
      have g41 := gP_pile g (x := (h 0 149) - 1) ⟨by omega, by omega⟩
      refine fp_pile dexecute_316 ?_
      refine ja_aload_n dexecute_319 rfl rfl ?_
      refine fa_heldKind dexecute_320 ?_
      refine ja_iload dexecute_323 rfl ?_
      refine ja_aload_n dexecute_325 rfl rfl ?_
      refine fa_pileKind dexecute_326 ?_
      refine ja_aload_n dexecute_329 rfl rfl ?_
      refine fg_pile (v := (h 0 149) - 1) rfl dexecute_330 ?_
      refine il_pileKind (v := h 94 ((h 0 149) - 1).toNat) rfl ⟨by omega, by omega⟩ dexecute_333 ?_
      have f42 := gC_pileKind g ((h 0 149) - 1).toNat
      have g43 := gW_heldKind g41 (w39).toNat (x := h 94 ((h 0 149) - 1).toNat) ⟨by omega, by omega⟩
      refine is_heldKind ⟨by omega, by omega⟩ dexecute_334 ?_
      refine ja_aload_n dexecute_335 rfl rfl ?_
      refine fa_heldValue dexecute_336 ?_
      refine ja_iload dexecute_339 rfl ?_
      refine ja_aload_n dexecute_341 rfl rfl ?_
      refine fa_pileValue dexecute_342 ?_
      refine ja_aload_n dexecute_345 rfl rfl ?_
      refine fg_pile (v := (h 0 149) - 1) rfl dexecute_346 ?_
      refine il_pileValue (v := h 95 ((h 0 149) - 1).toNat) rfl ⟨by omega, by omega⟩ dexecute_349 ?_
      have f44 := gC_pileValue g ((h 0 149) - 1).toNat
      have g45 := gW_heldValue g43 (w39).toNat (x := h 95 ((h 0 149) - 1).toNat) ⟨by omega, by omega⟩
      refine is_heldValue ⟨by omega, by omega⟩ dexecute_350 ?_
      refine ja_goto 530 dexecute_351 rfl ?_
      refine ja_return dexecute_530 rfl ?_
      exact k1 (ja_up (ja_up (ja_up h 0 149 ((h 0 149) - 1)) 92 ((w39).toNat) (h 94 ((h 0 149) - 1).toNat)) 93 ((w39).toNat) (h 95 ((h 0 149) - 1).toNat)) ((ex_next (wd := 0) p1 g45 (by (repeat (first | exact qv | refine vi_set (by decide) (by decide) (by decide) ?_ (by first | exact (fun z => absurd z (by decide)) | exact vi_aS qv (by decide) _ | exact qv.2 | exact (fun z => ⟨by omega, hca⟩) | exact (fun z => ⟨by omega, hca z⟩) | (intro z; exfalso; omega)) | refine vi_res ?_ (by first | exact (fun z => absurd z (by decide)) | exact vi_aS qv (by decide) _ | exact qv.2 | exact (fun z => ⟨by omega, hca⟩) | exact (fun z => ⟨by omega, hca z⟩) | (intro z; exfalso; omega)) | refine vi_arr (by decide) (by decide) ?_ | refine vi_up (by decide) (by decide) ?_ | refine vi_val (ck := 106) (by decide) (by decide) (by decide) ?_ ⟨by omega, by omega⟩))) ⟨by omega, by omega, by omega⟩ (by (repeat (first | exact ag_refl | refine ag_up rfl ?_))) (fun _ => rfl) (tw_0 (show (h 0 186) = 0 by omega)) (Or.inl (show (h 0 186) = 0 by omega)) (show ((h 0 149) - 1) = (h 0 149) + pw_eff ((h 74 (a1).toNat)) ((h 75 (a1).toNat)) (pw_pop h ((h 75 (a1).toNat))) - 0 by omega) (Or.inl (show (h 0 132) = (h 0 132) by omega)))) g45
  have T13_354 : (h 74 (a1).toNat = 8) → mJ l D cA ad 12 cX12_execute 6 none 354 [(3, (0, (h 75 (a1).toNat))), (0, (2, ((0 : Nat) : Int))), (1, (0, a1)), (2, (0, a2))] [] h Q := by
    intro e13
    have xe := eff_0 (o := (h 74 (a1).toNat)) (a := (h 75 (a1).toNat)) (q := pw_pop h (h 75 (a1).toNat)) (by omega)
    have xa3 := xa3 (by omega)
    refine ja_aload_n dexecute_354 rfl rfl ?_
    refine ja_dup dexecute_355 (by decide) ?_
    refine fg_pile (v := h 0 149) rfl dexecute_356 ?_
    have f46 := gF_pile g
    refine ja_iconst dexecute_359 ?_
    refine ja_isub dexecute_360 ?_
    have g47 := gP_pile g (x := (h 0 149) - 1) ⟨by omega, by omega⟩
    refine fp_pile dexecute_361 ?_
    refine ja_aload_n dexecute_364 rfl rfl ?_
    refine ja_iconst dexecute_365 ?_
    refine ja_aload_n dexecute_366 rfl rfl ?_
    refine ja_aload_n dexecute_367 rfl rfl ?_
    refine fa_pileKind dexecute_368 ?_
    refine ja_aload_n dexecute_371 rfl rfl ?_
    refine fg_pile (v := (h 0 149) - 1) rfl dexecute_372 ?_
    refine il_pileKind (v := h 94 ((h 0 149) - 1).toNat) rfl ⟨by omega, by omega⟩ dexecute_375 ?_
    have f48 := gC_pileKind g ((h 0 149) - 1).toNat
    refine ja_aload_n dexecute_376 rfl rfl ?_
    refine fa_pileValue dexecute_377 ?_
    refine ja_aload_n dexecute_380 rfl rfl ?_
    refine fg_pile (v := (h 0 149) - 1) rfl dexecute_381 ?_
    refine il_pileValue (v := h 95 ((h 0 149) - 1).toNat) rfl ⟨by omega, by omega⟩ dexecute_384 ?_
    have f49 := gC_pileValue g ((h 0 149) - 1).toNat
    refine ja_iload_n dexecute_385 rfl rfl ?_
    refine t_isOf (by decide) (show (2 : Nat) ≤ 8 by decide) dexecute_386 g47 ⟨by omega, by omega⟩ ⟨by omega, by omega⟩ ⟨by omega, by omega⟩ ((vi_at qv (show (94, 95) ∈ vps by decide) _)) (show 0 ≤ (h 75 (a1).toNat) ∧ (h 75 (a1).toNat) ≤ 12 by omega) ?_
    intro w50 k386_0
    replace k386_0 : 0 ≤ w50 ∧ w50 ≤ 1 := k386_0
    refine t_asWhole (by decide) (show (2 : Nat) ≤ 8 by decide) dexecute_389 g47 ⟨by omega, by omega⟩ ?_
    intro w51 k389_0
    replace k389_0 : 0 ≤ w51 ∧ w51 ≤ 1 := k389_0
    refine t_put (by decide) (show (0 : Nat) ≤ 8 by decide) dexecute_392 g47 ⟨by decide, by decide⟩ ⟨by omega, by omega⟩ (show 0 ≤ 1 ∧ 1 ≤ 2 by omega) (show ((h 0 149) - 1) < 6000 by omega) ?_
    intro g52
    replace g52 : mo_G mo_zr (ja_up (ja_up (ja_up (ja_up h 0 149 ((h 0 149) - 1)) 94 (((h 0 149) - 1).toNat) 1) 95 (((h 0 149) - 1).toNat) w51) 0 149 (((h 0 149) - 1) + 1)) := g52
    show mJ l D cA ad 12 cX12_execute 6 none 395 [(3, (0, (h 75 (a1).toNat))), (0, (2, ((0 : Nat) : Int))), (1, (0, a1)), (2, (0, a2))] [] (ja_up (ja_up (ja_up (ja_up h 0 149 ((h 0 149) - 1)) 94 (((h 0 149) - 1).toNat) 1) 95 (((h 0 149) - 1).toNat) w51) 0 149 (((h 0 149) - 1) + 1)) Q
    refine ja_goto 530 dexecute_395 rfl ?_
    refine ja_return dexecute_530 rfl ?_
    exact k1 (ja_up (ja_up (ja_up (ja_up h 0 149 ((h 0 149) - 1)) 94 (((h 0 149) - 1).toNat) 1) 95 (((h 0 149) - 1).toNat) w51) 0 149 (((h 0 149) - 1) + 1)) ((ex_next (wd := 0) p1 g52 (by (repeat (first | exact qv | refine vi_set (by decide) (by decide) (by decide) ?_ (by first | exact (fun z => absurd z (by decide)) | exact vi_aS qv (by decide) _ | exact qv.2 | exact (fun z => ⟨by omega, hca⟩) | exact (fun z => ⟨by omega, hca z⟩) | (intro z; exfalso; omega)) | refine vi_res ?_ (by first | exact (fun z => absurd z (by decide)) | exact vi_aS qv (by decide) _ | exact qv.2 | exact (fun z => ⟨by omega, hca⟩) | exact (fun z => ⟨by omega, hca z⟩) | (intro z; exfalso; omega)) | refine vi_arr (by decide) (by decide) ?_ | refine vi_up (by decide) (by decide) ?_ | refine vi_val (ck := 106) (by decide) (by decide) (by decide) ?_ ⟨by omega, by omega⟩))) ⟨by omega, by omega, by omega⟩ (by (repeat (first | exact ag_refl | refine ag_up rfl ?_))) (fun _ => rfl) (tw_0 (show (h 0 186) = 0 by omega)) (Or.inl (show (h 0 186) = 0 by omega)) (show (((h 0 149) - 1) + 1) = (h 0 149) + pw_eff ((h 74 (a1).toNat)) ((h 75 (a1).toNat)) (pw_pop h ((h 75 (a1).toNat))) - 0 by omega) (Or.inl (show (h 0 132) = (h 0 132) by omega)))) g52
  have T13_398 : (h 74 (a1).toNat = 9) → mJ l D cA ad 12 cX12_execute 6 none 398 [(3, (0, (h 75 (a1).toNat))), (0, (2, ((0 : Nat) : Int))), (1, (0, a1)), (2, (0, a2))] [] h Q := by
    intro e13
    have xe := eff_9 (o := (h 74 (a1).toNat)) (a := (h 75 (a1).toNat)) (q := pw_pop h (h 75 (a1).toNat)) (by omega)
    refine ja_aload_n dexecute_398 rfl rfl ?_
    refine ja_iload_n dexecute_399 rfl rfl ?_
    refine t_binary (by decide) (show (0 : Nat) ≤ 8 by decide) dexecute_400 g ⟨by omega, by omega⟩ (show 2 ≤ (h 0 149) by omega) (qv) ?_ ?_
    · intro w53 k400_0 g54
      replace k400_0 : -2147483648 ≤ w53 ∧ w53 ≤ 2147483647 := k400_0
      replace g54 : mo_G mo_zr (ja_up (ja_up (ja_up (ja_up h 0 149 ((h 0 149) - 2)) 94 (((h 0 149) - 2).toNat) 1) 95 (((h 0 149) - 2).toNat) w53) 0 149 (((h 0 149) - 2) + 1)) := g54
      show mJ l D cA ad 12 cX12_execute 6 none 403 [(3, (0, (h 75 (a1).toNat))), (0, (2, ((0 : Nat) : Int))), (1, (0, a1)), (2, (0, a2))] [] (ja_up (ja_up (ja_up (ja_up h 0 149 ((h 0 149) - 2)) 94 (((h 0 149) - 2).toNat) 1) 95 (((h 0 149) - 2).toNat) w53) 0 149 (((h 0 149) - 2) + 1)) Q
      refine ja_goto 530 dexecute_403 rfl ?_
      refine ja_return dexecute_530 rfl ?_
      exact k1 (ja_up (ja_up (ja_up (ja_up h 0 149 ((h 0 149) - 2)) 94 (((h 0 149) - 2).toNat) 1) 95 (((h 0 149) - 2).toNat) w53) 0 149 (((h 0 149) - 2) + 1)) ((ex_next (wd := 0) p1 g54 (by (repeat (first | exact qv | refine vi_set (by decide) (by decide) (by decide) ?_ (by first | exact (fun z => absurd z (by decide)) | exact vi_aS qv (by decide) _ | exact qv.2 | exact (fun z => ⟨by omega, hca⟩) | exact (fun z => ⟨by omega, hca z⟩) | (intro z; exfalso; omega)) | refine vi_res ?_ (by first | exact (fun z => absurd z (by decide)) | exact vi_aS qv (by decide) _ | exact qv.2 | exact (fun z => ⟨by omega, hca⟩) | exact (fun z => ⟨by omega, hca z⟩) | (intro z; exfalso; omega)) | refine vi_arr (by decide) (by decide) ?_ | refine vi_up (by decide) (by decide) ?_ | refine vi_val (ck := 106) (by decide) (by decide) (by decide) ?_ ⟨by omega, by omega⟩))) ⟨by omega, by omega, by omega⟩ (by (repeat (first | exact ag_refl | refine ag_up rfl ?_))) (fun _ => rfl) (tw_0 (show (h 0 186) = 0 by omega)) (Or.inl (show (h 0 186) = 0 by omega)) (show (((h 0 149) - 2) + 1) = (h 0 149) + pw_eff ((h 74 (a1).toNat)) ((h 75 (a1).toNat)) (pw_pop h ((h 75 (a1).toNat))) - 0 by omega) (Or.inl (show (h 0 132) = (h 0 132) by omega)))) g54
    · intro w55 k400_1 g56
      replace k400_1 : -2147483648 ≤ w55 ∧ w55 ≤ 2147483647 := k400_1
      replace g56 : mo_G mo_zr (ja_up (ja_up (ja_up (ja_up (ja_up h 0 149 ((h 0 149) - 2)) 0 186 1) 0 187 1) 0 188 1) 0 189 w55) := g56
      show mJ l D cA ad 12 cX12_execute 6 none 403 [(3, (0, (h 75 (a1).toNat))), (0, (2, ((0 : Nat) : Int))), (1, (0, a1)), (2, (0, a2))] [] (ja_up (ja_up (ja_up (ja_up (ja_up h 0 149 ((h 0 149) - 2)) 0 186 1) 0 187 1) 0 188 1) 0 189 w55) Q
      refine ja_goto 530 dexecute_403 rfl ?_
      refine ja_return dexecute_530 rfl ?_
      exact k1 (ja_up (ja_up (ja_up (ja_up (ja_up h 0 149 ((h 0 149) - 2)) 0 186 1) 0 187 1) 0 188 1) 0 189 w55) ((ex_next (wd := 1) p1 g56 (by (repeat (first | exact qv | refine vi_set (by decide) (by decide) (by decide) ?_ (by first | exact (fun z => absurd z (by decide)) | exact vi_aS qv (by decide) _ | exact qv.2 | exact (fun z => ⟨by omega, hca⟩) | exact (fun z => ⟨by omega, hca z⟩) | (intro z; exfalso; omega)) | refine vi_res ?_ (by first | exact (fun z => absurd z (by decide)) | exact vi_aS qv (by decide) _ | exact qv.2 | exact (fun z => ⟨by omega, hca⟩) | exact (fun z => ⟨by omega, hca z⟩) | (intro z; exfalso; omega)) | refine vi_arr (by decide) (by decide) ?_ | refine vi_up (by decide) (by decide) ?_ | refine vi_val (ck := 106) (by decide) (by decide) (by decide) ?_ ⟨by omega, by omega⟩))) ⟨by omega, by omega, by omega⟩ (by (repeat (first | exact ag_refl | refine ag_up rfl ?_))) (fun _ => rfl) (tw_1 (by simp [ja_up])) (Or.inr (by simp [ja_up])) (show ((h 0 149) - 2) = (h 0 149) + pw_eff ((h 74 (a1).toNat)) ((h 75 (a1).toNat)) (pw_pop h ((h 75 (a1).toNat))) - 1 by omega) (Or.inl (show (h 0 132) = (h 0 132) by omega)))) g56
  have T13_406 : (h 74 (a1).toNat = 10) → mJ l D cA ad 12 cX12_execute 6 none 406 [(3, (0, (h 75 (a1).toNat))), (0, (2, ((0 : Nat) : Int))), (1, (0, a1)), (2, (0, a2))] [] h Q := by
    intro e13
    have xe := eff_0 (o := (h 74 (a1).toNat)) (a := (h 75 (a1).toNat)) (q := pw_pop h (h 75 (a1).toNat)) (by omega)
    refine ja_aload_n dexecute_406 rfl rfl ?_
    refine ja_dup dexecute_407 (by decide) ?_
    refine fg_pile (v := h 0 149) rfl dexecute_408 ?_
    have f57 := gF_pile g
    refine ja_iconst dexecute_411 ?_
    refine ja_isub dexecute_412 ?_
    have g58 := gP_pile g (x := (h 0 149) - 1) ⟨by omega, by omega⟩
    refine fp_pile dexecute_413 ?_
    refine ja_aload_n dexecute_416 rfl rfl ?_
    refine ja_iconst dexecute_417 ?_
    refine ja_aload_n dexecute_418 rfl rfl ?_
    refine fa_pileKind dexecute_419 ?_
    refine ja_aload_n dexecute_422 rfl rfl ?_
    refine fg_pile (v := (h 0 149) - 1) rfl dexecute_423 ?_
    refine il_pileKind (v := h 94 ((h 0 149) - 1).toNat) rfl ⟨by omega, by omega⟩ dexecute_426 ?_
    have f59 := gC_pileKind g ((h 0 149) - 1).toNat
    refine ja_aload_n dexecute_427 rfl rfl ?_
    refine fa_pileValue dexecute_428 ?_
    refine ja_aload_n dexecute_431 rfl rfl ?_
    refine fg_pile (v := (h 0 149) - 1) rfl dexecute_432 ?_
    refine il_pileValue (v := h 95 ((h 0 149) - 1).toNat) rfl ⟨by omega, by omega⟩ dexecute_435 ?_
    have f60 := gC_pileValue g ((h 0 149) - 1).toNat
    refine t_isTrue (by decide) (show (2 : Nat) ≤ 8 by decide) dexecute_436 g58 ⟨by omega, by omega⟩ ⟨by omega, by omega⟩ ?_
    intro w61 k436_0
    replace k436_0 : 0 ≤ w61 ∧ w61 ≤ 1 := k436_0
    refine ja_if_ne 446 dexecute_439 rfl ⟨by omega, by omega⟩ (fun c439 => ?_) (fun c439 => ?_)
    · refine ja_iconst dexecute_446 ?_
      refine t_asWhole (by decide) (show (2 : Nat) ≤ 8 by decide) dexecute_447 g58 ⟨by decide, by decide⟩ ?_
      intro w62 k447_0
      replace k447_0 : 0 ≤ w62 ∧ w62 ≤ 1 := k447_0
      refine t_put (by decide) (show (0 : Nat) ≤ 8 by decide) dexecute_450 g58 ⟨by decide, by decide⟩ ⟨by omega, by omega⟩ (show 0 ≤ 1 ∧ 1 ≤ 2 by omega) (show ((h 0 149) - 1) < 6000 by omega) ?_
      intro g63
      replace g63 : mo_G mo_zr (ja_up (ja_up (ja_up (ja_up h 0 149 ((h 0 149) - 1)) 94 (((h 0 149) - 1).toNat) 1) 95 (((h 0 149) - 1).toNat) w62) 0 149 (((h 0 149) - 1) + 1)) := g63
      show mJ l D cA ad 12 cX12_execute 6 none 453 [(3, (0, (h 75 (a1).toNat))), (0, (2, ((0 : Nat) : Int))), (1, (0, a1)), (2, (0, a2))] [] (ja_up (ja_up (ja_up (ja_up h 0 149 ((h 0 149) - 1)) 94 (((h 0 149) - 1).toNat) 1) 95 (((h 0 149) - 1).toNat) w62) 0 149 (((h 0 149) - 1) + 1)) Q
      refine ja_goto 530 dexecute_453 rfl ?_
      refine ja_return dexecute_530 rfl ?_
      exact k1 (ja_up (ja_up (ja_up (ja_up h 0 149 ((h 0 149) - 1)) 94 (((h 0 149) - 1).toNat) 1) 95 (((h 0 149) - 1).toNat) w62) 0 149 (((h 0 149) - 1) + 1)) ((ex_next (wd := 0) p1 g63 (by (repeat (first | exact qv | refine vi_set (by decide) (by decide) (by decide) ?_ (by first | exact (fun z => absurd z (by decide)) | exact vi_aS qv (by decide) _ | exact qv.2 | exact (fun z => ⟨by omega, hca⟩) | exact (fun z => ⟨by omega, hca z⟩) | (intro z; exfalso; omega)) | refine vi_res ?_ (by first | exact (fun z => absurd z (by decide)) | exact vi_aS qv (by decide) _ | exact qv.2 | exact (fun z => ⟨by omega, hca⟩) | exact (fun z => ⟨by omega, hca z⟩) | (intro z; exfalso; omega)) | refine vi_arr (by decide) (by decide) ?_ | refine vi_up (by decide) (by decide) ?_ | refine vi_val (ck := 106) (by decide) (by decide) (by decide) ?_ ⟨by omega, by omega⟩))) ⟨by omega, by omega, by omega⟩ (by (repeat (first | exact ag_refl | refine ag_up rfl ?_))) (fun _ => rfl) (tw_0 (show (h 0 186) = 0 by omega)) (Or.inl (show (h 0 186) = 0 by omega)) (show (((h 0 149) - 1) + 1) = (h 0 149) + pw_eff ((h 74 (a1).toNat)) ((h 75 (a1).toNat)) (pw_pop h ((h 75 (a1).toNat))) - 0 by omega) (Or.inl (show (h 0 132) = (h 0 132) by omega)))) g63
    · refine ja_iconst dexecute_442 ?_
      refine ja_goto 447 dexecute_443 rfl ?_
      refine t_asWhole (by decide) (show (2 : Nat) ≤ 8 by decide) dexecute_447 g58 ⟨by decide, by decide⟩ ?_
      intro w64 k447_0
      replace k447_0 : 0 ≤ w64 ∧ w64 ≤ 1 := k447_0
      refine t_put (by decide) (show (0 : Nat) ≤ 8 by decide) dexecute_450 g58 ⟨by decide, by decide⟩ ⟨by omega, by omega⟩ (show 0 ≤ 1 ∧ 1 ≤ 2 by omega) (show ((h 0 149) - 1) < 6000 by omega) ?_
      intro g65
      replace g65 : mo_G mo_zr (ja_up (ja_up (ja_up (ja_up h 0 149 ((h 0 149) - 1)) 94 (((h 0 149) - 1).toNat) 1) 95 (((h 0 149) - 1).toNat) w64) 0 149 (((h 0 149) - 1) + 1)) := g65
      show mJ l D cA ad 12 cX12_execute 6 none 453 [(3, (0, (h 75 (a1).toNat))), (0, (2, ((0 : Nat) : Int))), (1, (0, a1)), (2, (0, a2))] [] (ja_up (ja_up (ja_up (ja_up h 0 149 ((h 0 149) - 1)) 94 (((h 0 149) - 1).toNat) 1) 95 (((h 0 149) - 1).toNat) w64) 0 149 (((h 0 149) - 1) + 1)) Q
      refine ja_goto 530 dexecute_453 rfl ?_
      refine ja_return dexecute_530 rfl ?_
      exact k1 (ja_up (ja_up (ja_up (ja_up h 0 149 ((h 0 149) - 1)) 94 (((h 0 149) - 1).toNat) 1) 95 (((h 0 149) - 1).toNat) w64) 0 149 (((h 0 149) - 1) + 1)) ((ex_next (wd := 0) p1 g65 (by (repeat (first | exact qv | refine vi_set (by decide) (by decide) (by decide) ?_ (by first | exact (fun z => absurd z (by decide)) | exact vi_aS qv (by decide) _ | exact qv.2 | exact (fun z => ⟨by omega, hca⟩) | exact (fun z => ⟨by omega, hca z⟩) | (intro z; exfalso; omega)) | refine vi_res ?_ (by first | exact (fun z => absurd z (by decide)) | exact vi_aS qv (by decide) _ | exact qv.2 | exact (fun z => ⟨by omega, hca⟩) | exact (fun z => ⟨by omega, hca z⟩) | (intro z; exfalso; omega)) | refine vi_arr (by decide) (by decide) ?_ | refine vi_up (by decide) (by decide) ?_ | refine vi_val (ck := 106) (by decide) (by decide) (by decide) ?_ ⟨by omega, by omega⟩))) ⟨by omega, by omega, by omega⟩ (by (repeat (first | exact ag_refl | refine ag_up rfl ?_))) (fun _ => rfl) (tw_0 (show (h 0 186) = 0 by omega)) (Or.inl (show (h 0 186) = 0 by omega)) (show (((h 0 149) - 1) + 1) = (h 0 149) + pw_eff ((h 74 (a1).toNat)) ((h 75 (a1).toNat)) (pw_pop h ((h 75 (a1).toNat))) - 0 by omega) (Or.inl (show (h 0 132) = (h 0 132) by omega)))) g65
  have T13_456 : (h 74 (a1).toNat = 11) → mJ l D cA ad 12 cX12_execute 6 none 456 [(3, (0, (h 75 (a1).toNat))), (0, (2, ((0 : Nat) : Int))), (1, (0, a1)), (2, (0, a2))] [] h Q := by
    intro e13
    have xe := eff_0 (o := (h 74 (a1).toNat)) (a := (h 75 (a1).toNat)) (q := pw_pop h (h 75 (a1).toNat)) (by omega)
    refine ja_aload_n dexecute_456 rfl rfl ?_
    refine ja_dup dexecute_457 (by decide) ?_
    refine fg_pile (v := h 0 149) rfl dexecute_458 ?_
    have f66 := gF_pile g
    refine ja_iconst dexecute_461 ?_
    refine ja_isub dexecute_462 ?_
    have g67 := gP_pile g (x := (h 0 149) - 1) ⟨by omega, by omega⟩
    refine fp_pile dexecute_463 ?_
    refine ja_aload_n dexecute_466 rfl rfl ?_
    refine fa_pileKind dexecute_467 ?_
    refine ja_aload_n dexecute_470 rfl rfl ?_
    refine fg_pile (v := (h 0 149) - 1) rfl dexecute_471 ?_
    refine il_pileKind (v := h 94 ((h 0 149) - 1).toNat) rfl ⟨by omega, by omega⟩ dexecute_474 ?_
    have f68 := gC_pileKind g ((h 0 149) - 1).toNat
    refine ja_iconst dexecute_475 ?_
    refine ja_icmp_ne 497 dexecute_476 rfl ⟨by omega, by omega⟩ ⟨by decide, by decide⟩ (fun c476 => ?_) (fun c476 => ?_)
    · refine ja_aload_n dexecute_497 rfl rfl ?_
      refine ja_bipush (-5) dexecute_498 rfl ?_
      refine t_fails (by decide) (show (0 : Nat) ≤ 8 by decide) dexecute_500 g67 ⟨by decide, by decide⟩ ?_
      intro g69
      replace g69 : mo_G mo_zr (ja_up (ja_up (ja_up (ja_up (ja_up h 0 149 ((h 0 149) - 1)) 0 186 1) 0 187 1) 0 188 1) 0 189 (-5)) := g69
      show mJ l D cA ad 12 cX12_execute 6 none 503 [(3, (0, (h 75 (a1).toNat))), (0, (2, ((0 : Nat) : Int))), (1, (0, a1)), (2, (0, a2))] [] (ja_up (ja_up (ja_up (ja_up (ja_up h 0 149 ((h 0 149) - 1)) 0 186 1) 0 187 1) 0 188 1) 0 189 (-5)) Q
      refine ja_goto 530 dexecute_503 rfl ?_
      refine ja_return dexecute_530 rfl ?_
      exact k1 (ja_up (ja_up (ja_up (ja_up (ja_up h 0 149 ((h 0 149) - 1)) 0 186 1) 0 187 1) 0 188 1) 0 189 (-5)) ((ex_next (wd := 1) p1 g69 (by (repeat (first | exact qv | refine vi_set (by decide) (by decide) (by decide) ?_ (by first | exact (fun z => absurd z (by decide)) | exact vi_aS qv (by decide) _ | exact qv.2 | exact (fun z => ⟨by omega, hca⟩) | exact (fun z => ⟨by omega, hca z⟩) | (intro z; exfalso; omega)) | refine vi_res ?_ (by first | exact (fun z => absurd z (by decide)) | exact vi_aS qv (by decide) _ | exact qv.2 | exact (fun z => ⟨by omega, hca⟩) | exact (fun z => ⟨by omega, hca z⟩) | (intro z; exfalso; omega)) | refine vi_arr (by decide) (by decide) ?_ | refine vi_up (by decide) (by decide) ?_ | refine vi_val (ck := 106) (by decide) (by decide) (by decide) ?_ ⟨by omega, by omega⟩))) ⟨by omega, by omega, by omega⟩ (by (repeat (first | exact ag_refl | refine ag_up rfl ?_))) (fun _ => rfl) (tw_1 (by simp [ja_up])) (Or.inr (by simp [ja_up])) (show ((h 0 149) - 1) = (h 0 149) + pw_eff ((h 74 (a1).toNat)) ((h 75 (a1).toNat)) (pw_pop h ((h 75 (a1).toNat))) - 1 by omega) (Or.inl (show (h 0 132) = (h 0 132) by omega)))) g69
    · refine ja_aload_n dexecute_479 rfl rfl ?_
      refine ja_iconst dexecute_480 ?_
      refine ja_aload_n dexecute_481 rfl rfl ?_
      refine fa_pileValue dexecute_482 ?_
      refine ja_aload_n dexecute_485 rfl rfl ?_
      refine fg_pile (v := (h 0 149) - 1) rfl dexecute_486 ?_
      refine il_pileValue (v := h 95 ((h 0 149) - 1).toNat) rfl ⟨by omega, by omega⟩ dexecute_489 ?_
      have f70 := gC_pileValue g ((h 0 149) - 1).toNat
      refine mo_hineg dexecute_490 (fun v71 rv71 => ?_)
      refine t_put (by decide) (show (0 : Nat) ≤ 8 by decide) dexecute_491 g67 ⟨by decide, by decide⟩ ⟨by omega, by omega⟩ (show 0 ≤ 1 ∧ 1 ≤ 2 by omega) (show ((h 0 149) - 1) < 6000 by omega) ?_
      intro g72
      replace g72 : mo_G mo_zr (ja_up (ja_up (ja_up (ja_up h 0 149 ((h 0 149) - 1)) 94 (((h 0 149) - 1).toNat) 1) 95 (((h 0 149) - 1).toNat) v71) 0 149 (((h 0 149) - 1) + 1)) := g72
      show mJ l D cA ad 12 cX12_execute 6 none 494 [(3, (0, (h 75 (a1).toNat))), (0, (2, ((0 : Nat) : Int))), (1, (0, a1)), (2, (0, a2))] [] (ja_up (ja_up (ja_up (ja_up h 0 149 ((h 0 149) - 1)) 94 (((h 0 149) - 1).toNat) 1) 95 (((h 0 149) - 1).toNat) v71) 0 149 (((h 0 149) - 1) + 1)) Q
      refine ja_goto 530 dexecute_494 rfl ?_
      refine ja_return dexecute_530 rfl ?_
      exact k1 (ja_up (ja_up (ja_up (ja_up h 0 149 ((h 0 149) - 1)) 94 (((h 0 149) - 1).toNat) 1) 95 (((h 0 149) - 1).toNat) v71) 0 149 (((h 0 149) - 1) + 1)) ((ex_next (wd := 0) p1 g72 (by (repeat (first | exact qv | refine vi_set (by decide) (by decide) (by decide) ?_ (by first | exact (fun z => absurd z (by decide)) | exact vi_aS qv (by decide) _ | exact qv.2 | exact (fun z => ⟨by omega, hca⟩) | exact (fun z => ⟨by omega, hca z⟩) | (intro z; exfalso; omega)) | refine vi_res ?_ (by first | exact (fun z => absurd z (by decide)) | exact vi_aS qv (by decide) _ | exact qv.2 | exact (fun z => ⟨by omega, hca⟩) | exact (fun z => ⟨by omega, hca z⟩) | (intro z; exfalso; omega)) | refine vi_arr (by decide) (by decide) ?_ | refine vi_up (by decide) (by decide) ?_ | refine vi_val (ck := 106) (by decide) (by decide) (by decide) ?_ ⟨by omega, by omega⟩))) ⟨by omega, by omega, by omega⟩ (by (repeat (first | exact ag_refl | refine ag_up rfl ?_))) (fun _ => rfl) (tw_0 (show (h 0 186) = 0 by omega)) (Or.inl (show (h 0 186) = 0 by omega)) (show (((h 0 149) - 1) + 1) = (h 0 149) + pw_eff ((h 74 (a1).toNat)) ((h 75 (a1).toNat)) (pw_pop h ((h 75 (a1).toNat))) - 0 by omega) (Or.inl (show (h 0 132) = (h 0 132) by omega)))) g72
  have T13_506 : (h 74 (a1).toNat = 15) → mJ l D cA ad 12 cX12_execute 6 none 506 [(3, (0, (h 75 (a1).toNat))), (0, (2, ((0 : Nat) : Int))), (1, (0, a1)), (2, (0, a2))] [] h Q := by
    intro e13
    refine ja_aload_n dexecute_506 rfl rfl ?_
    refine ja_iload_n dexecute_507 rfl rfl ?_
    refine ja_iload_n dexecute_508 rfl rfl ?_
    refine t_pointWord (by decide) (show (0 : Nat) ≤ 8 by decide) dexecute_509 g ⟨by omega, by omega⟩ ⟨by omega, by omega⟩ (p1) (rfl) ((show (h 74 (a1).toNat) = 15 by omega)) ?_
    intro h73 k509_0 g74
    refine ja_goto 530 dexecute_512 rfl ?_
    refine ja_return dexecute_530 rfl ?_
    exact k1 h73 (k509_0) g74
  have T13_515 : (h 74 (a1).toNat = 16) → mJ l D cA ad 12 cX12_execute 6 none 515 [(3, (0, (h 75 (a1).toNat))), (0, (2, ((0 : Nat) : Int))), (1, (0, a1)), (2, (0, a2))] [] h Q := by
    intro e13
    refine ja_aload_n dexecute_515 rfl rfl ?_
    refine ja_iload_n dexecute_516 rfl rfl ?_
    refine ja_iload_n dexecute_517 rfl rfl ?_
    refine t_go (by decide) (show (0 : Nat) ≤ 8 by decide) dexecute_518 g ⟨by omega, by omega⟩ ⟨by omega, by omega⟩ (p1) (rfl) ((show (h 74 (a1).toNat) = 16 by omega)) ?_
    intro h75 k518_0 g76
    refine ja_goto 530 dexecute_521 rfl ?_
    refine ja_return dexecute_530 rfl ?_
    exact k1 h75 (k518_0) g76
  have T13_524 : (h 74 (a1).toNat < 1 ∨ 16 < h 74 (a1).toNat ∨ h 74 (a1).toNat = 12 ∨ h 74 (a1).toNat = 13 ∨ h 74 (a1).toNat = 14) → mJ l D cA ad 12 cX12_execute 6 none 524 [(3, (0, (h 75 (a1).toNat))), (0, (2, ((0 : Nat) : Int))), (1, (0, a1)), (2, (0, a2))] [] h Q := by
    intro e13
    refine ja_aload_n dexecute_524 rfl rfl ?_
    refine ja_iload_n dexecute_525 rfl rfl ?_
    refine ja_iload_n dexecute_526 rfl rfl ?_
    refine t_flowWord (by decide) (show (0 : Nat) ≤ 8 by decide) dexecute_527 g ⟨by omega, by omega⟩ ⟨by omega, by omega⟩ (p1) (show 12 ≤ (h 74 (a1).toNat) ∧ (h 74 (a1).toNat) ≠ 15 ∧ (h 74 (a1).toNat) ≠ 16 by omega) (show (h 0 132) < 2147483647 by omega) ?_
    intro h77 k527_0 g78
    refine ja_return dexecute_530 rfl ?_
    exact k1 h77 (k527_0) g78
  rcases (by omega : h 74 (a1).toNat = 1 ∨ h 74 (a1).toNat = 2 ∨ h 74 (a1).toNat = 3 ∨ h 74 (a1).toNat = 4 ∨ h 74 (a1).toNat = 5 ∨ h 74 (a1).toNat = 6 ∨ h 74 (a1).toNat = 7 ∨ h 74 (a1).toNat = 8 ∨ h 74 (a1).toNat = 9 ∨ h 74 (a1).toNat = 10 ∨ h 74 (a1).toNat = 11 ∨ h 74 (a1).toNat = 12 ∨ h 74 (a1).toNat = 13 ∨ h 74 (a1).toNat = 14 ∨ h 74 (a1).toNat = 15 ∨ h 74 (a1).toNat = 16 ∨ (h 74 (a1).toNat < 1 ∨ 16 < h 74 (a1).toNat)) with e | e | e | e | e | e | e | e | e | e | e | e | e | e | e | e | e
  · exact ja_tableIn 92 dexecute_13 ⟨by omega, by omega⟩ (by omega) (by omega) (by rw [e]; rfl) rfl (T13_92 (by omega))
  · exact ja_tableIn 101 dexecute_13 ⟨by omega, by omega⟩ (by omega) (by omega) (by rw [e]; rfl) rfl (T13_101 (by omega))
  · exact ja_tableIn 110 dexecute_13 ⟨by omega, by omega⟩ (by omega) (by omega) (by rw [e]; rfl) rfl (T13_110 (by omega))
  · exact ja_tableIn 124 dexecute_13 ⟨by omega, by omega⟩ (by omega) (by omega) (by rw [e]; rfl) rfl (T13_124 (by omega))
  · exact ja_tableIn 157 dexecute_13 ⟨by omega, by omega⟩ (by omega) (by omega) (by rw [e]; rfl) rfl (T13_157 (by omega))
  · exact ja_tableIn 214 dexecute_13 ⟨by omega, by omega⟩ (by omega) (by omega) (by rw [e]; rfl) rfl (T13_214 (by omega))
  · exact ja_tableIn 272 dexecute_13 ⟨by omega, by omega⟩ (by omega) (by omega) (by rw [e]; rfl) rfl (T13_272 (by omega))
  · exact ja_tableIn 354 dexecute_13 ⟨by omega, by omega⟩ (by omega) (by omega) (by rw [e]; rfl) rfl (T13_354 (by omega))
  · exact ja_tableIn 398 dexecute_13 ⟨by omega, by omega⟩ (by omega) (by omega) (by rw [e]; rfl) rfl (T13_398 (by omega))
  · exact ja_tableIn 406 dexecute_13 ⟨by omega, by omega⟩ (by omega) (by omega) (by rw [e]; rfl) rfl (T13_406 (by omega))
  · exact ja_tableIn 456 dexecute_13 ⟨by omega, by omega⟩ (by omega) (by omega) (by rw [e]; rfl) rfl (T13_456 (by omega))
  · exact ja_tableIn 524 dexecute_13 ⟨by omega, by omega⟩ (by omega) (by omega) (by rw [e]; rfl) rfl (T13_524 (by omega))
  · exact ja_tableIn 524 dexecute_13 ⟨by omega, by omega⟩ (by omega) (by omega) (by rw [e]; rfl) rfl (T13_524 (by omega))
  · exact ja_tableIn 524 dexecute_13 ⟨by omega, by omega⟩ (by omega) (by omega) (by rw [e]; rfl) rfl (T13_524 (by omega))
  · exact ja_tableIn 506 dexecute_13 ⟨by omega, by omega⟩ (by omega) (by omega) (by rw [e]; rfl) rfl (T13_506 (by omega))
  · exact ja_tableIn 515 dexecute_13 ⟨by omega, by omega⟩ (by omega) (by omega) (by rw [e]; rfl) rfl (T13_515 (by omega))
  · exact ja_tableOut 524 dexecute_13 ⟨by omega, by omega⟩ (by omega) rfl (T13_524 (by omega))
theorem t_execute {a1 a2 : Int} {h9 : ja_H} {ht st rg : Nat → Int} {d nL pc : Nat} {cc : ByteArray} {rt : Option FieldType} {L : List (Nat × ja_V)} {S : List ja_V} {h : ja_H} {Q : Option ja_V → ja_H → Prop} (hdd : 12 < d) (hwd : ja_wd S ≤ 8) (hd : decode cc pc = .ok (.invokevirtual 1039, 3)) (g : mo_G mo_zr h) (r1 : -2147483648 ≤ a1 ∧ a1 ≤ 2147483647) (r2 : -2147483648 ≤ a2 ∧ a2 ≤ 2147483647) (p1 : EX h9 h ht st rg a1 a2) (p2 : (h 0 132) < 2147483647) (k1 : ∀ (h' : ja_H), (RO h9 h' ht st rg) → mo_G mo_zr h' → mJ l D cA ad d cc nL rt (pc + 3) L S h' Q) : mJ l D cA ad d cc nL rt pc L ((0, a2) :: (0, a1) :: (2, ((0 : Nat) : Int)) :: S) h Q :=
  mc_execute hdd hwd hd (s_execute g r1 r2 p1 p2 k1)
end
