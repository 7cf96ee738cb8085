/-! the reference: an evaluation (written by a program) -/
/-! the reference: an evaluation -/
theorem rw_ag {h u : ja_H} (ag : mo_ag (mo_F [172, 88] [115, 116, 12]) h u) (q : RW h) : RW u := by
  have e1 : (u 0 172) = (h 0 172) := ag _ _ rfl
  have e2 : (u 0 88) = (h 0 88) := ag _ _ rfl
  have f1 : (u 115) = (h 115) := funext fun j => ag _ _ rfl
  have f2 : (u 116) = (h 116) := funext fun j => ag _ _ rfl
  unfold RW; rw [e1, e2, f1, f2]
  exact fun r hr => ⟨(q r hr).1, fun z => caN_e (ag _ _ rfl) ((q r hr).2 z)⟩
theorem dnext_0 : decode cX12_next 0 = .ok (.aload_n 0, 1) := by decide +kernel
theorem dnext_1 : decode cX12_next 1 = .ok (.getfield 405, 3) := by decide +kernel
theorem dnext_4 : decode cX12_next 4 = .ok (.iload_n 1, 1) := by decide +kernel
theorem dnext_5 : decode cX12_next 5 = .ok (.iaload, 1) := by decide +kernel
theorem dnext_6 : decode cX12_next 6 = .ok (.istore_n 2, 1) := by decide +kernel
theorem dnext_7 : decode cX12_next 7 = .ok (.aload_n 0, 1) := by decide +kernel
theorem dnext_8 : decode cX12_next 8 = .ok (.getfield 411, 3) := by decide +kernel
theorem dnext_11 : decode cX12_next 11 = .ok (.iload_n 1, 1) := by decide +kernel
theorem dnext_12 : decode cX12_next 12 = .ok (.iaload, 1) := by decide +kernel
theorem dnext_13 : decode cX12_next 13 = .ok (.istore_n 3, 1) := by decide +kernel
theorem dnext_14 : decode cX12_next 14 = .ok (.aload_n 0, 1) := by decide +kernel
theorem dnext_15 : decode cX12_next 15 = .ok (.getfield 182, 3) := by decide +kernel
theorem dnext_18 : decode cX12_next 18 = .ok (.iload_n 2, 1) := by decide +kernel
theorem dnext_19 : decode cX12_next 19 = .ok (.iaload, 1) := by decide +kernel
theorem dnext_20 : decode cX12_next 20 = .ok (.istore 4, 2) := by decide +kernel
theorem dnext_22 : decode cX12_next 22 = .ok (.aload_n 0, 1) := by decide +kernel
theorem dnext_23 : decode cX12_next 23 = .ok (.getfield 408, 3) := by decide +kernel
theorem dnext_26 : decode cX12_next 26 = .ok (.iload_n 1, 1) := by decide +kernel
theorem dnext_27 : decode cX12_next 27 = .ok (.iaload, 1) := by decide +kernel
theorem dnext_28 : decode cX12_next 28 = .ok (.iconst 1, 1) := by decide +kernel
theorem dnext_29 : decode cX12_next 29 = .ok (.if_icmp .le 14, 3) := by decide +kernel
theorem dnext_32 : decode cX12_next 32 = .ok (.aload_n 0, 1) := by decide +kernel
theorem dnext_33 : decode cX12_next 33 = .ok (.aload_n 0, 1) := by decide +kernel
theorem dnext_34 : decode cX12_next 34 = .ok (.getfield 1147, 3) := by decide +kernel
theorem dnext_37 : decode cX12_next 37 = .ok (.invokevirtual 1150, 3) := by decide +kernel
theorem dnext_40 : decode cX12_next 40 = .ok (.goto 296, 3) := by decide +kernel
theorem dnext_43 : decode cX12_next 43 = .ok (.iload 4, 2) := by decide +kernel
theorem dnext_45 : decode cX12_next 45 = .ok (.bipush 13, 2) := by decide +kernel
theorem dnext_47 : decode cX12_next 47 = .ok (.if_icmp .eq 10, 3) := by decide +kernel
theorem dnext_50 : decode cX12_next 50 = .ok (.iload 4, 2) := by decide +kernel
theorem dnext_52 : decode cX12_next 52 = .ok (.bipush 14, 2) := by decide +kernel
theorem dnext_54 : decode cX12_next 54 = .ok (.if_icmp .ne 66, 3) := by decide +kernel
theorem dnext_57 : decode cX12_next 57 = .ok (.aload_n 0, 1) := by decide +kernel
theorem dnext_58 : decode cX12_next 58 = .ok (.getfield 1147, 3) := by decide +kernel
theorem dnext_61 : decode cX12_next 61 = .ok (.iload 4, 2) := by decide +kernel
theorem dnext_63 : decode cX12_next 63 = .ok (.bipush 14, 2) := by decide +kernel
theorem dnext_65 : decode cX12_next 65 = .ok (.if_icmp .ne 7, 3) := by decide +kernel
theorem dnext_68 : decode cX12_next 68 = .ok (.iconst 1, 1) := by decide +kernel
theorem dnext_69 : decode cX12_next 69 = .ok (.goto 4, 3) := by decide +kernel
theorem dnext_72 : decode cX12_next 72 = .ok (.iconst 0, 1) := by decide +kernel
theorem dnext_73 : decode cX12_next 73 = .ok (.if_icmp .ne 14, 3) := by decide +kernel
theorem dnext_76 : decode cX12_next 76 = .ok (.aload_n 0, 1) := by decide +kernel
theorem dnext_77 : decode cX12_next 77 = .ok (.aload_n 0, 1) := by decide +kernel
theorem dnext_78 : decode cX12_next 78 = .ok (.getfield 1147, 3) := by decide +kernel
theorem dnext_81 : decode cX12_next 81 = .ok (.invokevirtual 1150, 3) := by decide +kernel
theorem dnext_84 : decode cX12_next 84 = .ok (.goto 252, 3) := by decide +kernel
theorem dnext_87 : decode cX12_next 87 = .ok (.iload 4, 2) := by decide +kernel
theorem dnext_89 : decode cX12_next 89 = .ok (.bipush 14, 2) := by decide +kernel
theorem dnext_91 : decode cX12_next 91 = .ok (.if_icmp .ne 8, 3) := by decide +kernel
theorem dnext_94 : decode cX12_next 94 = .ok (.aload_n 0, 1) := by decide +kernel
theorem dnext_95 : decode cX12_next 95 = .ok (.iload_n 2, 1) := by decide +kernel
theorem dnext_96 : decode cX12_next 96 = .ok (.invokevirtual 1157, 3) := by decide +kernel
theorem dnext_99 : decode cX12_next 99 = .ok (.aload_n 0, 1) := by decide +kernel
theorem dnext_100 : decode cX12_next 100 = .ok (.getfield 408, 3) := by decide +kernel
theorem dnext_103 : decode cX12_next 103 = .ok (.iload_n 1, 1) := by decide +kernel
theorem dnext_104 : decode cX12_next 104 = .ok (.iconst 2, 1) := by decide +kernel
theorem dnext_105 : decode cX12_next 105 = .ok (.iastore, 1) := by decide +kernel
theorem dnext_106 : decode cX12_next 106 = .ok (.aload_n 0, 1) := by decide +kernel
theorem dnext_107 : decode cX12_next 107 = .ok (.aload_n 0, 1) := by decide +kernel
theorem dnext_108 : decode cX12_next 108 = .ok (.getfield 188, 3) := by decide +kernel
theorem dnext_111 : decode cX12_next 111 = .ok (.iload_n 2, 1) := by decide +kernel
theorem dnext_112 : decode cX12_next 112 = .ok (.iaload, 1) := by decide +kernel
theorem dnext_113 : decode cX12_next 113 = .ok (.iload_n 3, 1) := by decide +kernel
theorem dnext_114 : decode cX12_next 114 = .ok (.invokevirtual 1138, 3) := by decide +kernel
theorem dnext_117 : decode cX12_next 117 = .ok (.goto 219, 3) := by decide +kernel
theorem dnext_120 : decode cX12_next 120 = .ok (.iload 4, 2) := by decide +kernel
theorem dnext_122 : decode cX12_next 122 = .ok (.bipush 15, 2) := by decide +kernel
theorem dnext_124 : decode cX12_next 124 = .ok (.if_icmp .ne 22, 3) := by decide +kernel
theorem dnext_127 : decode cX12_next 127 = .ok (.aload_n 0, 1) := by decide +kernel
theorem dnext_128 : decode cX12_next 128 = .ok (.aload_n 0, 1) := by decide +kernel
theorem dnext_129 : decode cX12_next 129 = .ok (.getfield 1147, 3) := by decide +kernel
theorem dnext_132 : decode cX12_next 132 = .ok (.ifCond .ne 7, 3) := by decide +kernel
theorem dnext_135 : decode cX12_next 135 = .ok (.iconst 1, 1) := by decide +kernel
theorem dnext_136 : decode cX12_next 136 = .ok (.goto 4, 3) := by decide +kernel
theorem dnext_139 : decode cX12_next 139 = .ok (.iconst 0, 1) := by decide +kernel
theorem dnext_140 : decode cX12_next 140 = .ok (.invokevirtual 1150, 3) := by decide +kernel
theorem dnext_143 : decode cX12_next 143 = .ok (.goto 193, 3) := by decide +kernel
theorem dnext_146 : decode cX12_next 146 = .ok (.iload 4, 2) := by decide +kernel
theorem dnext_148 : decode cX12_next 148 = .ok (.bipush 12, 2) := by decide +kernel
theorem dnext_150 : decode cX12_next 150 = .ok (.if_icmp .ne 95, 3) := by decide +kernel
theorem dnext_153 : decode cX12_next 153 = .ok (.iconst 0, 1) := by decide +kernel
theorem dnext_154 : decode cX12_next 154 = .ok (.istore 5, 2) := by decide +kernel
theorem dnext_156 : decode cX12_next 156 = .ok (.iload 5, 2) := by decide +kernel
theorem dnext_158 : decode cX12_next 158 = .ok (.aload_n 0, 1) := by decide +kernel
theorem dnext_159 : decode cX12_next 159 = .ok (.getfield 194, 3) := by decide +kernel
theorem dnext_162 : decode cX12_next 162 = .ok (.iload_n 2, 1) := by decide +kernel
theorem dnext_163 : decode cX12_next 163 = .ok (.iaload, 1) := by decide +kernel
theorem dnext_164 : decode cX12_next 164 = .ok (.if_icmp .ge 70, 3) := by decide +kernel
theorem dnext_167 : decode cX12_next 167 = .ok (.aload_n 0, 1) := by decide +kernel
theorem dnext_168 : decode cX12_next 168 = .ok (.getfield 1147, 3) := by decide +kernel
theorem dnext_171 : decode cX12_next 171 = .ok (.ifCond .eq 63, 3) := by decide +kernel
theorem dnext_174 : decode cX12_next 174 = .ok (.aload_n 0, 1) := by decide +kernel
theorem dnext_175 : decode cX12_next 175 = .ok (.getfield 399, 3) := by decide +kernel
theorem dnext_178 : decode cX12_next 178 = .ok (.aload_n 0, 1) := by decide +kernel
theorem dnext_179 : decode cX12_next 179 = .ok (.getfield 197, 3) := by decide +kernel
theorem dnext_182 : decode cX12_next 182 = .ok (.bipush 7, 2) := by decide +kernel
theorem dnext_184 : decode cX12_next 184 = .ok (.iload_n 2, 1) := by decide +kernel
theorem dnext_185 : decode cX12_next 185 = .ok (.imul, 1) := by decide +kernel
theorem dnext_186 : decode cX12_next 186 = .ok (.iload 5, 2) := by decide +kernel
theorem dnext_188 : decode cX12_next 188 = .ok (.iadd, 1) := by decide +kernel
theorem dnext_189 : decode cX12_next 189 = .ok (.iaload, 1) := by decide +kernel
theorem dnext_190 : decode cX12_next 190 = .ok (.aload_n 0, 1) := by decide +kernel
theorem dnext_191 : decode cX12_next 191 = .ok (.getfield 399, 3) := by decide +kernel
theorem dnext_194 : decode cX12_next 194 = .ok (.bipush 7, 2) := by decide +kernel
theorem dnext_196 : decode cX12_next 196 = .ok (.iload 5, 2) := by decide +kernel
theorem dnext_198 : decode cX12_next 198 = .ok (.iadd, 1) := by decide +kernel
theorem dnext_199 : decode cX12_next 199 = .ok (.iaload, 1) := by decide +kernel
theorem dnext_200 : decode cX12_next 200 = .ok (.iastore, 1) := by decide +kernel
theorem dnext_201 : decode cX12_next 201 = .ok (.aload_n 0, 1) := by decide +kernel
theorem dnext_202 : decode cX12_next 202 = .ok (.getfield 402, 3) := by decide +kernel
theorem dnext_205 : decode cX12_next 205 = .ok (.aload_n 0, 1) := by decide +kernel
theorem dnext_206 : decode cX12_next 206 = .ok (.getfield 197, 3) := by decide +kernel
theorem dnext_209 : decode cX12_next 209 = .ok (.bipush 7, 2) := by decide +kernel
theorem dnext_211 : decode cX12_next 211 = .ok (.iload_n 2, 1) := by decide +kernel
theorem dnext_212 : decode cX12_next 212 = .ok (.imul, 1) := by decide +kernel
theorem dnext_213 : decode cX12_next 213 = .ok (.iload 5, 2) := by decide +kernel
theorem dnext_215 : decode cX12_next 215 = .ok (.iadd, 1) := by decide +kernel
theorem dnext_216 : decode cX12_next 216 = .ok (.iaload, 1) := by decide +kernel
theorem dnext_217 : decode cX12_next 217 = .ok (.aload_n 0, 1) := by decide +kernel
theorem dnext_218 : decode cX12_next 218 = .ok (.getfield 402, 3) := by decide +kernel
theorem dnext_221 : decode cX12_next 221 = .ok (.bipush 7, 2) := by decide +kernel
theorem dnext_223 : decode cX12_next 223 = .ok (.iload 5, 2) := by decide +kernel
theorem dnext_225 : decode cX12_next 225 = .ok (.iadd, 1) := by decide +kernel
theorem dnext_226 : decode cX12_next 226 = .ok (.iaload, 1) := by decide +kernel
theorem dnext_227 : decode cX12_next 227 = .ok (.iastore, 1) := by decide +kernel
theorem dnext_228 : decode cX12_next 228 = .ok (.iinc 5 1, 3) := by decide +kernel
theorem dnext_231 : decode cX12_next 231 = .ok (.goto (-75), 3) := by decide +kernel
theorem dnext_234 : decode cX12_next 234 = .ok (.aload_n 0, 1) := by decide +kernel
theorem dnext_235 : decode cX12_next 235 = .ok (.aload_n 0, 1) := by decide +kernel
theorem dnext_236 : decode cX12_next 236 = .ok (.getfield 1147, 3) := by decide +kernel
theorem dnext_239 : decode cX12_next 239 = .ok (.invokevirtual 1150, 3) := by decide +kernel
theorem dnext_242 : decode cX12_next 242 = .ok (.goto 94, 3) := by decide +kernel
theorem dnext_245 : decode cX12_next 245 = .ok (.aload_n 0, 1) := by decide +kernel
theorem dnext_246 : decode cX12_next 246 = .ok (.getfield 1147, 3) := by decide +kernel
theorem dnext_249 : decode cX12_next 249 = .ok (.ifCond .eq 11, 3) := by decide +kernel
theorem dnext_252 : decode cX12_next 252 = .ok (.aload_n 0, 1) := by decide +kernel
theorem dnext_253 : decode cX12_next 253 = .ok (.iconst 1, 1) := by decide +kernel
theorem dnext_254 : decode cX12_next 254 = .ok (.invokevirtual 1150, 3) := by decide +kernel
theorem dnext_257 : decode cX12_next 257 = .ok (.goto 79, 3) := by decide +kernel
theorem dnext_260 : decode cX12_next 260 = .ok (.aload_n 0, 1) := by decide +kernel
theorem dnext_261 : decode cX12_next 261 = .ok (.getfield 414, 3) := by decide +kernel
theorem dnext_264 : decode cX12_next 264 = .ok (.iload_n 1, 1) := by decide +kernel
theorem dnext_265 : decode cX12_next 265 = .ok (.dup2, 1) := by decide +kernel
theorem dnext_266 : decode cX12_next 266 = .ok (.iaload, 1) := by decide +kernel
theorem dnext_267 : decode cX12_next 267 = .ok (.iconst 1, 1) := by decide +kernel
theorem dnext_268 : decode cX12_next 268 = .ok (.isub, 1) := by decide +kernel
theorem dnext_269 : decode cX12_next 269 = .ok (.iastore, 1) := by decide +kernel
theorem dnext_270 : decode cX12_next 270 = .ok (.aload_n 0, 1) := by decide +kernel
theorem dnext_271 : decode cX12_next 271 = .ok (.getfield 414, 3) := by decide +kernel
theorem dnext_274 : decode cX12_next 274 = .ok (.iload_n 1, 1) := by decide +kernel
theorem dnext_275 : decode cX12_next 275 = .ok (.aload_n 0, 1) := by decide +kernel
theorem dnext_276 : decode cX12_next 276 = .ok (.getfield 414, 3) := by decide +kernel
theorem dnext_279 : decode cX12_next 279 = .ok (.iload_n 1, 1) := by decide +kernel
theorem dnext_280 : decode cX12_next 280 = .ok (.iaload, 1) := by decide +kernel
theorem dnext_281 : decode cX12_next 281 = .ok (.iload_n 3, 1) := by decide +kernel
theorem dnext_282 : decode cX12_next 282 = .ok (.if_icmp .ne 14, 3) := by decide +kernel
theorem dnext_285 : decode cX12_next 285 = .ok (.aload_n 0, 1) := by decide +kernel
theorem dnext_286 : decode cX12_next 286 = .ok (.getfield 414, 3) := by decide +kernel
theorem dnext_289 : decode cX12_next 289 = .ok (.iload_n 1, 1) := by decide +kernel
theorem dnext_290 : decode cX12_next 290 = .ok (.iaload, 1) := by decide +kernel
theorem dnext_291 : decode cX12_next 291 = .ok (.iconst 1, 1) := by decide +kernel
theorem dnext_292 : decode cX12_next 292 = .ok (.isub, 1) := by decide +kernel
theorem dnext_293 : decode cX12_next 293 = .ok (.goto 9, 3) := by decide +kernel
theorem dnext_296 : decode cX12_next 296 = .ok (.aload_n 0, 1) := by decide +kernel
theorem dnext_297 : decode cX12_next 297 = .ok (.getfield 414, 3) := by decide +kernel
theorem dnext_300 : decode cX12_next 300 = .ok (.iload_n 1, 1) := by decide +kernel
theorem dnext_301 : decode cX12_next 301 = .ok (.iaload, 1) := by decide +kernel
theorem dnext_302 : decode cX12_next 302 = .ok (.iastore, 1) := by decide +kernel
theorem dnext_303 : decode cX12_next 303 = .ok (.aload_n 0, 1) := by decide +kernel
theorem dnext_304 : decode cX12_next 304 = .ok (.getfield 414, 3) := by decide +kernel
theorem dnext_307 : decode cX12_next 307 = .ok (.iload_n 1, 1) := by decide +kernel
theorem dnext_308 : decode cX12_next 308 = .ok (.iaload, 1) := by decide +kernel
theorem dnext_309 : decode cX12_next 309 = .ok (.ifCond .ge 11, 3) := by decide +kernel
theorem dnext_312 : decode cX12_next 312 = .ok (.aload_n 0, 1) := by decide +kernel
theorem dnext_313 : decode cX12_next 313 = .ok (.iconst 0, 1) := by decide +kernel
theorem dnext_314 : decode cX12_next 314 = .ok (.invokevirtual 1150, 3) := by decide +kernel
theorem dnext_317 : decode cX12_next 317 = .ok (.goto 19, 3) := by decide +kernel
theorem dnext_320 : decode cX12_next 320 = .ok (.aload_n 0, 1) := by decide +kernel
theorem dnext_321 : decode cX12_next 321 = .ok (.aload_n 0, 1) := by decide +kernel
theorem dnext_322 : decode cX12_next 322 = .ok (.getfield 185, 3) := by decide +kernel
theorem dnext_325 : decode cX12_next 325 = .ok (.iload_n 2, 1) := by decide +kernel
theorem dnext_326 : decode cX12_next 326 = .ok (.iaload, 1) := by decide +kernel
theorem dnext_327 : decode cX12_next 327 = .ok (.aload_n 0, 1) := by decide +kernel
theorem dnext_328 : decode cX12_next 328 = .ok (.getfield 414, 3) := by decide +kernel
theorem dnext_331 : decode cX12_next 331 = .ok (.iload_n 1, 1) := by decide +kernel
theorem dnext_332 : decode cX12_next 332 = .ok (.iaload, 1) := by decide +kernel
theorem dnext_333 : decode cX12_next 333 = .ok (.invokevirtual 1138, 3) := by decide +kernel
theorem dnext_336 : decode cX12_next 336 = .ok (.return_, 1) := by decide +kernel
section
variable {l : Launch} {D : va_G} {cA : Nat → ClassId} {ad : Nat → Nat}
theorem s_next {a1 : Int} {ht st rg : Nat → Int} {h : ja_H} {Q : Option ja_V → ja_H → Prop} (g : mo_G mo_zr h) (r1 : -2147483648 ≤ a1 ∧ a1 ≤ 2147483647) (p1 : a1 = (h 0 202) - 1) (p2 : 1 ≤ (h 0 202)) (p3 : ¬ (h 133 (a1).toNat) = 0) (p4 : VI h) (p5 : CI h ht st rg) (p6 : evI h) (p7 : RW h) (k1 : ∀ (h' : ja_H), ((evI h' ∧ evV h' < evV h) ∧ mo_ag FEVK h h' ∧ VI h') → mo_G mo_zr h' → Q none h') : mM_next l D cA ad a1 h Q := by
  show mJ l D cA ad 2 cX12_next 6 none 0 [(0, (2, ((0 : Nat) : Int))), (1, (0, a1))] [] h Q
  have kn_ev := gF_ev g
  have kn_reached := gF_reached g
  have kn_nodes := gF_nodes g
  have CUT : ∀ n : Nat, (∀ (x5 : Int) (u : ja_H), mo_G mo_zr u → (-2147483648 ≤ x5 ∧ x5 ≤ 2147483647) → ((0 ≤ x5 ∧ x5 ≤ 7 ∧ (h 58 (h 132 (a1).toNat).toNat) = 12) ∧ mo_ag FBI h u ∧ VI u) → (((10 : Int) - x5).toNat) = n → mJ l D cA ad 2 cX12_next 6 none 156 [(0, (2, ((0 : Nat) : Int))), (2, (0, (h 132 (a1).toNat))), (5, (0, x5))] [] u Q) := by
    intro n
    induction n using Nat.strongRecOn with
    | _ n ih =>
      skip
      · intro x5 u gu qx5 iv hm
        subst hm
        have ku_ev := gF_ev gu
        have ku_reached := gF_reached gu
        have ku_nodes := gF_nodes gu
        have kn2_nodes := gF_nodes g
        have hq := p6 (a1).toNat (by omega)
        obtain ⟨v1, v2, v3, v4, v5⟩ := hq
        clear v3
        have h9 := ev_900 p6 (by omega)
        have gvn := gC_evNode g (a1).toNat
        have gvr := gC_evRow g (a1).toNat
        have gva := gC_evAt g (a1).toNat
        have gkd := gC_nodeKind g (h 132 (a1).toNat).toNat
        obtain ⟨hrw, hrs⟩ := p7 (h 134 (a1).toNat).toNat (by omega)
        obtain ⟨kd1, kd2, kd3⟩ := ci_kid g p5 (n := (h 132 (a1).toNat).toNat) (by omega)
        have hne : ¬ (a1).toNat = (h 0 202).toNat := by omega
        have grc := gF_reached g
        obtain ⟨iv, ag, qv⟩ := iv
        have c_ev : (u 0 202) = (h 0 202) := ag 0 202 rfl
        have c_na : (u 63) = (h 63) := funext fun j => ag 63 j rfl
        have c_nm := congrFun (show (u 62) = (h 62) from funext fun j => ag 62 j rfl) (h 132 (a1).toNat).toNat
        have gnm := gC_nodeMany g (h 132 (a1).toNat).toNat
        refine ja_iload dnext_156 rfl ?_
        refine ja_aload_n dnext_158 rfl rfl ?_
        refine fa_nodeMany dnext_159 ?_
        refine ja_iload_n dnext_162 rfl rfl ?_
        refine il_nodeMany (v := u 62 (h 132 (a1).toNat).toNat) rfl ⟨by omega, by omega⟩ dnext_163 ?_
        have f1 := gC_nodeMany gu (h 132 (a1).toNat).toNat
        refine ja_icmp_ge 234 dnext_164 rfl ⟨by omega, by omega⟩ ⟨by omega, by omega⟩ (fun c164 => ?_) (fun c164 => ?_)
        · refine ja_aload_n dnext_234 rfl rfl ?_
          refine ja_aload_n dnext_235 rfl rfl ?_
          refine fg_isSo (v := u 0 203) rfl dnext_236 ?_
          have f2 := gF_isSo gu
          refine t_answer (by decide) (show (0 : Nat) ≤ 8 by decide) dnext_239 gu ⟨by omega, by omega⟩ (show 1 ≤ (u 0 202) by omega) ?_
          intro g3
          replace g3 : mo_G mo_zr (ja_up (ja_up u 0 203 (u 0 203)) 0 202 ((u 0 202) - 1)) := g3
          show mJ l D cA ad 2 cX12_next 6 none 242 [(0, (2, ((0 : Nat) : Int))), (2, (0, (h 132 (a1).toNat))), (5, (0, x5))] [] (ja_up (ja_up u 0 203 (u 0 203)) 0 202 ((u 0 202) - 1)) Q
          refine ja_goto 336 dnext_242 rfl ?_
          refine ja_return dnext_336 rfl ?_
          exact k1 (ja_up (ja_up u 0 203 (u 0 203)) 0 202 ((u 0 202) - 1)) (⟨ev_pop (e := a1) g3 p6 (by omega) (by omega) (by omega) (ag_trans (by (repeat (first | exact ag_refl | refine ag_up rfl ?_))) (ag_trans (ag_sub (X_X (by decide) (by decide)) ag) (by (repeat (first | exact ag_refl | refine ag_up rfl ?_))))) (show (((u 0 202) - 1) : Int) = (h 0 202) - 1 by omega) (fun j hj => ⟨(show ((ja_up (ja_up u 0 203 (u 0 203)) 0 202 ((u 0 202) - 1)) 132) j = (u 132) j from (by simp [ja_up, hj])).trans (ag 132 j rfl), (show ((ja_up (ja_up u 0 203 (u 0 203)) 0 202 ((u 0 202) - 1)) 134) j = (u 134) j from (by simp [ja_up, hj])).trans (ag 134 j rfl), (show ((ja_up (ja_up u 0 203 (u 0 203)) 0 202 ((u 0 202) - 1)) 133) j = (u 133) j from (by simp [ja_up, hj])).trans (ag 133 j rfl), (show ((ja_up (ja_up u 0 203 (u 0 203)) 0 202 ((u 0 202) - 1)) 135) j = (u 135) j from (by simp [ja_up, hj])).trans (ag 135 j rfl)⟩) g, (ag_trans (by (repeat (first | exact ag_refl | refine ag_up rfl ?_))) (ag_trans (ag_sub (X_X (by decide) (by decide)) ag) (by (repeat (first | exact ag_refl | refine ag_up rfl ?_))))), (by (repeat (first | exact qv | refine vi_set (by decide) (by decide) (by decide) ?_ (by first | exact (fun z => absurd z (by decide)) | exact vi_aS qv (by decide) _ | exact (fun z => ⟨by omega, hca⟩) | exact (fun z => ⟨by omega, hca z⟩) | (intro z; exfalso; omega)) | refine vi_res ?_ (by first | exact (fun z => absurd z (by decide)) | exact vi_aS qv (by decide) _ | exact (fun z => ⟨by omega, hca⟩) | exact (fun z => ⟨by omega, hca z⟩) | (intro z; exfalso; omega)) | refine vi_arr (by decide) (by decide) ?_ | refine vi_up (by decide) (by decide) ?_)))⟩) g3
        · refine ja_aload_n dnext_167 rfl rfl ?_
          refine fg_isSo (v := u 0 203) rfl dnext_168 ?_
          have f4 := gF_isSo gu
          refine ja_if_eq 234 dnext_171 rfl ⟨by omega, by omega⟩ (fun c171 => ?_) (fun c171 => ?_)
          · refine ja_aload_n dnext_234 rfl rfl ?_
            refine ja_aload_n dnext_235 rfl rfl ?_
            refine fg_isSo (v := u 0 203) rfl dnext_236 ?_
            refine t_answer (by decide) (show (0 : Nat) ≤ 8 by decide) dnext_239 gu ⟨by omega, by omega⟩ (show 1 ≤ (u 0 202) by omega) ?_
            intro g5
            replace g5 : mo_G mo_zr (ja_up (ja_up u 0 203 (u 0 203)) 0 202 ((u 0 202) - 1)) := g5
            show mJ l D cA ad 2 cX12_next 6 none 242 [(0, (2, ((0 : Nat) : Int))), (2, (0, (h 132 (a1).toNat))), (5, (0, x5))] [] (ja_up (ja_up u 0 203 (u 0 203)) 0 202 ((u 0 202) - 1)) Q
            refine ja_goto 336 dnext_242 rfl ?_
            refine ja_return dnext_336 rfl ?_
            exact k1 (ja_up (ja_up u 0 203 (u 0 203)) 0 202 ((u 0 202) - 1)) (⟨ev_pop (e := a1) g5 p6 (by omega) (by omega) (by omega) (ag_trans (by (repeat (first | exact ag_refl | refine ag_up rfl ?_))) (ag_trans (ag_sub (X_X (by decide) (by decide)) ag) (by (repeat (first | exact ag_refl | refine ag_up rfl ?_))))) (show (((u 0 202) - 1) : Int) = (h 0 202) - 1 by omega) (fun j hj => ⟨(show ((ja_up (ja_up u 0 203 (u 0 203)) 0 202 ((u 0 202) - 1)) 132) j = (u 132) j from (by simp [ja_up, hj])).trans (ag 132 j rfl), (show ((ja_up (ja_up u 0 203 (u 0 203)) 0 202 ((u 0 202) - 1)) 134) j = (u 134) j from (by simp [ja_up, hj])).trans (ag 134 j rfl), (show ((ja_up (ja_up u 0 203 (u 0 203)) 0 202 ((u 0 202) - 1)) 133) j = (u 133) j from (by simp [ja_up, hj])).trans (ag 133 j rfl), (show ((ja_up (ja_up u 0 203 (u 0 203)) 0 202 ((u 0 202) - 1)) 135) j = (u 135) j from (by simp [ja_up, hj])).trans (ag 135 j rfl)⟩) g, (ag_trans (by (repeat (first | exact ag_refl | refine ag_up rfl ?_))) (ag_trans (ag_sub (X_X (by decide) (by decide)) ag) (by (repeat (first | exact ag_refl | refine ag_up rfl ?_))))), (by (repeat (first | exact qv | refine vi_set (by decide) (by decide) (by decide) ?_ (by first | exact (fun z => absurd z (by decide)) | exact vi_aS qv (by decide) _ | exact (fun z => ⟨by omega, hca⟩) | exact (fun z => ⟨by omega, hca z⟩) | (intro z; exfalso; omega)) | refine vi_res ?_ (by first | exact (fun z => absurd z (by decide)) | exact vi_aS qv (by decide) _ | exact (fun z => ⟨by omega, hca⟩) | exact (fun z => ⟨by omega, hca z⟩) | (intro z; exfalso; omega)) | refine vi_arr (by decide) (by decide) ?_ | refine vi_up (by decide) (by decide) ?_)))⟩) g5
          · have h12 := (p5.2.2.1 (h 132 (a1).toNat).toNat (by omega)).2.2.2.1 (by omega)
            have h12b := h12.2.2 (x5).toNat (by omega)
            have ei : 7 * (h 132 (a1).toNat).toNat + (x5).toNat = (7 * (h 132 (a1).toNat) + x5).toNat := by omega
            rw [ei, ← c_na] at h12b
            refine ja_aload_n dnext_174 rfl rfl ?_
            refine fa_bindKind dnext_175 ?_
            refine ja_aload_n dnext_178 rfl rfl ?_
            refine fa_nodeArg dnext_179 ?_
            refine ja_bipush 7 dnext_182 rfl ?_
            refine ja_iload_n dnext_184 rfl rfl ?_
            refine ja_imul dnext_185 ?_
            refine ja_iload dnext_186 rfl ?_
            refine ja_iadd dnext_188 ?_
            refine il_nodeArg (v := u 63 ((7 * (h 132 (a1).toNat)) + x5).toNat) rfl ⟨by omega, by omega⟩ dnext_189 ?_
            have f6 := gC_nodeArg gu ((7 * (h 132 (a1).toNat)) + x5).toNat
            refine ja_aload_n dnext_190 rfl rfl ?_
            refine fa_bindKind dnext_191 ?_
            refine ja_bipush 7 dnext_194 rfl ?_
            refine ja_iload dnext_196 rfl ?_
            refine ja_iadd dnext_198 ?_
            refine il_bindKind (v := u 130 (7 + x5).toNat) rfl ⟨by omega, by omega⟩ dnext_199 ?_
            have f7 := gC_bindKind gu (7 + x5).toNat
            have g8 := gW_bindKind gu (u 63 ((7 * (h 132 (a1).toNat)) + x5).toNat).toNat (x := u 130 (7 + x5).toNat) ⟨by omega, by omega⟩
            refine is_bindKind ⟨by omega, by omega⟩ dnext_200 ?_
            refine ja_aload_n dnext_201 rfl rfl ?_
            refine fa_bindValue dnext_202 ?_
            refine ja_aload_n dnext_205 rfl rfl ?_
            refine fa_nodeArg dnext_206 ?_
            refine ja_bipush 7 dnext_209 rfl ?_
            refine ja_iload_n dnext_211 rfl rfl ?_
            refine ja_imul dnext_212 ?_
            refine ja_iload dnext_213 rfl ?_
            refine ja_iadd dnext_215 ?_
            refine il_nodeArg (v := u 63 ((7 * (h 132 (a1).toNat)) + x5).toNat) rfl ⟨by omega, by omega⟩ dnext_216 ?_
            refine ja_aload_n dnext_217 rfl rfl ?_
            refine fa_bindValue dnext_218 ?_
            refine ja_bipush 7 dnext_221 rfl ?_
            refine ja_iload dnext_223 rfl ?_
            refine ja_iadd dnext_225 ?_
            refine il_bindValue (v := u 131 (7 + x5).toNat) rfl ⟨by omega, by omega⟩ dnext_226 ?_
            have f9 := gC_bindValue gu (7 + x5).toNat
            have g10 := gW_bindValue g8 (u 63 ((7 * (h 132 (a1).toNat)) + x5).toNat).toNat (x := u 131 (7 + x5).toNat) ⟨by omega, by omega⟩
            refine is_bindValue ⟨by omega, by omega⟩ dnext_227 ?_
            refine ja_iinc dnext_228 rfl (by decide) (L2 := [(5, (0, (x5 + 1))), (0, (2, ((0 : Nat) : Int))), (2, (0, (h 132 (a1).toNat)))]) rfl ?_
            refine ja_goto 156 dnext_231 rfl ?_
            exact ja_wk (fun q hq => by simp only [List.mem_cons, List.not_mem_nil, or_false] at hq; rcases hq with rfl | rfl | rfl <;> rfl) ((ih (((10 : Int) - (x5 + 1)).toNat) (by omega)) (x5 + 1) (ja_up (ja_up u 130 ((u 63 ((7 * (h 132 (a1).toNat)) + x5).toNat).toNat) (u 130 (7 + x5).toNat)) 131 ((u 63 ((7 * (h 132 (a1).toNat)) + x5).toNat).toNat) (u 131 (7 + x5).toNat)) g10 ⟨by omega, by omega⟩ (⟨by omega, (ag_trans ag (by (repeat (first | exact ag_refl | refine ag_up rfl ?_)))), (by (repeat (first | exact qv | refine vi_set (by decide) (by decide) (by decide) ?_ (by first | exact (fun z => absurd z (by decide)) | exact vi_aS qv (by decide) _ | exact (fun z => ⟨by omega, hca⟩) | exact (fun z => ⟨by omega, hca z⟩) | (intro z; exfalso; omega)) | refine vi_res ?_ (by first | exact (fun z => absurd z (by decide)) | exact vi_aS qv (by decide) _ | exact (fun z => ⟨by omega, hca⟩) | exact (fun z => ⟨by omega, hca z⟩) | (intro z; exfalso; omega)) | refine vi_arr (by decide) (by decide) ?_ | refine vi_up (by decide) (by decide) ?_)))⟩) rfl)
  have hq := p6 (a1).toNat (by omega)
  obtain ⟨v1, v2, v3, v4, v5⟩ := hq
  clear v3
  have h9 := ev_900 p6 (by omega)
  have gvn := gC_evNode g (a1).toNat
  have gvr := gC_evRow g (a1).toNat
  have gva := gC_evAt g (a1).toNat
  have gkd := gC_nodeKind g (h 132 (a1).toNat).toNat
  obtain ⟨hrw, hrs⟩ := p7 (h 134 (a1).toNat).toNat (by omega)
  obtain ⟨kd1, kd2, kd3⟩ := ci_kid g p5 (n := (h 132 (a1).toNat).toNat) (by omega)
  have hne : ¬ (a1).toNat = (h 0 202).toNat := by omega
  have grc := gF_reached g
  refine ja_aload_n dnext_0 rfl rfl ?_
  refine fa_evNode dnext_1 ?_
  refine ja_iload_n dnext_4 rfl rfl ?_
  refine il_evNode (v := h 132 (a1).toNat) rfl ⟨by omega, by omega⟩ dnext_5 ?_
  have f11 := gC_evNode g (a1).toNat
  refine ja_istore_n dnext_6 rfl (by decide) (L2 := [(2, (0, (h 132 (a1).toNat))), (0, (2, ((0 : Nat) : Int))), (1, (0, a1))]) rfl ?_
  refine ja_aload_n dnext_7 rfl rfl ?_
  refine fa_evRow dnext_8 ?_
  refine ja_iload_n dnext_11 rfl rfl ?_
  refine il_evRow (v := h 134 (a1).toNat) rfl ⟨by omega, by omega⟩ dnext_12 ?_
  have f12 := gC_evRow g (a1).toNat
  refine ja_istore_n dnext_13 rfl (by decide) (L2 := [(3, (0, (h 134 (a1).toNat))), (2, (0, (h 132 (a1).toNat))), (0, (2, ((0 : Nat) : Int))), (1, (0, a1))]) rfl ?_
  refine ja_aload_n dnext_14 rfl rfl ?_
  refine fa_nodeKind dnext_15 ?_
  refine ja_iload_n dnext_18 rfl rfl ?_
  refine il_nodeKind (v := h 58 (h 132 (a1).toNat).toNat) rfl ⟨by omega, by omega⟩ dnext_19 ?_
  have f13 := gC_nodeKind g (h 132 (a1).toNat).toNat
  refine ja_istore dnext_20 (by decide) (L2 := [(4, (0, (h 58 (h 132 (a1).toNat).toNat))), (3, (0, (h 134 (a1).toNat))), (2, (0, (h 132 (a1).toNat))), (0, (2, ((0 : Nat) : Int))), (1, (0, a1))]) rfl ?_
  refine ja_aload_n dnext_22 rfl rfl ?_
  refine fa_evState dnext_23 ?_
  refine ja_iload_n dnext_26 rfl rfl ?_
  refine il_evState (v := h 133 (a1).toNat) rfl ⟨by omega, by omega⟩ dnext_27 ?_
  have f14 := gC_evState g (a1).toNat
  refine ja_iconst dnext_28 ?_
  refine ja_icmp_le 43 dnext_29 rfl ⟨by omega, by omega⟩ ⟨by decide, by decide⟩ (fun c29 => ?_) (fun c29 => ?_)
  · have p31 : (h 133 (a1).toNat) = 1 := by omega
    refine ja_iload dnext_43 rfl ?_
    refine ja_bipush 13 dnext_45 rfl ?_
    refine ja_icmp_eq 57 dnext_47 rfl ⟨by omega, by omega⟩ ⟨by decide, by decide⟩ (fun c47 => ?_) (fun c47 => ?_)
    · have kA := (kd1 (by omega)).1
      have kB := (kd1 (by omega)).2
      have kA1 := kA.1
      have kA2 := kA.2.1
      have kB1 := kB.1
      have kB2 := kB.2.1
      refine ja_aload_n dnext_57 rfl rfl ?_
      refine fg_isSo (v := h 0 203) rfl dnext_58 ?_
      have f15 := gF_isSo g
      refine ja_iload dnext_61 rfl ?_
      refine ja_bipush 14 dnext_63 rfl ?_
      refine ja_icmp_ne 72 dnext_65 rfl ⟨by omega, by omega⟩ ⟨by decide, by decide⟩ (fun c65 => ?_) (fun c65 => ?_)
      · refine ja_iconst dnext_72 ?_
        refine ja_icmp_ne 87 dnext_73 rfl ⟨by omega, by omega⟩ ⟨by decide, by decide⟩ (fun c73 => ?_) (fun c73 => ?_)
        · refine ja_iload dnext_87 rfl ?_
          refine ja_bipush 14 dnext_89 rfl ?_
          refine ja_icmp_ne 99 dnext_91 rfl ⟨by omega, by omega⟩ ⟨by decide, by decide⟩ (fun c91 => ?_) (fun c91 => ?_)
          · refine ja_aload_n dnext_99 rfl rfl ?_
            refine fa_evState dnext_100 ?_
            refine ja_iload_n dnext_103 rfl rfl ?_
            refine ja_iconst dnext_104 ?_
            have g16 := gW_evState g (a1).toNat (x := 2) ⟨by decide, by decide⟩
            refine is_evState ⟨by omega, by omega⟩ dnext_105 ?_
            refine ja_aload_n dnext_106 rfl rfl ?_
            refine ja_aload_n dnext_107 rfl rfl ?_
            refine fa_nodeB dnext_108 ?_
            refine ja_iload_n dnext_111 rfl rfl ?_
            refine il_nodeB (v := h 60 (h 132 (a1).toNat).toNat) rfl ⟨by omega, by omega⟩ dnext_112 ?_
            have f17 := gC_nodeB g (h 132 (a1).toNat).toNat
            refine ja_iload_n dnext_113 rfl rfl ?_
            refine t_ask (by decide) (show (0 : Nat) ≤ 8 by decide) dnext_114 g16 ⟨by omega, by omega⟩ ⟨by omega, by omega⟩ (show 0 ≤ (h 60 (h 132 (a1).toNat).toNat) ∧ (h 60 (h 132 (a1).toNat).toNat) ≤ 899 by omega) (show 0 ≤ (h 134 (a1).toNat) ∧ (h 134 (a1).toNat) ≤ 119 by omega) (show (h 0 202) ≤ 999 by omega) ?_
            intro g18
            replace g18 : mo_G mo_zr (ja_up (ja_up (ja_up (ja_up (ja_up (ja_up h 133 ((a1).toNat) 2) 132 ((h 0 202).toNat) (h 60 (h 132 (a1).toNat).toNat)) 134 ((h 0 202).toNat) (h 134 (a1).toNat)) 133 ((h 0 202).toNat) 0) 135 ((h 0 202).toNat) 0) 0 202 ((h 0 202) + 1)) := g18
            show mJ l D cA ad 2 cX12_next 6 none 117 [(4, (0, (h 58 (h 132 (a1).toNat).toNat))), (3, (0, (h 134 (a1).toNat))), (2, (0, (h 132 (a1).toNat))), (0, (2, ((0 : Nat) : Int))), (1, (0, a1))] [] (ja_up (ja_up (ja_up (ja_up (ja_up (ja_up h 133 ((a1).toNat) 2) 132 ((h 0 202).toNat) (h 60 (h 132 (a1).toNat).toNat)) 134 ((h 0 202).toNat) (h 134 (a1).toNat)) 133 ((h 0 202).toNat) 0) 135 ((h 0 202).toNat) 0) 0 202 ((h 0 202) + 1)) Q
            refine ja_goto 336 dnext_117 rfl ?_
            refine ja_return dnext_336 rfl ?_
            exact k1 (ja_up (ja_up (ja_up (ja_up (ja_up (ja_up h 133 ((a1).toNat) 2) 132 ((h 0 202).toNat) (h 60 (h 132 (a1).toNat).toNat)) 134 ((h 0 202).toNat) (h 134 (a1).toNat)) 133 ((h 0 202).toNat) 0) 135 ((h 0 202).toNat) 0) 0 202 ((h 0 202) + 1)) (⟨ev_ask (e := a1) (c := (h 60 (h 132 (a1).toNat).toNat)) (r := (h 134 (a1).toNat)) g g18 p6 (by omega) (by omega) (by (repeat (first | exact ag_refl | refine ag_up rfl ?_))) (show (((h 0 202) + 1) : Int) = (h 0 202) + 1 by omega) (fun j h1 h2 => by refine ⟨?_, ?_, ?_, ?_⟩ <;> simp [ja_up, h1, h2]) (by simp [ja_up, hne]) (by simp [ja_up, hne]) (by omega) (by simp [ja_up, hne] <;> omega) (by simp [ja_up]) (by simp [ja_up]) (by simp [ja_up]) (by simp [ja_up]) (kd1 (by omega)).2 ⟨by omega, by omega⟩ (by unfold evD; simp [ja_up, hne, p31] <;> omega), (by (repeat (first | exact ag_refl | refine ag_up rfl ?_))), (by (repeat (first | exact p4 | refine vi_set (by decide) (by decide) (by decide) ?_ (by first | exact (fun z => absurd z (by decide)) | exact vi_aS p4 (by decide) _ | exact (fun z => ⟨by omega, hca⟩) | exact (fun z => ⟨by omega, hca z⟩) | (intro z; exfalso; omega)) | refine vi_res ?_ (by first | exact (fun z => absurd z (by decide)) | exact vi_aS p4 (by decide) _ | exact (fun z => ⟨by omega, hca⟩) | exact (fun z => ⟨by omega, hca z⟩) | (intro z; exfalso; omega)) | refine vi_arr (by decide) (by decide) ?_ | refine vi_up (by decide) (by decide) ?_)))⟩) g18
          · refine ja_aload_n dnext_94 rfl rfl ?_
            refine ja_iload_n dnext_95 rfl rfl ?_
            refine t_undo (by decide) (show (0 : Nat) ≤ 8 by decide) dnext_96 g ⟨by omega, by omega⟩ (show 0 ≤ (h 132 (a1).toNat) ∧ (h 132 (a1).toNat) ≤ 899 by omega) (show 0 ≤ (h 59 (h 132 (a1).toNat).toNat) ∧ (h 59 (h 132 (a1).toNat).toNat) ≤ 899 by omega) (p4) ?_
            intro h19 k96_0 g20
            have c_ev : (h19 0 202) = (h 0 202) := k96_0.1 0 202 rfl
            have c_nodeB : (h19 60) = (h 60) := funext fun j => k96_0.1 60 j rfl
            have c_nb := congrFun c_nodeB (h 132 (a1).toNat).toNat
            refine ja_aload_n dnext_99 rfl rfl ?_
            refine fa_evState dnext_100 ?_
            refine ja_iload_n dnext_103 rfl rfl ?_
            refine ja_iconst dnext_104 ?_
            have g21 := gW_evState g20 (a1).toNat (x := 2) ⟨by decide, by decide⟩
            refine is_evState ⟨by omega, by omega⟩ dnext_105 ?_
            refine ja_aload_n dnext_106 rfl rfl ?_
            refine ja_aload_n dnext_107 rfl rfl ?_
            refine fa_nodeB dnext_108 ?_
            refine ja_iload_n dnext_111 rfl rfl ?_
            refine il_nodeB (v := h19 60 (h 132 (a1).toNat).toNat) rfl ⟨by omega, by omega⟩ dnext_112 ?_
            have f22 := gC_nodeB g20 (h 132 (a1).toNat).toNat
            refine ja_iload_n dnext_113 rfl rfl ?_
            refine t_ask (by decide) (show (0 : Nat) ≤ 8 by decide) dnext_114 g21 ⟨by omega, by omega⟩ ⟨by omega, by omega⟩ (show 0 ≤ (h19 60 (h 132 (a1).toNat).toNat) ∧ (h19 60 (h 132 (a1).toNat).toNat) ≤ 899 by omega) (show 0 ≤ (h 134 (a1).toNat) ∧ (h 134 (a1).toNat) ≤ 119 by omega) (show (h19 0 202) ≤ 999 by omega) ?_
            intro g23
            replace g23 : mo_G mo_zr (ja_up (ja_up (ja_up (ja_up (ja_up (ja_up h19 133 ((a1).toNat) 2) 132 ((h19 0 202).toNat) (h19 60 (h 132 (a1).toNat).toNat)) 134 ((h19 0 202).toNat) (h 134 (a1).toNat)) 133 ((h19 0 202).toNat) 0) 135 ((h19 0 202).toNat) 0) 0 202 ((h19 0 202) + 1)) := g23
            show mJ l D cA ad 2 cX12_next 6 none 117 [(4, (0, (h 58 (h 132 (a1).toNat).toNat))), (3, (0, (h 134 (a1).toNat))), (2, (0, (h 132 (a1).toNat))), (0, (2, ((0 : Nat) : Int))), (1, (0, a1))] [] (ja_up (ja_up (ja_up (ja_up (ja_up (ja_up h19 133 ((a1).toNat) 2) 132 ((h19 0 202).toNat) (h19 60 (h 132 (a1).toNat).toNat)) 134 ((h19 0 202).toNat) (h 134 (a1).toNat)) 133 ((h19 0 202).toNat) 0) 135 ((h19 0 202).toNat) 0) 0 202 ((h19 0 202) + 1)) Q
            refine ja_goto 336 dnext_117 rfl ?_
            refine ja_return dnext_336 rfl ?_
            exact k1 (ja_up (ja_up (ja_up (ja_up (ja_up (ja_up h19 133 ((a1).toNat) 2) 132 ((h19 0 202).toNat) (h19 60 (h 132 (a1).toNat).toNat)) 134 ((h19 0 202).toNat) (h 134 (a1).toNat)) 133 ((h19 0 202).toNat) 0) 135 ((h19 0 202).toNat) 0) 0 202 ((h19 0 202) + 1)) (⟨ev_ask (e := a1) (c := (h 60 (h 132 (a1).toNat).toNat)) (r := (h 134 (a1).toNat)) g g23 p6 (by omega) (by omega) (ag_trans (by (repeat (first | exact ag_refl | refine ag_up rfl ?_))) (ag_trans (ag_sub (X_X (by decide) (by decide)) k96_0.1) (by (repeat (first | exact ag_refl | refine ag_up rfl ?_))))) (show (((h19 0 202) + 1) : Int) = (h 0 202) + 1 by omega) (fun j h1 h2 => ⟨(show ((ja_up (ja_up (ja_up (ja_up (ja_up (ja_up h19 133 ((a1).toNat) 2) 132 ((h19 0 202).toNat) (h19 60 (h 132 (a1).toNat).toNat)) 134 ((h19 0 202).toNat) (h 134 (a1).toNat)) 133 ((h19 0 202).toNat) 0) 135 ((h19 0 202).toNat) 0) 0 202 ((h19 0 202) + 1)) 132) j = (h19 132) j from (by simp [ja_up, c_ev, h1, h2])).trans (k96_0.1 132 j rfl), (show ((ja_up (ja_up (ja_up (ja_up (ja_up (ja_up h19 133 ((a1).toNat) 2) 132 ((h19 0 202).toNat) (h19 60 (h 132 (a1).toNat).toNat)) 134 ((h19 0 202).toNat) (h 134 (a1).toNat)) 133 ((h19 0 202).toNat) 0) 135 ((h19 0 202).toNat) 0) 0 202 ((h19 0 202) + 1)) 134) j = (h19 134) j from (by simp [ja_up, c_ev, h1, h2])).trans (k96_0.1 134 j rfl), (show ((ja_up (ja_up (ja_up (ja_up (ja_up (ja_up h19 133 ((a1).toNat) 2) 132 ((h19 0 202).toNat) (h19 60 (h 132 (a1).toNat).toNat)) 134 ((h19 0 202).toNat) (h 134 (a1).toNat)) 133 ((h19 0 202).toNat) 0) 135 ((h19 0 202).toNat) 0) 0 202 ((h19 0 202) + 1)) 133) j = (h19 133) j from (by simp [ja_up, c_ev, h1, h2])).trans (k96_0.1 133 j rfl), (show ((ja_up (ja_up (ja_up (ja_up (ja_up (ja_up h19 133 ((a1).toNat) 2) 132 ((h19 0 202).toNat) (h19 60 (h 132 (a1).toNat).toNat)) 134 ((h19 0 202).toNat) (h 134 (a1).toNat)) 133 ((h19 0 202).toNat) 0) 135 ((h19 0 202).toNat) 0) 0 202 ((h19 0 202) + 1)) 135) j = (h19 135) j from (by simp [ja_up, c_ev, h1, h2])).trans (k96_0.1 135 j rfl)⟩) ((show ((ja_up (ja_up (ja_up (ja_up (ja_up (ja_up h19 133 ((a1).toNat) 2) 132 ((h19 0 202).toNat) (h19 60 (h 132 (a1).toNat).toNat)) 134 ((h19 0 202).toNat) (h 134 (a1).toNat)) 133 ((h19 0 202).toNat) 0) 135 ((h19 0 202).toNat) 0) 0 202 ((h19 0 202) + 1)) 132) (a1).toNat = (h19 132) (a1).toNat from (by simp [ja_up, hne, c_ev])).trans (k96_0.1 132 (a1).toNat rfl)) ((show ((ja_up (ja_up (ja_up (ja_up (ja_up (ja_up h19 133 ((a1).toNat) 2) 132 ((h19 0 202).toNat) (h19 60 (h 132 (a1).toNat).toNat)) 134 ((h19 0 202).toNat) (h 134 (a1).toNat)) 133 ((h19 0 202).toNat) 0) 135 ((h19 0 202).toNat) 0) 0 202 ((h19 0 202) + 1)) 134) (a1).toNat = (h19 134) (a1).toNat from (by simp [ja_up, hne, c_ev])).trans (k96_0.1 134 (a1).toNat rfl)) (by omega) (by have zz : ((ja_up (ja_up (ja_up (ja_up (ja_up (ja_up h19 133 ((a1).toNat) 2) 132 ((h19 0 202).toNat) (h19 60 (h 132 (a1).toNat).toNat)) 134 ((h19 0 202).toNat) (h 134 (a1).toNat)) 133 ((h19 0 202).toNat) 0) 135 ((h19 0 202).toNat) 0) 0 202 ((h19 0 202) + 1)) 135) (a1).toNat = (h 135 (a1).toNat) := ((show ((ja_up (ja_up (ja_up (ja_up (ja_up (ja_up h19 133 ((a1).toNat) 2) 132 ((h19 0 202).toNat) (h19 60 (h 132 (a1).toNat).toNat)) 134 ((h19 0 202).toNat) (h 134 (a1).toNat)) 133 ((h19 0 202).toNat) 0) 135 ((h19 0 202).toNat) 0) 0 202 ((h19 0 202) + 1)) 135) (a1).toNat = (h19 135) (a1).toNat from (by simp [ja_up, hne, c_ev])).trans (k96_0.1 135 (a1).toNat rfl)); omega) (by simp [ja_up, c_ev, c_nodeB]) (by simp [ja_up, c_ev]) (by simp [ja_up, c_ev]) (by simp [ja_up, c_ev]) (kd1 (by omega)).2 ⟨by omega, by omega⟩ (by have yy : ((ja_up (ja_up (ja_up (ja_up (ja_up (ja_up h19 133 ((a1).toNat) 2) 132 ((h19 0 202).toNat) (h19 60 (h 132 (a1).toNat).toNat)) 134 ((h19 0 202).toNat) (h 134 (a1).toNat)) 133 ((h19 0 202).toNat) 0) 135 ((h19 0 202).toNat) 0) 0 202 ((h19 0 202) + 1)) 133) (a1).toNat = 2 := (by simp [ja_up, hne, c_ev]); unfold evD; rw [yy]; simp [p31] <;> omega), (ag_trans (by (repeat (first | exact ag_refl | refine ag_up rfl ?_))) (ag_trans (ag_sub (X_X (by decide) (by decide)) k96_0.1) (by (repeat (first | exact ag_refl | refine ag_up rfl ?_))))), (by (repeat (first | exact k96_0.2 | refine vi_set (by decide) (by decide) (by decide) ?_ (by first | exact (fun z => absurd z (by decide)) | exact vi_aS k96_0.2 (by decide) _ | exact (fun z => ⟨by omega, hca⟩) | exact (fun z => ⟨by omega, hca z⟩) | (intro z; exfalso; omega)) | refine vi_res ?_ (by first | exact (fun z => absurd z (by decide)) | exact vi_aS k96_0.2 (by decide) _ | exact (fun z => ⟨by omega, hca⟩) | exact (fun z => ⟨by omega, hca z⟩) | (intro z; exfalso; omega)) | refine vi_arr (by decide) (by decide) ?_ | refine vi_up (by decide) (by decide) ?_)))⟩) g23
        · refine ja_aload_n dnext_76 rfl rfl ?_
          refine ja_aload_n dnext_77 rfl rfl ?_
          refine fg_isSo (v := h 0 203) rfl dnext_78 ?_
          refine t_answer (by decide) (show (0 : Nat) ≤ 8 by decide) dnext_81 g ⟨by omega, by omega⟩ (show 1 ≤ (h 0 202) by omega) ?_
          intro g24
          replace g24 : mo_G mo_zr (ja_up (ja_up h 0 203 (h 0 203)) 0 202 ((h 0 202) - 1)) := g24
          show mJ l D cA ad 2 cX12_next 6 none 84 [(4, (0, (h 58 (h 132 (a1).toNat).toNat))), (3, (0, (h 134 (a1).toNat))), (2, (0, (h 132 (a1).toNat))), (0, (2, ((0 : Nat) : Int))), (1, (0, a1))] [] (ja_up (ja_up h 0 203 (h 0 203)) 0 202 ((h 0 202) - 1)) Q
          refine ja_goto 336 dnext_84 rfl ?_
          refine ja_return dnext_336 rfl ?_
          exact k1 (ja_up (ja_up h 0 203 (h 0 203)) 0 202 ((h 0 202) - 1)) (⟨ev_pop (e := a1) g24 p6 (by omega) (by omega) (by omega) (by (repeat (first | exact ag_refl | refine ag_up rfl ?_))) (show (((h 0 202) - 1) : Int) = (h 0 202) - 1 by omega) (fun j hj => by refine ⟨?_, ?_, ?_, ?_⟩ <;> simp [ja_up, hj]) g, (by (repeat (first | exact ag_refl | refine ag_up rfl ?_))), (by (repeat (first | exact p4 | refine vi_set (by decide) (by decide) (by decide) ?_ (by first | exact (fun z => absurd z (by decide)) | exact vi_aS p4 (by decide) _ | exact (fun z => ⟨by omega, hca⟩) | exact (fun z => ⟨by omega, hca z⟩) | (intro z; exfalso; omega)) | refine vi_res ?_ (by first | exact (fun z => absurd z (by decide)) | exact vi_aS p4 (by decide) _ | exact (fun z => ⟨by omega, hca⟩) | exact (fun z => ⟨by omega, hca z⟩) | (intro z; exfalso; omega)) | refine vi_arr (by decide) (by decide) ?_ | refine vi_up (by decide) (by decide) ?_)))⟩) g24
      · refine ja_iconst dnext_68 ?_
        refine ja_goto 73 dnext_69 rfl ?_
        refine ja_icmp_ne 87 dnext_73 rfl ⟨by omega, by omega⟩ ⟨by decide, by decide⟩ (fun c73 => ?_) (fun c73 => ?_)
        · refine ja_iload dnext_87 rfl ?_
          refine ja_bipush 14 dnext_89 rfl ?_
          refine ja_icmp_ne 99 dnext_91 rfl ⟨by omega, by omega⟩ ⟨by decide, by decide⟩ (fun c91 => ?_) (fun c91 => ?_)
          · refine ja_aload_n dnext_99 rfl rfl ?_
            refine fa_evState dnext_100 ?_
            refine ja_iload_n dnext_103 rfl rfl ?_
            refine ja_iconst dnext_104 ?_
            have g25 := gW_evState g (a1).toNat (x := 2) ⟨by decide, by decide⟩
            refine is_evState ⟨by omega, by omega⟩ dnext_105 ?_
            refine ja_aload_n dnext_106 rfl rfl ?_
            refine ja_aload_n dnext_107 rfl rfl ?_
            refine fa_nodeB dnext_108 ?_
            refine ja_iload_n dnext_111 rfl rfl ?_
            refine il_nodeB (v := h 60 (h 132 (a1).toNat).toNat) rfl ⟨by omega, by omega⟩ dnext_112 ?_
            have f26 := gC_nodeB g (h 132 (a1).toNat).toNat
            refine ja_iload_n dnext_113 rfl rfl ?_
            refine t_ask (by decide) (show (0 : Nat) ≤ 8 by decide) dnext_114 g25 ⟨by omega, by omega⟩ ⟨by omega, by omega⟩ (show 0 ≤ (h 60 (h 132 (a1).toNat).toNat) ∧ (h 60 (h 132 (a1).toNat).toNat) ≤ 899 by omega) (show 0 ≤ (h 134 (a1).toNat) ∧ (h 134 (a1).toNat) ≤ 119 by omega) (show (h 0 202) ≤ 999 by omega) ?_
            intro g27
            replace g27 : mo_G mo_zr (ja_up (ja_up (ja_up (ja_up (ja_up (ja_up h 133 ((a1).toNat) 2) 132 ((h 0 202).toNat) (h 60 (h 132 (a1).toNat).toNat)) 134 ((h 0 202).toNat) (h 134 (a1).toNat)) 133 ((h 0 202).toNat) 0) 135 ((h 0 202).toNat) 0) 0 202 ((h 0 202) + 1)) := g27
            show mJ l D cA ad 2 cX12_next 6 none 117 [(4, (0, (h 58 (h 132 (a1).toNat).toNat))), (3, (0, (h 134 (a1).toNat))), (2, (0, (h 132 (a1).toNat))), (0, (2, ((0 : Nat) : Int))), (1, (0, a1))] [] (ja_up (ja_up (ja_up (ja_up (ja_up (ja_up h 133 ((a1).toNat) 2) 132 ((h 0 202).toNat) (h 60 (h 132 (a1).toNat).toNat)) 134 ((h 0 202).toNat) (h 134 (a1).toNat)) 133 ((h 0 202).toNat) 0) 135 ((h 0 202).toNat) 0) 0 202 ((h 0 202) + 1)) Q
            refine ja_goto 336 dnext_117 rfl ?_
            refine ja_return dnext_336 rfl ?_
            exact k1 (ja_up (ja_up (ja_up (ja_up (ja_up (ja_up h 133 ((a1).toNat) 2) 132 ((h 0 202).toNat) (h 60 (h 132 (a1).toNat).toNat)) 134 ((h 0 202).toNat) (h 134 (a1).toNat)) 133 ((h 0 202).toNat) 0) 135 ((h 0 202).toNat) 0) 0 202 ((h 0 202) + 1)) (⟨ev_ask (e := a1) (c := (h 60 (h 132 (a1).toNat).toNat)) (r := (h 134 (a1).toNat)) g g27 p6 (by omega) (by omega) (by (repeat (first | exact ag_refl | refine ag_up rfl ?_))) (show (((h 0 202) + 1) : Int) = (h 0 202) + 1 by omega) (fun j h1 h2 => by refine ⟨?_, ?_, ?_, ?_⟩ <;> simp [ja_up, h1, h2]) (by simp [ja_up, hne]) (by simp [ja_up, hne]) (by omega) (by simp [ja_up, hne] <;> omega) (by simp [ja_up]) (by simp [ja_up]) (by simp [ja_up]) (by simp [ja_up]) (kd1 (by omega)).2 ⟨by omega, by omega⟩ (by unfold evD; simp [ja_up, hne, p31] <;> omega), (by (repeat (first | exact ag_refl | refine ag_up rfl ?_))), (by (repeat (first | exact p4 | refine vi_set (by decide) (by decide) (by decide) ?_ (by first | exact (fun z => absurd z (by decide)) | exact vi_aS p4 (by decide) _ | exact (fun z => ⟨by omega, hca⟩) | exact (fun z => ⟨by omega, hca z⟩) | (intro z; exfalso; omega)) | refine vi_res ?_ (by first | exact (fun z => absurd z (by decide)) | exact vi_aS p4 (by decide) _ | exact (fun z => ⟨by omega, hca⟩) | exact (fun z => ⟨by omega, hca z⟩) | (intro z; exfalso; omega)) | refine vi_arr (by decide) (by decide) ?_ | refine vi_up (by decide) (by decide) ?_)))⟩) g27
          · refine ja_aload_n dnext_94 rfl rfl ?_
            refine ja_iload_n dnext_95 rfl rfl ?_
            refine t_undo (by decide) (show (0 : Nat) ≤ 8 by decide) dnext_96 g ⟨by omega, by omega⟩ (show 0 ≤ (h 132 (a1).toNat) ∧ (h 132 (a1).toNat) ≤ 899 by omega) (show 0 ≤ (h 59 (h 132 (a1).toNat).toNat) ∧ (h 59 (h 132 (a1).toNat).toNat) ≤ 899 by omega) (p4) ?_
            intro h28 k96_0 g29
            have c_ev : (h28 0 202) = (h 0 202) := k96_0.1 0 202 rfl
            have c_nodeB : (h28 60) = (h 60) := funext fun j => k96_0.1 60 j rfl
            have c_nb := congrFun c_nodeB (h 132 (a1).toNat).toNat
            refine ja_aload_n dnext_99 rfl rfl ?_
            refine fa_evState dnext_100 ?_
            refine ja_iload_n dnext_103 rfl rfl ?_
            refine ja_iconst dnext_104 ?_
            have g30 := gW_evState g29 (a1).toNat (x := 2) ⟨by decide, by decide⟩
            refine is_evState ⟨by omega, by omega⟩ dnext_105 ?_
            refine ja_aload_n dnext_106 rfl rfl ?_
            refine ja_aload_n dnext_107 rfl rfl ?_
            refine fa_nodeB dnext_108 ?_
            refine ja_iload_n dnext_111 rfl rfl ?_
            refine il_nodeB (v := h28 60 (h 132 (a1).toNat).toNat) rfl ⟨by omega, by omega⟩ dnext_112 ?_
            have f31 := gC_nodeB g29 (h 132 (a1).toNat).toNat
            refine ja_iload_n dnext_113 rfl rfl ?_
            refine t_ask (by decide) (show (0 : Nat) ≤ 8 by decide) dnext_114 g30 ⟨by omega, by omega⟩ ⟨by omega, by omega⟩ (show 0 ≤ (h28 60 (h 132 (a1).toNat).toNat) ∧ (h28 60 (h 132 (a1).toNat).toNat) ≤ 899 by omega) (show 0 ≤ (h 134 (a1).toNat) ∧ (h 134 (a1).toNat) ≤ 119 by omega) (show (h28 0 202) ≤ 999 by omega) ?_
            intro g32
            replace g32 : mo_G mo_zr (ja_up (ja_up (ja_up (ja_up (ja_up (ja_up h28 133 ((a1).toNat) 2) 132 ((h28 0 202).toNat) (h28 60 (h 132 (a1).toNat).toNat)) 134 ((h28 0 202).toNat) (h 134 (a1).toNat)) 133 ((h28 0 202).toNat) 0) 135 ((h28 0 202).toNat) 0) 0 202 ((h28 0 202) + 1)) := g32
            show mJ l D cA ad 2 cX12_next 6 none 117 [(4, (0, (h 58 (h 132 (a1).toNat).toNat))), (3, (0, (h 134 (a1).toNat))), (2, (0, (h 132 (a1).toNat))), (0, (2, ((0 : Nat) : Int))), (1, (0, a1))] [] (ja_up (ja_up (ja_up (ja_up (ja_up (ja_up h28 133 ((a1).toNat) 2) 132 ((h28 0 202).toNat) (h28 60 (h 132 (a1).toNat).toNat)) 134 ((h28 0 202).toNat) (h 134 (a1).toNat)) 133 ((h28 0 202).toNat) 0) 135 ((h28 0 202).toNat) 0) 0 202 ((h28 0 202) + 1)) Q
            refine ja_goto 336 dnext_117 rfl ?_
            refine ja_return dnext_336 rfl ?_
            exact k1 (ja_up (ja_up (ja_up (ja_up (ja_up (ja_up h28 133 ((a1).toNat) 2) 132 ((h28 0 202).toNat) (h28 60 (h 132 (a1).toNat).toNat)) 134 ((h28 0 202).toNat) (h 134 (a1).toNat)) 133 ((h28 0 202).toNat) 0) 135 ((h28 0 202).toNat) 0) 0 202 ((h28 0 202) + 1)) (⟨ev_ask (e := a1) (c := (h 60 (h 132 (a1).toNat).toNat)) (r := (h 134 (a1).toNat)) g g32 p6 (by omega) (by omega) (ag_trans (by (repeat (first | exact ag_refl | refine ag_up rfl ?_))) (ag_trans (ag_sub (X_X (by decide) (by decide)) k96_0.1) (by (repeat (first | exact ag_refl | refine ag_up rfl ?_))))) (show (((h28 0 202) + 1) : Int) = (h 0 202) + 1 by omega) (fun j h1 h2 => ⟨(show ((ja_up (ja_up (ja_up (ja_up (ja_up (ja_up h28 133 ((a1).toNat) 2) 132 ((h28 0 202).toNat) (h28 60 (h 132 (a1).toNat).toNat)) 134 ((h28 0 202).toNat) (h 134 (a1).toNat)) 133 ((h28 0 202).toNat) 0) 135 ((h28 0 202).toNat) 0) 0 202 ((h28 0 202) + 1)) 132) j = (h28 132) j from (by simp [ja_up, c_ev, h1, h2])).trans (k96_0.1 132 j rfl), (show ((ja_up (ja_up (ja_up (ja_up (ja_up (ja_up h28 133 ((a1).toNat) 2) 132 ((h28 0 202).toNat) (h28 60 (h 132 (a1).toNat).toNat)) 134 ((h28 0 202).toNat) (h 134 (a1).toNat)) 133 ((h28 0 202).toNat) 0) 135 ((h28 0 202).toNat) 0) 0 202 ((h28 0 202) + 1)) 134) j = (h28 134) j from (by simp [ja_up, c_ev, h1, h2])).trans (k96_0.1 134 j rfl), (show ((ja_up (ja_up (ja_up (ja_up (ja_up (ja_up h28 133 ((a1).toNat) 2) 132 ((h28 0 202).toNat) (h28 60 (h 132 (a1).toNat).toNat)) 134 ((h28 0 202).toNat) (h 134 (a1).toNat)) 133 ((h28 0 202).toNat) 0) 135 ((h28 0 202).toNat) 0) 0 202 ((h28 0 202) + 1)) 133) j = (h28 133) j from (by simp [ja_up, c_ev, h1, h2])).trans (k96_0.1 133 j rfl), (show ((ja_up (ja_up (ja_up (ja_up (ja_up (ja_up h28 133 ((a1).toNat) 2) 132 ((h28 0 202).toNat) (h28 60 (h 132 (a1).toNat).toNat)) 134 ((h28 0 202).toNat) (h 134 (a1).toNat)) 133 ((h28 0 202).toNat) 0) 135 ((h28 0 202).toNat) 0) 0 202 ((h28 0 202) + 1)) 135) j = (h28 135) j from (by simp [ja_up, c_ev, h1, h2])).trans (k96_0.1 135 j rfl)⟩) ((show ((ja_up (ja_up (ja_up (ja_up (ja_up (ja_up h28 133 ((a1).toNat) 2) 132 ((h28 0 202).toNat) (h28 60 (h 132 (a1).toNat).toNat)) 134 ((h28 0 202).toNat) (h 134 (a1).toNat)) 133 ((h28 0 202).toNat) 0) 135 ((h28 0 202).toNat) 0) 0 202 ((h28 0 202) + 1)) 132) (a1).toNat = (h28 132) (a1).toNat from (by simp [ja_up, hne, c_ev])).trans (k96_0.1 132 (a1).toNat rfl)) ((show ((ja_up (ja_up (ja_up (ja_up (ja_up (ja_up h28 133 ((a1).toNat) 2) 132 ((h28 0 202).toNat) (h28 60 (h 132 (a1).toNat).toNat)) 134 ((h28 0 202).toNat) (h 134 (a1).toNat)) 133 ((h28 0 202).toNat) 0) 135 ((h28 0 202).toNat) 0) 0 202 ((h28 0 202) + 1)) 134) (a1).toNat = (h28 134) (a1).toNat from (by simp [ja_up, hne, c_ev])).trans (k96_0.1 134 (a1).toNat rfl)) (by omega) (by have zz : ((ja_up (ja_up (ja_up (ja_up (ja_up (ja_up h28 133 ((a1).toNat) 2) 132 ((h28 0 202).toNat) (h28 60 (h 132 (a1).toNat).toNat)) 134 ((h28 0 202).toNat) (h 134 (a1).toNat)) 133 ((h28 0 202).toNat) 0) 135 ((h28 0 202).toNat) 0) 0 202 ((h28 0 202) + 1)) 135) (a1).toNat = (h 135 (a1).toNat) := ((show ((ja_up (ja_up (ja_up (ja_up (ja_up (ja_up h28 133 ((a1).toNat) 2) 132 ((h28 0 202).toNat) (h28 60 (h 132 (a1).toNat).toNat)) 134 ((h28 0 202).toNat) (h 134 (a1).toNat)) 133 ((h28 0 202).toNat) 0) 135 ((h28 0 202).toNat) 0) 0 202 ((h28 0 202) + 1)) 135) (a1).toNat = (h28 135) (a1).toNat from (by simp [ja_up, hne, c_ev])).trans (k96_0.1 135 (a1).toNat rfl)); omega) (by simp [ja_up, c_ev, c_nodeB]) (by simp [ja_up, c_ev]) (by simp [ja_up, c_ev]) (by simp [ja_up, c_ev]) (kd1 (by omega)).2 ⟨by omega, by omega⟩ (by have yy : ((ja_up (ja_up (ja_up (ja_up (ja_up (ja_up h28 133 ((a1).toNat) 2) 132 ((h28 0 202).toNat) (h28 60 (h 132 (a1).toNat).toNat)) 134 ((h28 0 202).toNat) (h 134 (a1).toNat)) 133 ((h28 0 202).toNat) 0) 135 ((h28 0 202).toNat) 0) 0 202 ((h28 0 202) + 1)) 133) (a1).toNat = 2 := (by simp [ja_up, hne, c_ev]); unfold evD; rw [yy]; simp [p31] <;> omega), (ag_trans (by (repeat (first | exact ag_refl | refine ag_up rfl ?_))) (ag_trans (ag_sub (X_X (by decide) (by decide)) k96_0.1) (by (repeat (first | exact ag_refl | refine ag_up rfl ?_))))), (by (repeat (first | exact k96_0.2 | refine vi_set (by decide) (by decide) (by decide) ?_ (by first | exact (fun z => absurd z (by decide)) | exact vi_aS k96_0.2 (by decide) _ | exact (fun z => ⟨by omega, hca⟩) | exact (fun z => ⟨by omega, hca z⟩) | (intro z; exfalso; omega)) | refine vi_res ?_ (by first | exact (fun z => absurd z (by decide)) | exact vi_aS k96_0.2 (by decide) _ | exact (fun z => ⟨by omega, hca⟩) | exact (fun z => ⟨by omega, hca z⟩) | (intro z; exfalso; omega)) | refine vi_arr (by decide) (by decide) ?_ | refine vi_up (by decide) (by decide) ?_)))⟩) g32
        · refine ja_aload_n dnext_76 rfl rfl ?_
          refine ja_aload_n dnext_77 rfl rfl ?_
          refine fg_isSo (v := h 0 203) rfl dnext_78 ?_
          refine t_answer (by decide) (show (0 : Nat) ≤ 8 by decide) dnext_81 g ⟨by omega, by omega⟩ (show 1 ≤ (h 0 202) by omega) ?_
          intro g33
          replace g33 : mo_G mo_zr (ja_up (ja_up h 0 203 (h 0 203)) 0 202 ((h 0 202) - 1)) := g33
          show mJ l D cA ad 2 cX12_next 6 none 84 [(4, (0, (h 58 (h 132 (a1).toNat).toNat))), (3, (0, (h 134 (a1).toNat))), (2, (0, (h 132 (a1).toNat))), (0, (2, ((0 : Nat) : Int))), (1, (0, a1))] [] (ja_up (ja_up h 0 203 (h 0 203)) 0 202 ((h 0 202) - 1)) Q
          refine ja_goto 336 dnext_84 rfl ?_
          refine ja_return dnext_336 rfl ?_
          exact k1 (ja_up (ja_up h 0 203 (h 0 203)) 0 202 ((h 0 202) - 1)) (⟨ev_pop (e := a1) g33 p6 (by omega) (by omega) (by omega) (by (repeat (first | exact ag_refl | refine ag_up rfl ?_))) (show (((h 0 202) - 1) : Int) = (h 0 202) - 1 by omega) (fun j hj => by refine ⟨?_, ?_, ?_, ?_⟩ <;> simp [ja_up, hj]) g, (by (repeat (first | exact ag_refl | refine ag_up rfl ?_))), (by (repeat (first | exact p4 | refine vi_set (by decide) (by decide) (by decide) ?_ (by first | exact (fun z => absurd z (by decide)) | exact vi_aS p4 (by decide) _ | exact (fun z => ⟨by omega, hca⟩) | exact (fun z => ⟨by omega, hca z⟩) | (intro z; exfalso; omega)) | refine vi_res ?_ (by first | exact (fun z => absurd z (by decide)) | exact vi_aS p4 (by decide) _ | exact (fun z => ⟨by omega, hca⟩) | exact (fun z => ⟨by omega, hca z⟩) | (intro z; exfalso; omega)) | refine vi_arr (by decide) (by decide) ?_ | refine vi_up (by decide) (by decide) ?_)))⟩) g33
    · refine ja_iload dnext_50 rfl ?_
      refine ja_bipush 14 dnext_52 rfl ?_
      refine ja_icmp_ne 120 dnext_54 rfl ⟨by omega, by omega⟩ ⟨by decide, by decide⟩ (fun c54 => ?_) (fun c54 => ?_)
      · refine ja_iload dnext_120 rfl ?_
        refine ja_bipush 15 dnext_122 rfl ?_
        refine ja_icmp_ne 146 dnext_124 rfl ⟨by omega, by omega⟩ ⟨by decide, by decide⟩ (fun c124 => ?_) (fun c124 => ?_)
        · refine ja_iload dnext_146 rfl ?_
          refine ja_bipush 12 dnext_148 rfl ?_
          refine ja_icmp_ne 245 dnext_150 rfl ⟨by omega, by omega⟩ ⟨by decide, by decide⟩ (fun c150 => ?_) (fun c150 => ?_)
          · have kk := kd2 (by omega)
            have kk1 := kk.1
            have kk2 := kk.2.1
            refine ja_aload_n dnext_245 rfl rfl ?_
            refine fg_isSo (v := h 0 203) rfl dnext_246 ?_
            have f34 := gF_isSo g
            refine ja_if_eq 260 dnext_249 rfl ⟨by omega, by omega⟩ (fun c249 => ?_) (fun c249 => ?_)
            · refine ja_aload_n dnext_260 rfl rfl ?_
              refine fa_evAt dnext_261 ?_
              refine ja_iload_n dnext_264 rfl rfl ?_
              refine ja_dup2 dnext_265 (by first | decide | (dsimp only; decide)) (by first | decide | (dsimp only; decide)) ?_
              refine il_evAt (v := h 135 (a1).toNat) rfl ⟨by omega, by omega⟩ dnext_266 ?_
              have f35 := gC_evAt g (a1).toNat
              refine ja_iconst dnext_267 ?_
              refine ja_isub dnext_268 ?_
              have g36 := gW_evAt g (a1).toNat (x := (h 135 (a1).toNat) - 1) ⟨by omega, by omega⟩
              refine is_evAt ⟨by omega, by omega⟩ dnext_269 ?_
              refine ja_aload_n dnext_270 rfl rfl ?_
              refine fa_evAt dnext_271 ?_
              refine ja_iload_n dnext_274 rfl rfl ?_
              refine ja_aload_n dnext_275 rfl rfl ?_
              refine fa_evAt dnext_276 ?_
              refine ja_iload_n dnext_279 rfl rfl ?_
              refine il_evAt (v := (h 135 (a1).toNat) - 1) (by simp [ja_up]) ⟨by omega, by omega⟩ dnext_280 ?_
              refine ja_iload_n dnext_281 rfl rfl ?_
              refine ja_icmp_ne 296 dnext_282 rfl ⟨by omega, by omega⟩ ⟨by omega, by omega⟩ (fun c282 => ?_) (fun c282 => ?_)
              · refine ja_aload_n dnext_296 rfl rfl ?_
                refine fa_evAt dnext_297 ?_
                refine ja_iload_n dnext_300 rfl rfl ?_
                refine il_evAt (v := (h 135 (a1).toNat) - 1) (by simp [ja_up]) ⟨by omega, by omega⟩ dnext_301 ?_
                have g37 := gW_evAt g36 (a1).toNat (x := (h 135 (a1).toNat) - 1) ⟨by omega, by omega⟩
                refine is_evAt ⟨by omega, by omega⟩ dnext_302 ?_
                refine ja_aload_n dnext_303 rfl rfl ?_
                refine fa_evAt dnext_304 ?_
                refine ja_iload_n dnext_307 rfl rfl ?_
                refine il_evAt (v := (h 135 (a1).toNat) - 1) (by simp [ja_up]) ⟨by omega, by omega⟩ dnext_308 ?_
                refine ja_if_ge 320 dnext_309 rfl ⟨by omega, by omega⟩ (fun c309 => ?_) (fun c309 => ?_)
                · refine ja_aload_n dnext_320 rfl rfl ?_
                  refine ja_aload_n dnext_321 rfl rfl ?_
                  refine fa_nodeA dnext_322 ?_
                  refine ja_iload_n dnext_325 rfl rfl ?_
                  refine il_nodeA (v := h 59 (h 132 (a1).toNat).toNat) rfl ⟨by omega, by omega⟩ dnext_326 ?_
                  have f38 := gC_nodeA g (h 132 (a1).toNat).toNat
                  refine ja_aload_n dnext_327 rfl rfl ?_
                  refine fa_evAt dnext_328 ?_
                  refine ja_iload_n dnext_331 rfl rfl ?_
                  refine il_evAt (v := (h 135 (a1).toNat) - 1) (by simp [ja_up]) ⟨by omega, by omega⟩ dnext_332 ?_
                  refine t_ask (by decide) (show (0 : Nat) ≤ 8 by decide) dnext_333 g37 ⟨by omega, by omega⟩ ⟨by omega, by omega⟩ (show 0 ≤ (h 59 (h 132 (a1).toNat).toNat) ∧ (h 59 (h 132 (a1).toNat).toNat) ≤ 899 by omega) (show 0 ≤ ((h 135 (a1).toNat) - 1) ∧ ((h 135 (a1).toNat) - 1) ≤ 119 by omega) (show (h 0 202) ≤ 999 by omega) ?_
                  intro g39
                  replace g39 : mo_G mo_zr (ja_up (ja_up (ja_up (ja_up (ja_up (ja_up (ja_up h 135 ((a1).toNat) ((h 135 (a1).toNat) - 1)) 135 ((a1).toNat) ((h 135 (a1).toNat) - 1)) 132 ((h 0 202).toNat) (h 59 (h 132 (a1).toNat).toNat)) 134 ((h 0 202).toNat) ((h 135 (a1).toNat) - 1)) 133 ((h 0 202).toNat) 0) 135 ((h 0 202).toNat) 0) 0 202 ((h 0 202) + 1)) := g39
                  show mJ l D cA ad 2 cX12_next 6 none 336 [(4, (0, (h 58 (h 132 (a1).toNat).toNat))), (3, (0, (h 134 (a1).toNat))), (2, (0, (h 132 (a1).toNat))), (0, (2, ((0 : Nat) : Int))), (1, (0, a1))] [] (ja_up (ja_up (ja_up (ja_up (ja_up (ja_up (ja_up h 135 ((a1).toNat) ((h 135 (a1).toNat) - 1)) 135 ((a1).toNat) ((h 135 (a1).toNat) - 1)) 132 ((h 0 202).toNat) (h 59 (h 132 (a1).toNat).toNat)) 134 ((h 0 202).toNat) ((h 135 (a1).toNat) - 1)) 133 ((h 0 202).toNat) 0) 135 ((h 0 202).toNat) 0) 0 202 ((h 0 202) + 1)) Q
                  refine ja_return dnext_336 rfl ?_
                  exact k1 (ja_up (ja_up (ja_up (ja_up (ja_up (ja_up (ja_up h 135 ((a1).toNat) ((h 135 (a1).toNat) - 1)) 135 ((a1).toNat) ((h 135 (a1).toNat) - 1)) 132 ((h 0 202).toNat) (h 59 (h 132 (a1).toNat).toNat)) 134 ((h 0 202).toNat) ((h 135 (a1).toNat) - 1)) 133 ((h 0 202).toNat) 0) 135 ((h 0 202).toNat) 0) 0 202 ((h 0 202) + 1)) (⟨ev_ask (e := a1) (c := (h 59 (h 132 (a1).toNat).toNat)) (r := ((h 135 (a1).toNat) - 1)) g g39 p6 (by omega) (by omega) (by (repeat (first | exact ag_refl | refine ag_up rfl ?_))) (show (((h 0 202) + 1) : Int) = (h 0 202) + 1 by omega) (fun j h1 h2 => by refine ⟨?_, ?_, ?_, ?_⟩ <;> simp [ja_up, h1, h2]) (by simp [ja_up, hne]) (by simp [ja_up, hne]) (by omega) (by simp [ja_up, hne] <;> omega) (by simp [ja_up]) (by simp [ja_up]) (by simp [ja_up]) (by simp [ja_up]) (kd2 (by omega)) ⟨by omega, by omega⟩ (by unfold evD; simp [ja_up, hne, p31] <;> omega), (by (repeat (first | exact ag_refl | refine ag_up rfl ?_))), (by (repeat (first | exact p4 | refine vi_set (by decide) (by decide) (by decide) ?_ (by first | exact (fun z => absurd z (by decide)) | exact vi_aS p4 (by decide) _ | exact (fun z => ⟨by omega, hca⟩) | exact (fun z => ⟨by omega, hca z⟩) | (intro z; exfalso; omega)) | refine vi_res ?_ (by first | exact (fun z => absurd z (by decide)) | exact vi_aS p4 (by decide) _ | exact (fun z => ⟨by omega, hca⟩) | exact (fun z => ⟨by omega, hca z⟩) | (intro z; exfalso; omega)) | refine vi_arr (by decide) (by decide) ?_ | refine vi_up (by decide) (by decide) ?_)))⟩) g39
                · refine ja_aload_n dnext_312 rfl rfl ?_
                  refine ja_iconst dnext_313 ?_
                  refine t_answer (by decide) (show (0 : Nat) ≤ 8 by decide) dnext_314 g37 ⟨by decide, by decide⟩ (show 1 ≤ (h 0 202) by omega) ?_
                  intro g40
                  replace g40 : mo_G mo_zr (ja_up (ja_up (ja_up (ja_up h 135 ((a1).toNat) ((h 135 (a1).toNat) - 1)) 135 ((a1).toNat) ((h 135 (a1).toNat) - 1)) 0 203 0) 0 202 ((h 0 202) - 1)) := g40
                  show mJ l D cA ad 2 cX12_next 6 none 317 [(4, (0, (h 58 (h 132 (a1).toNat).toNat))), (3, (0, (h 134 (a1).toNat))), (2, (0, (h 132 (a1).toNat))), (0, (2, ((0 : Nat) : Int))), (1, (0, a1))] [] (ja_up (ja_up (ja_up (ja_up h 135 ((a1).toNat) ((h 135 (a1).toNat) - 1)) 135 ((a1).toNat) ((h 135 (a1).toNat) - 1)) 0 203 0) 0 202 ((h 0 202) - 1)) Q
                  refine ja_goto 336 dnext_317 rfl ?_
                  refine ja_return dnext_336 rfl ?_
                  exact k1 (ja_up (ja_up (ja_up (ja_up h 135 ((a1).toNat) ((h 135 (a1).toNat) - 1)) 135 ((a1).toNat) ((h 135 (a1).toNat) - 1)) 0 203 0) 0 202 ((h 0 202) - 1)) (⟨ev_pop (e := a1) g40 p6 (by omega) (by omega) (by omega) (by (repeat (first | exact ag_refl | refine ag_up rfl ?_))) (show (((h 0 202) - 1) : Int) = (h 0 202) - 1 by omega) (fun j hj => by refine ⟨?_, ?_, ?_, ?_⟩ <;> simp [ja_up, hj]) g, (by (repeat (first | exact ag_refl | refine ag_up rfl ?_))), (by (repeat (first | exact p4 | refine vi_set (by decide) (by decide) (by decide) ?_ (by first | exact (fun z => absurd z (by decide)) | exact vi_aS p4 (by decide) _ | exact (fun z => ⟨by omega, hca⟩) | exact (fun z => ⟨by omega, hca z⟩) | (intro z; exfalso; omega)) | refine vi_res ?_ (by first | exact (fun z => absurd z (by decide)) | exact vi_aS p4 (by decide) _ | exact (fun z => ⟨by omega, hca⟩) | exact (fun z => ⟨by omega, hca z⟩) | (intro z; exfalso; omega)) | refine vi_arr (by decide) (by decide) ?_ | refine vi_up (by decide) (by decide) ?_)))⟩) g40
              · refine ja_aload_n dnext_285 rfl rfl ?_
                refine fa_evAt dnext_286 ?_
                refine ja_iload_n dnext_289 rfl rfl ?_
                refine il_evAt (v := (h 135 (a1).toNat) - 1) (by simp [ja_up]) ⟨by omega, by omega⟩ dnext_290 ?_
                refine ja_iconst dnext_291 ?_
                refine ja_isub dnext_292 ?_
                refine ja_goto 302 dnext_293 rfl ?_
                have g41 := gW_evAt g36 (a1).toNat (x := ((h 135 (a1).toNat) - 1) - 1) ⟨by omega, by omega⟩
                refine is_evAt ⟨by omega, by omega⟩ dnext_302 ?_
                refine ja_aload_n dnext_303 rfl rfl ?_
                refine fa_evAt dnext_304 ?_
                refine ja_iload_n dnext_307 rfl rfl ?_
                refine il_evAt (v := ((h 135 (a1).toNat) - 1) - 1) (by simp [ja_up]) ⟨by omega, by omega⟩ dnext_308 ?_
                refine ja_if_ge 320 dnext_309 rfl ⟨by omega, by omega⟩ (fun c309 => ?_) (fun c309 => ?_)
                · refine ja_aload_n dnext_320 rfl rfl ?_
                  refine ja_aload_n dnext_321 rfl rfl ?_
                  refine fa_nodeA dnext_322 ?_
                  refine ja_iload_n dnext_325 rfl rfl ?_
                  refine il_nodeA (v := h 59 (h 132 (a1).toNat).toNat) rfl ⟨by omega, by omega⟩ dnext_326 ?_
                  have f42 := gC_nodeA g (h 132 (a1).toNat).toNat
                  refine ja_aload_n dnext_327 rfl rfl ?_
                  refine fa_evAt dnext_328 ?_
                  refine ja_iload_n dnext_331 rfl rfl ?_
                  refine il_evAt (v := ((h 135 (a1).toNat) - 1) - 1) (by simp [ja_up]) ⟨by omega, by omega⟩ dnext_332 ?_
                  refine t_ask (by decide) (show (0 : Nat) ≤ 8 by decide) dnext_333 g41 ⟨by omega, by omega⟩ ⟨by omega, by omega⟩ (show 0 ≤ (h 59 (h 132 (a1).toNat).toNat) ∧ (h 59 (h 132 (a1).toNat).toNat) ≤ 899 by omega) (show 0 ≤ (((h 135 (a1).toNat) - 1) - 1) ∧ (((h 135 (a1).toNat) - 1) - 1) ≤ 119 by omega) (show (h 0 202) ≤ 999 by omega) ?_
                  intro g43
                  replace g43 : mo_G mo_zr (ja_up (ja_up (ja_up (ja_up (ja_up (ja_up (ja_up h 135 ((a1).toNat) ((h 135 (a1).toNat) - 1)) 135 ((a1).toNat) (((h 135 (a1).toNat) - 1) - 1)) 132 ((h 0 202).toNat) (h 59 (h 132 (a1).toNat).toNat)) 134 ((h 0 202).toNat) (((h 135 (a1).toNat) - 1) - 1)) 133 ((h 0 202).toNat) 0) 135 ((h 0 202).toNat) 0) 0 202 ((h 0 202) + 1)) := g43
                  show mJ l D cA ad 2 cX12_next 6 none 336 [(4, (0, (h 58 (h 132 (a1).toNat).toNat))), (3, (0, (h 134 (a1).toNat))), (2, (0, (h 132 (a1).toNat))), (0, (2, ((0 : Nat) : Int))), (1, (0, a1))] [] (ja_up (ja_up (ja_up (ja_up (ja_up (ja_up (ja_up h 135 ((a1).toNat) ((h 135 (a1).toNat) - 1)) 135 ((a1).toNat) (((h 135 (a1).toNat) - 1) - 1)) 132 ((h 0 202).toNat) (h 59 (h 132 (a1).toNat).toNat)) 134 ((h 0 202).toNat) (((h 135 (a1).toNat) - 1) - 1)) 133 ((h 0 202).toNat) 0) 135 ((h 0 202).toNat) 0) 0 202 ((h 0 202) + 1)) Q
                  refine ja_return dnext_336 rfl ?_
                  exact k1 (ja_up (ja_up (ja_up (ja_up (ja_up (ja_up (ja_up h 135 ((a1).toNat) ((h 135 (a1).toNat) - 1)) 135 ((a1).toNat) (((h 135 (a1).toNat) - 1) - 1)) 132 ((h 0 202).toNat) (h 59 (h 132 (a1).toNat).toNat)) 134 ((h 0 202).toNat) (((h 135 (a1).toNat) - 1) - 1)) 133 ((h 0 202).toNat) 0) 135 ((h 0 202).toNat) 0) 0 202 ((h 0 202) + 1)) (⟨ev_ask (e := a1) (c := (h 59 (h 132 (a1).toNat).toNat)) (r := (((h 135 (a1).toNat) - 1) - 1)) g g43 p6 (by omega) (by omega) (by (repeat (first | exact ag_refl | refine ag_up rfl ?_))) (show (((h 0 202) + 1) : Int) = (h 0 202) + 1 by omega) (fun j h1 h2 => by refine ⟨?_, ?_, ?_, ?_⟩ <;> simp [ja_up, h1, h2]) (by simp [ja_up, hne]) (by simp [ja_up, hne]) (by omega) (by simp [ja_up, hne] <;> omega) (by simp [ja_up]) (by simp [ja_up]) (by simp [ja_up]) (by simp [ja_up]) (kd2 (by omega)) ⟨by omega, by omega⟩ (by unfold evD; simp [ja_up, hne, p31] <;> omega), (by (repeat (first | exact ag_refl | refine ag_up rfl ?_))), (by (repeat (first | exact p4 | refine vi_set (by decide) (by decide) (by decide) ?_ (by first | exact (fun z => absurd z (by decide)) | exact vi_aS p4 (by decide) _ | exact (fun z => ⟨by omega, hca⟩) | exact (fun z => ⟨by omega, hca z⟩) | (intro z; exfalso; omega)) | refine vi_res ?_ (by first | exact (fun z => absurd z (by decide)) | exact vi_aS p4 (by decide) _ | exact (fun z => ⟨by omega, hca⟩) | exact (fun z => ⟨by omega, hca z⟩) | (intro z; exfalso; omega)) | refine vi_arr (by decide) (by decide) ?_ | refine vi_up (by decide) (by decide) ?_)))⟩) g43
                · refine ja_aload_n dnext_312 rfl rfl ?_
                  refine ja_iconst dnext_313 ?_
                  refine t_answer (by decide) (show (0 : Nat) ≤ 8 by decide) dnext_314 g41 ⟨by decide, by decide⟩ (show 1 ≤ (h 0 202) by omega) ?_
                  intro g44
                  replace g44 : mo_G mo_zr (ja_up (ja_up (ja_up (ja_up h 135 ((a1).toNat) ((h 135 (a1).toNat) - 1)) 135 ((a1).toNat) (((h 135 (a1).toNat) - 1) - 1)) 0 203 0) 0 202 ((h 0 202) - 1)) := g44
                  show mJ l D cA ad 2 cX12_next 6 none 317 [(4, (0, (h 58 (h 132 (a1).toNat).toNat))), (3, (0, (h 134 (a1).toNat))), (2, (0, (h 132 (a1).toNat))), (0, (2, ((0 : Nat) : Int))), (1, (0, a1))] [] (ja_up (ja_up (ja_up (ja_up h 135 ((a1).toNat) ((h 135 (a1).toNat) - 1)) 135 ((a1).toNat) (((h 135 (a1).toNat) - 1) - 1)) 0 203 0) 0 202 ((h 0 202) - 1)) Q
                  refine ja_goto 336 dnext_317 rfl ?_
                  refine ja_return dnext_336 rfl ?_
                  exact k1 (ja_up (ja_up (ja_up (ja_up h 135 ((a1).toNat) ((h 135 (a1).toNat) - 1)) 135 ((a1).toNat) (((h 135 (a1).toNat) - 1) - 1)) 0 203 0) 0 202 ((h 0 202) - 1)) (⟨ev_pop (e := a1) g44 p6 (by omega) (by omega) (by omega) (by (repeat (first | exact ag_refl | refine ag_up rfl ?_))) (show (((h 0 202) - 1) : Int) = (h 0 202) - 1 by omega) (fun j hj => by refine ⟨?_, ?_, ?_, ?_⟩ <;> simp [ja_up, hj]) g, (by (repeat (first | exact ag_refl | refine ag_up rfl ?_))), (by (repeat (first | exact p4 | refine vi_set (by decide) (by decide) (by decide) ?_ (by first | exact (fun z => absurd z (by decide)) | exact vi_aS p4 (by decide) _ | exact (fun z => ⟨by omega, hca⟩) | exact (fun z => ⟨by omega, hca z⟩) | (intro z; exfalso; omega)) | refine vi_res ?_ (by first | exact (fun z => absurd z (by decide)) | exact vi_aS p4 (by decide) _ | exact (fun z => ⟨by omega, hca⟩) | exact (fun z => ⟨by omega, hca z⟩) | (intro z; exfalso; omega)) | refine vi_arr (by decide) (by decide) ?_ | refine vi_up (by decide) (by decide) ?_)))⟩) g44
            · refine ja_aload_n dnext_252 rfl rfl ?_
              refine ja_iconst dnext_253 ?_
              refine t_answer (by decide) (show (0 : Nat) ≤ 8 by decide) dnext_254 g ⟨by decide, by decide⟩ (show 1 ≤ (h 0 202) by omega) ?_
              intro g45
              replace g45 : mo_G mo_zr (ja_up (ja_up h 0 203 1) 0 202 ((h 0 202) - 1)) := g45
              show mJ l D cA ad 2 cX12_next 6 none 257 [(4, (0, (h 58 (h 132 (a1).toNat).toNat))), (3, (0, (h 134 (a1).toNat))), (2, (0, (h 132 (a1).toNat))), (0, (2, ((0 : Nat) : Int))), (1, (0, a1))] [] (ja_up (ja_up h 0 203 1) 0 202 ((h 0 202) - 1)) Q
              refine ja_goto 336 dnext_257 rfl ?_
              refine ja_return dnext_336 rfl ?_
              exact k1 (ja_up (ja_up h 0 203 1) 0 202 ((h 0 202) - 1)) (⟨ev_pop (e := a1) g45 p6 (by omega) (by omega) (by omega) (by (repeat (first | exact ag_refl | refine ag_up rfl ?_))) (show (((h 0 202) - 1) : Int) = (h 0 202) - 1 by omega) (fun j hj => by refine ⟨?_, ?_, ?_, ?_⟩ <;> simp [ja_up, hj]) g, (by (repeat (first | exact ag_refl | refine ag_up rfl ?_))), (by (repeat (first | exact p4 | refine vi_set (by decide) (by decide) (by decide) ?_ (by first | exact (fun z => absurd z (by decide)) | exact vi_aS p4 (by decide) _ | exact (fun z => ⟨by omega, hca⟩) | exact (fun z => ⟨by omega, hca z⟩) | (intro z; exfalso; omega)) | refine vi_res ?_ (by first | exact (fun z => absurd z (by decide)) | exact vi_aS p4 (by decide) _ | exact (fun z => ⟨by omega, hca⟩) | exact (fun z => ⟨by omega, hca z⟩) | (intro z; exfalso; omega)) | refine vi_arr (by decide) (by decide) ?_ | refine vi_up (by decide) (by decide) ?_)))⟩) g45
          · refine ja_iconst dnext_153 ?_
            refine ja_istore dnext_154 (by decide) (L2 := [(5, (0, 0)), (4, (0, (h 58 (h 132 (a1).toNat).toNat))), (3, (0, (h 134 (a1).toNat))), (2, (0, (h 132 (a1).toNat))), (0, (2, ((0 : Nat) : Int))), (1, (0, a1))]) rfl ?_
            exact ja_wk (fun q hq => by simp only [List.mem_cons, List.not_mem_nil, or_false] at hq; rcases hq with rfl | rfl | rfl <;> rfl) ((CUT _) 0 h g ⟨by decide, by decide⟩ (⟨by omega, ag_refl, p4⟩) rfl)
        · refine ja_aload_n dnext_127 rfl rfl ?_
          refine ja_aload_n dnext_128 rfl rfl ?_
          refine fg_isSo (v := h 0 203) rfl dnext_129 ?_
          have f46 := gF_isSo g
          refine ja_if_ne 139 dnext_132 rfl ⟨by omega, by omega⟩ (fun c132 => ?_) (fun c132 => ?_)
          · refine ja_iconst dnext_139 ?_
            refine t_answer (by decide) (show (0 : Nat) ≤ 8 by decide) dnext_140 g ⟨by decide, by decide⟩ (show 1 ≤ (h 0 202) by omega) ?_
            intro g47
            replace g47 : mo_G mo_zr (ja_up (ja_up h 0 203 0) 0 202 ((h 0 202) - 1)) := g47
            show mJ l D cA ad 2 cX12_next 6 none 143 [(4, (0, (h 58 (h 132 (a1).toNat).toNat))), (3, (0, (h 134 (a1).toNat))), (2, (0, (h 132 (a1).toNat))), (0, (2, ((0 : Nat) : Int))), (1, (0, a1))] [] (ja_up (ja_up h 0 203 0) 0 202 ((h 0 202) - 1)) Q
            refine ja_goto 336 dnext_143 rfl ?_
            refine ja_return dnext_336 rfl ?_
            exact k1 (ja_up (ja_up h 0 203 0) 0 202 ((h 0 202) - 1)) (⟨ev_pop (e := a1) g47 p6 (by omega) (by omega) (by omega) (by (repeat (first | exact ag_refl | refine ag_up rfl ?_))) (show (((h 0 202) - 1) : Int) = (h 0 202) - 1 by omega) (fun j hj => by refine ⟨?_, ?_, ?_, ?_⟩ <;> simp [ja_up, hj]) g, (by (repeat (first | exact ag_refl | refine ag_up rfl ?_))), (by (repeat (first | exact p4 | refine vi_set (by decide) (by decide) (by decide) ?_ (by first | exact (fun z => absurd z (by decide)) | exact vi_aS p4 (by decide) _ | exact (fun z => ⟨by omega, hca⟩) | exact (fun z => ⟨by omega, hca z⟩) | (intro z; exfalso; omega)) | refine vi_res ?_ (by first | exact (fun z => absurd z (by decide)) | exact vi_aS p4 (by decide) _ | exact (fun z => ⟨by omega, hca⟩) | exact (fun z => ⟨by omega, hca z⟩) | (intro z; exfalso; omega)) | refine vi_arr (by decide) (by decide) ?_ | refine vi_up (by decide) (by decide) ?_)))⟩) g47
          · refine ja_iconst dnext_135 ?_
            refine ja_goto 140 dnext_136 rfl ?_
            refine t_answer (by decide) (show (0 : Nat) ≤ 8 by decide) dnext_140 g ⟨by decide, by decide⟩ (show 1 ≤ (h 0 202) by omega) ?_
            intro g48
            replace g48 : mo_G mo_zr (ja_up (ja_up h 0 203 1) 0 202 ((h 0 202) - 1)) := g48
            show mJ l D cA ad 2 cX12_next 6 none 143 [(4, (0, (h 58 (h 132 (a1).toNat).toNat))), (3, (0, (h 134 (a1).toNat))), (2, (0, (h 132 (a1).toNat))), (0, (2, ((0 : Nat) : Int))), (1, (0, a1))] [] (ja_up (ja_up h 0 203 1) 0 202 ((h 0 202) - 1)) Q
            refine ja_goto 336 dnext_143 rfl ?_
            refine ja_return dnext_336 rfl ?_
            exact k1 (ja_up (ja_up h 0 203 1) 0 202 ((h 0 202) - 1)) (⟨ev_pop (e := a1) g48 p6 (by omega) (by omega) (by omega) (by (repeat (first | exact ag_refl | refine ag_up rfl ?_))) (show (((h 0 202) - 1) : Int) = (h 0 202) - 1 by omega) (fun j hj => by refine ⟨?_, ?_, ?_, ?_⟩ <;> simp [ja_up, hj]) g, (by (repeat (first | exact ag_refl | refine ag_up rfl ?_))), (by (repeat (first | exact p4 | refine vi_set (by decide) (by decide) (by decide) ?_ (by first | exact (fun z => absurd z (by decide)) | exact vi_aS p4 (by decide) _ | exact (fun z => ⟨by omega, hca⟩) | exact (fun z => ⟨by omega, hca z⟩) | (intro z; exfalso; omega)) | refine vi_res ?_ (by first | exact (fun z => absurd z (by decide)) | exact vi_aS p4 (by decide) _ | exact (fun z => ⟨by omega, hca⟩) | exact (fun z => ⟨by omega, hca z⟩) | (intro z; exfalso; omega)) | refine vi_arr (by decide) (by decide) ?_ | refine vi_up (by decide) (by decide) ?_)))⟩) g48
      · have kA := (kd1 (by omega)).1
        have kB := (kd1 (by omega)).2
        have kA1 := kA.1
        have kA2 := kA.2.1
        have kB1 := kB.1
        have kB2 := kB.2.1
        refine ja_aload_n dnext_57 rfl rfl ?_
        refine fg_isSo (v := h 0 203) rfl dnext_58 ?_
        have f49 := gF_isSo g
        refine ja_iload dnext_61 rfl ?_
        refine ja_bipush 14 dnext_63 rfl ?_
        refine ja_icmp_ne 72 dnext_65 rfl ⟨by omega, by omega⟩ ⟨by decide, by decide⟩ (fun c65 => ?_) (fun c65 => ?_)
        · refine ja_iconst dnext_72 ?_
          refine ja_icmp_ne 87 dnext_73 rfl ⟨by omega, by omega⟩ ⟨by decide, by decide⟩ (fun c73 => ?_) (fun c73 => ?_)
          · refine ja_iload dnext_87 rfl ?_
            refine ja_bipush 14 dnext_89 rfl ?_
            refine ja_icmp_ne 99 dnext_91 rfl ⟨by omega, by omega⟩ ⟨by decide, by decide⟩ (fun c91 => ?_) (fun c91 => ?_)
            · refine ja_aload_n dnext_99 rfl rfl ?_
              refine fa_evState dnext_100 ?_
              refine ja_iload_n dnext_103 rfl rfl ?_
              refine ja_iconst dnext_104 ?_
              have g50 := gW_evState g (a1).toNat (x := 2) ⟨by decide, by decide⟩
              refine is_evState ⟨by omega, by omega⟩ dnext_105 ?_
              refine ja_aload_n dnext_106 rfl rfl ?_
              refine ja_aload_n dnext_107 rfl rfl ?_
              refine fa_nodeB dnext_108 ?_
              refine ja_iload_n dnext_111 rfl rfl ?_
              refine il_nodeB (v := h 60 (h 132 (a1).toNat).toNat) rfl ⟨by omega, by omega⟩ dnext_112 ?_
              have f51 := gC_nodeB g (h 132 (a1).toNat).toNat
              refine ja_iload_n dnext_113 rfl rfl ?_
              refine t_ask (by decide) (show (0 : Nat) ≤ 8 by decide) dnext_114 g50 ⟨by omega, by omega⟩ ⟨by omega, by omega⟩ (show 0 ≤ (h 60 (h 132 (a1).toNat).toNat) ∧ (h 60 (h 132 (a1).toNat).toNat) ≤ 899 by omega) (show 0 ≤ (h 134 (a1).toNat) ∧ (h 134 (a1).toNat) ≤ 119 by omega) (show (h 0 202) ≤ 999 by omega) ?_
              intro g52
              replace g52 : mo_G mo_zr (ja_up (ja_up (ja_up (ja_up (ja_up (ja_up h 133 ((a1).toNat) 2) 132 ((h 0 202).toNat) (h 60 (h 132 (a1).toNat).toNat)) 134 ((h 0 202).toNat) (h 134 (a1).toNat)) 133 ((h 0 202).toNat) 0) 135 ((h 0 202).toNat) 0) 0 202 ((h 0 202) + 1)) := g52
              show mJ l D cA ad 2 cX12_next 6 none 117 [(4, (0, (h 58 (h 132 (a1).toNat).toNat))), (3, (0, (h 134 (a1).toNat))), (2, (0, (h 132 (a1).toNat))), (0, (2, ((0 : Nat) : Int))), (1, (0, a1))] [] (ja_up (ja_up (ja_up (ja_up (ja_up (ja_up h 133 ((a1).toNat) 2) 132 ((h 0 202).toNat) (h 60 (h 132 (a1).toNat).toNat)) 134 ((h 0 202).toNat) (h 134 (a1).toNat)) 133 ((h 0 202).toNat) 0) 135 ((h 0 202).toNat) 0) 0 202 ((h 0 202) + 1)) Q
              refine ja_goto 336 dnext_117 rfl ?_
              refine ja_return dnext_336 rfl ?_
              exact k1 (ja_up (ja_up (ja_up (ja_up (ja_up (ja_up h 133 ((a1).toNat) 2) 132 ((h 0 202).toNat) (h 60 (h 132 (a1).toNat).toNat)) 134 ((h 0 202).toNat) (h 134 (a1).toNat)) 133 ((h 0 202).toNat) 0) 135 ((h 0 202).toNat) 0) 0 202 ((h 0 202) + 1)) (⟨ev_ask (e := a1) (c := (h 60 (h 132 (a1).toNat).toNat)) (r := (h 134 (a1).toNat)) g g52 p6 (by omega) (by omega) (by (repeat (first | exact ag_refl | refine ag_up rfl ?_))) (show (((h 0 202) + 1) : Int) = (h 0 202) + 1 by omega) (fun j h1 h2 => by refine ⟨?_, ?_, ?_, ?_⟩ <;> simp [ja_up, h1, h2]) (by simp [ja_up, hne]) (by simp [ja_up, hne]) (by omega) (by simp [ja_up, hne] <;> omega) (by simp [ja_up]) (by simp [ja_up]) (by simp [ja_up]) (by simp [ja_up]) (kd1 (by omega)).2 ⟨by omega, by omega⟩ (by unfold evD; simp [ja_up, hne, p31] <;> omega), (by (repeat (first | exact ag_refl | refine ag_up rfl ?_))), (by (repeat (first | exact p4 | refine vi_set (by decide) (by decide) (by decide) ?_ (by first | exact (fun z => absurd z (by decide)) | exact vi_aS p4 (by decide) _ | exact (fun z => ⟨by omega, hca⟩) | exact (fun z => ⟨by omega, hca z⟩) | (intro z; exfalso; omega)) | refine vi_res ?_ (by first | exact (fun z => absurd z (by decide)) | exact vi_aS p4 (by decide) _ | exact (fun z => ⟨by omega, hca⟩) | exact (fun z => ⟨by omega, hca z⟩) | (intro z; exfalso; omega)) | refine vi_arr (by decide) (by decide) ?_ | refine vi_up (by decide) (by decide) ?_)))⟩) g52
            · refine ja_aload_n dnext_94 rfl rfl ?_
              refine ja_iload_n dnext_95 rfl rfl ?_
              refine t_undo (by decide) (show (0 : Nat) ≤ 8 by decide) dnext_96 g ⟨by omega, by omega⟩ (show 0 ≤ (h 132 (a1).toNat) ∧ (h 132 (a1).toNat) ≤ 899 by omega) (show 0 ≤ (h 59 (h 132 (a1).toNat).toNat) ∧ (h 59 (h 132 (a1).toNat).toNat) ≤ 899 by omega) (p4) ?_
              intro h53 k96_0 g54
              have c_ev : (h53 0 202) = (h 0 202) := k96_0.1 0 202 rfl
              have c_nodeB : (h53 60) = (h 60) := funext fun j => k96_0.1 60 j rfl
              have c_nb := congrFun c_nodeB (h 132 (a1).toNat).toNat
              refine ja_aload_n dnext_99 rfl rfl ?_
              refine fa_evState dnext_100 ?_
              refine ja_iload_n dnext_103 rfl rfl ?_
              refine ja_iconst dnext_104 ?_
              have g55 := gW_evState g54 (a1).toNat (x := 2) ⟨by decide, by decide⟩
              refine is_evState ⟨by omega, by omega⟩ dnext_105 ?_
              refine ja_aload_n dnext_106 rfl rfl ?_
              refine ja_aload_n dnext_107 rfl rfl ?_
              refine fa_nodeB dnext_108 ?_
              refine ja_iload_n dnext_111 rfl rfl ?_
              refine il_nodeB (v := h53 60 (h 132 (a1).toNat).toNat) rfl ⟨by omega, by omega⟩ dnext_112 ?_
              have f56 := gC_nodeB g54 (h 132 (a1).toNat).toNat
              refine ja_iload_n dnext_113 rfl rfl ?_
              refine t_ask (by decide) (show (0 : Nat) ≤ 8 by decide) dnext_114 g55 ⟨by omega, by omega⟩ ⟨by omega, by omega⟩ (show 0 ≤ (h53 60 (h 132 (a1).toNat).toNat) ∧ (h53 60 (h 132 (a1).toNat).toNat) ≤ 899 by omega) (show 0 ≤ (h 134 (a1).toNat) ∧ (h 134 (a1).toNat) ≤ 119 by omega) (show (h53 0 202) ≤ 999 by omega) ?_
              intro g57
              replace g57 : mo_G mo_zr (ja_up (ja_up (ja_up (ja_up (ja_up (ja_up h53 133 ((a1).toNat) 2) 132 ((h53 0 202).toNat) (h53 60 (h 132 (a1).toNat).toNat)) 134 ((h53 0 202).toNat) (h 134 (a1).toNat)) 133 ((h53 0 202).toNat) 0) 135 ((h53 0 202).toNat) 0) 0 202 ((h53 0 202) + 1)) := g57
              show mJ l D cA ad 2 cX12_next 6 none 117 [(4, (0, (h 58 (h 132 (a1).toNat).toNat))), (3, (0, (h 134 (a1).toNat))), (2, (0, (h 132 (a1).toNat))), (0, (2, ((0 : Nat) : Int))), (1, (0, a1))] [] (ja_up (ja_up (ja_up (ja_up (ja_up (ja_up h53 133 ((a1).toNat) 2) 132 ((h53 0 202).toNat) (h53 60 (h 132 (a1).toNat).toNat)) 134 ((h53 0 202).toNat) (h 134 (a1).toNat)) 133 ((h53 0 202).toNat) 0) 135 ((h53 0 202).toNat) 0) 0 202 ((h53 0 202) + 1)) Q
              refine ja_goto 336 dnext_117 rfl ?_
              refine ja_return dnext_336 rfl ?_
              exact k1 (ja_up (ja_up (ja_up (ja_up (ja_up (ja_up h53 133 ((a1).toNat) 2) 132 ((h53 0 202).toNat) (h53 60 (h 132 (a1).toNat).toNat)) 134 ((h53 0 202).toNat) (h 134 (a1).toNat)) 133 ((h53 0 202).toNat) 0) 135 ((h53 0 202).toNat) 0) 0 202 ((h53 0 202) + 1)) (⟨ev_ask (e := a1) (c := (h 60 (h 132 (a1).toNat).toNat)) (r := (h 134 (a1).toNat)) g g57 p6 (by omega) (by omega) (ag_trans (by (repeat (first | exact ag_refl | refine ag_up rfl ?_))) (ag_trans (ag_sub (X_X (by decide) (by decide)) k96_0.1) (by (repeat (first | exact ag_refl | refine ag_up rfl ?_))))) (show (((h53 0 202) + 1) : Int) = (h 0 202) + 1 by omega) (fun j h1 h2 => ⟨(show ((ja_up (ja_up (ja_up (ja_up (ja_up (ja_up h53 133 ((a1).toNat) 2) 132 ((h53 0 202).toNat) (h53 60 (h 132 (a1).toNat).toNat)) 134 ((h53 0 202).toNat) (h 134 (a1).toNat)) 133 ((h53 0 202).toNat) 0) 135 ((h53 0 202).toNat) 0) 0 202 ((h53 0 202) + 1)) 132) j = (h53 132) j from (by simp [ja_up, c_ev, h1, h2])).trans (k96_0.1 132 j rfl), (show ((ja_up (ja_up (ja_up (ja_up (ja_up (ja_up h53 133 ((a1).toNat) 2) 132 ((h53 0 202).toNat) (h53 60 (h 132 (a1).toNat).toNat)) 134 ((h53 0 202).toNat) (h 134 (a1).toNat)) 133 ((h53 0 202).toNat) 0) 135 ((h53 0 202).toNat) 0) 0 202 ((h53 0 202) + 1)) 134) j = (h53 134) j from (by simp [ja_up, c_ev, h1, h2])).trans (k96_0.1 134 j rfl), (show ((ja_up (ja_up (ja_up (ja_up (ja_up (ja_up h53 133 ((a1).toNat) 2) 132 ((h53 0 202).toNat) (h53 60 (h 132 (a1).toNat).toNat)) 134 ((h53 0 202).toNat) (h 134 (a1).toNat)) 133 ((h53 0 202).toNat) 0) 135 ((h53 0 202).toNat) 0) 0 202 ((h53 0 202) + 1)) 133) j = (h53 133) j from (by simp [ja_up, c_ev, h1, h2])).trans (k96_0.1 133 j rfl), (show ((ja_up (ja_up (ja_up (ja_up (ja_up (ja_up h53 133 ((a1).toNat) 2) 132 ((h53 0 202).toNat) (h53 60 (h 132 (a1).toNat).toNat)) 134 ((h53 0 202).toNat) (h 134 (a1).toNat)) 133 ((h53 0 202).toNat) 0) 135 ((h53 0 202).toNat) 0) 0 202 ((h53 0 202) + 1)) 135) j = (h53 135) j from (by simp [ja_up, c_ev, h1, h2])).trans (k96_0.1 135 j rfl)⟩) ((show ((ja_up (ja_up (ja_up (ja_up (ja_up (ja_up h53 133 ((a1).toNat) 2) 132 ((h53 0 202).toNat) (h53 60 (h 132 (a1).toNat).toNat)) 134 ((h53 0 202).toNat) (h 134 (a1).toNat)) 133 ((h53 0 202).toNat) 0) 135 ((h53 0 202).toNat) 0) 0 202 ((h53 0 202) + 1)) 132) (a1).toNat = (h53 132) (a1).toNat from (by simp [ja_up, hne, c_ev])).trans (k96_0.1 132 (a1).toNat rfl)) ((show ((ja_up (ja_up (ja_up (ja_up (ja_up (ja_up h53 133 ((a1).toNat) 2) 132 ((h53 0 202).toNat) (h53 60 (h 132 (a1).toNat).toNat)) 134 ((h53 0 202).toNat) (h 134 (a1).toNat)) 133 ((h53 0 202).toNat) 0) 135 ((h53 0 202).toNat) 0) 0 202 ((h53 0 202) + 1)) 134) (a1).toNat = (h53 134) (a1).toNat from (by simp [ja_up, hne, c_ev])).trans (k96_0.1 134 (a1).toNat rfl)) (by omega) (by have zz : ((ja_up (ja_up (ja_up (ja_up (ja_up (ja_up h53 133 ((a1).toNat) 2) 132 ((h53 0 202).toNat) (h53 60 (h 132 (a1).toNat).toNat)) 134 ((h53 0 202).toNat) (h 134 (a1).toNat)) 133 ((h53 0 202).toNat) 0) 135 ((h53 0 202).toNat) 0) 0 202 ((h53 0 202) + 1)) 135) (a1).toNat = (h 135 (a1).toNat) := ((show ((ja_up (ja_up (ja_up (ja_up (ja_up (ja_up h53 133 ((a1).toNat) 2) 132 ((h53 0 202).toNat) (h53 60 (h 132 (a1).toNat).toNat)) 134 ((h53 0 202).toNat) (h 134 (a1).toNat)) 133 ((h53 0 202).toNat) 0) 135 ((h53 0 202).toNat) 0) 0 202 ((h53 0 202) + 1)) 135) (a1).toNat = (h53 135) (a1).toNat from (by simp [ja_up, hne, c_ev])).trans (k96_0.1 135 (a1).toNat rfl)); omega) (by simp [ja_up, c_ev, c_nodeB]) (by simp [ja_up, c_ev]) (by simp [ja_up, c_ev]) (by simp [ja_up, c_ev]) (kd1 (by omega)).2 ⟨by omega, by omega⟩ (by have yy : ((ja_up (ja_up (ja_up (ja_up (ja_up (ja_up h53 133 ((a1).toNat) 2) 132 ((h53 0 202).toNat) (h53 60 (h 132 (a1).toNat).toNat)) 134 ((h53 0 202).toNat) (h 134 (a1).toNat)) 133 ((h53 0 202).toNat) 0) 135 ((h53 0 202).toNat) 0) 0 202 ((h53 0 202) + 1)) 133) (a1).toNat = 2 := (by simp [ja_up, hne, c_ev]); unfold evD; rw [yy]; simp [p31] <;> omega), (ag_trans (by (repeat (first | exact ag_refl | refine ag_up rfl ?_))) (ag_trans (ag_sub (X_X (by decide) (by decide)) k96_0.1) (by (repeat (first | exact ag_refl | refine ag_up rfl ?_))))), (by (repeat (first | exact k96_0.2 | refine vi_set (by decide) (by decide) (by decide) ?_ (by first | exact (fun z => absurd z (by decide)) | exact vi_aS k96_0.2 (by decide) _ | exact (fun z => ⟨by omega, hca⟩) | exact (fun z => ⟨by omega, hca z⟩) | (intro z; exfalso; omega)) | refine vi_res ?_ (by first | exact (fun z => absurd z (by decide)) | exact vi_aS k96_0.2 (by decide) _ | exact (fun z => ⟨by omega, hca⟩) | exact (fun z => ⟨by omega, hca z⟩) | (intro z; exfalso; omega)) | refine vi_arr (by decide) (by decide) ?_ | refine vi_up (by decide) (by decide) ?_)))⟩) g57
          · refine ja_aload_n dnext_76 rfl rfl ?_
            refine ja_aload_n dnext_77 rfl rfl ?_
            refine fg_isSo (v := h 0 203) rfl dnext_78 ?_
            refine t_answer (by decide) (show (0 : Nat) ≤ 8 by decide) dnext_81 g ⟨by omega, by omega⟩ (show 1 ≤ (h 0 202) by omega) ?_
            intro g58
            replace g58 : mo_G mo_zr (ja_up (ja_up h 0 203 (h 0 203)) 0 202 ((h 0 202) - 1)) := g58
            show mJ l D cA ad 2 cX12_next 6 none 84 [(4, (0, (h 58 (h 132 (a1).toNat).toNat))), (3, (0, (h 134 (a1).toNat))), (2, (0, (h 132 (a1).toNat))), (0, (2, ((0 : Nat) : Int))), (1, (0, a1))] [] (ja_up (ja_up h 0 203 (h 0 203)) 0 202 ((h 0 202) - 1)) Q
            refine ja_goto 336 dnext_84 rfl ?_
            refine ja_return dnext_336 rfl ?_
            exact k1 (ja_up (ja_up h 0 203 (h 0 203)) 0 202 ((h 0 202) - 1)) (⟨ev_pop (e := a1) g58 p6 (by omega) (by omega) (by omega) (by (repeat (first | exact ag_refl | refine ag_up rfl ?_))) (show (((h 0 202) - 1) : Int) = (h 0 202) - 1 by omega) (fun j hj => by refine ⟨?_, ?_, ?_, ?_⟩ <;> simp [ja_up, hj]) g, (by (repeat (first | exact ag_refl | refine ag_up rfl ?_))), (by (repeat (first | exact p4 | refine vi_set (by decide) (by decide) (by decide) ?_ (by first | exact (fun z => absurd z (by decide)) | exact vi_aS p4 (by decide) _ | exact (fun z => ⟨by omega, hca⟩) | exact (fun z => ⟨by omega, hca z⟩) | (intro z; exfalso; omega)) | refine vi_res ?_ (by first | exact (fun z => absurd z (by decide)) | exact vi_aS p4 (by decide) _ | exact (fun z => ⟨by omega, hca⟩) | exact (fun z => ⟨by omega, hca z⟩) | (intro z; exfalso; omega)) | refine vi_arr (by decide) (by decide) ?_ | refine vi_up (by decide) (by decide) ?_)))⟩) g58
        · refine ja_iconst dnext_68 ?_
          refine ja_goto 73 dnext_69 rfl ?_
          refine ja_icmp_ne 87 dnext_73 rfl ⟨by omega, by omega⟩ ⟨by decide, by decide⟩ (fun c73 => ?_) (fun c73 => ?_)
          · refine ja_iload dnext_87 rfl ?_
            refine ja_bipush 14 dnext_89 rfl ?_
            refine ja_icmp_ne 99 dnext_91 rfl ⟨by omega, by omega⟩ ⟨by decide, by decide⟩ (fun c91 => ?_) (fun c91 => ?_)
            · refine ja_aload_n dnext_99 rfl rfl ?_
              refine fa_evState dnext_100 ?_
              refine ja_iload_n dnext_103 rfl rfl ?_
              refine ja_iconst dnext_104 ?_
              have g59 := gW_evState g (a1).toNat (x := 2) ⟨by decide, by decide⟩
              refine is_evState ⟨by omega, by omega⟩ dnext_105 ?_
              refine ja_aload_n dnext_106 rfl rfl ?_
              refine ja_aload_n dnext_107 rfl rfl ?_
              refine fa_nodeB dnext_108 ?_
              refine ja_iload_n dnext_111 rfl rfl ?_
              refine il_nodeB (v := h 60 (h 132 (a1).toNat).toNat) rfl ⟨by omega, by omega⟩ dnext_112 ?_
              have f60 := gC_nodeB g (h 132 (a1).toNat).toNat
              refine ja_iload_n dnext_113 rfl rfl ?_
              refine t_ask (by decide) (show (0 : Nat) ≤ 8 by decide) dnext_114 g59 ⟨by omega, by omega⟩ ⟨by omega, by omega⟩ (show 0 ≤ (h 60 (h 132 (a1).toNat).toNat) ∧ (h 60 (h 132 (a1).toNat).toNat) ≤ 899 by omega) (show 0 ≤ (h 134 (a1).toNat) ∧ (h 134 (a1).toNat) ≤ 119 by omega) (show (h 0 202) ≤ 999 by omega) ?_
              intro g61
              replace g61 : mo_G mo_zr (ja_up (ja_up (ja_up (ja_up (ja_up (ja_up h 133 ((a1).toNat) 2) 132 ((h 0 202).toNat) (h 60 (h 132 (a1).toNat).toNat)) 134 ((h 0 202).toNat) (h 134 (a1).toNat)) 133 ((h 0 202).toNat) 0) 135 ((h 0 202).toNat) 0) 0 202 ((h 0 202) + 1)) := g61
              show mJ l D cA ad 2 cX12_next 6 none 117 [(4, (0, (h 58 (h 132 (a1).toNat).toNat))), (3, (0, (h 134 (a1).toNat))), (2, (0, (h 132 (a1).toNat))), (0, (2, ((0 : Nat) : Int))), (1, (0, a1))] [] (ja_up (ja_up (ja_up (ja_up (ja_up (ja_up h 133 ((a1).toNat) 2) 132 ((h 0 202).toNat) (h 60 (h 132 (a1).toNat).toNat)) 134 ((h 0 202).toNat) (h 134 (a1).toNat)) 133 ((h 0 202).toNat) 0) 135 ((h 0 202).toNat) 0) 0 202 ((h 0 202) + 1)) Q
              refine ja_goto 336 dnext_117 rfl ?_
              refine ja_return dnext_336 rfl ?_
              exact k1 (ja_up (ja_up (ja_up (ja_up (ja_up (ja_up h 133 ((a1).toNat) 2) 132 ((h 0 202).toNat) (h 60 (h 132 (a1).toNat).toNat)) 134 ((h 0 202).toNat) (h 134 (a1).toNat)) 133 ((h 0 202).toNat) 0) 135 ((h 0 202).toNat) 0) 0 202 ((h 0 202) + 1)) (⟨ev_ask (e := a1) (c := (h 60 (h 132 (a1).toNat).toNat)) (r := (h 134 (a1).toNat)) g g61 p6 (by omega) (by omega) (by (repeat (first | exact ag_refl | refine ag_up rfl ?_))) (show (((h 0 202) + 1) : Int) = (h 0 202) + 1 by omega) (fun j h1 h2 => by refine ⟨?_, ?_, ?_, ?_⟩ <;> simp [ja_up, h1, h2]) (by simp [ja_up, hne]) (by simp [ja_up, hne]) (by omega) (by simp [ja_up, hne] <;> omega) (by simp [ja_up]) (by simp [ja_up]) (by simp [ja_up]) (by simp [ja_up]) (kd1 (by omega)).2 ⟨by omega, by omega⟩ (by unfold evD; simp [ja_up, hne, p31] <;> omega), (by (repeat (first | exact ag_refl | refine ag_up rfl ?_))), (by (repeat (first | exact p4 | refine vi_set (by decide) (by decide) (by decide) ?_ (by first | exact (fun z => absurd z (by decide)) | exact vi_aS p4 (by decide) _ | exact (fun z => ⟨by omega, hca⟩) | exact (fun z => ⟨by omega, hca z⟩) | (intro z; exfalso; omega)) | refine vi_res ?_ (by first | exact (fun z => absurd z (by decide)) | exact vi_aS p4 (by decide) _ | exact (fun z => ⟨by omega, hca⟩) | exact (fun z => ⟨by omega, hca z⟩) | (intro z; exfalso; omega)) | refine vi_arr (by decide) (by decide) ?_ | refine vi_up (by decide) (by decide) ?_)))⟩) g61
            · refine ja_aload_n dnext_94 rfl rfl ?_
              refine ja_iload_n dnext_95 rfl rfl ?_
              refine t_undo (by decide) (show (0 : Nat) ≤ 8 by decide) dnext_96 g ⟨by omega, by omega⟩ (show 0 ≤ (h 132 (a1).toNat) ∧ (h 132 (a1).toNat) ≤ 899 by omega) (show 0 ≤ (h 59 (h 132 (a1).toNat).toNat) ∧ (h 59 (h 132 (a1).toNat).toNat) ≤ 899 by omega) (p4) ?_
              intro h62 k96_0 g63
              have c_ev : (h62 0 202) = (h 0 202) := k96_0.1 0 202 rfl
              have c_nodeB : (h62 60) = (h 60) := funext fun j => k96_0.1 60 j rfl
              have c_nb := congrFun c_nodeB (h 132 (a1).toNat).toNat
              refine ja_aload_n dnext_99 rfl rfl ?_
              refine fa_evState dnext_100 ?_
              refine ja_iload_n dnext_103 rfl rfl ?_
              refine ja_iconst dnext_104 ?_
              have g64 := gW_evState g63 (a1).toNat (x := 2) ⟨by decide, by decide⟩
              refine is_evState ⟨by omega, by omega⟩ dnext_105 ?_
              refine ja_aload_n dnext_106 rfl rfl ?_
              refine ja_aload_n dnext_107 rfl rfl ?_
              refine fa_nodeB dnext_108 ?_
              refine ja_iload_n dnext_111 rfl rfl ?_
              refine il_nodeB (v := h62 60 (h 132 (a1).toNat).toNat) rfl ⟨by omega, by omega⟩ dnext_112 ?_
              have f65 := gC_nodeB g63 (h 132 (a1).toNat).toNat
              refine ja_iload_n dnext_113 rfl rfl ?_
              refine t_ask (by decide) (show (0 : Nat) ≤ 8 by decide) dnext_114 g64 ⟨by omega, by omega⟩ ⟨by omega, by omega⟩ (show 0 ≤ (h62 60 (h 132 (a1).toNat).toNat) ∧ (h62 60 (h 132 (a1).toNat).toNat) ≤ 899 by omega) (show 0 ≤ (h 134 (a1).toNat) ∧ (h 134 (a1).toNat) ≤ 119 by omega) (show (h62 0 202) ≤ 999 by omega) ?_
              intro g66
              replace g66 : mo_G mo_zr (ja_up (ja_up (ja_up (ja_up (ja_up (ja_up h62 133 ((a1).toNat) 2) 132 ((h62 0 202).toNat) (h62 60 (h 132 (a1).toNat).toNat)) 134 ((h62 0 202).toNat) (h 134 (a1).toNat)) 133 ((h62 0 202).toNat) 0) 135 ((h62 0 202).toNat) 0) 0 202 ((h62 0 202) + 1)) := g66
              show mJ l D cA ad 2 cX12_next 6 none 117 [(4, (0, (h 58 (h 132 (a1).toNat).toNat))), (3, (0, (h 134 (a1).toNat))), (2, (0, (h 132 (a1).toNat))), (0, (2, ((0 : Nat) : Int))), (1, (0, a1))] [] (ja_up (ja_up (ja_up (ja_up (ja_up (ja_up h62 133 ((a1).toNat) 2) 132 ((h62 0 202).toNat) (h62 60 (h 132 (a1).toNat).toNat)) 134 ((h62 0 202).toNat) (h 134 (a1).toNat)) 133 ((h62 0 202).toNat) 0) 135 ((h62 0 202).toNat) 0) 0 202 ((h62 0 202) + 1)) Q
              refine ja_goto 336 dnext_117 rfl ?_
              refine ja_return dnext_336 rfl ?_
              exact k1 (ja_up (ja_up (ja_up (ja_up (ja_up (ja_up h62 133 ((a1).toNat) 2) 132 ((h62 0 202).toNat) (h62 60 (h 132 (a1).toNat).toNat)) 134 ((h62 0 202).toNat) (h 134 (a1).toNat)) 133 ((h62 0 202).toNat) 0) 135 ((h62 0 202).toNat) 0) 0 202 ((h62 0 202) + 1)) (⟨ev_ask (e := a1) (c := (h 60 (h 132 (a1).toNat).toNat)) (r := (h 134 (a1).toNat)) g g66 p6 (by omega) (by omega) (ag_trans (by (repeat (first | exact ag_refl | refine ag_up rfl ?_))) (ag_trans (ag_sub (X_X (by decide) (by decide)) k96_0.1) (by (repeat (first | exact ag_refl | refine ag_up rfl ?_))))) (show (((h62 0 202) + 1) : Int) = (h 0 202) + 1 by omega) (fun j h1 h2 => ⟨(show ((ja_up (ja_up (ja_up (ja_up (ja_up (ja_up h62 133 ((a1).toNat) 2) 132 ((h62 0 202).toNat) (h62 60 (h 132 (a1).toNat).toNat)) 134 ((h62 0 202).toNat) (h 134 (a1).toNat)) 133 ((h62 0 202).toNat) 0) 135 ((h62 0 202).toNat) 0) 0 202 ((h62 0 202) + 1)) 132) j = (h62 132) j from (by simp [ja_up, c_ev, h1, h2])).trans (k96_0.1 132 j rfl), (show ((ja_up (ja_up (ja_up (ja_up (ja_up (ja_up h62 133 ((a1).toNat) 2) 132 ((h62 0 202).toNat) (h62 60 (h 132 (a1).toNat).toNat)) 134 ((h62 0 202).toNat) (h 134 (a1).toNat)) 133 ((h62 0 202).toNat) 0) 135 ((h62 0 202).toNat) 0) 0 202 ((h62 0 202) + 1)) 134) j = (h62 134) j from (by simp [ja_up, c_ev, h1, h2])).trans (k96_0.1 134 j rfl), (show ((ja_up (ja_up (ja_up (ja_up (ja_up (ja_up h62 133 ((a1).toNat) 2) 132 ((h62 0 202).toNat) (h62 60 (h 132 (a1).toNat).toNat)) 134 ((h62 0 202).toNat) (h 134 (a1).toNat)) 133 ((h62 0 202).toNat) 0) 135 ((h62 0 202).toNat) 0) 0 202 ((h62 0 202) + 1)) 133) j = (h62 133) j from (by simp [ja_up, c_ev, h1, h2])).trans (k96_0.1 133 j rfl), (show ((ja_up (ja_up (ja_up (ja_up (ja_up (ja_up h62 133 ((a1).toNat) 2) 132 ((h62 0 202).toNat) (h62 60 (h 132 (a1).toNat).toNat)) 134 ((h62 0 202).toNat) (h 134 (a1).toNat)) 133 ((h62 0 202).toNat) 0) 135 ((h62 0 202).toNat) 0) 0 202 ((h62 0 202) + 1)) 135) j = (h62 135) j from (by simp [ja_up, c_ev, h1, h2])).trans (k96_0.1 135 j rfl)⟩) ((show ((ja_up (ja_up (ja_up (ja_up (ja_up (ja_up h62 133 ((a1).toNat) 2) 132 ((h62 0 202).toNat) (h62 60 (h 132 (a1).toNat).toNat)) 134 ((h62 0 202).toNat) (h 134 (a1).toNat)) 133 ((h62 0 202).toNat) 0) 135 ((h62 0 202).toNat) 0) 0 202 ((h62 0 202) + 1)) 132) (a1).toNat = (h62 132) (a1).toNat from (by simp [ja_up, hne, c_ev])).trans (k96_0.1 132 (a1).toNat rfl)) ((show ((ja_up (ja_up (ja_up (ja_up (ja_up (ja_up h62 133 ((a1).toNat) 2) 132 ((h62 0 202).toNat) (h62 60 (h 132 (a1).toNat).toNat)) 134 ((h62 0 202).toNat) (h 134 (a1).toNat)) 133 ((h62 0 202).toNat) 0) 135 ((h62 0 202).toNat) 0) 0 202 ((h62 0 202) + 1)) 134) (a1).toNat = (h62 134) (a1).toNat from (by simp [ja_up, hne, c_ev])).trans (k96_0.1 134 (a1).toNat rfl)) (by omega) (by have zz : ((ja_up (ja_up (ja_up (ja_up (ja_up (ja_up h62 133 ((a1).toNat) 2) 132 ((h62 0 202).toNat) (h62 60 (h 132 (a1).toNat).toNat)) 134 ((h62 0 202).toNat) (h 134 (a1).toNat)) 133 ((h62 0 202).toNat) 0) 135 ((h62 0 202).toNat) 0) 0 202 ((h62 0 202) + 1)) 135) (a1).toNat = (h 135 (a1).toNat) := ((show ((ja_up (ja_up (ja_up (ja_up (ja_up (ja_up h62 133 ((a1).toNat) 2) 132 ((h62 0 202).toNat) (h62 60 (h 132 (a1).toNat).toNat)) 134 ((h62 0 202).toNat) (h 134 (a1).toNat)) 133 ((h62 0 202).toNat) 0) 135 ((h62 0 202).toNat) 0) 0 202 ((h62 0 202) + 1)) 135) (a1).toNat = (h62 135) (a1).toNat from (by simp [ja_up, hne, c_ev])).trans (k96_0.1 135 (a1).toNat rfl)); omega) (by simp [ja_up, c_ev, c_nodeB]) (by simp [ja_up, c_ev]) (by simp [ja_up, c_ev]) (by simp [ja_up, c_ev]) (kd1 (by omega)).2 ⟨by omega, by omega⟩ (by have yy : ((ja_up (ja_up (ja_up (ja_up (ja_up (ja_up h62 133 ((a1).toNat) 2) 132 ((h62 0 202).toNat) (h62 60 (h 132 (a1).toNat).toNat)) 134 ((h62 0 202).toNat) (h 134 (a1).toNat)) 133 ((h62 0 202).toNat) 0) 135 ((h62 0 202).toNat) 0) 0 202 ((h62 0 202) + 1)) 133) (a1).toNat = 2 := (by simp [ja_up, hne, c_ev]); unfold evD; rw [yy]; simp [p31] <;> omega), (ag_trans (by (repeat (first | exact ag_refl | refine ag_up rfl ?_))) (ag_trans (ag_sub (X_X (by decide) (by decide)) k96_0.1) (by (repeat (first | exact ag_refl | refine ag_up rfl ?_))))), (by (repeat (first | exact k96_0.2 | refine vi_set (by decide) (by decide) (by decide) ?_ (by first | exact (fun z => absurd z (by decide)) | exact vi_aS k96_0.2 (by decide) _ | exact (fun z => ⟨by omega, hca⟩) | exact (fun z => ⟨by omega, hca z⟩) | (intro z; exfalso; omega)) | refine vi_res ?_ (by first | exact (fun z => absurd z (by decide)) | exact vi_aS k96_0.2 (by decide) _ | exact (fun z => ⟨by omega, hca⟩) | exact (fun z => ⟨by omega, hca z⟩) | (intro z; exfalso; omega)) | refine vi_arr (by decide) (by decide) ?_ | refine vi_up (by decide) (by decide) ?_)))⟩) g66
          · refine ja_aload_n dnext_76 rfl rfl ?_
            refine ja_aload_n dnext_77 rfl rfl ?_
            refine fg_isSo (v := h 0 203) rfl dnext_78 ?_
            refine t_answer (by decide) (show (0 : Nat) ≤ 8 by decide) dnext_81 g ⟨by omega, by omega⟩ (show 1 ≤ (h 0 202) by omega) ?_
            intro g67
            replace g67 : mo_G mo_zr (ja_up (ja_up h 0 203 (h 0 203)) 0 202 ((h 0 202) - 1)) := g67
            show mJ l D cA ad 2 cX12_next 6 none 84 [(4, (0, (h 58 (h 132 (a1).toNat).toNat))), (3, (0, (h 134 (a1).toNat))), (2, (0, (h 132 (a1).toNat))), (0, (2, ((0 : Nat) : Int))), (1, (0, a1))] [] (ja_up (ja_up h 0 203 (h 0 203)) 0 202 ((h 0 202) - 1)) Q
            refine ja_goto 336 dnext_84 rfl ?_
            refine ja_return dnext_336 rfl ?_
            exact k1 (ja_up (ja_up h 0 203 (h 0 203)) 0 202 ((h 0 202) - 1)) (⟨ev_pop (e := a1) g67 p6 (by omega) (by omega) (by omega) (by (repeat (first | exact ag_refl | refine ag_up rfl ?_))) (show (((h 0 202) - 1) : Int) = (h 0 202) - 1 by omega) (fun j hj => by refine ⟨?_, ?_, ?_, ?_⟩ <;> simp [ja_up, hj]) g, (by (repeat (first | exact ag_refl | refine ag_up rfl ?_))), (by (repeat (first | exact p4 | refine vi_set (by decide) (by decide) (by decide) ?_ (by first | exact (fun z => absurd z (by decide)) | exact vi_aS p4 (by decide) _ | exact (fun z => ⟨by omega, hca⟩) | exact (fun z => ⟨by omega, hca z⟩) | (intro z; exfalso; omega)) | refine vi_res ?_ (by first | exact (fun z => absurd z (by decide)) | exact vi_aS p4 (by decide) _ | exact (fun z => ⟨by omega, hca⟩) | exact (fun z => ⟨by omega, hca z⟩) | (intro z; exfalso; omega)) | refine vi_arr (by decide) (by decide) ?_ | refine vi_up (by decide) (by decide) ?_)))⟩) g67
  · refine ja_aload_n dnext_32 rfl rfl ?_
    refine ja_aload_n dnext_33 rfl rfl ?_
    refine fg_isSo (v := h 0 203) rfl dnext_34 ?_
    have f68 := gF_isSo g
    refine t_answer (by decide) (show (0 : Nat) ≤ 8 by decide) dnext_37 g ⟨by omega, by omega⟩ (show 1 ≤ (h 0 202) by omega) ?_
    intro g69
    replace g69 : mo_G mo_zr (ja_up (ja_up h 0 203 (h 0 203)) 0 202 ((h 0 202) - 1)) := g69
    show mJ l D cA ad 2 cX12_next 6 none 40 [(4, (0, (h 58 (h 132 (a1).toNat).toNat))), (3, (0, (h 134 (a1).toNat))), (2, (0, (h 132 (a1).toNat))), (0, (2, ((0 : Nat) : Int))), (1, (0, a1))] [] (ja_up (ja_up h 0 203 (h 0 203)) 0 202 ((h 0 202) - 1)) Q
    refine ja_goto 336 dnext_40 rfl ?_
    refine ja_return dnext_336 rfl ?_
    exact k1 (ja_up (ja_up h 0 203 (h 0 203)) 0 202 ((h 0 202) - 1)) (⟨ev_pop (e := a1) g69 p6 (by omega) (by omega) (by omega) (by (repeat (first | exact ag_refl | refine ag_up rfl ?_))) (show (((h 0 202) - 1) : Int) = (h 0 202) - 1 by omega) (fun j hj => by refine ⟨?_, ?_, ?_, ?_⟩ <;> simp [ja_up, hj]) g, (by (repeat (first | exact ag_refl | refine ag_up rfl ?_))), (by (repeat (first | exact p4 | refine vi_set (by decide) (by decide) (by decide) ?_ (by first | exact (fun z => absurd z (by decide)) | exact vi_aS p4 (by decide) _ | exact (fun z => ⟨by omega, hca⟩) | exact (fun z => ⟨by omega, hca z⟩) | (intro z; exfalso; omega)) | refine vi_res ?_ (by first | exact (fun z => absurd z (by decide)) | exact vi_aS p4 (by decide) _ | exact (fun z => ⟨by omega, hca⟩) | exact (fun z => ⟨by omega, hca z⟩) | (intro z; exfalso; omega)) | refine vi_arr (by decide) (by decide) ?_ | refine vi_up (by decide) (by decide) ?_)))⟩) g69
theorem t_next {a1 : Int} {ht st rg : Nat → Int} {d nL pc : Nat} {cc : ByteArray} {rt : Option FieldType} {L : List (Nat × ja_V)} {S : List ja_V} {h : ja_H} {Q : Option ja_V → ja_H → Prop} (hdd : 2 < d) (hwd : ja_wd S ≤ 8) (hd : decode cc pc = .ok (.invokevirtual 1144, 3)) (g : mo_G mo_zr h) (r1 : -2147483648 ≤ a1 ∧ a1 ≤ 2147483647) (p1 : a1 = (h 0 202) - 1) (p2 : 1 ≤ (h 0 202)) (p3 : ¬ (h 133 (a1).toNat) = 0) (p4 : VI h) (p5 : CI h ht st rg) (p6 : evI h) (p7 : RW h) (k1 : ∀ (h' : ja_H), ((evI h' ∧ evV h' < evV h) ∧ mo_ag FEVK h h' ∧ VI h') → mo_G mo_zr h' → mJ l D cA ad d cc nL rt (pc + 3) L S h' Q) : mJ l D cA ad d cc nL rt pc L ((0, a1) :: (2, ((0 : Nat) : Int)) :: S) h Q :=
  mc_next hdd hwd hd (s_next g r1 p1 p2 p3 p4 p5 p6 p7 k1)
end
