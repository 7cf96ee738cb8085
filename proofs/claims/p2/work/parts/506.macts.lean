/-! the reference: its acts, dispatch (written by a program) -/
variable {Zz : Zc}
theorem dexpressionAct_0 : decode cX12_expressionAct 0 = .ok (.iload_n 1, 1) := by decide +kernel
theorem dexpressionAct_1 : decode cX12_expressionAct 1 = .ok (.tableswitch 302 1 12 #[63, 69, 75, 97, 124, 156, 161, 166, 227, 233, 233, 275], 63) := by decide +kernel
theorem dexpressionAct_64 : decode cX12_expressionAct 64 = .ok (.aload_n 0, 1) := by decide +kernel
theorem dexpressionAct_65 : decode cX12_expressionAct 65 = .ok (.iload_n 2, 1) := by decide +kernel
theorem dexpressionAct_66 : decode cX12_expressionAct 66 = .ok (.invokevirtual 844, 3) := by decide +kernel
theorem dexpressionAct_69 : decode cX12_expressionAct 69 = .ok (.ireturn, 1) := by decide +kernel
theorem dexpressionAct_70 : decode cX12_expressionAct 70 = .ok (.aload_n 0, 1) := by decide +kernel
theorem dexpressionAct_71 : decode cX12_expressionAct 71 = .ok (.iload_n 2, 1) := by decide +kernel
theorem dexpressionAct_72 : decode cX12_expressionAct 72 = .ok (.invokevirtual 847, 3) := by decide +kernel
theorem dexpressionAct_75 : decode cX12_expressionAct 75 = .ok (.ireturn, 1) := by decide +kernel
theorem dexpressionAct_76 : decode cX12_expressionAct 76 = .ok (.aload_n 0, 1) := by decide +kernel
theorem dexpressionAct_77 : decode cX12_expressionAct 77 = .ok (.iconst 0, 1) := by decide +kernel
theorem dexpressionAct_78 : decode cX12_expressionAct 78 = .ok (.putfield 838, 3) := by decide +kernel
theorem dexpressionAct_81 : decode cX12_expressionAct 81 = .ok (.aload_n 0, 1) := by decide +kernel
theorem dexpressionAct_82 : decode cX12_expressionAct 82 = .ok (.bipush 9, 2) := by decide +kernel
theorem dexpressionAct_84 : decode cX12_expressionAct 84 = .ok (.iload_n 2, 1) := by decide +kernel
theorem dexpressionAct_85 : decode cX12_expressionAct 85 = .ok (.iconst 0, 1) := by decide +kernel
theorem dexpressionAct_86 : decode cX12_expressionAct 86 = .ok (.invokevirtual 732, 3) := by decide +kernel
theorem dexpressionAct_89 : decode cX12_expressionAct 89 = .ok (.ifCond .lt 7, 3) := by decide +kernel
theorem dexpressionAct_92 : decode cX12_expressionAct 92 = .ok (.iconst 1, 1) := by decide +kernel
theorem dexpressionAct_93 : decode cX12_expressionAct 93 = .ok (.goto 4, 3) := by decide +kernel
theorem dexpressionAct_96 : decode cX12_expressionAct 96 = .ok (.iconst 0, 1) := by decide +kernel
theorem dexpressionAct_97 : decode cX12_expressionAct 97 = .ok (.ireturn, 1) := by decide +kernel
theorem dexpressionAct_98 : decode cX12_expressionAct 98 = .ok (.aload_n 0, 1) := by decide +kernel
theorem dexpressionAct_99 : decode cX12_expressionAct 99 = .ok (.iconst 0, 1) := by decide +kernel
theorem dexpressionAct_100 : decode cX12_expressionAct 100 = .ok (.putfield 838, 3) := by decide +kernel
theorem dexpressionAct_103 : decode cX12_expressionAct 103 = .ok (.aload_n 0, 1) := by decide +kernel
theorem dexpressionAct_104 : decode cX12_expressionAct 104 = .ok (.bipush 14, 2) := by decide +kernel
theorem dexpressionAct_106 : decode cX12_expressionAct 106 = .ok (.iconst 0, 1) := by decide +kernel
theorem dexpressionAct_107 : decode cX12_expressionAct 107 = .ok (.iconst 0, 1) := by decide +kernel
theorem dexpressionAct_108 : decode cX12_expressionAct 108 = .ok (.invokevirtual 732, 3) := by decide +kernel
theorem dexpressionAct_111 : decode cX12_expressionAct 111 = .ok (.istore 4, 2) := by decide +kernel
theorem dexpressionAct_113 : decode cX12_expressionAct 113 = .ok (.aload_n 0, 1) := by decide +kernel
theorem dexpressionAct_114 : decode cX12_expressionAct 114 = .ok (.getfield 234, 3) := by decide +kernel
theorem dexpressionAct_117 : decode cX12_expressionAct 117 = .ok (.iload_n 2, 1) := by decide +kernel
theorem dexpressionAct_118 : decode cX12_expressionAct 118 = .ok (.aload_n 0, 1) := by decide +kernel
theorem dexpressionAct_119 : decode cX12_expressionAct 119 = .ok (.getfield 611, 3) := by decide +kernel
theorem dexpressionAct_122 : decode cX12_expressionAct 122 = .ok (.iastore, 1) := by decide +kernel
theorem dexpressionAct_123 : decode cX12_expressionAct 123 = .ok (.iconst 1, 1) := by decide +kernel
theorem dexpressionAct_124 : decode cX12_expressionAct 124 = .ok (.ireturn, 1) := by decide +kernel
theorem dexpressionAct_125 : decode cX12_expressionAct 125 = .ok (.aload_n 0, 1) := by decide +kernel
theorem dexpressionAct_126 : decode cX12_expressionAct 126 = .ok (.iconst 0, 1) := by decide +kernel
theorem dexpressionAct_127 : decode cX12_expressionAct 127 = .ok (.putfield 838, 3) := by decide +kernel
theorem dexpressionAct_130 : decode cX12_expressionAct 130 = .ok (.aload_n 0, 1) := by decide +kernel
theorem dexpressionAct_131 : decode cX12_expressionAct 131 = .ok (.iload_n 2, 1) := by decide +kernel
theorem dexpressionAct_132 : decode cX12_expressionAct 132 = .ok (.iconst 1, 1) := by decide +kernel
theorem dexpressionAct_133 : decode cX12_expressionAct 133 = .ok (.if_icmp .ne 8, 3) := by decide +kernel
theorem dexpressionAct_136 : decode cX12_expressionAct 136 = .ok (.bipush 11, 2) := by decide +kernel
theorem dexpressionAct_138 : decode cX12_expressionAct 138 = .ok (.goto 5, 3) := by decide +kernel
theorem dexpressionAct_141 : decode cX12_expressionAct 141 = .ok (.bipush 10, 2) := by decide +kernel
theorem dexpressionAct_143 : decode cX12_expressionAct 143 = .ok (.iconst 0, 1) := by decide +kernel
theorem dexpressionAct_144 : decode cX12_expressionAct 144 = .ok (.iconst 0, 1) := by decide +kernel
theorem dexpressionAct_145 : decode cX12_expressionAct 145 = .ok (.invokevirtual 732, 3) := by decide +kernel
theorem dexpressionAct_148 : decode cX12_expressionAct 148 = .ok (.ifCond .lt 7, 3) := by decide +kernel
theorem dexpressionAct_151 : decode cX12_expressionAct 151 = .ok (.iconst 1, 1) := by decide +kernel
theorem dexpressionAct_152 : decode cX12_expressionAct 152 = .ok (.goto 4, 3) := by decide +kernel
theorem dexpressionAct_155 : decode cX12_expressionAct 155 = .ok (.iconst 0, 1) := by decide +kernel
theorem dexpressionAct_156 : decode cX12_expressionAct 156 = .ok (.ireturn, 1) := by decide +kernel
theorem dexpressionAct_157 : decode cX12_expressionAct 157 = .ok (.aload_n 0, 1) := by decide +kernel
theorem dexpressionAct_158 : decode cX12_expressionAct 158 = .ok (.invokevirtual 850, 3) := by decide +kernel
theorem dexpressionAct_161 : decode cX12_expressionAct 161 = .ok (.ireturn, 1) := by decide +kernel
theorem dexpressionAct_162 : decode cX12_expressionAct 162 = .ok (.aload_n 0, 1) := by decide +kernel
theorem dexpressionAct_163 : decode cX12_expressionAct 163 = .ok (.invokevirtual 853, 3) := by decide +kernel
theorem dexpressionAct_166 : decode cX12_expressionAct 166 = .ok (.ireturn, 1) := by decide +kernel
theorem dexpressionAct_167 : decode cX12_expressionAct 167 = .ok (.aload_n 0, 1) := by decide +kernel
theorem dexpressionAct_168 : decode cX12_expressionAct 168 = .ok (.bipush 40, 2) := by decide +kernel
theorem dexpressionAct_170 : decode cX12_expressionAct 170 = .ok (.invokevirtual 742, 3) := by decide +kernel
theorem dexpressionAct_173 : decode cX12_expressionAct 173 = .ok (.ifCond .ne 5, 3) := by decide +kernel
theorem dexpressionAct_176 : decode cX12_expressionAct 176 = .ok (.iconst 0, 1) := by decide +kernel
theorem dexpressionAct_177 : decode cX12_expressionAct 177 = .ok (.ireturn, 1) := by decide +kernel
theorem dexpressionAct_178 : decode cX12_expressionAct 178 = .ok (.aload_n 0, 1) := by decide +kernel
theorem dexpressionAct_179 : decode cX12_expressionAct 179 = .ok (.iconst 0, 1) := by decide +kernel
theorem dexpressionAct_180 : decode cX12_expressionAct 180 = .ok (.putfield 856, 3) := by decide +kernel
theorem dexpressionAct_183 : decode cX12_expressionAct 183 = .ok (.aload_n 0, 1) := by decide +kernel
theorem dexpressionAct_184 : decode cX12_expressionAct 184 = .ok (.bipush 41, 2) := by decide +kernel
theorem dexpressionAct_186 : decode cX12_expressionAct 186 = .ok (.invokevirtual 586, 3) := by decide +kernel
theorem dexpressionAct_189 : decode cX12_expressionAct 189 = .ok (.ifCond .eq 10, 3) := by decide +kernel
theorem dexpressionAct_192 : decode cX12_expressionAct 192 = .ok (.aload_n 0, 1) := by decide +kernel
theorem dexpressionAct_193 : decode cX12_expressionAct 193 = .ok (.invokevirtual 589, 3) := by decide +kernel
theorem dexpressionAct_196 : decode cX12_expressionAct 196 = .ok (.goto 31, 3) := by decide +kernel
theorem dexpressionAct_199 : decode cX12_expressionAct 199 = .ok (.aload_n 0, 1) := by decide +kernel
theorem dexpressionAct_200 : decode cX12_expressionAct 200 = .ok (.bipush 9, 2) := by decide +kernel
theorem dexpressionAct_202 : decode cX12_expressionAct 202 = .ok (.iconst 1, 1) := by decide +kernel
theorem dexpressionAct_203 : decode cX12_expressionAct 203 = .ok (.iconst 0, 1) := by decide +kernel
theorem dexpressionAct_204 : decode cX12_expressionAct 204 = .ok (.iconst 0, 1) := by decide +kernel
theorem dexpressionAct_205 : decode cX12_expressionAct 205 = .ok (.invokevirtual 790, 3) := by decide +kernel
theorem dexpressionAct_208 : decode cX12_expressionAct 208 = .ok (.ifCond .eq 18, 3) := by decide +kernel
theorem dexpressionAct_211 : decode cX12_expressionAct 211 = .ok (.aload_n 0, 1) := by decide +kernel
theorem dexpressionAct_212 : decode cX12_expressionAct 212 = .ok (.iconst 1, 1) := by decide +kernel
theorem dexpressionAct_213 : decode cX12_expressionAct 213 = .ok (.iconst 0, 1) := by decide +kernel
theorem dexpressionAct_214 : decode cX12_expressionAct 214 = .ok (.iconst 0, 1) := by decide +kernel
theorem dexpressionAct_215 : decode cX12_expressionAct 215 = .ok (.iconst 0, 1) := by decide +kernel
theorem dexpressionAct_216 : decode cX12_expressionAct 216 = .ok (.invokevirtual 790, 3) := by decide +kernel
theorem dexpressionAct_219 : decode cX12_expressionAct 219 = .ok (.ifCond .eq 7, 3) := by decide +kernel
theorem dexpressionAct_222 : decode cX12_expressionAct 222 = .ok (.iconst 1, 1) := by decide +kernel
theorem dexpressionAct_223 : decode cX12_expressionAct 223 = .ok (.goto 4, 3) := by decide +kernel
theorem dexpressionAct_226 : decode cX12_expressionAct 226 = .ok (.iconst 0, 1) := by decide +kernel
theorem dexpressionAct_227 : decode cX12_expressionAct 227 = .ok (.ireturn, 1) := by decide +kernel
theorem dexpressionAct_228 : decode cX12_expressionAct 228 = .ok (.aload_n 0, 1) := by decide +kernel
theorem dexpressionAct_229 : decode cX12_expressionAct 229 = .ok (.iload_n 2, 1) := by decide +kernel
theorem dexpressionAct_230 : decode cX12_expressionAct 230 = .ok (.invokevirtual 859, 3) := by decide +kernel
theorem dexpressionAct_233 : decode cX12_expressionAct 233 = .ok (.ireturn, 1) := by decide +kernel
theorem dexpressionAct_234 : decode cX12_expressionAct 234 = .ok (.aload_n 0, 1) := by decide +kernel
theorem dexpressionAct_235 : decode cX12_expressionAct 235 = .ok (.getfield 173, 3) := by decide +kernel
theorem dexpressionAct_238 : decode cX12_expressionAct 238 = .ok (.iload_n 2, 1) := by decide +kernel
theorem dexpressionAct_239 : decode cX12_expressionAct 239 = .ok (.aload_n 0, 1) := by decide +kernel
theorem dexpressionAct_240 : decode cX12_expressionAct 240 = .ok (.getfield 856, 3) := by decide +kernel
theorem dexpressionAct_243 : decode cX12_expressionAct 243 = .ok (.iastore, 1) := by decide +kernel
theorem dexpressionAct_244 : decode cX12_expressionAct 244 = .ok (.aload_n 0, 1) := by decide +kernel
theorem dexpressionAct_245 : decode cX12_expressionAct 245 = .ok (.iload_n 1, 1) := by decide +kernel
theorem dexpressionAct_246 : decode cX12_expressionAct 246 = .ok (.bipush 10, 2) := by decide +kernel
theorem dexpressionAct_248 : decode cX12_expressionAct 248 = .ok (.if_icmp .ne 7, 3) := by decide +kernel
theorem dexpressionAct_251 : decode cX12_expressionAct 251 = .ok (.iconst 3, 1) := by decide +kernel
theorem dexpressionAct_252 : decode cX12_expressionAct 252 = .ok (.goto 4, 3) := by decide +kernel
theorem dexpressionAct_255 : decode cX12_expressionAct 255 = .ok (.iconst 4, 1) := by decide +kernel
theorem dexpressionAct_256 : decode cX12_expressionAct 256 = .ok (.putfield 838, 3) := by decide +kernel
theorem dexpressionAct_259 : decode cX12_expressionAct 259 = .ok (.aload_n 0, 1) := by decide +kernel
theorem dexpressionAct_260 : decode cX12_expressionAct 260 = .ok (.bipush 15, 2) := by decide +kernel
theorem dexpressionAct_262 : decode cX12_expressionAct 262 = .ok (.iload_n 2, 1) := by decide +kernel
theorem dexpressionAct_263 : decode cX12_expressionAct 263 = .ok (.iconst 0, 1) := by decide +kernel
theorem dexpressionAct_264 : decode cX12_expressionAct 264 = .ok (.invokevirtual 732, 3) := by decide +kernel
theorem dexpressionAct_267 : decode cX12_expressionAct 267 = .ok (.ifCond .lt 7, 3) := by decide +kernel
theorem dexpressionAct_270 : decode cX12_expressionAct 270 = .ok (.iconst 1, 1) := by decide +kernel
theorem dexpressionAct_271 : decode cX12_expressionAct 271 = .ok (.goto 4, 3) := by decide +kernel
theorem dexpressionAct_274 : decode cX12_expressionAct 274 = .ok (.iconst 0, 1) := by decide +kernel
theorem dexpressionAct_275 : decode cX12_expressionAct 275 = .ok (.ireturn, 1) := by decide +kernel
theorem dexpressionAct_276 : decode cX12_expressionAct 276 = .ok (.aload_n 0, 1) := by decide +kernel
theorem dexpressionAct_277 : decode cX12_expressionAct 277 = .ok (.iconst 5, 1) := by decide +kernel
theorem dexpressionAct_278 : decode cX12_expressionAct 278 = .ok (.putfield 838, 3) := by decide +kernel
theorem dexpressionAct_281 : decode cX12_expressionAct 281 = .ok (.aload_n 0, 1) := by decide +kernel
theorem dexpressionAct_282 : decode cX12_expressionAct 282 = .ok (.bipush 16, 2) := by decide +kernel
theorem dexpressionAct_284 : decode cX12_expressionAct 284 = .ok (.iconst 1, 1) := by decide +kernel
theorem dexpressionAct_285 : decode cX12_expressionAct 285 = .ok (.aload_n 0, 1) := by decide +kernel
theorem dexpressionAct_286 : decode cX12_expressionAct 286 = .ok (.getfield 856, 3) := by decide +kernel
theorem dexpressionAct_289 : decode cX12_expressionAct 289 = .ok (.iadd, 1) := by decide +kernel
theorem dexpressionAct_290 : decode cX12_expressionAct 290 = .ok (.iconst 0, 1) := by decide +kernel
theorem dexpressionAct_291 : decode cX12_expressionAct 291 = .ok (.invokevirtual 732, 3) := by decide +kernel
theorem dexpressionAct_294 : decode cX12_expressionAct 294 = .ok (.ifCond .lt 7, 3) := by decide +kernel
theorem dexpressionAct_297 : decode cX12_expressionAct 297 = .ok (.iconst 1, 1) := by decide +kernel
theorem dexpressionAct_298 : decode cX12_expressionAct 298 = .ok (.goto 4, 3) := by decide +kernel
theorem dexpressionAct_301 : decode cX12_expressionAct 301 = .ok (.iconst 0, 1) := by decide +kernel
theorem dexpressionAct_302 : decode cX12_expressionAct 302 = .ok (.ireturn, 1) := by decide +kernel
theorem dexpressionAct_303 : decode cX12_expressionAct 303 = .ok (.aload_n 0, 1) := by decide +kernel
theorem dexpressionAct_304 : decode cX12_expressionAct 304 = .ok (.iconst 0, 1) := by decide +kernel
theorem dexpressionAct_305 : decode cX12_expressionAct 305 = .ok (.putfield 838, 3) := by decide +kernel
theorem dexpressionAct_308 : decode cX12_expressionAct 308 = .ok (.aload_n 0, 1) := by decide +kernel
theorem dexpressionAct_309 : decode cX12_expressionAct 309 = .ok (.bipush 41, 2) := by decide +kernel
theorem dexpressionAct_311 : decode cX12_expressionAct 311 = .ok (.invokevirtual 742, 3) := by decide +kernel
theorem dexpressionAct_314 : decode cX12_expressionAct 314 = .ok (.ireturn, 1) := by decide +kernel
section
variable {l : Launch} {D : va_G} {cA : Nat → ClassId} {ad : Nat → Nat}
set_option maxHeartbeats 3000000 in
theorem s_expressionAct {a1 a2 a3 : Int} {R r ph q0 : Int} {tf : mo_TF} {s : List mo_A} {ht st rg : Nat → Int} {tu : Int} {h : ja_H} {Q : Option ja_V → ja_H → Prop} (g : mo_G Zz h) (r1 : -2147483648 ≤ a1 ∧ a1 ≤ 2147483647) (r2 : -2147483648 ≤ a2 ∧ a2 ≤ 2147483647) (r3 : -2147483648 ≤ a3 ∧ a3 ≤ 2147483647) (p1 : pk_S h (h 0 17).toNat s) (p2 : piB h R r ph tf q0 ((a1, a2, a3) :: s) ht st rg tu) (p3 : ph = 1 ∨ (h 0 74) ≤ 1 ∨ (h 0 75) ≤ 24) (p4 : a1 ≤ 12 ∨ a1 = 38) (k1 : ∀ (h' : ja_H), (pi_done h h' R r ph tf q0 (pi_mu h ((a1, a2, a3) :: s))) → mo_G Zz h' → Q (some (0, 1)) h') (k2 : ∀ (h' : ja_H), (0 < (h' 0 8) ∧ (h' 0 1) = (h 0 1) ∧ (h' 0 118) = (h 0 118) ∧ (h' 0 127) = (h 0 127)) → mo_G Zz h' → Q (some (0, 0)) h') : mM_expressionAct l D cA ad a1 a2 a3 h Q := by
  show mJ l D cA ad 5 cX12_expressionAct 5 (some .boolean) 0 [(0, (2, ((0 : Nat) : Int))), (1, (0, a1)), (2, (0, a2)), (3, (0, a3))] [] h Q
  have kn_at := gF_at g
  have kn_wTop := gF_wTop g
  have kn_words := gF_words g
  have kn_nest := gF_nest g
  have kn_given := gF_given g
  have kn_points := gF_points g
  have hN := piB_num g p1 p2
  obtain ⟨N1, N2, N3, N4, N5, N6, N7, N8, N9, N10, N11, N12, N13, ⟨NK1, NK2⟩, ND1, ND2, ND3, NU1, NU2⟩ := hN
  have hact : 1 ≤ a1 ∧ a1 ≤ 38 ∧ a1 ≠ 13 ∧ a1 ≠ 29 := bs_act p2
  refine ja_iload_n dexpressionAct_0 rfl rfl ?_
  have T1_64 : (a1 = 1) → mJ l D cA ad 5 cX12_expressionAct 5 (some .boolean) 64 [(0, (2, ((0 : Nat) : Int))), (1, (0, a1)), (2, (0, a2)), (3, (0, a3))] [] h Q := by
    intro e1
    refine ja_aload_n dexpressionAct_64 rfl rfl ?_
    refine ja_iload_n dexpressionAct_65 rfl rfl ?_
    refine t_expression (by decide) (show (0 : Nat) ≤ 8 by decide) dexpressionAct_66 g ⟨by omega, by omega⟩ (show pk_S h (h 0 17).toNat s by omega) ((by have e : a1 = 1 := (by first | exact e1 | exact e38 | exact c248 | exact e1.resolve_left c248 | exact e28 | omega); (subst e; exact p2))) ?_ ?_
    · intro h1 k66_0 g2
      refine ja_zreturn dexpressionAct_69 rfl (by omega) ?_
      exact mo_fin (by omega) rfl (k1 h1 ((by have e : a1 = 1 := (by first | exact e1 | exact e38 | exact c248 | exact e1.resolve_left c248 | exact e28 | omega); (subst e; exact k66_0))) g2)
    · intro h3 k66_1 g4
      refine ja_zreturn dexpressionAct_69 rfl (by omega) ?_
      exact mo_fin (by omega) rfl (k2 h3 (by omega) g4)
  have T1_70 : (a1 = 2) → mJ l D cA ad 5 cX12_expressionAct 5 (some .boolean) 70 [(0, (2, ((0 : Nat) : Int))), (1, (0, a1)), (2, (0, a2)), (3, (0, a3))] [] h Q := by
    intro e1
    refine ja_aload_n dexpressionAct_70 rfl rfl ?_
    refine ja_iload_n dexpressionAct_71 rfl rfl ?_
    refine t_operators (by decide) (show (0 : Nat) ≤ 8 by decide) dexpressionAct_72 g ⟨by omega, by omega⟩ (show pk_S h (h 0 17).toNat s by omega) ((by have e : a1 = 2 := (by first | exact e1 | exact e38 | exact c248 | exact e1.resolve_left c248 | exact e28 | omega); (subst e; exact p2))) ?_ ?_
    · intro h5 k72_0 g6
      refine ja_zreturn dexpressionAct_75 rfl (by omega) ?_
      exact mo_fin (by omega) rfl (k1 h5 ((by have e : a1 = 2 := (by first | exact e1 | exact e38 | exact c248 | exact e1.resolve_left c248 | exact e28 | omega); (subst e; exact k72_0))) g6)
    · intro h7 k72_1 g8
      refine ja_zreturn dexpressionAct_75 rfl (by omega) ?_
      exact mo_fin (by omega) rfl (k2 h7 (by omega) g8)
  have T1_76 : (a1 = 3) → mJ l D cA ad 5 cX12_expressionAct 5 (some .boolean) 76 [(0, (2, ((0 : Nat) : Int))), (1, (0, a1)), (2, (0, a2)), (3, (0, a3))] [] h Q := by
    intro e1
    refine ja_aload_n dexpressionAct_76 rfl rfl ?_
    refine ja_iconst dexpressionAct_77 ?_
    have g9 := gP_form g (x := 0) ⟨by decide, by decide⟩
    refine fp_form dexpressionAct_78 ?_
    refine ja_aload_n dexpressionAct_81 rfl rfl ?_
    refine ja_bipush 9 dexpressionAct_82 rfl ?_
    refine ja_iload_n dexpressionAct_84 rfl rfl ?_
    refine ja_iconst dexpressionAct_85 ?_
    refine t_emit (by decide) (show (0 : Nat) ≤ 8 by decide) dexpressionAct_86 g9 ⟨by decide, by decide⟩ ⟨by omega, by omega⟩ ⟨by decide, by decide⟩ (show 0 ≤ 9 ∧ 9 ≤ 26 by omega) (show (h 0 113) < 5000 by omega) ?_
    intro g10
    replace g10 : mo_G Zz (ja_up (ja_up (ja_up (ja_up (ja_up h 0 19 0) 74 ((h 0 113).toNat) 9) 75 ((h 0 113).toNat) a2) 76 ((h 0 113).toNat) 0) 0 113 ((h 0 113) + 1)) := g10
    show mJ l D cA ad 5 cX12_expressionAct 5 (some .boolean) 89 [(0, (2, ((0 : Nat) : Int))), (1, (0, a1)), (2, (0, a2)), (3, (0, a3))] [(0, (h 0 113))] (ja_up (ja_up (ja_up (ja_up (ja_up h 0 19 0) 74 ((h 0 113).toNat) 9) 75 ((h 0 113).toNat) a2) 76 ((h 0 113).toNat) 0) 0 113 ((h 0 113) + 1)) Q
    refine ja_if_lt 96 dexpressionAct_89 rfl ⟨by omega, by omega⟩ (fun c89 => ?_) (fun c89 => ?_)
    · refine ja_iconst dexpressionAct_96 ?_
      refine ja_zreturn dexpressionAct_97 rfl (by omega) ?_
      exact mo_fin (by omega) rfl (k2 (ja_up (ja_up (ja_up (ja_up (ja_up h 0 19 0) 74 ((h 0 113).toNat) 9) 75 ((h 0 113).toNat) a2) 76 ((h 0 113).toNat) 0) 0 113 ((h 0 113) + 1)) (show 0 < (h 0 8) ∧ (h 0 1) = (h 0 1) ∧ (h 0 118) = (h 0 118) ∧ (h 0 127) = (h 0 127) by omega) g10)
    · refine ja_iconst dexpressionAct_92 ?_
      refine ja_goto 97 dexpressionAct_93 rfl ?_
      refine ja_zreturn dexpressionAct_97 rfl (by omega) ?_
      exact mo_fin (by omega) rfl (k1 (ja_up (ja_up (ja_up (ja_up (ja_up h 0 19 0) 74 ((h 0 113).toNat) 9) 75 ((h 0 113).toNat) a2) 76 ((h 0 113).toNat) 0) 0 113 ((h 0 113) + 1)) ((by have e : a1 = 3 := (by first | exact e1 | exact e38 | exact c248 | exact e1.resolve_left c248 | exact e28 | omega); (subst e; exact ab_bin g p1 p2))) g10)
  have T1_98 : (a1 = 4) → mJ l D cA ad 5 cX12_expressionAct 5 (some .boolean) 98 [(0, (2, ((0 : Nat) : Int))), (1, (0, a1)), (2, (0, a2)), (3, (0, a3))] [] h Q := by
    intro e1
    have ha4 := bs_4 (a := a2) (b := a3) (by have e : a1 = 4 := (by first | exact e1 | exact e38 | exact c248 | exact e1.resolve_left c248 | exact e28 | omega); (subst e; exact p2))
    refine ja_aload_n dexpressionAct_98 rfl rfl ?_
    refine ja_iconst dexpressionAct_99 ?_
    have g11 := gP_form g (x := 0) ⟨by decide, by decide⟩
    refine fp_form dexpressionAct_100 ?_
    refine ja_aload_n dexpressionAct_103 rfl rfl ?_
    refine ja_bipush 14 dexpressionAct_104 rfl ?_
    refine ja_iconst dexpressionAct_106 ?_
    refine ja_iconst dexpressionAct_107 ?_
    refine t_emit (by decide) (show (0 : Nat) ≤ 8 by decide) dexpressionAct_108 g11 ⟨by decide, by decide⟩ ⟨by decide, by decide⟩ ⟨by decide, by decide⟩ (show 0 ≤ 14 ∧ 14 ≤ 26 by omega) (show (h 0 113) < 5000 by omega) ?_
    intro g12
    replace g12 : mo_G Zz (ja_up (ja_up (ja_up (ja_up (ja_up h 0 19 0) 74 ((h 0 113).toNat) 14) 75 ((h 0 113).toNat) 0) 76 ((h 0 113).toNat) 0) 0 113 ((h 0 113) + 1)) := g12
    show mJ l D cA ad 5 cX12_expressionAct 5 (some .boolean) 111 [(0, (2, ((0 : Nat) : Int))), (1, (0, a1)), (2, (0, a2)), (3, (0, a3))] [(0, (h 0 113))] (ja_up (ja_up (ja_up (ja_up (ja_up h 0 19 0) 74 ((h 0 113).toNat) 14) 75 ((h 0 113).toNat) 0) 76 ((h 0 113).toNat) 0) 0 113 ((h 0 113) + 1)) Q
    refine ja_istore dexpressionAct_111 (by decide) (L2 := [(4, (0, (h 0 113))), (0, (2, ((0 : Nat) : Int))), (1, (0, a1)), (2, (0, a2)), (3, (0, a3))]) rfl ?_
    refine ja_aload_n dexpressionAct_113 rfl rfl ?_
    refine fa_opA dexpressionAct_114 ?_
    refine ja_iload_n dexpressionAct_117 rfl rfl ?_
    refine ja_aload_n dexpressionAct_118 rfl rfl ?_
    refine fg_words (v := (h 0 113) + 1) rfl dexpressionAct_119 ?_
    have g13 := gW_opA g12 (a2).toNat (x := (h 0 113) + 1) ⟨by omega, by omega⟩
    refine is_opA ⟨by omega, by omega⟩ dexpressionAct_122 ?_
    refine ja_iconst dexpressionAct_123 ?_
    refine ja_zreturn dexpressionAct_124 rfl (by omega) ?_
    exact mo_fin (by omega) rfl (k1 (ja_up (ja_up (ja_up (ja_up (ja_up (ja_up h 0 19 0) 74 ((h 0 113).toNat) 14) 75 ((h 0 113).toNat) 0) 76 ((h 0 113).toNat) 0) 0 113 ((h 0 113) + 1)) 75 ((a2).toNat) ((h 0 113) + 1)) ((by have e : a1 = 4 := (by first | exact e1 | exact e38 | exact c248 | exact e1.resolve_left c248 | exact e28 | omega); (subst e; exact ab_short g p1 p2))) g13)
  have T1_125 : (a1 = 5) → mJ l D cA ad 5 cX12_expressionAct 5 (some .boolean) 125 [(0, (2, ((0 : Nat) : Int))), (1, (0, a1)), (2, (0, a2)), (3, (0, a3))] [] h Q := by
    intro e1
    refine ja_aload_n dexpressionAct_125 rfl rfl ?_
    refine ja_iconst dexpressionAct_126 ?_
    have g14 := gP_form g (x := 0) ⟨by decide, by decide⟩
    refine fp_form dexpressionAct_127 ?_
    refine ja_aload_n dexpressionAct_130 rfl rfl ?_
    refine ja_iload_n dexpressionAct_131 rfl rfl ?_
    refine ja_iconst dexpressionAct_132 ?_
    refine ja_icmp_ne 141 dexpressionAct_133 rfl ⟨by omega, by omega⟩ ⟨by decide, by decide⟩ (fun c133 => ?_) (fun c133 => ?_)
    · refine ja_bipush 10 dexpressionAct_141 rfl ?_
      refine ja_iconst dexpressionAct_143 ?_
      refine ja_iconst dexpressionAct_144 ?_
      refine t_emit (by decide) (show (0 : Nat) ≤ 8 by decide) dexpressionAct_145 g14 ⟨by decide, by decide⟩ ⟨by decide, by decide⟩ ⟨by decide, by decide⟩ (show 0 ≤ 10 ∧ 10 ≤ 26 by omega) (show (h 0 113) < 5000 by omega) ?_
      intro g15
      replace g15 : mo_G Zz (ja_up (ja_up (ja_up (ja_up (ja_up h 0 19 0) 74 ((h 0 113).toNat) 10) 75 ((h 0 113).toNat) 0) 76 ((h 0 113).toNat) 0) 0 113 ((h 0 113) + 1)) := g15
      show mJ l D cA ad 5 cX12_expressionAct 5 (some .boolean) 148 [(0, (2, ((0 : Nat) : Int))), (1, (0, a1)), (2, (0, a2)), (3, (0, a3))] [(0, (h 0 113))] (ja_up (ja_up (ja_up (ja_up (ja_up h 0 19 0) 74 ((h 0 113).toNat) 10) 75 ((h 0 113).toNat) 0) 76 ((h 0 113).toNat) 0) 0 113 ((h 0 113) + 1)) Q
      refine ja_if_lt 155 dexpressionAct_148 rfl ⟨by omega, by omega⟩ (fun c148 => ?_) (fun c148 => ?_)
      · refine ja_iconst dexpressionAct_155 ?_
        refine ja_zreturn dexpressionAct_156 rfl (by omega) ?_
        exact mo_fin (by omega) rfl (k2 (ja_up (ja_up (ja_up (ja_up (ja_up h 0 19 0) 74 ((h 0 113).toNat) 10) 75 ((h 0 113).toNat) 0) 76 ((h 0 113).toNat) 0) 0 113 ((h 0 113) + 1)) (show 0 < (h 0 8) ∧ (h 0 1) = (h 0 1) ∧ (h 0 118) = (h 0 118) ∧ (h 0 127) = (h 0 127) by omega) g15)
      · refine ja_iconst dexpressionAct_151 ?_
        refine ja_goto 156 dexpressionAct_152 rfl ?_
        refine ja_zreturn dexpressionAct_156 rfl (by omega) ?_
        exact mo_fin (by omega) rfl (k1 (ja_up (ja_up (ja_up (ja_up (ja_up h 0 19 0) 74 ((h 0 113).toNat) 10) 75 ((h 0 113).toNat) 0) 76 ((h 0 113).toNat) 0) 0 113 ((h 0 113) + 1)) ((by have e : a1 = 5 := (by first | exact e1 | exact e38 | exact c248 | exact e1.resolve_left c248 | exact e28 | omega); (subst e; exact ab_not g p1 p2))) g15)
    · refine ja_bipush 11 dexpressionAct_136 rfl ?_
      refine ja_goto 143 dexpressionAct_138 rfl ?_
      refine ja_iconst dexpressionAct_143 ?_
      refine ja_iconst dexpressionAct_144 ?_
      refine t_emit (by decide) (show (0 : Nat) ≤ 8 by decide) dexpressionAct_145 g14 ⟨by decide, by decide⟩ ⟨by decide, by decide⟩ ⟨by decide, by decide⟩ (show 0 ≤ 11 ∧ 11 ≤ 26 by omega) (show (h 0 113) < 5000 by omega) ?_
      intro g16
      replace g16 : mo_G Zz (ja_up (ja_up (ja_up (ja_up (ja_up h 0 19 0) 74 ((h 0 113).toNat) 11) 75 ((h 0 113).toNat) 0) 76 ((h 0 113).toNat) 0) 0 113 ((h 0 113) + 1)) := g16
      show mJ l D cA ad 5 cX12_expressionAct 5 (some .boolean) 148 [(0, (2, ((0 : Nat) : Int))), (1, (0, a1)), (2, (0, a2)), (3, (0, a3))] [(0, (h 0 113))] (ja_up (ja_up (ja_up (ja_up (ja_up h 0 19 0) 74 ((h 0 113).toNat) 11) 75 ((h 0 113).toNat) 0) 76 ((h 0 113).toNat) 0) 0 113 ((h 0 113) + 1)) Q
      refine ja_if_lt 155 dexpressionAct_148 rfl ⟨by omega, by omega⟩ (fun c148 => ?_) (fun c148 => ?_)
      · refine ja_iconst dexpressionAct_155 ?_
        refine ja_zreturn dexpressionAct_156 rfl (by omega) ?_
        exact mo_fin (by omega) rfl (k2 (ja_up (ja_up (ja_up (ja_up (ja_up h 0 19 0) 74 ((h 0 113).toNat) 11) 75 ((h 0 113).toNat) 0) 76 ((h 0 113).toNat) 0) 0 113 ((h 0 113) + 1)) (show 0 < (h 0 8) ∧ (h 0 1) = (h 0 1) ∧ (h 0 118) = (h 0 118) ∧ (h 0 127) = (h 0 127) by omega) g16)
      · refine ja_iconst dexpressionAct_151 ?_
        refine ja_goto 156 dexpressionAct_152 rfl ?_
        refine ja_zreturn dexpressionAct_156 rfl (by omega) ?_
        exact mo_fin (by omega) rfl (k1 (ja_up (ja_up (ja_up (ja_up (ja_up h 0 19 0) 74 ((h 0 113).toNat) 11) 75 ((h 0 113).toNat) 0) 76 ((h 0 113).toNat) 0) 0 113 ((h 0 113) + 1)) ((by have e : a1 = 5 := (by first | exact e1 | exact e38 | exact c248 | exact e1.resolve_left c248 | exact e28 | omega); (subst e; exact ab_neg g p1 p2))) g16)
  have T1_157 : (a1 = 6) → mJ l D cA ad 5 cX12_expressionAct 5 (some .boolean) 157 [(0, (2, ((0 : Nat) : Int))), (1, (0, a1)), (2, (0, a2)), (3, (0, a3))] [] h Q := by
    intro e1
    refine ja_aload_n dexpressionAct_157 rfl rfl ?_
    refine t_operand (by decide) (show (0 : Nat) ≤ 8 by decide) dexpressionAct_158 g (show pk_S h (h 0 17).toNat s by omega) ((by have e : a1 = 6 := (by first | exact e1 | exact e38 | exact c248 | exact e1.resolve_left c248 | exact e28 | omega); (subst e; exact p2))) (p3) ?_ ?_
    · intro h17 k158_0 g18
      refine ja_zreturn dexpressionAct_161 rfl (by omega) ?_
      exact mo_fin (by omega) rfl (k1 h17 ((by have e : a1 = 6 := (by first | exact e1 | exact e38 | exact c248 | exact e1.resolve_left c248 | exact e28 | omega); (subst e; exact k158_0))) g18)
    · intro h19 k158_1 g20
      refine ja_zreturn dexpressionAct_161 rfl (by omega) ?_
      exact mo_fin (by omega) rfl (k2 h19 (by omega) g20)
  have T1_162 : (a1 = 7) → mJ l D cA ad 5 cX12_expressionAct 5 (some .boolean) 162 [(0, (2, ((0 : Nat) : Int))), (1, (0, a1)), (2, (0, a2)), (3, (0, a3))] [] h Q := by
    intro e1
    refine ja_aload_n dexpressionAct_162 rfl rfl ?_
    refine t_tail (by decide) (show (0 : Nat) ≤ 8 by decide) dexpressionAct_163 g (show pk_S h (h 0 17).toNat s by omega) ((by have e : a1 = 7 := (by first | exact e1 | exact e38 | exact c248 | exact e1.resolve_left c248 | exact e28 | omega); (subst e; exact p2))) (p3) ?_ ?_
    · intro h21 k163_0 g22
      refine ja_zreturn dexpressionAct_166 rfl (by omega) ?_
      exact mo_fin (by omega) rfl (k1 h21 ((by have e : a1 = 7 := (by first | exact e1 | exact e38 | exact c248 | exact e1.resolve_left c248 | exact e28 | omega); (subst e; exact k163_0))) g22)
    · intro h23 k163_1 g24
      refine ja_zreturn dexpressionAct_166 rfl (by omega) ?_
      exact mo_fin (by omega) rfl (k2 h23 (by omega) g24)
  have T1_167 : (a1 = 8) → mJ l D cA ad 5 cX12_expressionAct 5 (some .boolean) 167 [(0, (2, ((0 : Nat) : Int))), (1, (0, a1)), (2, (0, a2)), (3, (0, a3))] [] h Q := by
    intro e1
    refine ja_aload_n dexpressionAct_167 rfl rfl ?_
    refine ja_bipush 40 dexpressionAct_168 rfl ?_
    refine t_sign (by decide) (show (0 : Nat) ≤ 8 by decide) dexpressionAct_170 g ⟨by decide, by decide⟩ ?_ ?_
    · intro k170_0 g25
      replace k170_0 : (h 0 7) < 900 ∧ (h 2 (h 0 7).toNat) = 5 ∧ (h 5 (h 0 7).toNat) = 40 := k170_0
      replace g25 : mo_G Zz (ja_up h 0 7 ((h 0 7) + 1)) := g25
      show mJ l D cA ad 5 cX12_expressionAct 5 (some .boolean) 173 [(0, (2, ((0 : Nat) : Int))), (1, (0, a1)), (2, (0, a2)), (3, (0, a3))] [(0, 1)] (ja_up h 0 7 ((h 0 7) + 1)) Q
      refine ja_if_ne 178 dexpressionAct_173 rfl ⟨by decide, by decide⟩ (fun c173 => ?_) (fun c173 => absurd c173 (by omega))
      refine ja_aload_n dexpressionAct_178 rfl rfl ?_
      refine ja_iconst dexpressionAct_179 ?_
      have g26 := gP_given g25 (x := 0) ⟨by decide, by decide⟩
      refine fp_given dexpressionAct_180 ?_
      refine ja_aload_n dexpressionAct_183 rfl rfl ?_
      refine ja_bipush 41 dexpressionAct_184 rfl ?_
      refine t_isSign (by decide) (show (0 : Nat) ≤ 8 by decide) dexpressionAct_186 g26 ⟨by decide, by decide⟩ ?_
      intro w27 k186_0
      replace k186_0 : (w27 = 1 ∧ (h 2 ((h 0 7) + 1).toNat) = 5 ∧ (h 5 ((h 0 7) + 1).toNat) = 41) ∨ (w27 = 0 ∧ ¬ ((h 2 ((h 0 7) + 1).toNat) = 5 ∧ (h 5 ((h 0 7) + 1).toNat) = 41)) := k186_0
      refine ja_if_eq 199 dexpressionAct_189 rfl ⟨by omega, by omega⟩ (fun c189 => ?_) (fun c189 => ?_)
      · replace k186_0 := is0 k186_0 c189
        refine ja_aload_n dexpressionAct_199 rfl rfl ?_
        refine ja_bipush 9 dexpressionAct_200 rfl ?_
        refine ja_iconst dexpressionAct_202 ?_
        refine ja_iconst dexpressionAct_203 ?_
        refine ja_iconst dexpressionAct_204 ?_
        refine t_later (by decide) (show (0 : Nat) ≤ 8 by decide) dexpressionAct_205 g26 ⟨by decide, by decide⟩ ⟨by decide, by decide⟩ ⟨by decide, by decide⟩ ⟨by decide, by decide⟩ (show 0 ≤ 9 ∧ 9 ≤ 38 by omega) (show (h 0 17) < 2000 by omega) ?_
        intro g28
        replace g28 : mo_G Zz (ja_up (ja_up (ja_up (ja_up (ja_up (ja_up (ja_up h 0 7 ((h 0 7) + 1)) 0 21 0) 6 ((h 0 17).toNat) 9) 7 ((h 0 17).toNat) 1) 8 ((h 0 17).toNat) 0) 9 ((h 0 17).toNat) 0) 0 17 ((h 0 17) + 1)) := g28
        show mJ l D cA ad 5 cX12_expressionAct 5 (some .boolean) 208 [(0, (2, ((0 : Nat) : Int))), (1, (0, a1)), (2, (0, a2)), (3, (0, a3))] [(0, 1)] (ja_up (ja_up (ja_up (ja_up (ja_up (ja_up (ja_up h 0 7 ((h 0 7) + 1)) 0 21 0) 6 ((h 0 17).toNat) 9) 7 ((h 0 17).toNat) 1) 8 ((h 0 17).toNat) 0) 9 ((h 0 17).toNat) 0) 0 17 ((h 0 17) + 1)) Q
        refine ja_if_eq 226 dexpressionAct_208 rfl ⟨by decide, by decide⟩ (fun c208 => absurd c208 (by omega)) (fun c208 => ?_)
        refine ja_aload_n dexpressionAct_211 rfl rfl ?_
        refine ja_iconst dexpressionAct_212 ?_
        refine ja_iconst dexpressionAct_213 ?_
        refine ja_iconst dexpressionAct_214 ?_
        refine ja_iconst dexpressionAct_215 ?_
        refine t_later (by decide) (show (0 : Nat) ≤ 8 by decide) dexpressionAct_216 g28 ⟨by decide, by decide⟩ ⟨by decide, by decide⟩ ⟨by decide, by decide⟩ ⟨by decide, by decide⟩ (show 0 ≤ 1 ∧ 1 ≤ 38 by omega) (show ((h 0 17) + 1) < 2000 by omega) ?_
        intro g29
        replace g29 : mo_G Zz (ja_up (ja_up (ja_up (ja_up (ja_up (ja_up (ja_up (ja_up (ja_up (ja_up (ja_up (ja_up h 0 7 ((h 0 7) + 1)) 0 21 0) 6 ((h 0 17).toNat) 9) 7 ((h 0 17).toNat) 1) 8 ((h 0 17).toNat) 0) 9 ((h 0 17).toNat) 0) 0 17 ((h 0 17) + 1)) 6 (((h 0 17) + 1).toNat) 1) 7 (((h 0 17) + 1).toNat) 0) 8 (((h 0 17) + 1).toNat) 0) 9 (((h 0 17) + 1).toNat) 0) 0 17 (((h 0 17) + 1) + 1)) := g29
        show mJ l D cA ad 5 cX12_expressionAct 5 (some .boolean) 219 [(0, (2, ((0 : Nat) : Int))), (1, (0, a1)), (2, (0, a2)), (3, (0, a3))] [(0, 1)] (ja_up (ja_up (ja_up (ja_up (ja_up (ja_up (ja_up (ja_up (ja_up (ja_up (ja_up (ja_up h 0 7 ((h 0 7) + 1)) 0 21 0) 6 ((h 0 17).toNat) 9) 7 ((h 0 17).toNat) 1) 8 ((h 0 17).toNat) 0) 9 ((h 0 17).toNat) 0) 0 17 ((h 0 17) + 1)) 6 (((h 0 17) + 1).toNat) 1) 7 (((h 0 17) + 1).toNat) 0) 8 (((h 0 17) + 1).toNat) 0) 9 (((h 0 17) + 1).toNat) 0) 0 17 (((h 0 17) + 1) + 1)) Q
        refine ja_if_eq 226 dexpressionAct_219 rfl ⟨by decide, by decide⟩ (fun c219 => absurd c219 (by omega)) (fun c219 => ?_)
        refine ja_iconst dexpressionAct_222 ?_
        refine ja_goto 227 dexpressionAct_223 rfl ?_
        refine ja_zreturn dexpressionAct_227 rfl (by omega) ?_
        exact mo_fin (by omega) rfl (k1 (ja_up (ja_up (ja_up (ja_up (ja_up (ja_up (ja_up (ja_up (ja_up (ja_up (ja_up (ja_up h 0 7 ((h 0 7) + 1)) 0 21 0) 6 ((h 0 17).toNat) 9) 7 ((h 0 17).toNat) 1) 8 ((h 0 17).toNat) 0) 9 ((h 0 17).toNat) 0) 0 17 ((h 0 17) + 1)) 6 (((h 0 17) + 1).toNat) 1) 7 (((h 0 17) + 1).toNat) 0) 8 (((h 0 17) + 1).toNat) 0) 9 (((h 0 17) + 1).toNat) 0) 0 17 (((h 0 17) + 1) + 1)) ((by have e : a1 = 8 := (by first | exact e1 | exact e38 | exact c248 | exact e1.resolve_left c248 | exact e28 | omega); (subst e; exact ab_args_1 g p1 p2))) g29)
      · have z189 := is1v k186_0 c189
        replace k186_0 := is1 k186_0 c189
        refine ja_aload_n dexpressionAct_192 rfl rfl ?_
        refine t_take (by decide) (show (0 : Nat) ≤ 8 by decide) dexpressionAct_193 g26  ?_ ?_
        · intro k193_0 g30
          replace k193_0 : ((h 0 7) + 1) < 900 := k193_0
          replace g30 : mo_G Zz (ja_up (ja_up (ja_up h 0 7 ((h 0 7) + 1)) 0 21 0) 0 7 (((h 0 7) + 1) + 1)) := g30
          show mJ l D cA ad 5 cX12_expressionAct 5 (some .boolean) 196 [(0, (2, ((0 : Nat) : Int))), (1, (0, a1)), (2, (0, a2)), (3, (0, a3))] [(0, 1)] (ja_up (ja_up (ja_up h 0 7 ((h 0 7) + 1)) 0 21 0) 0 7 (((h 0 7) + 1) + 1)) Q
          refine ja_goto 227 dexpressionAct_196 rfl ?_
          refine ja_zreturn dexpressionAct_227 rfl (by omega) ?_
          exact mo_fin (by omega) rfl (k1 (ja_up (ja_up (ja_up h 0 7 ((h 0 7) + 1)) 0 21 0) 0 7 (((h 0 7) + 1) + 1)) ((by have e : a1 = 8 := (by first | exact e1 | exact e38 | exact c248 | exact e1.resolve_left c248 | exact e28 | omega); (subst e; exact ab_args_0 g p1 p2))) g30)
        · intro h31 k193_1 g32
          replace k193_1 : 0 < (h31 0 8) ∧ (h31 0 1) = (h 0 1) ∧ (h31 0 118) = (h 0 118) ∧ (h31 0 127) = (h 0 127) := k193_1
          refine ja_goto 227 dexpressionAct_196 rfl ?_
          refine ja_zreturn dexpressionAct_227 rfl (by omega) ?_
          exact mo_fin (by omega) rfl (k2 h31 (by omega) g32)
    · intro h33 k170_1 g34
      refine ja_if_ne 178 dexpressionAct_173 rfl ⟨by decide, by decide⟩ (fun c173 => absurd c173 (by omega)) (fun c173 => ?_)
      refine ja_iconst dexpressionAct_176 ?_
      refine ja_zreturn dexpressionAct_177 rfl (by omega) ?_
      exact mo_fin (by omega) rfl (k2 h33 (by omega) g34)
  have T1_228 : (a1 = 9) → mJ l D cA ad 5 cX12_expressionAct 5 (some .boolean) 228 [(0, (2, ((0 : Nat) : Int))), (1, (0, a1)), (2, (0, a2)), (3, (0, a3))] [] h Q := by
    intro e1
    refine ja_aload_n dexpressionAct_228 rfl rfl ?_
    refine ja_iload_n dexpressionAct_229 rfl rfl ?_
    refine t_argument (by decide) (show (0 : Nat) ≤ 8 by decide) dexpressionAct_230 g ⟨by omega, by omega⟩ (show pk_S h (h 0 17).toNat s by omega) ((by have e : a1 = 9 := (by first | exact e1 | exact e38 | exact c248 | exact e1.resolve_left c248 | exact e28 | omega); (subst e; exact p2))) ?_ ?_
    · intro h35 k230_0 g36
      refine ja_zreturn dexpressionAct_233 rfl (by omega) ?_
      exact mo_fin (by omega) rfl (k1 h35 ((by have e : a1 = 9 := (by first | exact e1 | exact e38 | exact c248 | exact e1.resolve_left c248 | exact e28 | omega); (subst e; exact k230_0))) g36)
    · intro h37 k230_1 g38
      refine ja_zreturn dexpressionAct_233 rfl (by omega) ?_
      exact mo_fin (by omega) rfl (k2 h37 (by omega) g38)
  have T1_234 : (a1 = 10 ∨ a1 = 11) → mJ l D cA ad 5 cX12_expressionAct 5 (some .boolean) 234 [(0, (2, ((0 : Nat) : Int))), (1, (0, a1)), (2, (0, a2)), (3, (0, a3))] [] h Q := by
    intro e1
    have ha10 : 0 ≤ a2 ∧ a2 < (h 0 88) := (by rcases e1 with e1 | e1; exact bs_10 (b := a3) (by subst e1; exact p2); exact bs_11 (b := a3) (by subst e1; exact p2))
    refine ja_aload_n dexpressionAct_234 rfl rfl ?_
    refine fa_pointArgs dexpressionAct_235 ?_
    refine ja_iload_n dexpressionAct_238 rfl rfl ?_
    refine ja_aload_n dexpressionAct_239 rfl rfl ?_
    refine fg_given (v := h 0 21) rfl dexpressionAct_240 ?_
    have f39 := gF_given g
    have g40 := gW_pointArgs g (a2).toNat (x := h 0 21) ⟨by omega, by omega⟩
    refine is_pointArgs ⟨by omega, by omega⟩ dexpressionAct_243 ?_
    refine ja_aload_n dexpressionAct_244 rfl rfl ?_
    refine ja_iload_n dexpressionAct_245 rfl rfl ?_
    refine ja_bipush 10 dexpressionAct_246 rfl ?_
    refine ja_icmp_ne 255 dexpressionAct_248 rfl ⟨by omega, by omega⟩ ⟨by decide, by decide⟩ (fun c248 => ?_) (fun c248 => ?_)
    · refine ja_iconst dexpressionAct_255 ?_
      have g41 := gP_form g40 (x := 4) ⟨by decide, by decide⟩
      refine fp_form dexpressionAct_256 ?_
      refine ja_aload_n dexpressionAct_259 rfl rfl ?_
      refine ja_bipush 15 dexpressionAct_260 rfl ?_
      refine ja_iload_n dexpressionAct_262 rfl rfl ?_
      refine ja_iconst dexpressionAct_263 ?_
      refine t_emit (by decide) (show (0 : Nat) ≤ 8 by decide) dexpressionAct_264 g41 ⟨by decide, by decide⟩ ⟨by omega, by omega⟩ ⟨by decide, by decide⟩ (show 0 ≤ 15 ∧ 15 ≤ 26 by omega) (show (h 0 113) < 5000 by omega) ?_
      intro g42
      replace g42 : mo_G Zz (ja_up (ja_up (ja_up (ja_up (ja_up (ja_up h 55 ((a2).toNat) (h 0 21)) 0 19 4) 74 ((h 0 113).toNat) 15) 75 ((h 0 113).toNat) a2) 76 ((h 0 113).toNat) 0) 0 113 ((h 0 113) + 1)) := g42
      show mJ l D cA ad 5 cX12_expressionAct 5 (some .boolean) 267 [(0, (2, ((0 : Nat) : Int))), (1, (0, a1)), (2, (0, a2)), (3, (0, a3))] [(0, (h 0 113))] (ja_up (ja_up (ja_up (ja_up (ja_up (ja_up h 55 ((a2).toNat) (h 0 21)) 0 19 4) 74 ((h 0 113).toNat) 15) 75 ((h 0 113).toNat) a2) 76 ((h 0 113).toNat) 0) 0 113 ((h 0 113) + 1)) Q
      refine ja_if_lt 274 dexpressionAct_267 rfl ⟨by omega, by omega⟩ (fun c267 => ?_) (fun c267 => ?_)
      · refine ja_iconst dexpressionAct_274 ?_
        refine ja_zreturn dexpressionAct_275 rfl (by omega) ?_
        exact mo_fin (by omega) rfl (k2 (ja_up (ja_up (ja_up (ja_up (ja_up (ja_up h 55 ((a2).toNat) (h 0 21)) 0 19 4) 74 ((h 0 113).toNat) 15) 75 ((h 0 113).toNat) a2) 76 ((h 0 113).toNat) 0) 0 113 ((h 0 113) + 1)) (show 0 < (h 0 8) ∧ (h 0 1) = (h 0 1) ∧ (h 0 118) = (h 0 118) ∧ (h 0 127) = (h 0 127) by omega) g42)
      · refine ja_iconst dexpressionAct_270 ?_
        refine ja_goto 275 dexpressionAct_271 rfl ?_
        refine ja_zreturn dexpressionAct_275 rfl (by omega) ?_
        exact mo_fin (by omega) rfl (k1 (ja_up (ja_up (ja_up (ja_up (ja_up (ja_up h 55 ((a2).toNat) (h 0 21)) 0 19 4) 74 ((h 0 113).toNat) 15) 75 ((h 0 113).toNat) a2) 76 ((h 0 113).toNat) 0) 0 113 ((h 0 113) + 1)) ((by have e : a1 = 11 := (by first | exact e1 | exact e38 | exact c248 | exact e1.resolve_left c248 | exact e28 | omega); (subst e; exact ab_point (fv := 4) (dk := 0) (by omega) g p1 p2))) g42)
    · refine ja_iconst dexpressionAct_251 ?_
      refine ja_goto 256 dexpressionAct_252 rfl ?_
      have g43 := gP_form g40 (x := 3) ⟨by decide, by decide⟩
      refine fp_form dexpressionAct_256 ?_
      refine ja_aload_n dexpressionAct_259 rfl rfl ?_
      refine ja_bipush 15 dexpressionAct_260 rfl ?_
      refine ja_iload_n dexpressionAct_262 rfl rfl ?_
      refine ja_iconst dexpressionAct_263 ?_
      refine t_emit (by decide) (show (0 : Nat) ≤ 8 by decide) dexpressionAct_264 g43 ⟨by decide, by decide⟩ ⟨by omega, by omega⟩ ⟨by decide, by decide⟩ (show 0 ≤ 15 ∧ 15 ≤ 26 by omega) (show (h 0 113) < 5000 by omega) ?_
      intro g44
      replace g44 : mo_G Zz (ja_up (ja_up (ja_up (ja_up (ja_up (ja_up h 55 ((a2).toNat) (h 0 21)) 0 19 3) 74 ((h 0 113).toNat) 15) 75 ((h 0 113).toNat) a2) 76 ((h 0 113).toNat) 0) 0 113 ((h 0 113) + 1)) := g44
      show mJ l D cA ad 5 cX12_expressionAct 5 (some .boolean) 267 [(0, (2, ((0 : Nat) : Int))), (1, (0, a1)), (2, (0, a2)), (3, (0, a3))] [(0, (h 0 113))] (ja_up (ja_up (ja_up (ja_up (ja_up (ja_up h 55 ((a2).toNat) (h 0 21)) 0 19 3) 74 ((h 0 113).toNat) 15) 75 ((h 0 113).toNat) a2) 76 ((h 0 113).toNat) 0) 0 113 ((h 0 113) + 1)) Q
      refine ja_if_lt 274 dexpressionAct_267 rfl ⟨by omega, by omega⟩ (fun c267 => ?_) (fun c267 => ?_)
      · refine ja_iconst dexpressionAct_274 ?_
        refine ja_zreturn dexpressionAct_275 rfl (by omega) ?_
        exact mo_fin (by omega) rfl (k2 (ja_up (ja_up (ja_up (ja_up (ja_up (ja_up h 55 ((a2).toNat) (h 0 21)) 0 19 3) 74 ((h 0 113).toNat) 15) 75 ((h 0 113).toNat) a2) 76 ((h 0 113).toNat) 0) 0 113 ((h 0 113) + 1)) (show 0 < (h 0 8) ∧ (h 0 1) = (h 0 1) ∧ (h 0 118) = (h 0 118) ∧ (h 0 127) = (h 0 127) by omega) g44)
      · refine ja_iconst dexpressionAct_270 ?_
        refine ja_goto 275 dexpressionAct_271 rfl ?_
        refine ja_zreturn dexpressionAct_275 rfl (by omega) ?_
        exact mo_fin (by omega) rfl (k1 (ja_up (ja_up (ja_up (ja_up (ja_up (ja_up h 55 ((a2).toNat) (h 0 21)) 0 19 3) 74 ((h 0 113).toNat) 15) 75 ((h 0 113).toNat) a2) 76 ((h 0 113).toNat) 0) 0 113 ((h 0 113) + 1)) ((by have e : a1 = 10 := (by first | exact e1 | exact e38 | exact c248 | exact e1.resolve_left c248 | exact e28 | omega); (subst e; exact ab_point (fv := 3) (dk := 1) (by omega) g p1 p2))) g44)
  have T1_276 : (a1 = 12) → mJ l D cA ad 5 cX12_expressionAct 5 (some .boolean) 276 [(0, (2, ((0 : Nat) : Int))), (1, (0, a1)), (2, (0, a2)), (3, (0, a3))] [] h Q := by
    intro e1
    refine ja_aload_n dexpressionAct_276 rfl rfl ?_
    refine ja_iconst dexpressionAct_277 ?_
    have g45 := gP_form g (x := 5) ⟨by decide, by decide⟩
    refine fp_form dexpressionAct_278 ?_
    refine ja_aload_n dexpressionAct_281 rfl rfl ?_
    refine ja_bipush 16 dexpressionAct_282 rfl ?_
    refine ja_iconst dexpressionAct_284 ?_
    refine ja_aload_n dexpressionAct_285 rfl rfl ?_
    refine fg_given (v := h 0 21) rfl dexpressionAct_286 ?_
    have f46 := gF_given g
    refine ja_iadd dexpressionAct_289 ?_
    refine ja_iconst dexpressionAct_290 ?_
    refine t_emit (by decide) (show (0 : Nat) ≤ 8 by decide) dexpressionAct_291 g45 ⟨by decide, by decide⟩ ⟨by omega, by omega⟩ ⟨by decide, by decide⟩ (show 0 ≤ 16 ∧ 16 ≤ 26 by omega) (show (h 0 113) < 5000 by omega) ?_
    intro g47
    replace g47 : mo_G Zz (ja_up (ja_up (ja_up (ja_up (ja_up h 0 19 5) 74 ((h 0 113).toNat) 16) 75 ((h 0 113).toNat) (1 + (h 0 21))) 76 ((h 0 113).toNat) 0) 0 113 ((h 0 113) + 1)) := g47
    show mJ l D cA ad 5 cX12_expressionAct 5 (some .boolean) 294 [(0, (2, ((0 : Nat) : Int))), (1, (0, a1)), (2, (0, a2)), (3, (0, a3))] [(0, (h 0 113))] (ja_up (ja_up (ja_up (ja_up (ja_up h 0 19 5) 74 ((h 0 113).toNat) 16) 75 ((h 0 113).toNat) (1 + (h 0 21))) 76 ((h 0 113).toNat) 0) 0 113 ((h 0 113) + 1)) Q
    refine ja_if_lt 301 dexpressionAct_294 rfl ⟨by omega, by omega⟩ (fun c294 => ?_) (fun c294 => ?_)
    · refine ja_iconst dexpressionAct_301 ?_
      refine ja_zreturn dexpressionAct_302 rfl (by omega) ?_
      exact mo_fin (by omega) rfl (k2 (ja_up (ja_up (ja_up (ja_up (ja_up h 0 19 5) 74 ((h 0 113).toNat) 16) 75 ((h 0 113).toNat) (1 + (h 0 21))) 76 ((h 0 113).toNat) 0) 0 113 ((h 0 113) + 1)) (show 0 < (h 0 8) ∧ (h 0 1) = (h 0 1) ∧ (h 0 118) = (h 0 118) ∧ (h 0 127) = (h 0 127) by omega) g47)
    · refine ja_iconst dexpressionAct_297 ?_
      refine ja_goto 302 dexpressionAct_298 rfl ?_
      refine ja_zreturn dexpressionAct_302 rfl (by omega) ?_
      exact mo_fin (by omega) rfl (k1 (ja_up (ja_up (ja_up (ja_up (ja_up h 0 19 5) 74 ((h 0 113).toNat) 16) 75 ((h 0 113).toNat) (1 + (h 0 21))) 76 ((h 0 113).toNat) 0) 0 113 ((h 0 113) + 1)) ((by have e : a1 = 12 := (by first | exact e1 | exact e38 | exact c248 | exact e1.resolve_left c248 | exact e28 | omega); (subst e; exact ab_went g p1 p2))) g47)
  have T1_303 : (a1 < 1 ∨ 12 < a1) → mJ l D cA ad 5 cX12_expressionAct 5 (some .boolean) 303 [(0, (2, ((0 : Nat) : Int))), (1, (0, a1)), (2, (0, a2)), (3, (0, a3))] [] h Q := by
    intro e1
    have e38 := e38_of e1 p4 hact
    refine ja_aload_n dexpressionAct_303 rfl rfl ?_
    refine ja_iconst dexpressionAct_304 ?_
    have g48 := gP_form g (x := 0) ⟨by decide, by decide⟩
    refine fp_form dexpressionAct_305 ?_
    refine ja_aload_n dexpressionAct_308 rfl rfl ?_
    refine ja_bipush 41 dexpressionAct_309 rfl ?_
    refine t_sign (by decide) (show (0 : Nat) ≤ 8 by decide) dexpressionAct_311 g48 ⟨by decide, by decide⟩ ?_ ?_
    · intro k311_0 g49
      replace k311_0 : (h 0 7) < 900 ∧ (h 2 (h 0 7).toNat) = 5 ∧ (h 5 (h 0 7).toNat) = 41 := k311_0
      replace g49 : mo_G Zz (ja_up (ja_up h 0 19 0) 0 7 ((h 0 7) + 1)) := g49
      show mJ l D cA ad 5 cX12_expressionAct 5 (some .boolean) 314 [(0, (2, ((0 : Nat) : Int))), (1, (0, a1)), (2, (0, a2)), (3, (0, a3))] [(0, 1)] (ja_up (ja_up h 0 19 0) 0 7 ((h 0 7) + 1)) Q
      refine ja_zreturn dexpressionAct_314 rfl (by omega) ?_
      exact mo_fin (by omega) rfl (k1 (ja_up (ja_up h 0 19 0) 0 7 ((h 0 7) + 1)) ((by have e : a1 = 38 := (by first | exact e1 | exact e38 | exact c248 | exact e1.resolve_left c248 | exact e28 | omega); (subst e; exact ab_br g p1 p2))) g49)
    · intro h50 k311_1 g51
      replace k311_1 : 0 < (h50 0 8) ∧ (h50 0 1) = (h 0 1) ∧ (h50 0 118) = (h 0 118) ∧ (h50 0 127) = (h 0 127) := k311_1
      refine ja_zreturn dexpressionAct_314 rfl (by omega) ?_
      exact mo_fin (by omega) rfl (k2 h50 (by omega) g51)
  rcases (by omega : a1 = 1 ∨ a1 = 2 ∨ a1 = 3 ∨ a1 = 4 ∨ a1 = 5 ∨ a1 = 6 ∨ a1 = 7 ∨ a1 = 8 ∨ a1 = 9 ∨ a1 = 10 ∨ a1 = 11 ∨ a1 = 12 ∨ (a1 < 1 ∨ 12 < a1)) with e | e | e | e | e | e | e | e | e | e | e | e | e
  · exact ja_tableIn 64 dexpressionAct_1 ⟨by omega, by omega⟩ (by omega) (by omega) (by rw [e]; rfl) rfl (T1_64 (by omega))
  · exact ja_tableIn 70 dexpressionAct_1 ⟨by omega, by omega⟩ (by omega) (by omega) (by rw [e]; rfl) rfl (T1_70 (by omega))
  · exact ja_tableIn 76 dexpressionAct_1 ⟨by omega, by omega⟩ (by omega) (by omega) (by rw [e]; rfl) rfl (T1_76 (by omega))
  · exact ja_tableIn 98 dexpressionAct_1 ⟨by omega, by omega⟩ (by omega) (by omega) (by rw [e]; rfl) rfl (T1_98 (by omega))
  · exact ja_tableIn 125 dexpressionAct_1 ⟨by omega, by omega⟩ (by omega) (by omega) (by rw [e]; rfl) rfl (T1_125 (by omega))
  · exact ja_tableIn 157 dexpressionAct_1 ⟨by omega, by omega⟩ (by omega) (by omega) (by rw [e]; rfl) rfl (T1_157 (by omega))
  · exact ja_tableIn 162 dexpressionAct_1 ⟨by omega, by omega⟩ (by omega) (by omega) (by rw [e]; rfl) rfl (T1_162 (by omega))
  · exact ja_tableIn 167 dexpressionAct_1 ⟨by omega, by omega⟩ (by omega) (by omega) (by rw [e]; rfl) rfl (T1_167 (by omega))
  · exact ja_tableIn 228 dexpressionAct_1 ⟨by omega, by omega⟩ (by omega) (by omega) (by rw [e]; rfl) rfl (T1_228 (by omega))
  · exact ja_tableIn 234 dexpressionAct_1 ⟨by omega, by omega⟩ (by omega) (by omega) (by rw [e]; rfl) rfl (T1_234 (by omega))
  · exact ja_tableIn 234 dexpressionAct_1 ⟨by omega, by omega⟩ (by omega) (by omega) (by rw [e]; rfl) rfl (T1_234 (by omega))
  · exact ja_tableIn 276 dexpressionAct_1 ⟨by omega, by omega⟩ (by omega) (by omega) (by rw [e]; rfl) rfl (T1_276 (by omega))
  · exact ja_tableOut 303 dexpressionAct_1 ⟨by omega, by omega⟩ (by omega) rfl (T1_303 (by omega))
theorem t_expressionAct {a1 a2 a3 : Int} {R r ph q0 : Int} {tf : mo_TF} {s : List mo_A} {ht st rg : Nat → Int} {tu : Int} {d nL pc : Nat} {cc : ByteArray} {rt : Option FieldType} {L : List (Nat × ja_V)} {S : List ja_V} {h : ja_H} {Q : Option ja_V → ja_H → Prop} (hdd : 5 < d) (hwd : ja_wd S ≤ 8) (hd : decode cc pc = .ok (.invokevirtual 797, 3)) (g : mo_G Zz h) (r1 : -2147483648 ≤ a1 ∧ a1 ≤ 2147483647) (r2 : -2147483648 ≤ a2 ∧ a2 ≤ 2147483647) (r3 : -2147483648 ≤ a3 ∧ a3 ≤ 2147483647) (p1 : pk_S h (h 0 17).toNat s) (p2 : piB h R r ph tf q0 ((a1, a2, a3) :: s) ht st rg tu) (p3 : ph = 1 ∨ (h 0 74) ≤ 1 ∨ (h 0 75) ≤ 24) (p4 : a1 ≤ 12 ∨ a1 = 38) (k1 : ∀ (h' : ja_H), (pi_done h h' R r ph tf q0 (pi_mu h ((a1, a2, a3) :: s))) → mo_G Zz h' → mJ l D cA ad d cc nL rt (pc + 3) L ((0, 1) :: S) h' Q) (k2 : ∀ (h' : ja_H), (0 < (h' 0 8) ∧ (h' 0 1) = (h 0 1) ∧ (h' 0 118) = (h 0 118) ∧ (h' 0 127) = (h 0 127)) → mo_G Zz h' → mJ l D cA ad d cc nL rt (pc + 3) L ((0, 0) :: S) h' Q) : mJ l D cA ad d cc nL rt pc L ((0, a3) :: (0, a2) :: (0, a1) :: (2, ((0 : Nat) : Int)) :: S) h Q :=
  mc_expressionAct hdd hwd hd (s_expressionAct g r1 r2 r3 p1 p2 p3 p4 k1 k2)
end
theorem dstateAct_0 : decode cX12_stateAct 0 = .ok (.iload_n 1, 1) := by decide +kernel
theorem dstateAct_1 : decode cX12_stateAct 1 = .ok (.tableswitch 417 14 30 #[83, 125, 207, 214, 240, 245, 252, 289, 295, 307, 344, 366, 383, 400, 417, 417, 195], 83) := by decide +kernel
theorem dstateAct_84 : decode cX12_stateAct 84 = .ok (.aload_n 0, 1) := by decide +kernel
theorem dstateAct_85 : decode cX12_stateAct 85 = .ok (.bipush 123, 2) := by decide +kernel
theorem dstateAct_87 : decode cX12_stateAct 87 = .ok (.invokevirtual 742, 3) := by decide +kernel
theorem dstateAct_90 : decode cX12_stateAct 90 = .ok (.ifCond .eq 34, 3) := by decide +kernel
theorem dstateAct_93 : decode cX12_stateAct 93 = .ok (.aload_n 0, 1) := by decide +kernel
theorem dstateAct_94 : decode cX12_stateAct 94 = .ok (.bipush 16, 2) := by decide +kernel
theorem dstateAct_96 : decode cX12_stateAct 96 = .ok (.aload_n 0, 1) := by decide +kernel
theorem dstateAct_97 : decode cX12_stateAct 97 = .ok (.getfield 713, 3) := by decide +kernel
theorem dstateAct_100 : decode cX12_stateAct 100 = .ok (.iconst 0, 1) := by decide +kernel
theorem dstateAct_101 : decode cX12_stateAct 101 = .ok (.iconst 0, 1) := by decide +kernel
theorem dstateAct_102 : decode cX12_stateAct 102 = .ok (.invokevirtual 790, 3) := by decide +kernel
theorem dstateAct_105 : decode cX12_stateAct 105 = .ok (.ifCond .eq 19, 3) := by decide +kernel
theorem dstateAct_108 : decode cX12_stateAct 108 = .ok (.aload_n 0, 1) := by decide +kernel
theorem dstateAct_109 : decode cX12_stateAct 109 = .ok (.bipush 15, 2) := by decide +kernel
theorem dstateAct_111 : decode cX12_stateAct 111 = .ok (.iconst 0, 1) := by decide +kernel
theorem dstateAct_112 : decode cX12_stateAct 112 = .ok (.iconst 0, 1) := by decide +kernel
theorem dstateAct_113 : decode cX12_stateAct 113 = .ok (.iconst 0, 1) := by decide +kernel
theorem dstateAct_114 : decode cX12_stateAct 114 = .ok (.invokevirtual 790, 3) := by decide +kernel
theorem dstateAct_117 : decode cX12_stateAct 117 = .ok (.ifCond .eq 7, 3) := by decide +kernel
theorem dstateAct_120 : decode cX12_stateAct 120 = .ok (.iconst 1, 1) := by decide +kernel
theorem dstateAct_121 : decode cX12_stateAct 121 = .ok (.goto 4, 3) := by decide +kernel
theorem dstateAct_124 : decode cX12_stateAct 124 = .ok (.iconst 0, 1) := by decide +kernel
theorem dstateAct_125 : decode cX12_stateAct 125 = .ok (.ireturn, 1) := by decide +kernel
theorem dstateAct_126 : decode cX12_stateAct 126 = .ok (.aload_n 0, 1) := by decide +kernel
theorem dstateAct_127 : decode cX12_stateAct 127 = .ok (.bipush 125, 2) := by decide +kernel
theorem dstateAct_129 : decode cX12_stateAct 129 = .ok (.invokevirtual 586, 3) := by decide +kernel
theorem dstateAct_132 : decode cX12_stateAct 132 = .ok (.ifCond .eq 8, 3) := by decide +kernel
theorem dstateAct_135 : decode cX12_stateAct 135 = .ok (.aload_n 0, 1) := by decide +kernel
theorem dstateAct_136 : decode cX12_stateAct 136 = .ok (.invokevirtual 589, 3) := by decide +kernel
theorem dstateAct_139 : decode cX12_stateAct 139 = .ok (.ireturn, 1) := by decide +kernel
theorem dstateAct_140 : decode cX12_stateAct 140 = .ok (.aload_n 0, 1) := by decide +kernel
theorem dstateAct_141 : decode cX12_stateAct 141 = .ok (.invokevirtual 811, 3) := by decide +kernel
theorem dstateAct_144 : decode cX12_stateAct 144 = .ok (.ifCond .ne 8, 3) := by decide +kernel
theorem dstateAct_147 : decode cX12_stateAct 147 = .ok (.aload_n 0, 1) := by decide +kernel
theorem dstateAct_148 : decode cX12_stateAct 148 = .ok (.invokevirtual 593, 3) := by decide +kernel
theorem dstateAct_151 : decode cX12_stateAct 151 = .ok (.ireturn, 1) := by decide +kernel
theorem dstateAct_152 : decode cX12_stateAct 152 = .ok (.aload_n 0, 1) := by decide +kernel
theorem dstateAct_153 : decode cX12_stateAct 153 = .ok (.invokevirtual 814, 3) := by decide +kernel
theorem dstateAct_156 : decode cX12_stateAct 156 = .ok (.ifCond .eq 38, 3) := by decide +kernel
theorem dstateAct_159 : decode cX12_stateAct 159 = .ok (.aload_n 0, 1) := by decide +kernel
theorem dstateAct_160 : decode cX12_stateAct 160 = .ok (.bipush 15, 2) := by decide +kernel
theorem dstateAct_162 : decode cX12_stateAct 162 = .ok (.iconst 0, 1) := by decide +kernel
theorem dstateAct_163 : decode cX12_stateAct 163 = .ok (.iconst 0, 1) := by decide +kernel
theorem dstateAct_164 : decode cX12_stateAct 164 = .ok (.iconst 0, 1) := by decide +kernel
theorem dstateAct_165 : decode cX12_stateAct 165 = .ok (.invokevirtual 790, 3) := by decide +kernel
theorem dstateAct_168 : decode cX12_stateAct 168 = .ok (.ifCond .eq 26, 3) := by decide +kernel
theorem dstateAct_171 : decode cX12_stateAct 171 = .ok (.aload_n 0, 1) := by decide +kernel
theorem dstateAct_172 : decode cX12_stateAct 172 = .ok (.bipush 30, 2) := by decide +kernel
theorem dstateAct_174 : decode cX12_stateAct 174 = .ok (.iconst 0, 1) := by decide +kernel
theorem dstateAct_175 : decode cX12_stateAct 175 = .ok (.iconst 0, 1) := by decide +kernel
theorem dstateAct_176 : decode cX12_stateAct 176 = .ok (.iconst 0, 1) := by decide +kernel
theorem dstateAct_177 : decode cX12_stateAct 177 = .ok (.invokevirtual 790, 3) := by decide +kernel
theorem dstateAct_180 : decode cX12_stateAct 180 = .ok (.ifCond .eq 14, 3) := by decide +kernel
theorem dstateAct_183 : decode cX12_stateAct 183 = .ok (.aload_n 0, 1) := by decide +kernel
theorem dstateAct_184 : decode cX12_stateAct 184 = .ok (.invokevirtual 817, 3) := by decide +kernel
theorem dstateAct_187 : decode cX12_stateAct 187 = .ok (.ifCond .eq 7, 3) := by decide +kernel
theorem dstateAct_190 : decode cX12_stateAct 190 = .ok (.iconst 1, 1) := by decide +kernel
theorem dstateAct_191 : decode cX12_stateAct 191 = .ok (.goto 4, 3) := by decide +kernel
theorem dstateAct_194 : decode cX12_stateAct 194 = .ok (.iconst 0, 1) := by decide +kernel
theorem dstateAct_195 : decode cX12_stateAct 195 = .ok (.ireturn, 1) := by decide +kernel
theorem dstateAct_196 : decode cX12_stateAct 196 = .ok (.aload_n 0, 1) := by decide +kernel
theorem dstateAct_197 : decode cX12_stateAct 197 = .ok (.dup, 1) := by decide +kernel
theorem dstateAct_198 : decode cX12_stateAct 198 = .ok (.getfield 614, 3) := by decide +kernel
theorem dstateAct_201 : decode cX12_stateAct 201 = .ok (.iconst 1, 1) := by decide +kernel
theorem dstateAct_202 : decode cX12_stateAct 202 = .ok (.isub, 1) := by decide +kernel
theorem dstateAct_203 : decode cX12_stateAct 203 = .ok (.putfield 614, 3) := by decide +kernel
theorem dstateAct_206 : decode cX12_stateAct 206 = .ok (.iconst 1, 1) := by decide +kernel
theorem dstateAct_207 : decode cX12_stateAct 207 = .ok (.ireturn, 1) := by decide +kernel
theorem dstateAct_208 : decode cX12_stateAct 208 = .ok (.aload_n 0, 1) := by decide +kernel
theorem dstateAct_209 : decode cX12_stateAct 209 = .ok (.iload_n 2, 1) := by decide +kernel
theorem dstateAct_210 : decode cX12_stateAct 210 = .ok (.putfield 713, 3) := by decide +kernel
theorem dstateAct_213 : decode cX12_stateAct 213 = .ok (.iconst 1, 1) := by decide +kernel
theorem dstateAct_214 : decode cX12_stateAct 214 = .ok (.ireturn, 1) := by decide +kernel
theorem dstateAct_215 : decode cX12_stateAct 215 = .ok (.aload_n 0, 1) := by decide +kernel
theorem dstateAct_216 : decode cX12_stateAct 216 = .ok (.iload_n 2, 1) := by decide +kernel
theorem dstateAct_217 : decode cX12_stateAct 217 = .ok (.invokevirtual 820, 3) := by decide +kernel
theorem dstateAct_220 : decode cX12_stateAct 220 = .ok (.aload_n 0, 1) := by decide +kernel
theorem dstateAct_221 : decode cX12_stateAct 221 = .ok (.iconst 5, 1) := by decide +kernel
theorem dstateAct_222 : decode cX12_stateAct 222 = .ok (.aload_n 0, 1) := by decide +kernel
theorem dstateAct_223 : decode cX12_stateAct 223 = .ok (.getfield 710, 3) := by decide +kernel
theorem dstateAct_226 : decode cX12_stateAct 226 = .ok (.iconst 1, 1) := by decide +kernel
theorem dstateAct_227 : decode cX12_stateAct 227 = .ok (.isub, 1) := by decide +kernel
theorem dstateAct_228 : decode cX12_stateAct 228 = .ok (.iconst 0, 1) := by decide +kernel
theorem dstateAct_229 : decode cX12_stateAct 229 = .ok (.invokevirtual 732, 3) := by decide +kernel
theorem dstateAct_232 : decode cX12_stateAct 232 = .ok (.ifCond .lt 7, 3) := by decide +kernel
theorem dstateAct_235 : decode cX12_stateAct 235 = .ok (.iconst 1, 1) := by decide +kernel
theorem dstateAct_236 : decode cX12_stateAct 236 = .ok (.goto 4, 3) := by decide +kernel
theorem dstateAct_239 : decode cX12_stateAct 239 = .ok (.iconst 0, 1) := by decide +kernel
theorem dstateAct_240 : decode cX12_stateAct 240 = .ok (.ireturn, 1) := by decide +kernel
theorem dstateAct_241 : decode cX12_stateAct 241 = .ok (.aload_n 0, 1) := by decide +kernel
theorem dstateAct_242 : decode cX12_stateAct 242 = .ok (.invokevirtual 823, 3) := by decide +kernel
theorem dstateAct_245 : decode cX12_stateAct 245 = .ok (.ireturn, 1) := by decide +kernel
theorem dstateAct_246 : decode cX12_stateAct 246 = .ok (.aload_n 0, 1) := by decide +kernel
theorem dstateAct_247 : decode cX12_stateAct 247 = .ok (.iload_n 2, 1) := by decide +kernel
theorem dstateAct_248 : decode cX12_stateAct 248 = .ok (.iload_n 3, 1) := by decide +kernel
theorem dstateAct_249 : decode cX12_stateAct 249 = .ok (.invokevirtual 826, 3) := by decide +kernel
theorem dstateAct_252 : decode cX12_stateAct 252 = .ok (.ireturn, 1) := by decide +kernel
theorem dstateAct_253 : decode cX12_stateAct 253 = .ok (.aload_n 0, 1) := by decide +kernel
theorem dstateAct_254 : decode cX12_stateAct 254 = .ok (.bipush 21, 2) := by decide +kernel
theorem dstateAct_256 : decode cX12_stateAct 256 = .ok (.aload_n 0, 1) := by decide +kernel
theorem dstateAct_257 : decode cX12_stateAct 257 = .ok (.bipush 22, 2) := by decide +kernel
theorem dstateAct_259 : decode cX12_stateAct 259 = .ok (.iconst 0, 1) := by decide +kernel
theorem dstateAct_260 : decode cX12_stateAct 260 = .ok (.iconst 0, 1) := by decide +kernel
theorem dstateAct_261 : decode cX12_stateAct 261 = .ok (.invokevirtual 732, 3) := by decide +kernel
theorem dstateAct_264 : decode cX12_stateAct 264 = .ok (.iconst 0, 1) := by decide +kernel
theorem dstateAct_265 : decode cX12_stateAct 265 = .ok (.iconst 0, 1) := by decide +kernel
theorem dstateAct_266 : decode cX12_stateAct 266 = .ok (.invokevirtual 790, 3) := by decide +kernel
theorem dstateAct_269 : decode cX12_stateAct 269 = .ok (.ifCond .eq 19, 3) := by decide +kernel
theorem dstateAct_272 : decode cX12_stateAct 272 = .ok (.aload_n 0, 1) := by decide +kernel
theorem dstateAct_273 : decode cX12_stateAct 273 = .ok (.bipush 14, 2) := by decide +kernel
theorem dstateAct_275 : decode cX12_stateAct 275 = .ok (.iconst 0, 1) := by decide +kernel
theorem dstateAct_276 : decode cX12_stateAct 276 = .ok (.iconst 0, 1) := by decide +kernel
theorem dstateAct_277 : decode cX12_stateAct 277 = .ok (.iconst 0, 1) := by decide +kernel
theorem dstateAct_278 : decode cX12_stateAct 278 = .ok (.invokevirtual 790, 3) := by decide +kernel
theorem dstateAct_281 : decode cX12_stateAct 281 = .ok (.ifCond .eq 7, 3) := by decide +kernel
theorem dstateAct_284 : decode cX12_stateAct 284 = .ok (.iconst 1, 1) := by decide +kernel
theorem dstateAct_285 : decode cX12_stateAct 285 = .ok (.goto 4, 3) := by decide +kernel
theorem dstateAct_288 : decode cX12_stateAct 288 = .ok (.iconst 0, 1) := by decide +kernel
theorem dstateAct_289 : decode cX12_stateAct 289 = .ok (.ireturn, 1) := by decide +kernel
theorem dstateAct_290 : decode cX12_stateAct 290 = .ok (.aload_n 0, 1) := by decide +kernel
theorem dstateAct_291 : decode cX12_stateAct 291 = .ok (.iload_n 2, 1) := by decide +kernel
theorem dstateAct_292 : decode cX12_stateAct 292 = .ok (.invokevirtual 829, 3) := by decide +kernel
theorem dstateAct_295 : decode cX12_stateAct 295 = .ok (.ireturn, 1) := by decide +kernel
theorem dstateAct_296 : decode cX12_stateAct 296 = .ok (.aload_n 0, 1) := by decide +kernel
theorem dstateAct_297 : decode cX12_stateAct 297 = .ok (.getfield 234, 3) := by decide +kernel
theorem dstateAct_300 : decode cX12_stateAct 300 = .ok (.iload_n 2, 1) := by decide +kernel
theorem dstateAct_301 : decode cX12_stateAct 301 = .ok (.aload_n 0, 1) := by decide +kernel
theorem dstateAct_302 : decode cX12_stateAct 302 = .ok (.getfield 611, 3) := by decide +kernel
theorem dstateAct_305 : decode cX12_stateAct 305 = .ok (.iastore, 1) := by decide +kernel
theorem dstateAct_306 : decode cX12_stateAct 306 = .ok (.iconst 1, 1) := by decide +kernel
theorem dstateAct_307 : decode cX12_stateAct 307 = .ok (.ireturn, 1) := by decide +kernel
theorem dstateAct_308 : decode cX12_stateAct 308 = .ok (.aload_n 0, 1) := by decide +kernel
theorem dstateAct_309 : decode cX12_stateAct 309 = .ok (.bipush 24, 2) := by decide +kernel
theorem dstateAct_311 : decode cX12_stateAct 311 = .ok (.iload_n 2, 1) := by decide +kernel
theorem dstateAct_312 : decode cX12_stateAct 312 = .ok (.aload_n 0, 1) := by decide +kernel
theorem dstateAct_313 : decode cX12_stateAct 313 = .ok (.bipush 22, 2) := by decide +kernel
theorem dstateAct_315 : decode cX12_stateAct 315 = .ok (.iconst 0, 1) := by decide +kernel
theorem dstateAct_316 : decode cX12_stateAct 316 = .ok (.iconst 0, 1) := by decide +kernel
theorem dstateAct_317 : decode cX12_stateAct 317 = .ok (.invokevirtual 732, 3) := by decide +kernel
theorem dstateAct_320 : decode cX12_stateAct 320 = .ok (.iconst 0, 1) := by decide +kernel
theorem dstateAct_321 : decode cX12_stateAct 321 = .ok (.invokevirtual 790, 3) := by decide +kernel
theorem dstateAct_324 : decode cX12_stateAct 324 = .ok (.ifCond .eq 19, 3) := by decide +kernel
theorem dstateAct_327 : decode cX12_stateAct 327 = .ok (.aload_n 0, 1) := by decide +kernel
theorem dstateAct_328 : decode cX12_stateAct 328 = .ok (.bipush 14, 2) := by decide +kernel
theorem dstateAct_330 : decode cX12_stateAct 330 = .ok (.iconst 0, 1) := by decide +kernel
theorem dstateAct_331 : decode cX12_stateAct 331 = .ok (.iconst 0, 1) := by decide +kernel
theorem dstateAct_332 : decode cX12_stateAct 332 = .ok (.iconst 0, 1) := by decide +kernel
theorem dstateAct_333 : decode cX12_stateAct 333 = .ok (.invokevirtual 790, 3) := by decide +kernel
theorem dstateAct_336 : decode cX12_stateAct 336 = .ok (.ifCond .eq 7, 3) := by decide +kernel
theorem dstateAct_339 : decode cX12_stateAct 339 = .ok (.iconst 1, 1) := by decide +kernel
theorem dstateAct_340 : decode cX12_stateAct 340 = .ok (.goto 4, 3) := by decide +kernel
theorem dstateAct_343 : decode cX12_stateAct 343 = .ok (.iconst 0, 1) := by decide +kernel
theorem dstateAct_344 : decode cX12_stateAct 344 = .ok (.ireturn, 1) := by decide +kernel
theorem dstateAct_345 : decode cX12_stateAct 345 = .ok (.aload_n 0, 1) := by decide +kernel
theorem dstateAct_346 : decode cX12_stateAct 346 = .ok (.bipush 21, 2) := by decide +kernel
theorem dstateAct_348 : decode cX12_stateAct 348 = .ok (.iload_n 2, 1) := by decide +kernel
theorem dstateAct_349 : decode cX12_stateAct 349 = .ok (.iconst 0, 1) := by decide +kernel
theorem dstateAct_350 : decode cX12_stateAct 350 = .ok (.invokevirtual 732, 3) := by decide +kernel
theorem dstateAct_353 : decode cX12_stateAct 353 = .ok (.istore 4, 2) := by decide +kernel
theorem dstateAct_355 : decode cX12_stateAct 355 = .ok (.aload_n 0, 1) := by decide +kernel
theorem dstateAct_356 : decode cX12_stateAct 356 = .ok (.getfield 234, 3) := by decide +kernel
theorem dstateAct_359 : decode cX12_stateAct 359 = .ok (.iload_n 3, 1) := by decide +kernel
theorem dstateAct_360 : decode cX12_stateAct 360 = .ok (.aload_n 0, 1) := by decide +kernel
theorem dstateAct_361 : decode cX12_stateAct 361 = .ok (.getfield 611, 3) := by decide +kernel
theorem dstateAct_364 : decode cX12_stateAct 364 = .ok (.iastore, 1) := by decide +kernel
theorem dstateAct_365 : decode cX12_stateAct 365 = .ok (.iconst 1, 1) := by decide +kernel
theorem dstateAct_366 : decode cX12_stateAct 366 = .ok (.ireturn, 1) := by decide +kernel
theorem dstateAct_367 : decode cX12_stateAct 367 = .ok (.aload_n 0, 1) := by decide +kernel
theorem dstateAct_368 : decode cX12_stateAct 368 = .ok (.bipush 19, 2) := by decide +kernel
theorem dstateAct_370 : decode cX12_stateAct 370 = .ok (.iconst 0, 1) := by decide +kernel
theorem dstateAct_371 : decode cX12_stateAct 371 = .ok (.iconst 0, 1) := by decide +kernel
theorem dstateAct_372 : decode cX12_stateAct 372 = .ok (.invokevirtual 732, 3) := by decide +kernel
theorem dstateAct_375 : decode cX12_stateAct 375 = .ok (.ifCond .lt 7, 3) := by decide +kernel
theorem dstateAct_378 : decode cX12_stateAct 378 = .ok (.iconst 1, 1) := by decide +kernel
theorem dstateAct_379 : decode cX12_stateAct 379 = .ok (.goto 4, 3) := by decide +kernel
theorem dstateAct_382 : decode cX12_stateAct 382 = .ok (.iconst 0, 1) := by decide +kernel
theorem dstateAct_383 : decode cX12_stateAct 383 = .ok (.ireturn, 1) := by decide +kernel
theorem dstateAct_384 : decode cX12_stateAct 384 = .ok (.aload_n 0, 1) := by decide +kernel
theorem dstateAct_385 : decode cX12_stateAct 385 = .ok (.bipush 20, 2) := by decide +kernel
theorem dstateAct_387 : decode cX12_stateAct 387 = .ok (.iconst 0, 1) := by decide +kernel
theorem dstateAct_388 : decode cX12_stateAct 388 = .ok (.iconst 0, 1) := by decide +kernel
theorem dstateAct_389 : decode cX12_stateAct 389 = .ok (.invokevirtual 732, 3) := by decide +kernel
theorem dstateAct_392 : decode cX12_stateAct 392 = .ok (.ifCond .lt 7, 3) := by decide +kernel
theorem dstateAct_395 : decode cX12_stateAct 395 = .ok (.iconst 1, 1) := by decide +kernel
theorem dstateAct_396 : decode cX12_stateAct 396 = .ok (.goto 4, 3) := by decide +kernel
theorem dstateAct_399 : decode cX12_stateAct 399 = .ok (.iconst 0, 1) := by decide +kernel
theorem dstateAct_400 : decode cX12_stateAct 400 = .ok (.ireturn, 1) := by decide +kernel
theorem dstateAct_401 : decode cX12_stateAct 401 = .ok (.aload_n 0, 1) := by decide +kernel
theorem dstateAct_402 : decode cX12_stateAct 402 = .ok (.bipush 18, 2) := by decide +kernel
theorem dstateAct_404 : decode cX12_stateAct 404 = .ok (.iconst 0, 1) := by decide +kernel
theorem dstateAct_405 : decode cX12_stateAct 405 = .ok (.iconst 0, 1) := by decide +kernel
theorem dstateAct_406 : decode cX12_stateAct 406 = .ok (.invokevirtual 732, 3) := by decide +kernel
theorem dstateAct_409 : decode cX12_stateAct 409 = .ok (.ifCond .lt 7, 3) := by decide +kernel
theorem dstateAct_412 : decode cX12_stateAct 412 = .ok (.iconst 1, 1) := by decide +kernel
theorem dstateAct_413 : decode cX12_stateAct 413 = .ok (.goto 4, 3) := by decide +kernel
theorem dstateAct_416 : decode cX12_stateAct 416 = .ok (.iconst 0, 1) := by decide +kernel
theorem dstateAct_417 : decode cX12_stateAct 417 = .ok (.ireturn, 1) := by decide +kernel
theorem dstateAct_418 : decode cX12_stateAct 418 = .ok (.aload_n 0, 1) := by decide +kernel
theorem dstateAct_419 : decode cX12_stateAct 419 = .ok (.iload_n 2, 1) := by decide +kernel
theorem dstateAct_420 : decode cX12_stateAct 420 = .ok (.invokevirtual 832, 3) := by decide +kernel
theorem dstateAct_423 : decode cX12_stateAct 423 = .ok (.ireturn, 1) := by decide +kernel
section
variable {l : Launch} {D : va_G} {cA : Nat → ClassId} {ad : Nat → Nat}
set_option maxHeartbeats 3000000 in
theorem s_stateAct {a1 a2 a3 : Int} {R r ph q0 : Int} {tf : mo_TF} {s : List mo_A} {ht st rg : Nat → Int} {tu : Int} {h : ja_H} {Q : Option ja_V → ja_H → Prop} (g : mo_G Zz h) (r1 : -2147483648 ≤ a1 ∧ a1 ≤ 2147483647) (r2 : -2147483648 ≤ a2 ∧ a2 ≤ 2147483647) (r3 : -2147483648 ≤ a3 ∧ a3 ≤ 2147483647) (p1 : pk_S h (h 0 17).toNat s) (p2 : piB h R r ph tf q0 ((a1, a2, a3) :: s) ht st rg tu) (p3 : ph = 1 ∨ (h 0 74) ≤ 1 ∨ (h 0 75) ≤ 24) (p4 : 14 ≤ a1 ∧ a1 ≤ 30) (p5 : tf_ok ph tf) (k1 : ∀ (h' : ja_H), (pi_done h h' R r ph tf q0 (pi_mu h ((a1, a2, a3) :: s))) → mo_G Zz h' → Q (some (0, 1)) h') (k2 : ∀ (h' : ja_H), (0 < (h' 0 8) ∧ (h' 0 1) = (h 0 1) ∧ (h' 0 118) = (h 0 118) ∧ (h' 0 127) = (h 0 127)) → mo_G Zz h' → Q (some (0, 0)) h') : mM_stateAct l D cA ad a1 a2 a3 h Q := by
  show mJ l D cA ad 5 cX12_stateAct 5 (some .boolean) 0 [(0, (2, ((0 : Nat) : Int))), (1, (0, a1)), (2, (0, a2)), (3, (0, a3))] [] h Q
  have kn_at := gF_at g
  have kn_wTop := gF_wTop g
  have kn_words := gF_words g
  have kn_nest := gF_nest g
  have kn_known := gF_known g
  have kn_locals := gF_locals g
  have kn_false1 := gF_false1 g
  have hN := piB_num g p1 p2
  obtain ⟨N1, N2, N3, N4, N5, N6, N7, N8, N9, N10, N11, N12, N13, ⟨NK1, NK2⟩, ND1, ND2, ND3, NU1, NU2⟩ := hN
  have hll := bs_hl (x := (a1, a2, a3)) (show 13 ≤ a1 ∧ a1 ≤ 30 by omega) p2
  have hact : 1 ≤ a1 ∧ a1 ≤ 38 ∧ a1 ≠ 13 ∧ a1 ≠ 29 := bs_act p2
  refine ja_iload_n dstateAct_0 rfl rfl ?_
  have T1_84 : (a1 = 14) → mJ l D cA ad 5 cX12_stateAct 5 (some .boolean) 84 [(0, (2, ((0 : Nat) : Int))), (1, (0, a1)), (2, (0, a2)), (3, (0, a3))] [] h Q := by
    intro e1
    refine ja_aload_n dstateAct_84 rfl rfl ?_
    refine ja_bipush 123 dstateAct_85 rfl ?_
    refine t_sign (by decide) (show (0 : Nat) ≤ 8 by decide) dstateAct_87 g ⟨by decide, by decide⟩ ?_ ?_
    · intro k87_0 g1
      replace k87_0 : (h 0 7) < 900 ∧ (h 2 (h 0 7).toNat) = 5 ∧ (h 5 (h 0 7).toNat) = 123 := k87_0
      replace g1 : mo_G Zz (ja_up h 0 7 ((h 0 7) + 1)) := g1
      show mJ l D cA ad 5 cX12_stateAct 5 (some .boolean) 90 [(0, (2, ((0 : Nat) : Int))), (1, (0, a1)), (2, (0, a2)), (3, (0, a3))] [(0, 1)] (ja_up h 0 7 ((h 0 7) + 1)) Q
      refine ja_if_eq 124 dstateAct_90 rfl ⟨by decide, by decide⟩ (fun c90 => absurd c90 (by omega)) (fun c90 => ?_)
      refine ja_aload_n dstateAct_93 rfl rfl ?_
      refine ja_bipush 16 dstateAct_94 rfl ?_
      refine ja_aload_n dstateAct_96 rfl rfl ?_
      refine fg_known (v := h 0 79) rfl dstateAct_97 ?_
      have f2 := gF_known g
      refine ja_iconst dstateAct_100 ?_
      refine ja_iconst dstateAct_101 ?_
      refine t_later (by decide) (show (0 : Nat) ≤ 8 by decide) dstateAct_102 g1 ⟨by decide, by decide⟩ ⟨by omega, by omega⟩ ⟨by decide, by decide⟩ ⟨by decide, by decide⟩ (show 0 ≤ 16 ∧ 16 ≤ 38 by omega) (show (h 0 17) < 2000 by omega) ?_
      intro g3
      replace g3 : mo_G Zz (ja_up (ja_up (ja_up (ja_up (ja_up (ja_up h 0 7 ((h 0 7) + 1)) 6 ((h 0 17).toNat) 16) 7 ((h 0 17).toNat) (h 0 79)) 8 ((h 0 17).toNat) 0) 9 ((h 0 17).toNat) 0) 0 17 ((h 0 17) + 1)) := g3
      show mJ l D cA ad 5 cX12_stateAct 5 (some .boolean) 105 [(0, (2, ((0 : Nat) : Int))), (1, (0, a1)), (2, (0, a2)), (3, (0, a3))] [(0, 1)] (ja_up (ja_up (ja_up (ja_up (ja_up (ja_up h 0 7 ((h 0 7) + 1)) 6 ((h 0 17).toNat) 16) 7 ((h 0 17).toNat) (h 0 79)) 8 ((h 0 17).toNat) 0) 9 ((h 0 17).toNat) 0) 0 17 ((h 0 17) + 1)) Q
      refine ja_if_eq 124 dstateAct_105 rfl ⟨by decide, by decide⟩ (fun c105 => absurd c105 (by omega)) (fun c105 => ?_)
      refine ja_aload_n dstateAct_108 rfl rfl ?_
      refine ja_bipush 15 dstateAct_109 rfl ?_
      refine ja_iconst dstateAct_111 ?_
      refine ja_iconst dstateAct_112 ?_
      refine ja_iconst dstateAct_113 ?_
      refine t_later (by decide) (show (0 : Nat) ≤ 8 by decide) dstateAct_114 g3 ⟨by decide, by decide⟩ ⟨by decide, by decide⟩ ⟨by decide, by decide⟩ ⟨by decide, by decide⟩ (show 0 ≤ 15 ∧ 15 ≤ 38 by omega) (show ((h 0 17) + 1) < 2000 by omega) ?_
      intro g4
      replace g4 : mo_G Zz (ja_up (ja_up (ja_up (ja_up (ja_up (ja_up (ja_up (ja_up (ja_up (ja_up (ja_up h 0 7 ((h 0 7) + 1)) 6 ((h 0 17).toNat) 16) 7 ((h 0 17).toNat) (h 0 79)) 8 ((h 0 17).toNat) 0) 9 ((h 0 17).toNat) 0) 0 17 ((h 0 17) + 1)) 6 (((h 0 17) + 1).toNat) 15) 7 (((h 0 17) + 1).toNat) 0) 8 (((h 0 17) + 1).toNat) 0) 9 (((h 0 17) + 1).toNat) 0) 0 17 (((h 0 17) + 1) + 1)) := g4
      show mJ l D cA ad 5 cX12_stateAct 5 (some .boolean) 117 [(0, (2, ((0 : Nat) : Int))), (1, (0, a1)), (2, (0, a2)), (3, (0, a3))] [(0, 1)] (ja_up (ja_up (ja_up (ja_up (ja_up (ja_up (ja_up (ja_up (ja_up (ja_up (ja_up h 0 7 ((h 0 7) + 1)) 6 ((h 0 17).toNat) 16) 7 ((h 0 17).toNat) (h 0 79)) 8 ((h 0 17).toNat) 0) 9 ((h 0 17).toNat) 0) 0 17 ((h 0 17) + 1)) 6 (((h 0 17) + 1).toNat) 15) 7 (((h 0 17) + 1).toNat) 0) 8 (((h 0 17) + 1).toNat) 0) 9 (((h 0 17) + 1).toNat) 0) 0 17 (((h 0 17) + 1) + 1)) Q
      refine ja_if_eq 124 dstateAct_117 rfl ⟨by decide, by decide⟩ (fun c117 => absurd c117 (by omega)) (fun c117 => ?_)
      refine ja_iconst dstateAct_120 ?_
      refine ja_goto 125 dstateAct_121 rfl ?_
      refine ja_zreturn dstateAct_125 rfl (by omega) ?_
      exact mo_fin (by omega) rfl (k1 (ja_up (ja_up (ja_up (ja_up (ja_up (ja_up (ja_up (ja_up (ja_up (ja_up (ja_up h 0 7 ((h 0 7) + 1)) 6 ((h 0 17).toNat) 16) 7 ((h 0 17).toNat) (h 0 79)) 8 ((h 0 17).toNat) 0) 9 ((h 0 17).toNat) 0) 0 17 ((h 0 17) + 1)) 6 (((h 0 17) + 1).toNat) 15) 7 (((h 0 17) + 1).toNat) 0) 8 (((h 0 17) + 1).toNat) 0) 9 (((h 0 17) + 1).toNat) 0) 0 17 (((h 0 17) + 1) + 1)) ((by have e : a1 = 14 := (by first | exact e1 | exact e38 | exact c248 | exact e1.resolve_left c248 | exact e28 | omega); (subst e; exact ab_block g p1 p2))) g4)
    · intro h5 k87_1 g6
      refine ja_if_eq 124 dstateAct_90 rfl ⟨by decide, by decide⟩ (fun c90 => ?_) (fun c90 => absurd c90 (by omega))
      refine ja_iconst dstateAct_124 ?_
      refine ja_zreturn dstateAct_125 rfl (by omega) ?_
      exact mo_fin (by omega) rfl (k2 h5 (by omega) g6)
  have T1_126 : (a1 = 15) → mJ l D cA ad 5 cX12_stateAct 5 (some .boolean) 126 [(0, (2, ((0 : Nat) : Int))), (1, (0, a1)), (2, (0, a2)), (3, (0, a3))] [] h Q := by
    intro e1
    refine ja_aload_n dstateAct_126 rfl rfl ?_
    refine ja_bipush 125 dstateAct_127 rfl ?_
    refine t_isSign (by decide) (show (0 : Nat) ≤ 8 by decide) dstateAct_129 g ⟨by decide, by decide⟩ ?_
    intro w7 k129_0
    refine ja_if_eq 140 dstateAct_132 rfl ⟨by omega, by omega⟩ (fun c132 => ?_) (fun c132 => ?_)
    · replace k129_0 := is0 k129_0 c132
      refine ja_aload_n dstateAct_140 rfl rfl ?_
      refine t_beginsState (by decide) (show (0 : Nat) ≤ 8 by decide) dstateAct_141 g  ?_
      intro w8 k141_0
      refine ja_if_ne 152 dstateAct_144 rfl ⟨by omega, by omega⟩ (fun c144 => ?_) (fun c144 => ?_)
      · refine ja_aload_n dstateAct_152 rfl rfl ?_
        refine t_enter (by decide) (show (0 : Nat) ≤ 8 by decide) dstateAct_153 g  ?_ ?_
        · intro k153_0 g9
          replace k153_0 : (h 0 18) < 16 := k153_0
          replace g9 : mo_G Zz (ja_up h 0 18 ((h 0 18) + 1)) := g9
          show mJ l D cA ad 5 cX12_stateAct 5 (some .boolean) 156 [(0, (2, ((0 : Nat) : Int))), (1, (0, a1)), (2, (0, a2)), (3, (0, a3))] [(0, 1)] (ja_up h 0 18 ((h 0 18) + 1)) Q
          refine ja_if_eq 194 dstateAct_156 rfl ⟨by decide, by decide⟩ (fun c156 => absurd c156 (by omega)) (fun c156 => ?_)
          refine ja_aload_n dstateAct_159 rfl rfl ?_
          refine ja_bipush 15 dstateAct_160 rfl ?_
          refine ja_iconst dstateAct_162 ?_
          refine ja_iconst dstateAct_163 ?_
          refine ja_iconst dstateAct_164 ?_
          refine t_later (by decide) (show (0 : Nat) ≤ 8 by decide) dstateAct_165 g9 ⟨by decide, by decide⟩ ⟨by decide, by decide⟩ ⟨by decide, by decide⟩ ⟨by decide, by decide⟩ (show 0 ≤ 15 ∧ 15 ≤ 38 by omega) (show (h 0 17) < 2000 by omega) ?_
          intro g10
          replace g10 : mo_G Zz (ja_up (ja_up (ja_up (ja_up (ja_up (ja_up h 0 18 ((h 0 18) + 1)) 6 ((h 0 17).toNat) 15) 7 ((h 0 17).toNat) 0) 8 ((h 0 17).toNat) 0) 9 ((h 0 17).toNat) 0) 0 17 ((h 0 17) + 1)) := g10
          show mJ l D cA ad 5 cX12_stateAct 5 (some .boolean) 168 [(0, (2, ((0 : Nat) : Int))), (1, (0, a1)), (2, (0, a2)), (3, (0, a3))] [(0, 1)] (ja_up (ja_up (ja_up (ja_up (ja_up (ja_up h 0 18 ((h 0 18) + 1)) 6 ((h 0 17).toNat) 15) 7 ((h 0 17).toNat) 0) 8 ((h 0 17).toNat) 0) 9 ((h 0 17).toNat) 0) 0 17 ((h 0 17) + 1)) Q
          refine ja_if_eq 194 dstateAct_168 rfl ⟨by decide, by decide⟩ (fun c168 => absurd c168 (by omega)) (fun c168 => ?_)
          refine ja_aload_n dstateAct_171 rfl rfl ?_
          refine ja_bipush 30 dstateAct_172 rfl ?_
          refine ja_iconst dstateAct_174 ?_
          refine ja_iconst dstateAct_175 ?_
          refine ja_iconst dstateAct_176 ?_
          refine t_later (by decide) (show (0 : Nat) ≤ 8 by decide) dstateAct_177 g10 ⟨by decide, by decide⟩ ⟨by decide, by decide⟩ ⟨by decide, by decide⟩ ⟨by decide, by decide⟩ (show 0 ≤ 30 ∧ 30 ≤ 38 by omega) (show ((h 0 17) + 1) < 2000 by omega) ?_
          intro g11
          replace g11 : mo_G Zz (ja_up (ja_up (ja_up (ja_up (ja_up (ja_up (ja_up (ja_up (ja_up (ja_up (ja_up h 0 18 ((h 0 18) + 1)) 6 ((h 0 17).toNat) 15) 7 ((h 0 17).toNat) 0) 8 ((h 0 17).toNat) 0) 9 ((h 0 17).toNat) 0) 0 17 ((h 0 17) + 1)) 6 (((h 0 17) + 1).toNat) 30) 7 (((h 0 17) + 1).toNat) 0) 8 (((h 0 17) + 1).toNat) 0) 9 (((h 0 17) + 1).toNat) 0) 0 17 (((h 0 17) + 1) + 1)) := g11
          show mJ l D cA ad 5 cX12_stateAct 5 (some .boolean) 180 [(0, (2, ((0 : Nat) : Int))), (1, (0, a1)), (2, (0, a2)), (3, (0, a3))] [(0, 1)] (ja_up (ja_up (ja_up (ja_up (ja_up (ja_up (ja_up (ja_up (ja_up (ja_up (ja_up h 0 18 ((h 0 18) + 1)) 6 ((h 0 17).toNat) 15) 7 ((h 0 17).toNat) 0) 8 ((h 0 17).toNat) 0) 9 ((h 0 17).toNat) 0) 0 17 ((h 0 17) + 1)) 6 (((h 0 17) + 1).toNat) 30) 7 (((h 0 17) + 1).toNat) 0) 8 (((h 0 17) + 1).toNat) 0) 9 (((h 0 17) + 1).toNat) 0) 0 17 (((h 0 17) + 1) + 1)) Q
          refine ja_if_eq 194 dstateAct_180 rfl ⟨by decide, by decide⟩ (fun c180 => absurd c180 (by omega)) (fun c180 => ?_)
          refine ja_aload_n dstateAct_183 rfl rfl ?_
          refine t_state (by decide) (show (0 : Nat) ≤ 8 by decide) dstateAct_184 g11 (g) (p1) ((by have e : a1 = 15 := (by first | exact e1 | exact e38 | exact c248 | exact e1.resolve_left c248 | exact e28 | omega); (subst e; exact p2))) ((by omega)) (rfl) ?_ ?_
          · intro h12 k184_0 g13
            refine ja_if_eq 194 dstateAct_187 rfl ⟨by decide, by decide⟩ (fun c187 => absurd c187 (by omega)) (fun c187 => ?_)
            refine ja_iconst dstateAct_190 ?_
            refine ja_goto 195 dstateAct_191 rfl ?_
            refine ja_zreturn dstateAct_195 rfl (by omega) ?_
            exact mo_fin (by omega) rfl (k1 h12 ((by have e : a1 = 15 := (by first | exact e1 | exact e38 | exact c248 | exact e1.resolve_left c248 | exact e28 | omega); (subst e; exact k184_0))) g13)
          · intro h14 k184_1 g15
            replace k184_1 : 0 < (h14 0 8) ∧ (h14 0 1) = (h 0 1) ∧ (h14 0 118) = (h 0 118) ∧ (h14 0 127) = (h 0 127) := k184_1
            refine ja_if_eq 194 dstateAct_187 rfl ⟨by decide, by decide⟩ (fun c187 => ?_) (fun c187 => absurd c187 (by omega))
            refine ja_iconst dstateAct_194 ?_
            refine ja_zreturn dstateAct_195 rfl (by omega) ?_
            exact mo_fin (by omega) rfl (k2 h14 (by omega) g15)
        · intro h16 k153_1 g17
          refine ja_if_eq 194 dstateAct_156 rfl ⟨by decide, by decide⟩ (fun c156 => ?_) (fun c156 => absurd c156 (by omega))
          refine ja_iconst dstateAct_194 ?_
          refine ja_zreturn dstateAct_195 rfl (by omega) ?_
          exact mo_fin (by omega) rfl (k2 h16 (by omega) g17)
      · refine ja_aload_n dstateAct_147 rfl rfl ?_
        refine t_wrong (by decide) (show (0 : Nat) ≤ 8 by decide) dstateAct_148 g  ?_
        intro h18 k148_0 g19
        refine ja_zreturn dstateAct_151 rfl (by omega) ?_
        exact mo_fin (by omega) rfl (k2 h18 (by omega) g19)
    · have z132 := is1v k129_0 c132
      replace k129_0 := is1 k129_0 c132
      refine ja_aload_n dstateAct_135 rfl rfl ?_
      refine t_take (by decide) (show (0 : Nat) ≤ 8 by decide) dstateAct_136 g  ?_ ?_
      · intro k136_0 g20
        replace k136_0 : (h 0 7) < 900 := k136_0
        replace g20 : mo_G Zz (ja_up h 0 7 ((h 0 7) + 1)) := g20
        show mJ l D cA ad 5 cX12_stateAct 5 (some .boolean) 139 [(0, (2, ((0 : Nat) : Int))), (1, (0, a1)), (2, (0, a2)), (3, (0, a3))] [(0, 1)] (ja_up h 0 7 ((h 0 7) + 1)) Q
        refine ja_zreturn dstateAct_139 rfl (by omega) ?_
        exact mo_fin (by omega) rfl (k1 (ja_up h 0 7 ((h 0 7) + 1)) ((by have e : a1 = 15 := (by first | exact e1 | exact e38 | exact c248 | exact e1.resolve_left c248 | exact e28 | omega); (subst e; exact ab_states_end g p1 p2))) g20)
      · intro h21 k136_1 g22
        refine ja_zreturn dstateAct_139 rfl (by omega) ?_
        exact mo_fin (by omega) rfl (k2 h21 (by omega) g22)
  have T1_208 : (a1 = 16) → mJ l D cA ad 5 cX12_stateAct 5 (some .boolean) 208 [(0, (2, ((0 : Nat) : Int))), (1, (0, a1)), (2, (0, a2)), (3, (0, a3))] [] h Q := by
    intro e1
    have ha := bs_16 (a := a2) (b := a3) (by have e : a1 = 16 := (by first | exact e1 | exact e38 | exact c248 | exact e1.resolve_left c248 | exact e28 | omega); (subst e; exact p2))
    refine ja_aload_n dstateAct_208 rfl rfl ?_
    refine ja_iload_n dstateAct_209 rfl rfl ?_
    have g23 := gP_known g (x := a2) ⟨by omega, by omega⟩
    refine fp_known dstateAct_210 ?_
    refine ja_iconst dstateAct_213 ?_
    refine ja_zreturn dstateAct_214 rfl (by omega) ?_
    exact mo_fin (by omega) rfl (k1 (ja_up h 0 79 a2) ((by have e : a1 = 16 := (by first | exact e1 | exact e38 | exact c248 | exact e1.resolve_left c248 | exact e28 | omega); (subst e; exact ab_scope g p1 p2))) g23)
  have T1_215 : (a1 = 17) → mJ l D cA ad 5 cX12_stateAct 5 (some .boolean) 215 [(0, (2, ((0 : Nat) : Int))), (1, (0, a1)), (2, (0, a2)), (3, (0, a3))] [] h Q := by
    intro e1
    have ha := bs_17 (a := a2) (b := a3) (by have e : a1 = 17 := (by first | exact e1 | exact e38 | exact c248 | exact e1.resolve_left c248 | exact e28 | omega); (subst e; exact p2))
    refine ja_aload_n dstateAct_215 rfl rfl ?_
    refine ja_iload_n dstateAct_216 rfl rfl ?_
    refine t_know (by decide) (show (0 : Nat) ≤ 8 by decide) dstateAct_217 g ⟨by omega, by omega⟩ (show 0 ≤ a2 ∧ a2 ≤ 900 by omega) (show (h 0 79) ≤ 15 by omega) (show (h 0 77) ≤ 14 by omega) ?_
    intro w24 w25 k217_0 g26
    replace k217_0 : 0 ≤ w24 ∧ w24 ≤ 8 ∧ (1 ≤ w24 ∨ w24 = (h 0 11)) ∧ -2147483648 ≤ w25 ∧ w25 ≤ 2147483647 := k217_0
    replace g26 : mo_G Zz (ja_up (ja_up (ja_up (ja_up (ja_up (ja_up h 0 11 w24) 0 12 w25) 49 ((h 0 79).toNat) (h 5 (a2).toNat)) 50 ((h 0 79).toNat) (h 0 77)) 0 79 ((h 0 79) + 1)) 0 77 ((h 0 77) + 1)) := g26
    show mJ l D cA ad 5 cX12_stateAct 5 (some .boolean) 220 [(0, (2, ((0 : Nat) : Int))), (1, (0, a1)), (2, (0, a2)), (3, (0, a3))] [] (ja_up (ja_up (ja_up (ja_up (ja_up (ja_up h 0 11 w24) 0 12 w25) 49 ((h 0 79).toNat) (h 5 (a2).toNat)) 50 ((h 0 79).toNat) (h 0 77)) 0 79 ((h 0 79) + 1)) 0 77 ((h 0 77) + 1)) Q
    refine ja_aload_n dstateAct_220 rfl rfl ?_
    refine ja_iconst dstateAct_221 ?_
    refine ja_aload_n dstateAct_222 rfl rfl ?_
    refine fg_locals (v := (h 0 77) + 1) rfl dstateAct_223 ?_
    refine ja_iconst dstateAct_226 ?_
    refine ja_isub dstateAct_227 ?_
    refine ja_iconst dstateAct_228 ?_
    refine t_emit (by decide) (show (0 : Nat) ≤ 8 by decide) dstateAct_229 g26 ⟨by decide, by decide⟩ ⟨by omega, by omega⟩ ⟨by decide, by decide⟩ (show 0 ≤ 5 ∧ 5 ≤ 26 by omega) (show (h 0 113) < 5000 by omega) ?_
    intro g27
    replace g27 : mo_G Zz (ja_up (ja_up (ja_up (ja_up (ja_up (ja_up (ja_up (ja_up (ja_up (ja_up h 0 11 w24) 0 12 w25) 49 ((h 0 79).toNat) (h 5 (a2).toNat)) 50 ((h 0 79).toNat) (h 0 77)) 0 79 ((h 0 79) + 1)) 0 77 ((h 0 77) + 1)) 74 ((h 0 113).toNat) 5) 75 ((h 0 113).toNat) (((h 0 77) + 1) - 1)) 76 ((h 0 113).toNat) 0) 0 113 ((h 0 113) + 1)) := g27
    show mJ l D cA ad 5 cX12_stateAct 5 (some .boolean) 232 [(0, (2, ((0 : Nat) : Int))), (1, (0, a1)), (2, (0, a2)), (3, (0, a3))] [(0, (h 0 113))] (ja_up (ja_up (ja_up (ja_up (ja_up (ja_up (ja_up (ja_up (ja_up (ja_up h 0 11 w24) 0 12 w25) 49 ((h 0 79).toNat) (h 5 (a2).toNat)) 50 ((h 0 79).toNat) (h 0 77)) 0 79 ((h 0 79) + 1)) 0 77 ((h 0 77) + 1)) 74 ((h 0 113).toNat) 5) 75 ((h 0 113).toNat) (((h 0 77) + 1) - 1)) 76 ((h 0 113).toNat) 0) 0 113 ((h 0 113) + 1)) Q
    refine ja_if_lt 239 dstateAct_232 rfl ⟨by omega, by omega⟩ (fun c232 => ?_) (fun c232 => ?_)
    · refine ja_iconst dstateAct_239 ?_
      refine ja_zreturn dstateAct_240 rfl (by omega) ?_
      exact mo_fin (by omega) rfl (k2 (ja_up (ja_up (ja_up (ja_up (ja_up (ja_up (ja_up (ja_up (ja_up (ja_up h 0 11 w24) 0 12 w25) 49 ((h 0 79).toNat) (h 5 (a2).toNat)) 50 ((h 0 79).toNat) (h 0 77)) 0 79 ((h 0 79) + 1)) 0 77 ((h 0 77) + 1)) 74 ((h 0 113).toNat) 5) 75 ((h 0 113).toNat) (((h 0 77) + 1) - 1)) 76 ((h 0 113).toNat) 0) 0 113 ((h 0 113) + 1)) (show 0 < (h 0 8) ∧ (h 0 1) = (h 0 1) ∧ (h 0 118) = (h 0 118) ∧ (h 0 127) = (h 0 127) by omega) g27)
    · refine ja_iconst dstateAct_235 ?_
      refine ja_goto 240 dstateAct_236 rfl ?_
      refine ja_zreturn dstateAct_240 rfl (by omega) ?_
      exact mo_fin (by omega) rfl (k1 (ja_up (ja_up (ja_up (ja_up (ja_up (ja_up (ja_up (ja_up (ja_up (ja_up h 0 11 w24) 0 12 w25) 49 ((h 0 79).toNat) (h 5 (a2).toNat)) 50 ((h 0 79).toNat) (h 0 77)) 0 79 ((h 0 79) + 1)) 0 77 ((h 0 77) + 1)) 74 ((h 0 113).toNat) 5) 75 ((h 0 113).toNat) (((h 0 77) + 1) - 1)) 76 ((h 0 113).toNat) 0) 0 113 ((h 0 113) + 1)) ((by have e : a1 = 17 := (by first | exact e1 | exact e38 | exact c248 | exact e1.resolve_left c248 | exact e28 | omega); (subst e; exact ab_letj g p1 p2 (by omega)))) g27)
  have T1_241 : (a1 = 18) → mJ l D cA ad 5 cX12_stateAct 5 (some .boolean) 241 [(0, (2, ((0 : Nat) : Int))), (1, (0, a1)), (2, (0, a2)), (3, (0, a3))] [] h Q := by
    intro e1
    refine ja_aload_n dstateAct_241 rfl rfl ?_
    refine t_evaluated (by decide) (show (0 : Nat) ≤ 8 by decide) dstateAct_242 g (show pk_S h (h 0 17).toNat s by omega) ((by have e : a1 = 18 := (by first | exact e1 | exact e38 | exact c248 | exact e1.resolve_left c248 | exact e28 | omega); (subst e; exact p2))) (p5) ?_ ?_
    · intro h28 k242_0 g29
      refine ja_zreturn dstateAct_245 rfl (by omega) ?_
      exact mo_fin (by omega) rfl (k1 h28 ((by have e : a1 = 18 := (by first | exact e1 | exact e38 | exact c248 | exact e1.resolve_left c248 | exact e28 | omega); (subst e; exact k242_0))) g29)
    · intro h30 k242_1 g31
      refine ja_zreturn dstateAct_245 rfl (by omega) ?_
      exact mo_fin (by omega) rfl (k2 h30 (by omega) g31)
  have T1_246 : (a1 = 19) → mJ l D cA ad 5 cX12_stateAct 5 (some .boolean) 246 [(0, (2, ((0 : Nat) : Int))), (1, (0, a1)), (2, (0, a2)), (3, (0, a3))] [] h Q := by
    intro e1
    refine ja_aload_n dstateAct_246 rfl rfl ?_
    refine ja_iload_n dstateAct_247 rfl rfl ?_
    refine ja_iload_n dstateAct_248 rfl rfl ?_
    refine t_assigned (by decide) (show (0 : Nat) ≤ 8 by decide) dstateAct_249 g ⟨by omega, by omega⟩ ⟨by omega, by omega⟩ (show pk_S h (h 0 17).toNat s by omega) ((by have e : a1 = 19 := (by first | exact e1 | exact e38 | exact c248 | exact e1.resolve_left c248 | exact e28 | omega); (subst e; exact p2))) ?_ ?_
    · intro h32 k249_0 g33
      refine ja_zreturn dstateAct_252 rfl (by omega) ?_
      exact mo_fin (by omega) rfl (k1 h32 ((by have e : a1 = 19 := (by first | exact e1 | exact e38 | exact c248 | exact e1.resolve_left c248 | exact e28 | omega); (subst e; exact k249_0))) g33)
    · intro h34 k249_1 g35
      refine ja_zreturn dstateAct_252 rfl (by omega) ?_
      exact mo_fin (by omega) rfl (k2 h34 (by omega) g35)
  have T1_253 : (a1 = 20) → mJ l D cA ad 5 cX12_stateAct 5 (some .boolean) 253 [(0, (2, ((0 : Nat) : Int))), (1, (0, a1)), (2, (0, a2)), (3, (0, a3))] [] h Q := by
    intro e1
    refine ja_aload_n dstateAct_253 rfl rfl ?_
    refine ja_bipush 21 dstateAct_254 rfl ?_
    refine ja_aload_n dstateAct_256 rfl rfl ?_
    refine ja_bipush 22 dstateAct_257 rfl ?_
    refine ja_iconst dstateAct_259 ?_
    refine ja_iconst dstateAct_260 ?_
    refine t_emit (by decide) (show (2 : Nat) ≤ 8 by decide) dstateAct_261 g ⟨by decide, by decide⟩ ⟨by decide, by decide⟩ ⟨by decide, by decide⟩ (show 0 ≤ 22 ∧ 22 ≤ 26 by omega) (show (h 0 113) < 5000 by omega) ?_
    intro g36
    replace g36 : mo_G Zz (ja_up (ja_up (ja_up (ja_up h 74 ((h 0 113).toNat) 22) 75 ((h 0 113).toNat) 0) 76 ((h 0 113).toNat) 0) 0 113 ((h 0 113) + 1)) := g36
    show mJ l D cA ad 5 cX12_stateAct 5 (some .boolean) 264 [(0, (2, ((0 : Nat) : Int))), (1, (0, a1)), (2, (0, a2)), (3, (0, a3))] [(0, (h 0 113)), (0, 21), (2, ((0 : Nat) : Int))] (ja_up (ja_up (ja_up (ja_up h 74 ((h 0 113).toNat) 22) 75 ((h 0 113).toNat) 0) 76 ((h 0 113).toNat) 0) 0 113 ((h 0 113) + 1)) Q
    refine ja_iconst dstateAct_264 ?_
    refine ja_iconst dstateAct_265 ?_
    refine t_later (by decide) (show (0 : Nat) ≤ 8 by decide) dstateAct_266 g36 ⟨by decide, by decide⟩ ⟨by omega, by omega⟩ ⟨by decide, by decide⟩ ⟨by decide, by decide⟩ (show 0 ≤ 21 ∧ 21 ≤ 38 by omega) (show (h 0 17) < 2000 by omega) ?_
    intro g37
    replace g37 : mo_G Zz (ja_up (ja_up (ja_up (ja_up (ja_up (ja_up (ja_up (ja_up (ja_up h 74 ((h 0 113).toNat) 22) 75 ((h 0 113).toNat) 0) 76 ((h 0 113).toNat) 0) 0 113 ((h 0 113) + 1)) 6 ((h 0 17).toNat) 21) 7 ((h 0 17).toNat) (h 0 113)) 8 ((h 0 17).toNat) 0) 9 ((h 0 17).toNat) 0) 0 17 ((h 0 17) + 1)) := g37
    show mJ l D cA ad 5 cX12_stateAct 5 (some .boolean) 269 [(0, (2, ((0 : Nat) : Int))), (1, (0, a1)), (2, (0, a2)), (3, (0, a3))] [(0, 1)] (ja_up (ja_up (ja_up (ja_up (ja_up (ja_up (ja_up (ja_up (ja_up h 74 ((h 0 113).toNat) 22) 75 ((h 0 113).toNat) 0) 76 ((h 0 113).toNat) 0) 0 113 ((h 0 113) + 1)) 6 ((h 0 17).toNat) 21) 7 ((h 0 17).toNat) (h 0 113)) 8 ((h 0 17).toNat) 0) 9 ((h 0 17).toNat) 0) 0 17 ((h 0 17) + 1)) Q
    refine ja_if_eq 288 dstateAct_269 rfl ⟨by decide, by decide⟩ (fun c269 => absurd c269 (by omega)) (fun c269 => ?_)
    refine ja_aload_n dstateAct_272 rfl rfl ?_
    refine ja_bipush 14 dstateAct_273 rfl ?_
    refine ja_iconst dstateAct_275 ?_
    refine ja_iconst dstateAct_276 ?_
    refine ja_iconst dstateAct_277 ?_
    refine t_later (by decide) (show (0 : Nat) ≤ 8 by decide) dstateAct_278 g37 ⟨by decide, by decide⟩ ⟨by decide, by decide⟩ ⟨by decide, by decide⟩ ⟨by decide, by decide⟩ (show 0 ≤ 14 ∧ 14 ≤ 38 by omega) (show ((h 0 17) + 1) < 2000 by omega) ?_
    intro g38
    replace g38 : mo_G Zz (ja_up (ja_up (ja_up (ja_up (ja_up (ja_up (ja_up (ja_up (ja_up (ja_up (ja_up (ja_up (ja_up (ja_up h 74 ((h 0 113).toNat) 22) 75 ((h 0 113).toNat) 0) 76 ((h 0 113).toNat) 0) 0 113 ((h 0 113) + 1)) 6 ((h 0 17).toNat) 21) 7 ((h 0 17).toNat) (h 0 113)) 8 ((h 0 17).toNat) 0) 9 ((h 0 17).toNat) 0) 0 17 ((h 0 17) + 1)) 6 (((h 0 17) + 1).toNat) 14) 7 (((h 0 17) + 1).toNat) 0) 8 (((h 0 17) + 1).toNat) 0) 9 (((h 0 17) + 1).toNat) 0) 0 17 (((h 0 17) + 1) + 1)) := g38
    show mJ l D cA ad 5 cX12_stateAct 5 (some .boolean) 281 [(0, (2, ((0 : Nat) : Int))), (1, (0, a1)), (2, (0, a2)), (3, (0, a3))] [(0, 1)] (ja_up (ja_up (ja_up (ja_up (ja_up (ja_up (ja_up (ja_up (ja_up (ja_up (ja_up (ja_up (ja_up (ja_up h 74 ((h 0 113).toNat) 22) 75 ((h 0 113).toNat) 0) 76 ((h 0 113).toNat) 0) 0 113 ((h 0 113) + 1)) 6 ((h 0 17).toNat) 21) 7 ((h 0 17).toNat) (h 0 113)) 8 ((h 0 17).toNat) 0) 9 ((h 0 17).toNat) 0) 0 17 ((h 0 17) + 1)) 6 (((h 0 17) + 1).toNat) 14) 7 (((h 0 17) + 1).toNat) 0) 8 (((h 0 17) + 1).toNat) 0) 9 (((h 0 17) + 1).toNat) 0) 0 17 (((h 0 17) + 1) + 1)) Q
    refine ja_if_eq 288 dstateAct_281 rfl ⟨by decide, by decide⟩ (fun c281 => absurd c281 (by omega)) (fun c281 => ?_)
    refine ja_iconst dstateAct_284 ?_
    refine ja_goto 289 dstateAct_285 rfl ?_
    refine ja_zreturn dstateAct_289 rfl (by omega) ?_
    exact mo_fin (by omega) rfl (k1 (ja_up (ja_up (ja_up (ja_up (ja_up (ja_up (ja_up (ja_up (ja_up (ja_up (ja_up (ja_up (ja_up (ja_up h 74 ((h 0 113).toNat) 22) 75 ((h 0 113).toNat) 0) 76 ((h 0 113).toNat) 0) 0 113 ((h 0 113) + 1)) 6 ((h 0 17).toNat) 21) 7 ((h 0 17).toNat) (h 0 113)) 8 ((h 0 17).toNat) 0) 9 ((h 0 17).toNat) 0) 0 17 ((h 0 17) + 1)) 6 (((h 0 17) + 1).toNat) 14) 7 (((h 0 17) + 1).toNat) 0) 8 (((h 0 17) + 1).toNat) 0) 9 (((h 0 17) + 1).toNat) 0) 0 17 (((h 0 17) + 1) + 1)) ((by have e : a1 = 20 := (by first | exact e1 | exact e38 | exact c248 | exact e1.resolve_left c248 | exact e28 | omega); (subst e; exact ab_iftest g p1 p2))) g38)
  have T1_290 : (a1 = 21) → mJ l D cA ad 5 cX12_stateAct 5 (some .boolean) 290 [(0, (2, ((0 : Nat) : Int))), (1, (0, a1)), (2, (0, a2)), (3, (0, a3))] [] h Q := by
    intro e1
    refine ja_aload_n dstateAct_290 rfl rfl ?_
    refine ja_iload_n dstateAct_291 rfl rfl ?_
    refine t_otherwise (by decide) (show (0 : Nat) ≤ 8 by decide) dstateAct_292 g ⟨by omega, by omega⟩ (show pk_S h (h 0 17).toNat s by omega) ((by have e : a1 = 21 := (by first | exact e1 | exact e38 | exact c248 | exact e1.resolve_left c248 | exact e28 | omega); (subst e; exact p2))) ?_ ?_
    · intro h39 k292_0 g40
      refine ja_zreturn dstateAct_295 rfl (by omega) ?_
      exact mo_fin (by omega) rfl (k1 h39 ((by have e : a1 = 21 := (by first | exact e1 | exact e38 | exact c248 | exact e1.resolve_left c248 | exact e28 | omega); (subst e; exact k292_0))) g40)
    · intro h41 k292_1 g42
      refine ja_zreturn dstateAct_295 rfl (by omega) ?_
      exact mo_fin (by omega) rfl (k2 h41 (by omega) g42)
  have T1_296 : (a1 = 22) → mJ l D cA ad 5 cX12_stateAct 5 (some .boolean) 296 [(0, (2, ((0 : Nat) : Int))), (1, (0, a1)), (2, (0, a2)), (3, (0, a3))] [] h Q := by
    intro e1
    have ha := bs_22 (a := a2) (b := a3) (by have e : a1 = 22 := (by first | exact e1 | exact e38 | exact c248 | exact e1.resolve_left c248 | exact e28 | omega); (subst e; exact p2))
    refine ja_aload_n dstateAct_296 rfl rfl ?_
    refine fa_opA dstateAct_297 ?_
    refine ja_iload_n dstateAct_300 rfl rfl ?_
    refine ja_aload_n dstateAct_301 rfl rfl ?_
    refine fg_words (v := h 0 113) rfl dstateAct_302 ?_
    have f43 := gF_words g
    have g44 := gW_opA g (a2).toNat (x := h 0 113) ⟨by omega, by omega⟩
    refine is_opA ⟨by omega, by omega⟩ dstateAct_305 ?_
    refine ja_iconst dstateAct_306 ?_
    refine ja_zreturn dstateAct_307 rfl (by omega) ?_
    exact mo_fin (by omega) rfl (k1 (ja_up h 75 ((a2).toNat) (h 0 113)) ((by have e : a1 = 22 := (by first | exact e1 | exact e38 | exact c248 | exact e1.resolve_left c248 | exact e28 | omega); (subst e; exact ab_patch g p1 p2))) g44)
  have T1_308 : (a1 = 23) → mJ l D cA ad 5 cX12_stateAct 5 (some .boolean) 308 [(0, (2, ((0 : Nat) : Int))), (1, (0, a1)), (2, (0, a2)), (3, (0, a3))] [] h Q := by
    intro e1
    refine ja_aload_n dstateAct_308 rfl rfl ?_
    refine ja_bipush 24 dstateAct_309 rfl ?_
    refine ja_iload_n dstateAct_311 rfl rfl ?_
    refine ja_aload_n dstateAct_312 rfl rfl ?_
    refine ja_bipush 22 dstateAct_313 rfl ?_
    refine ja_iconst dstateAct_315 ?_
    refine ja_iconst dstateAct_316 ?_
    refine t_emit (by decide) (show (3 : Nat) ≤ 8 by decide) dstateAct_317 g ⟨by decide, by decide⟩ ⟨by decide, by decide⟩ ⟨by decide, by decide⟩ (show 0 ≤ 22 ∧ 22 ≤ 26 by omega) (show (h 0 113) < 5000 by omega) ?_
    intro g45
    replace g45 : mo_G Zz (ja_up (ja_up (ja_up (ja_up h 74 ((h 0 113).toNat) 22) 75 ((h 0 113).toNat) 0) 76 ((h 0 113).toNat) 0) 0 113 ((h 0 113) + 1)) := g45
    show mJ l D cA ad 5 cX12_stateAct 5 (some .boolean) 320 [(0, (2, ((0 : Nat) : Int))), (1, (0, a1)), (2, (0, a2)), (3, (0, a3))] [(0, (h 0 113)), (0, a2), (0, 24), (2, ((0 : Nat) : Int))] (ja_up (ja_up (ja_up (ja_up h 74 ((h 0 113).toNat) 22) 75 ((h 0 113).toNat) 0) 76 ((h 0 113).toNat) 0) 0 113 ((h 0 113) + 1)) Q
    refine ja_iconst dstateAct_320 ?_
    refine t_later (by decide) (show (0 : Nat) ≤ 8 by decide) dstateAct_321 g45 ⟨by decide, by decide⟩ ⟨by omega, by omega⟩ ⟨by omega, by omega⟩ ⟨by decide, by decide⟩ (show 0 ≤ 24 ∧ 24 ≤ 38 by omega) (show (h 0 17) < 2000 by omega) ?_
    intro g46
    replace g46 : mo_G Zz (ja_up (ja_up (ja_up (ja_up (ja_up (ja_up (ja_up (ja_up (ja_up h 74 ((h 0 113).toNat) 22) 75 ((h 0 113).toNat) 0) 76 ((h 0 113).toNat) 0) 0 113 ((h 0 113) + 1)) 6 ((h 0 17).toNat) 24) 7 ((h 0 17).toNat) a2) 8 ((h 0 17).toNat) (h 0 113)) 9 ((h 0 17).toNat) 0) 0 17 ((h 0 17) + 1)) := g46
    show mJ l D cA ad 5 cX12_stateAct 5 (some .boolean) 324 [(0, (2, ((0 : Nat) : Int))), (1, (0, a1)), (2, (0, a2)), (3, (0, a3))] [(0, 1)] (ja_up (ja_up (ja_up (ja_up (ja_up (ja_up (ja_up (ja_up (ja_up h 74 ((h 0 113).toNat) 22) 75 ((h 0 113).toNat) 0) 76 ((h 0 113).toNat) 0) 0 113 ((h 0 113) + 1)) 6 ((h 0 17).toNat) 24) 7 ((h 0 17).toNat) a2) 8 ((h 0 17).toNat) (h 0 113)) 9 ((h 0 17).toNat) 0) 0 17 ((h 0 17) + 1)) Q
    refine ja_if_eq 343 dstateAct_324 rfl ⟨by decide, by decide⟩ (fun c324 => absurd c324 (by omega)) (fun c324 => ?_)
    refine ja_aload_n dstateAct_327 rfl rfl ?_
    refine ja_bipush 14 dstateAct_328 rfl ?_
    refine ja_iconst dstateAct_330 ?_
    refine ja_iconst dstateAct_331 ?_
    refine ja_iconst dstateAct_332 ?_
    refine t_later (by decide) (show (0 : Nat) ≤ 8 by decide) dstateAct_333 g46 ⟨by decide, by decide⟩ ⟨by decide, by decide⟩ ⟨by decide, by decide⟩ ⟨by decide, by decide⟩ (show 0 ≤ 14 ∧ 14 ≤ 38 by omega) (show ((h 0 17) + 1) < 2000 by omega) ?_
    intro g47
    replace g47 : mo_G Zz (ja_up (ja_up (ja_up (ja_up (ja_up (ja_up (ja_up (ja_up (ja_up (ja_up (ja_up (ja_up (ja_up (ja_up h 74 ((h 0 113).toNat) 22) 75 ((h 0 113).toNat) 0) 76 ((h 0 113).toNat) 0) 0 113 ((h 0 113) + 1)) 6 ((h 0 17).toNat) 24) 7 ((h 0 17).toNat) a2) 8 ((h 0 17).toNat) (h 0 113)) 9 ((h 0 17).toNat) 0) 0 17 ((h 0 17) + 1)) 6 (((h 0 17) + 1).toNat) 14) 7 (((h 0 17) + 1).toNat) 0) 8 (((h 0 17) + 1).toNat) 0) 9 (((h 0 17) + 1).toNat) 0) 0 17 (((h 0 17) + 1) + 1)) := g47
    show mJ l D cA ad 5 cX12_stateAct 5 (some .boolean) 336 [(0, (2, ((0 : Nat) : Int))), (1, (0, a1)), (2, (0, a2)), (3, (0, a3))] [(0, 1)] (ja_up (ja_up (ja_up (ja_up (ja_up (ja_up (ja_up (ja_up (ja_up (ja_up (ja_up (ja_up (ja_up (ja_up h 74 ((h 0 113).toNat) 22) 75 ((h 0 113).toNat) 0) 76 ((h 0 113).toNat) 0) 0 113 ((h 0 113) + 1)) 6 ((h 0 17).toNat) 24) 7 ((h 0 17).toNat) a2) 8 ((h 0 17).toNat) (h 0 113)) 9 ((h 0 17).toNat) 0) 0 17 ((h 0 17) + 1)) 6 (((h 0 17) + 1).toNat) 14) 7 (((h 0 17) + 1).toNat) 0) 8 (((h 0 17) + 1).toNat) 0) 9 (((h 0 17) + 1).toNat) 0) 0 17 (((h 0 17) + 1) + 1)) Q
    refine ja_if_eq 343 dstateAct_336 rfl ⟨by decide, by decide⟩ (fun c336 => absurd c336 (by omega)) (fun c336 => ?_)
    refine ja_iconst dstateAct_339 ?_
    refine ja_goto 344 dstateAct_340 rfl ?_
    refine ja_zreturn dstateAct_344 rfl (by omega) ?_
    exact mo_fin (by omega) rfl (k1 (ja_up (ja_up (ja_up (ja_up (ja_up (ja_up (ja_up (ja_up (ja_up (ja_up (ja_up (ja_up (ja_up (ja_up h 74 ((h 0 113).toNat) 22) 75 ((h 0 113).toNat) 0) 76 ((h 0 113).toNat) 0) 0 113 ((h 0 113) + 1)) 6 ((h 0 17).toNat) 24) 7 ((h 0 17).toNat) a2) 8 ((h 0 17).toNat) (h 0 113)) 9 ((h 0 17).toNat) 0) 0 17 ((h 0 17) + 1)) 6 (((h 0 17) + 1).toNat) 14) 7 (((h 0 17) + 1).toNat) 0) 8 (((h 0 17) + 1).toNat) 0) 9 (((h 0 17) + 1).toNat) 0) 0 17 (((h 0 17) + 1) + 1)) ((by have e : a1 = 23 := (by first | exact e1 | exact e38 | exact c248 | exact e1.resolve_left c248 | exact e28 | omega); (subst e; exact ab_while g p1 p2))) g47)
  have T1_345 : (a1 = 24) → mJ l D cA ad 5 cX12_stateAct 5 (some .boolean) 345 [(0, (2, ((0 : Nat) : Int))), (1, (0, a1)), (2, (0, a2)), (3, (0, a3))] [] h Q := by
    intro e1
    have ha := bs_24 (a := a2) (b := a3) (by have e : a1 = 24 := (by first | exact e1 | exact e38 | exact c248 | exact e1.resolve_left c248 | exact e28 | omega); (subst e; exact p2))
    refine ja_aload_n dstateAct_345 rfl rfl ?_
    refine ja_bipush 21 dstateAct_346 rfl ?_
    refine ja_iload_n dstateAct_348 rfl rfl ?_
    refine ja_iconst dstateAct_349 ?_
    refine t_emit (by decide) (show (0 : Nat) ≤ 8 by decide) dstateAct_350 g ⟨by decide, by decide⟩ ⟨by omega, by omega⟩ ⟨by decide, by decide⟩ (show 0 ≤ 21 ∧ 21 ≤ 26 by omega) (show (h 0 113) < 5000 by omega) ?_
    intro g48
    replace g48 : mo_G Zz (ja_up (ja_up (ja_up (ja_up h 74 ((h 0 113).toNat) 21) 75 ((h 0 113).toNat) a2) 76 ((h 0 113).toNat) 0) 0 113 ((h 0 113) + 1)) := g48
    show mJ l D cA ad 5 cX12_stateAct 5 (some .boolean) 353 [(0, (2, ((0 : Nat) : Int))), (1, (0, a1)), (2, (0, a2)), (3, (0, a3))] [(0, (h 0 113))] (ja_up (ja_up (ja_up (ja_up h 74 ((h 0 113).toNat) 21) 75 ((h 0 113).toNat) a2) 76 ((h 0 113).toNat) 0) 0 113 ((h 0 113) + 1)) Q
    refine ja_istore dstateAct_353 (by decide) (L2 := [(4, (0, (h 0 113))), (0, (2, ((0 : Nat) : Int))), (1, (0, a1)), (2, (0, a2)), (3, (0, a3))]) rfl ?_
    refine ja_aload_n dstateAct_355 rfl rfl ?_
    refine fa_opA dstateAct_356 ?_
    refine ja_iload_n dstateAct_359 rfl rfl ?_
    refine ja_aload_n dstateAct_360 rfl rfl ?_
    refine fg_words (v := (h 0 113) + 1) rfl dstateAct_361 ?_
    have g49 := gW_opA g48 (a3).toNat (x := (h 0 113) + 1) ⟨by omega, by omega⟩
    refine is_opA ⟨by omega, by omega⟩ dstateAct_364 ?_
    refine ja_iconst dstateAct_365 ?_
    refine ja_zreturn dstateAct_366 rfl (by omega) ?_
    exact mo_fin (by omega) rfl (k1 (ja_up (ja_up (ja_up (ja_up (ja_up h 74 ((h 0 113).toNat) 21) 75 ((h 0 113).toNat) a2) 76 ((h 0 113).toNat) 0) 0 113 ((h 0 113) + 1)) 75 ((a3).toNat) ((h 0 113) + 1)) ((by have e : a1 = 24 := (by first | exact e1 | exact e38 | exact c248 | exact e1.resolve_left c248 | exact e28 | omega); (subst e; exact ab_loop g p1 p2))) g49)
  have T1_367 : (a1 = 25) → mJ l D cA ad 5 cX12_stateAct 5 (some .boolean) 367 [(0, (2, ((0 : Nat) : Int))), (1, (0, a1)), (2, (0, a2)), (3, (0, a3))] [] h Q := by
    intro e1
    refine ja_aload_n dstateAct_367 rfl rfl ?_
    refine ja_bipush 19 dstateAct_368 rfl ?_
    refine ja_iconst dstateAct_370 ?_
    refine ja_iconst dstateAct_371 ?_
    refine t_emit (by decide) (show (0 : Nat) ≤ 8 by decide) dstateAct_372 g ⟨by decide, by decide⟩ ⟨by decide, by decide⟩ ⟨by decide, by decide⟩ (show 0 ≤ 19 ∧ 19 ≤ 26 by omega) (show (h 0 113) < 5000 by omega) ?_
    intro g50
    replace g50 : mo_G Zz (ja_up (ja_up (ja_up (ja_up h 74 ((h 0 113).toNat) 19) 75 ((h 0 113).toNat) 0) 76 ((h 0 113).toNat) 0) 0 113 ((h 0 113) + 1)) := g50
    show mJ l D cA ad 5 cX12_stateAct 5 (some .boolean) 375 [(0, (2, ((0 : Nat) : Int))), (1, (0, a1)), (2, (0, a2)), (3, (0, a3))] [(0, (h 0 113))] (ja_up (ja_up (ja_up (ja_up h 74 ((h 0 113).toNat) 19) 75 ((h 0 113).toNat) 0) 76 ((h 0 113).toNat) 0) 0 113 ((h 0 113) + 1)) Q
    refine ja_if_lt 382 dstateAct_375 rfl ⟨by omega, by omega⟩ (fun c375 => ?_) (fun c375 => ?_)
    · refine ja_iconst dstateAct_382 ?_
      refine ja_zreturn dstateAct_383 rfl (by omega) ?_
      exact mo_fin (by omega) rfl (k2 (ja_up (ja_up (ja_up (ja_up h 74 ((h 0 113).toNat) 19) 75 ((h 0 113).toNat) 0) 76 ((h 0 113).toNat) 0) 0 113 ((h 0 113) + 1)) (show 0 < (h 0 8) ∧ (h 0 1) = (h 0 1) ∧ (h 0 118) = (h 0 118) ∧ (h 0 127) = (h 0 127) by omega) g50)
    · refine ja_iconst dstateAct_378 ?_
      refine ja_goto 383 dstateAct_379 rfl ?_
      refine ja_zreturn dstateAct_383 rfl (by omega) ?_
      exact mo_fin (by omega) rfl (k1 (ja_up (ja_up (ja_up (ja_up h 74 ((h 0 113).toNat) 19) 75 ((h 0 113).toNat) 0) 76 ((h 0 113).toNat) 0) 0 113 ((h 0 113) + 1)) ((by have e : a1 = 25 := (by first | exact e1 | exact e38 | exact c248 | exact e1.resolve_left c248 | exact e28 | omega); (subst e; exact ab_ret g p1 p2))) g50)
  have T1_384 : (a1 = 26) → mJ l D cA ad 5 cX12_stateAct 5 (some .boolean) 384 [(0, (2, ((0 : Nat) : Int))), (1, (0, a1)), (2, (0, a2)), (3, (0, a3))] [] h Q := by
    intro e1
    refine ja_aload_n dstateAct_384 rfl rfl ?_
    refine ja_bipush 20 dstateAct_385 rfl ?_
    refine ja_iconst dstateAct_387 ?_
    refine ja_iconst dstateAct_388 ?_
    refine t_emit (by decide) (show (0 : Nat) ≤ 8 by decide) dstateAct_389 g ⟨by decide, by decide⟩ ⟨by decide, by decide⟩ ⟨by decide, by decide⟩ (show 0 ≤ 20 ∧ 20 ≤ 26 by omega) (show (h 0 113) < 5000 by omega) ?_
    intro g51
    replace g51 : mo_G Zz (ja_up (ja_up (ja_up (ja_up h 74 ((h 0 113).toNat) 20) 75 ((h 0 113).toNat) 0) 76 ((h 0 113).toNat) 0) 0 113 ((h 0 113) + 1)) := g51
    show mJ l D cA ad 5 cX12_stateAct 5 (some .boolean) 392 [(0, (2, ((0 : Nat) : Int))), (1, (0, a1)), (2, (0, a2)), (3, (0, a3))] [(0, (h 0 113))] (ja_up (ja_up (ja_up (ja_up h 74 ((h 0 113).toNat) 20) 75 ((h 0 113).toNat) 0) 76 ((h 0 113).toNat) 0) 0 113 ((h 0 113) + 1)) Q
    refine ja_if_lt 399 dstateAct_392 rfl ⟨by omega, by omega⟩ (fun c392 => ?_) (fun c392 => ?_)
    · refine ja_iconst dstateAct_399 ?_
      refine ja_zreturn dstateAct_400 rfl (by omega) ?_
      exact mo_fin (by omega) rfl (k2 (ja_up (ja_up (ja_up (ja_up h 74 ((h 0 113).toNat) 20) 75 ((h 0 113).toNat) 0) 76 ((h 0 113).toNat) 0) 0 113 ((h 0 113) + 1)) (show 0 < (h 0 8) ∧ (h 0 1) = (h 0 1) ∧ (h 0 118) = (h 0 118) ∧ (h 0 127) = (h 0 127) by omega) g51)
    · refine ja_iconst dstateAct_395 ?_
      refine ja_goto 400 dstateAct_396 rfl ?_
      refine ja_zreturn dstateAct_400 rfl (by omega) ?_
      exact mo_fin (by omega) rfl (k1 (ja_up (ja_up (ja_up (ja_up h 74 ((h 0 113).toNat) 20) 75 ((h 0 113).toNat) 0) 76 ((h 0 113).toNat) 0) 0 113 ((h 0 113) + 1)) ((by have e : a1 = 26 := (by first | exact e1 | exact e38 | exact c248 | exact e1.resolve_left c248 | exact e28 | omega); (subst e; exact ab_thr g p1 p2))) g51)
  have T1_401 : (a1 = 27) → mJ l D cA ad 5 cX12_stateAct 5 (some .boolean) 401 [(0, (2, ((0 : Nat) : Int))), (1, (0, a1)), (2, (0, a2)), (3, (0, a3))] [] h Q := by
    intro e1
    refine ja_aload_n dstateAct_401 rfl rfl ?_
    refine ja_bipush 18 dstateAct_402 rfl ?_
    refine ja_iconst dstateAct_404 ?_
    refine ja_iconst dstateAct_405 ?_
    refine t_emit (by decide) (show (0 : Nat) ≤ 8 by decide) dstateAct_406 g ⟨by decide, by decide⟩ ⟨by decide, by decide⟩ ⟨by decide, by decide⟩ (show 0 ≤ 18 ∧ 18 ≤ 26 by omega) (show (h 0 113) < 5000 by omega) ?_
    intro g52
    replace g52 : mo_G Zz (ja_up (ja_up (ja_up (ja_up h 74 ((h 0 113).toNat) 18) 75 ((h 0 113).toNat) 0) 76 ((h 0 113).toNat) 0) 0 113 ((h 0 113) + 1)) := g52
    show mJ l D cA ad 5 cX12_stateAct 5 (some .boolean) 409 [(0, (2, ((0 : Nat) : Int))), (1, (0, a1)), (2, (0, a2)), (3, (0, a3))] [(0, (h 0 113))] (ja_up (ja_up (ja_up (ja_up h 74 ((h 0 113).toNat) 18) 75 ((h 0 113).toNat) 0) 76 ((h 0 113).toNat) 0) 0 113 ((h 0 113) + 1)) Q
    refine ja_if_lt 416 dstateAct_409 rfl ⟨by omega, by omega⟩ (fun c409 => ?_) (fun c409 => ?_)
    · refine ja_iconst dstateAct_416 ?_
      refine ja_zreturn dstateAct_417 rfl (by omega) ?_
      exact mo_fin (by omega) rfl (k2 (ja_up (ja_up (ja_up (ja_up h 74 ((h 0 113).toNat) 18) 75 ((h 0 113).toNat) 0) 76 ((h 0 113).toNat) 0) 0 113 ((h 0 113) + 1)) (show 0 < (h 0 8) ∧ (h 0 1) = (h 0 1) ∧ (h 0 118) = (h 0 118) ∧ (h 0 127) = (h 0 127) by omega) g52)
    · refine ja_iconst dstateAct_412 ?_
      refine ja_goto 417 dstateAct_413 rfl ?_
      refine ja_zreturn dstateAct_417 rfl (by omega) ?_
      exact mo_fin (by omega) rfl (k1 (ja_up (ja_up (ja_up (ja_up h 74 ((h 0 113).toNat) 18) 75 ((h 0 113).toNat) 0) 76 ((h 0 113).toNat) 0) 0 113 ((h 0 113) + 1)) ((by have e : a1 = 27 := (by first | exact e1 | exact e38 | exact c248 | exact e1.resolve_left c248 | exact e28 | omega); (subst e; exact ab_prt g p1 p2))) g52)
  have T1_196 : (a1 = 30) → mJ l D cA ad 5 cX12_stateAct 5 (some .boolean) 196 [(0, (2, ((0 : Nat) : Int))), (1, (0, a1)), (2, (0, a2)), (3, (0, a3))] [] h Q := by
    intro e1
    have hn1 : (h 0 18) = 1 + pk_sum pk_c s := (by have e := e1; subst e; exact p2.1.1)
    refine ja_aload_n dstateAct_196 rfl rfl ?_
    refine ja_dup dstateAct_197 (by decide) ?_
    refine fg_nest (v := h 0 18) rfl dstateAct_198 ?_
    have f53 := gF_nest g
    refine ja_iconst dstateAct_201 ?_
    refine ja_isub dstateAct_202 ?_
    have g54 := gP_nest g (x := (h 0 18) - 1) ⟨by omega, by omega⟩
    refine fp_nest dstateAct_203 ?_
    refine ja_iconst dstateAct_206 ?_
    refine ja_zreturn dstateAct_207 rfl (by omega) ?_
    exact mo_fin (by omega) rfl (k1 (ja_up h 0 18 ((h 0 18) - 1)) ((by have e : a1 = 30 := (by first | exact e1 | exact e38 | exact c248 | exact e1.resolve_left c248 | exact e28 | omega); (subst e; exact ab_ends g p1 p2))) g54)
  have T1_418 : (a1 < 14 ∨ 30 < a1 ∨ a1 = 28 ∨ a1 = 29) → mJ l D cA ad 5 cX12_stateAct 5 (some .boolean) 418 [(0, (2, ((0 : Nat) : Int))), (1, (0, a1)), (2, (0, a2)), (3, (0, a3))] [] h Q := by
    intro e1
    have e28 := e28_of e1 p4 hact
    refine ja_aload_n dstateAct_418 rfl rfl ?_
    refine ja_iload_n dstateAct_419 rfl rfl ?_
    refine t_tried (by decide) (show (0 : Nat) ≤ 8 by decide) dstateAct_420 g ⟨by omega, by omega⟩ (show pk_S h (h 0 17).toNat s by omega) ((by have e : a1 = 28 := (by first | exact e1 | exact e38 | exact c248 | exact e1.resolve_left c248 | exact e28 | omega); (subst e; exact p2))) (p3) ?_ ?_
    · intro h55 k420_0 g56
      refine ja_zreturn dstateAct_423 rfl (by omega) ?_
      exact mo_fin (by omega) rfl (k1 h55 ((by have e : a1 = 28 := (by first | exact e1 | exact e38 | exact c248 | exact e1.resolve_left c248 | exact e28 | omega); (subst e; exact k420_0))) g56)
    · intro h57 k420_1 g58
      refine ja_zreturn dstateAct_423 rfl (by omega) ?_
      exact mo_fin (by omega) rfl (k2 h57 (by omega) g58)
  rcases (by omega : a1 = 14 ∨ a1 = 15 ∨ a1 = 16 ∨ a1 = 17 ∨ a1 = 18 ∨ a1 = 19 ∨ a1 = 20 ∨ a1 = 21 ∨ a1 = 22 ∨ a1 = 23 ∨ a1 = 24 ∨ a1 = 25 ∨ a1 = 26 ∨ a1 = 27 ∨ a1 = 28 ∨ a1 = 29 ∨ a1 = 30 ∨ (a1 < 14 ∨ 30 < a1)) with e | e | e | e | e | e | e | e | e | e | e | e | e | e | e | e | e | e
  · exact ja_tableIn 84 dstateAct_1 ⟨by omega, by omega⟩ (by omega) (by omega) (by rw [e]; rfl) rfl (T1_84 (by omega))
  · exact ja_tableIn 126 dstateAct_1 ⟨by omega, by omega⟩ (by omega) (by omega) (by rw [e]; rfl) rfl (T1_126 (by omega))
  · exact ja_tableIn 208 dstateAct_1 ⟨by omega, by omega⟩ (by omega) (by omega) (by rw [e]; rfl) rfl (T1_208 (by omega))
  · exact ja_tableIn 215 dstateAct_1 ⟨by omega, by omega⟩ (by omega) (by omega) (by rw [e]; rfl) rfl (T1_215 (by omega))
  · exact ja_tableIn 241 dstateAct_1 ⟨by omega, by omega⟩ (by omega) (by omega) (by rw [e]; rfl) rfl (T1_241 (by omega))
  · exact ja_tableIn 246 dstateAct_1 ⟨by omega, by omega⟩ (by omega) (by omega) (by rw [e]; rfl) rfl (T1_246 (by omega))
  · exact ja_tableIn 253 dstateAct_1 ⟨by omega, by omega⟩ (by omega) (by omega) (by rw [e]; rfl) rfl (T1_253 (by omega))
  · exact ja_tableIn 290 dstateAct_1 ⟨by omega, by omega⟩ (by omega) (by omega) (by rw [e]; rfl) rfl (T1_290 (by omega))
  · exact ja_tableIn 296 dstateAct_1 ⟨by omega, by omega⟩ (by omega) (by omega) (by rw [e]; rfl) rfl (T1_296 (by omega))
  · exact ja_tableIn 308 dstateAct_1 ⟨by omega, by omega⟩ (by omega) (by omega) (by rw [e]; rfl) rfl (T1_308 (by omega))
  · exact ja_tableIn 345 dstateAct_1 ⟨by omega, by omega⟩ (by omega) (by omega) (by rw [e]; rfl) rfl (T1_345 (by omega))
  · exact ja_tableIn 367 dstateAct_1 ⟨by omega, by omega⟩ (by omega) (by omega) (by rw [e]; rfl) rfl (T1_367 (by omega))
  · exact ja_tableIn 384 dstateAct_1 ⟨by omega, by omega⟩ (by omega) (by omega) (by rw [e]; rfl) rfl (T1_384 (by omega))
  · exact ja_tableIn 401 dstateAct_1 ⟨by omega, by omega⟩ (by omega) (by omega) (by rw [e]; rfl) rfl (T1_401 (by omega))
  · exact ja_tableIn 418 dstateAct_1 ⟨by omega, by omega⟩ (by omega) (by omega) (by rw [e]; rfl) rfl (T1_418 (by omega))
  · exact ja_tableIn 418 dstateAct_1 ⟨by omega, by omega⟩ (by omega) (by omega) (by rw [e]; rfl) rfl (T1_418 (by omega))
  · exact ja_tableIn 196 dstateAct_1 ⟨by omega, by omega⟩ (by omega) (by omega) (by rw [e]; rfl) rfl (T1_196 (by omega))
  · exact ja_tableOut 418 dstateAct_1 ⟨by omega, by omega⟩ (by omega) rfl (T1_418 (by omega))
theorem t_stateAct {a1 a2 a3 : Int} {R r ph q0 : Int} {tf : mo_TF} {s : List mo_A} {ht st rg : Nat → Int} {tu : Int} {d nL pc : Nat} {cc : ByteArray} {rt : Option FieldType} {L : List (Nat × ja_V)} {S : List ja_V} {h : ja_H} {Q : Option ja_V → ja_H → Prop} (hdd : 5 < d) (hwd : ja_wd S ≤ 8) (hd : decode cc pc = .ok (.invokevirtual 805, 3)) (g : mo_G Zz h) (r1 : -2147483648 ≤ a1 ∧ a1 ≤ 2147483647) (r2 : -2147483648 ≤ a2 ∧ a2 ≤ 2147483647) (r3 : -2147483648 ≤ a3 ∧ a3 ≤ 2147483647) (p1 : pk_S h (h 0 17).toNat s) (p2 : piB h R r ph tf q0 ((a1, a2, a3) :: s) ht st rg tu) (p3 : ph = 1 ∨ (h 0 74) ≤ 1 ∨ (h 0 75) ≤ 24) (p4 : 14 ≤ a1 ∧ a1 ≤ 30) (p5 : tf_ok ph tf) (k1 : ∀ (h' : ja_H), (pi_done h h' R r ph tf q0 (pi_mu h ((a1, a2, a3) :: s))) → mo_G Zz h' → mJ l D cA ad d cc nL rt (pc + 3) L ((0, 1) :: S) h' Q) (k2 : ∀ (h' : ja_H), (0 < (h' 0 8) ∧ (h' 0 1) = (h 0 1) ∧ (h' 0 118) = (h 0 118) ∧ (h' 0 127) = (h 0 127)) → mo_G Zz h' → mJ l D cA ad d cc nL rt (pc + 3) L ((0, 0) :: S) h' Q) : mJ l D cA ad d cc nL rt pc L ((0, a3) :: (0, a2) :: (0, a1) :: (2, ((0 : Nat) : Int)) :: S) h Q :=
  mc_stateAct hdd hwd hd (s_stateAct g r1 r2 r3 p1 p2 p3 p4 p5 k1 k2)
end
