/-! the reference: its acts, a PATTERN, ARGS, a pick (written by a program) -/
variable {Zz : Zc}
theorem dpattern_0 : decode cX12_pattern 0 = .ok (.iload_n 1, 1) := by decide +kernel
theorem dpattern_1 : decode cX12_pattern 1 = .ok (.bipush 8, 2) := by decide +kernel
theorem dpattern_3 : decode cX12_pattern 3 = .ok (.if_icmp .ne 7, 3) := by decide +kernel
theorem dpattern_6 : decode cX12_pattern 6 = .ok (.iconst 0, 1) := by decide +kernel
theorem dpattern_7 : decode cX12_pattern 7 = .ok (.goto 45, 3) := by decide +kernel
theorem dpattern_10 : decode cX12_pattern 10 = .ok (.iload_n 1, 1) := by decide +kernel
theorem dpattern_11 : decode cX12_pattern 11 = .ok (.bipush 35, 2) := by decide +kernel
theorem dpattern_13 : decode cX12_pattern 13 = .ok (.if_icmp .ne 7, 3) := by decide +kernel
theorem dpattern_16 : decode cX12_pattern 16 = .ok (.iconst 1, 1) := by decide +kernel
theorem dpattern_17 : decode cX12_pattern 17 = .ok (.goto 35, 3) := by decide +kernel
theorem dpattern_20 : decode cX12_pattern 20 = .ok (.iload_n 1, 1) := by decide +kernel
theorem dpattern_21 : decode cX12_pattern 21 = .ok (.bipush 24, 2) := by decide +kernel
theorem dpattern_23 : decode cX12_pattern 23 = .ok (.if_icmp .ne 7, 3) := by decide +kernel
theorem dpattern_26 : decode cX12_pattern 26 = .ok (.iconst 2, 1) := by decide +kernel
theorem dpattern_27 : decode cX12_pattern 27 = .ok (.goto 25, 3) := by decide +kernel
theorem dpattern_30 : decode cX12_pattern 30 = .ok (.iload_n 1, 1) := by decide +kernel
theorem dpattern_31 : decode cX12_pattern 31 = .ok (.bipush 16, 2) := by decide +kernel
theorem dpattern_33 : decode cX12_pattern 33 = .ok (.if_icmp .ne 7, 3) := by decide +kernel
theorem dpattern_36 : decode cX12_pattern 36 = .ok (.iconst 3, 1) := by decide +kernel
theorem dpattern_37 : decode cX12_pattern 37 = .ok (.goto 15, 3) := by decide +kernel
theorem dpattern_40 : decode cX12_pattern 40 = .ok (.iload_n 1, 1) := by decide +kernel
theorem dpattern_41 : decode cX12_pattern 41 = .ok (.bipush 37, 2) := by decide +kernel
theorem dpattern_43 : decode cX12_pattern 43 = .ok (.if_icmp .ne 7, 3) := by decide +kernel
theorem dpattern_46 : decode cX12_pattern 46 = .ok (.iconst 4, 1) := by decide +kernel
theorem dpattern_47 : decode cX12_pattern 47 = .ok (.goto 5, 3) := by decide +kernel
theorem dpattern_50 : decode cX12_pattern 50 = .ok (.bipush 6, 2) := by decide +kernel
theorem dpattern_52 : decode cX12_pattern 52 = .ok (.istore_n 2, 1) := by decide +kernel
theorem dpattern_53 : decode cX12_pattern 53 = .ok (.aload_n 0, 1) := by decide +kernel
theorem dpattern_54 : decode cX12_pattern 54 = .ok (.invokevirtual 589, 3) := by decide +kernel
theorem dpattern_57 : decode cX12_pattern 57 = .ok (.ifCond .ne 5, 3) := by decide +kernel
theorem dpattern_60 : decode cX12_pattern 60 = .ok (.iconst 0, 1) := by decide +kernel
theorem dpattern_61 : decode cX12_pattern 61 = .ok (.ireturn, 1) := by decide +kernel
theorem dpattern_62 : decode cX12_pattern 62 = .ok (.aload_n 0, 1) := by decide +kernel
theorem dpattern_63 : decode cX12_pattern 63 = .ok (.getfield 13, 3) := by decide +kernel
theorem dpattern_66 : decode cX12_pattern 66 = .ok (.aload_n 0, 1) := by decide +kernel
theorem dpattern_67 : decode cX12_pattern 67 = .ok (.getfield 574, 3) := by decide +kernel
theorem dpattern_70 : decode cX12_pattern 70 = .ok (.iaload, 1) := by decide +kernel
theorem dpattern_71 : decode cX12_pattern 71 = .ok (.iconst 4, 1) := by decide +kernel
theorem dpattern_72 : decode cX12_pattern 72 = .ok (.if_icmp .eq 8, 3) := by decide +kernel
theorem dpattern_75 : decode cX12_pattern 75 = .ok (.aload_n 0, 1) := by decide +kernel
theorem dpattern_76 : decode cX12_pattern 76 = .ok (.invokevirtual 593, 3) := by decide +kernel
theorem dpattern_79 : decode cX12_pattern 79 = .ok (.ireturn, 1) := by decide +kernel
theorem dpattern_80 : decode cX12_pattern 80 = .ok (.aload_n 0, 1) := by decide +kernel
theorem dpattern_81 : decode cX12_pattern 81 = .ok (.iload_n 2, 1) := by decide +kernel
theorem dpattern_82 : decode cX12_pattern 82 = .ok (.iconst 0, 1) := by decide +kernel
theorem dpattern_83 : decode cX12_pattern 83 = .ok (.iconst 0, 1) := by decide +kernel
theorem dpattern_84 : decode cX12_pattern 84 = .ok (.aload_n 0, 1) := by decide +kernel
theorem dpattern_85 : decode cX12_pattern 85 = .ok (.getfield 574, 3) := by decide +kernel
theorem dpattern_88 : decode cX12_pattern 88 = .ok (.invokevirtual 878, 3) := by decide +kernel
theorem dpattern_91 : decode cX12_pattern 91 = .ok (.istore_n 3, 1) := by decide +kernel
theorem dpattern_92 : decode cX12_pattern 92 = .ok (.aload_n 0, 1) := by decide +kernel
theorem dpattern_93 : decode cX12_pattern 93 = .ok (.aload_n 0, 1) := by decide +kernel
theorem dpattern_94 : decode cX12_pattern 94 = .ok (.getfield 16, 3) := by decide +kernel
theorem dpattern_97 : decode cX12_pattern 97 = .ok (.aload_n 0, 1) := by decide +kernel
theorem dpattern_98 : decode cX12_pattern 98 = .ok (.getfield 574, 3) := by decide +kernel
theorem dpattern_101 : decode cX12_pattern 101 = .ok (.iaload, 1) := by decide +kernel
theorem dpattern_102 : decode cX12_pattern 102 = .ok (.iconst 1, 1) := by decide +kernel
theorem dpattern_103 : decode cX12_pattern 103 = .ok (.iadd, 1) := by decide +kernel
theorem dpattern_104 : decode cX12_pattern 104 = .ok (.invokevirtual 555, 3) := by decide +kernel
theorem dpattern_107 : decode cX12_pattern 107 = .ok (.istore 4, 2) := by decide +kernel
theorem dpattern_109 : decode cX12_pattern 109 = .ok (.aload_n 0, 1) := by decide +kernel
theorem dpattern_110 : decode cX12_pattern 110 = .ok (.iload 4, 2) := by decide +kernel
theorem dpattern_112 : decode cX12_pattern 112 = .ok (.invokevirtual 437, 3) := by decide +kernel
theorem dpattern_115 : decode cX12_pattern 115 = .ok (.bipush 43, 2) := by decide +kernel
theorem dpattern_117 : decode cX12_pattern 117 = .ok (.if_icmp .ne 7, 3) := by decide +kernel
theorem dpattern_120 : decode cX12_pattern 120 = .ok (.iconst 1, 1) := by decide +kernel
theorem dpattern_121 : decode cX12_pattern 121 = .ok (.goto 4, 3) := by decide +kernel
theorem dpattern_124 : decode cX12_pattern 124 = .ok (.iconst 0, 1) := by decide +kernel
theorem dpattern_125 : decode cX12_pattern 125 = .ok (.istore 5, 2) := by decide +kernel
theorem dpattern_127 : decode cX12_pattern 127 = .ok (.iload 5, 2) := by decide +kernel
theorem dpattern_129 : decode cX12_pattern 129 = .ok (.ifCond .eq 10, 3) := by decide +kernel
theorem dpattern_132 : decode cX12_pattern 132 = .ok (.iload 4, 2) := by decide +kernel
theorem dpattern_134 : decode cX12_pattern 134 = .ok (.iconst 1, 1) := by decide +kernel
theorem dpattern_135 : decode cX12_pattern 135 = .ok (.iadd, 1) := by decide +kernel
theorem dpattern_136 : decode cX12_pattern 136 = .ok (.goto 5, 3) := by decide +kernel
theorem dpattern_139 : decode cX12_pattern 139 = .ok (.iload 4, 2) := by decide +kernel
theorem dpattern_141 : decode cX12_pattern 141 = .ok (.istore 6, 2) := by decide +kernel
theorem dpattern_143 : decode cX12_pattern 143 = .ok (.aload_n 0, 1) := by decide +kernel
theorem dpattern_144 : decode cX12_pattern 144 = .ok (.iload 6, 2) := by decide +kernel
theorem dpattern_146 : decode cX12_pattern 146 = .ok (.invokevirtual 437, 3) := by decide +kernel
theorem dpattern_149 : decode cX12_pattern 149 = .ok (.bipush 46, 2) := by decide +kernel
theorem dpattern_151 : decode cX12_pattern 151 = .ok (.if_icmp .ne 7, 3) := by decide +kernel
theorem dpattern_154 : decode cX12_pattern 154 = .ok (.iconst 1, 1) := by decide +kernel
theorem dpattern_155 : decode cX12_pattern 155 = .ok (.goto 4, 3) := by decide +kernel
theorem dpattern_158 : decode cX12_pattern 158 = .ok (.iconst 0, 1) := by decide +kernel
theorem dpattern_159 : decode cX12_pattern 159 = .ok (.istore 7, 2) := by decide +kernel
theorem dpattern_161 : decode cX12_pattern 161 = .ok (.aload_n 0, 1) := by decide +kernel
theorem dpattern_162 : decode cX12_pattern 162 = .ok (.getfield 185, 3) := by decide +kernel
theorem dpattern_165 : decode cX12_pattern 165 = .ok (.iload_n 3, 1) := by decide +kernel
theorem dpattern_166 : decode cX12_pattern 166 = .ok (.iload 7, 2) := by decide +kernel
theorem dpattern_168 : decode cX12_pattern 168 = .ok (.ifCond .eq 10, 3) := by decide +kernel
theorem dpattern_171 : decode cX12_pattern 171 = .ok (.iload 6, 2) := by decide +kernel
theorem dpattern_173 : decode cX12_pattern 173 = .ok (.iconst 1, 1) := by decide +kernel
theorem dpattern_174 : decode cX12_pattern 174 = .ok (.iadd, 1) := by decide +kernel
theorem dpattern_175 : decode cX12_pattern 175 = .ok (.goto 4, 3) := by decide +kernel
theorem dpattern_178 : decode cX12_pattern 178 = .ok (.iconst (-1), 1) := by decide +kernel
theorem dpattern_179 : decode cX12_pattern 179 = .ok (.iastore, 1) := by decide +kernel
theorem dpattern_180 : decode cX12_pattern 180 = .ok (.aload_n 0, 1) := by decide +kernel
theorem dpattern_181 : decode cX12_pattern 181 = .ok (.getfield 188, 3) := by decide +kernel
theorem dpattern_184 : decode cX12_pattern 184 = .ok (.iload_n 3, 1) := by decide +kernel
theorem dpattern_185 : decode cX12_pattern 185 = .ok (.iload 5, 2) := by decide +kernel
theorem dpattern_187 : decode cX12_pattern 187 = .ok (.ifCond .eq 7, 3) := by decide +kernel
theorem dpattern_190 : decode cX12_pattern 190 = .ok (.iconst 1, 1) := by decide +kernel
theorem dpattern_191 : decode cX12_pattern 191 = .ok (.goto 4, 3) := by decide +kernel
theorem dpattern_194 : decode cX12_pattern 194 = .ok (.iconst 0, 1) := by decide +kernel
theorem dpattern_195 : decode cX12_pattern 195 = .ok (.iastore, 1) := by decide +kernel
theorem dpattern_196 : decode cX12_pattern 196 = .ok (.iload_n 2, 1) := by decide +kernel
theorem dpattern_197 : decode cX12_pattern 197 = .ok (.iconst 2, 1) := by decide +kernel
theorem dpattern_198 : decode cX12_pattern 198 = .ok (.if_icmp .ne 16, 3) := by decide +kernel
theorem dpattern_201 : decode cX12_pattern 201 = .ok (.iload 7, 2) := by decide +kernel
theorem dpattern_203 : decode cX12_pattern 203 = .ok (.ifCond .ne 7, 3) := by decide +kernel
theorem dpattern_206 : decode cX12_pattern 206 = .ok (.iconst 1, 1) := by decide +kernel
theorem dpattern_207 : decode cX12_pattern 207 = .ok (.goto 28, 3) := by decide +kernel
theorem dpattern_210 : decode cX12_pattern 210 = .ok (.iconst 0, 1) := by decide +kernel
theorem dpattern_211 : decode cX12_pattern 211 = .ok (.goto 24, 3) := by decide +kernel
theorem dpattern_214 : decode cX12_pattern 214 = .ok (.iload_n 2, 1) := by decide +kernel
theorem dpattern_215 : decode cX12_pattern 215 = .ok (.bipush 6, 2) := by decide +kernel
theorem dpattern_217 : decode cX12_pattern 217 = .ok (.if_icmp .eq 13, 3) := by decide +kernel
theorem dpattern_220 : decode cX12_pattern 220 = .ok (.iload 7, 2) := by decide +kernel
theorem dpattern_222 : decode cX12_pattern 222 = .ok (.ifCond .ne 8, 3) := by decide +kernel
theorem dpattern_225 : decode cX12_pattern 225 = .ok (.iload 5, 2) := by decide +kernel
theorem dpattern_227 : decode cX12_pattern 227 = .ok (.ifCond .ne 7, 3) := by decide +kernel
theorem dpattern_230 : decode cX12_pattern 230 = .ok (.iconst 1, 1) := by decide +kernel
theorem dpattern_231 : decode cX12_pattern 231 = .ok (.goto 4, 3) := by decide +kernel
theorem dpattern_234 : decode cX12_pattern 234 = .ok (.iconst 0, 1) := by decide +kernel
theorem dpattern_235 : decode cX12_pattern 235 = .ok (.istore 8, 2) := by decide +kernel
theorem dpattern_237 : decode cX12_pattern 237 = .ok (.iload 8, 2) := by decide +kernel
theorem dpattern_239 : decode cX12_pattern 239 = .ok (.ifCond .ne 13, 3) := by decide +kernel
theorem dpattern_242 : decode cX12_pattern 242 = .ok (.aload_n 0, 1) := by decide +kernel
theorem dpattern_243 : decode cX12_pattern 243 = .ok (.bipush 7, 2) := by decide +kernel
theorem dpattern_245 : decode cX12_pattern 245 = .ok (.aload_n 0, 1) := by decide +kernel
theorem dpattern_246 : decode cX12_pattern 246 = .ok (.getfield 574, 3) := by decide +kernel
theorem dpattern_249 : decode cX12_pattern 249 = .ok (.invokevirtual 719, 3) := by decide +kernel
theorem dpattern_252 : decode cX12_pattern 252 = .ok (.aload_n 0, 1) := by decide +kernel
theorem dpattern_253 : decode cX12_pattern 253 = .ok (.iload_n 3, 1) := by decide +kernel
theorem dpattern_254 : decode cX12_pattern 254 = .ok (.invokevirtual 882, 3) := by decide +kernel
theorem dpattern_257 : decode cX12_pattern 257 = .ok (.ifCond .eq 14, 3) := by decide +kernel
theorem dpattern_260 : decode cX12_pattern 260 = .ok (.aload_n 0, 1) := by decide +kernel
theorem dpattern_261 : decode cX12_pattern 261 = .ok (.invokevirtual 589, 3) := by decide +kernel
theorem dpattern_264 : decode cX12_pattern 264 = .ok (.ifCond .eq 7, 3) := by decide +kernel
theorem dpattern_267 : decode cX12_pattern 267 = .ok (.iconst 1, 1) := by decide +kernel
theorem dpattern_268 : decode cX12_pattern 268 = .ok (.goto 4, 3) := by decide +kernel
theorem dpattern_271 : decode cX12_pattern 271 = .ok (.iconst 0, 1) := by decide +kernel
theorem dpattern_272 : decode cX12_pattern 272 = .ok (.ireturn, 1) := by decide +kernel
section
variable {l : Launch} {D : va_G} {cA : Nat → ClassId} {ad : Nat → Nat}
theorem s_pattern {a1 : Int} {R r ph q0 b c : Int} {tf : mo_TF} {s : List mo_A} {ht st rg : Nat → Int} {tu : Int} {h : ja_H} {Q : Option ja_V → ja_H → Prop} (g : mo_G Zz h) (r1 : -2147483648 ≤ a1 ∧ a1 ≤ 2147483647) (p1 : pk_S h (h 0 17).toNat s) (p2 : piB h R r ph tf q0 ((31, b, c) :: s) ht st rg tu) (p3 : (s.length : Int) ≤ 6 * pk_sum pk_c s + 2) (k1 : ∀ (h' : ja_H), (pi_done h h' R r ph tf q0 (pi_mu h s)) → mo_G Zz h' → Q (some (0, 1)) h') (k2 : ∀ (h' : ja_H), (0 < (h' 0 8) ∧ (h' 0 1) = (h 0 1) ∧ (h' 0 118) = (h 0 118) ∧ (h' 0 127) = (h 0 127)) → mo_G Zz h' → Q (some (0, 0)) h') : mM_pattern l D cA ad a1 h Q := by
  show mJ l D cA ad 3 cX12_pattern 9 (some .boolean) 0 [(0, (2, ((0 : Nat) : Int))), (1, (0, a1))] [] h Q
  have kn_at := gF_at g
  have kn_wTop := gF_wTop g
  have kn_words := gF_words g
  have kn_nest := gF_nest g
  have kn_nodes := gF_nodes g
  have kn_wants := gF_wants g
  have kn_uses := gF_uses g
  have kn_treeTop := gF_treeTop g
  have kn_quiet := gF_quiet g
  have kn_inFlow := gF_inFlow g
  have kn_false1 := gF_false1 g
  have kn_size := gF_size g
  have CUT : ∀ n : Nat, (∀ (s0 : Int), (-2147483648 ≤ s0 ∧ s0 ≤ 2147483647) → (0 ≤ s0 ∧ s0 ≤ 6) → (1) = n → mJ l D cA ad 3 cX12_pattern 9 (some .boolean) 52 [(0, (2, ((0 : Nat) : Int)))] [(0, s0)] h Q) := by
    intro n
    induction n using Nat.strongRecOn with
    | _ n ih =>
      skip
      · intro s0 qs0 iv hm
        subst hm
        have hN := piB_num g p1 p2
        obtain ⟨N1, N2, N3, N4, N5, N6, N7, N8, N9, N10, N11, N12, N13, ⟨NK1, NK2⟩, ND1, ND2, ND3, NU1, NU2⟩ := hN
        have hn1 : (h 0 18) = 0 + pk_sum pk_c s := p2.1.1
        obtain ⟨T1, T2, T3, T4⟩ := bs_31t (by omega) p2
        refine ja_istore_n dpattern_52 rfl (by decide) (L2 := [(2, (0, s0)), (0, (2, ((0 : Nat) : Int)))]) rfl ?_
        refine ja_aload_n dpattern_53 rfl rfl ?_
        refine t_take (by decide) (show (0 : Nat) ≤ 8 by decide) dpattern_54 g  ?_ ?_
        · intro k54_0 g1
          replace k54_0 : (h 0 7) < 900 := k54_0
          replace g1 : mo_G Zz (ja_up h 0 7 ((h 0 7) + 1)) := g1
          show mJ l D cA ad 3 cX12_pattern 9 (some .boolean) 57 [(2, (0, s0)), (0, (2, ((0 : Nat) : Int)))] [(0, 1)] (ja_up h 0 7 ((h 0 7) + 1)) Q
          refine ja_if_ne 62 dpattern_57 rfl ⟨by decide, by decide⟩ (fun c57 => ?_) (fun c57 => absurd c57 (by omega))
          have kpl := gC_places g ((h 0 7) + 1).toNat
          refine ja_aload_n dpattern_62 rfl rfl ?_
          refine fa_kinds dpattern_63 ?_
          refine ja_aload_n dpattern_66 rfl rfl ?_
          refine fg_at (v := (h 0 7) + 1) rfl dpattern_67 ?_
          refine il_kinds (v := h 2 ((h 0 7) + 1).toNat) rfl ⟨by omega, by omega⟩ dpattern_70 ?_
          have f2 := gC_kinds g ((h 0 7) + 1).toNat
          refine ja_iconst dpattern_71 ?_
          refine ja_icmp_eq 80 dpattern_72 rfl ⟨by omega, by omega⟩ ⟨by decide, by decide⟩ (fun c72 => ?_) (fun c72 => ?_)
          · refine ja_aload_n dpattern_80 rfl rfl ?_
            refine ja_iload_n dpattern_81 rfl rfl ?_
            refine ja_iconst dpattern_82 ?_
            refine ja_iconst dpattern_83 ?_
            refine ja_aload_n dpattern_84 rfl rfl ?_
            refine fg_at (v := (h 0 7) + 1) rfl dpattern_85 ?_
            refine t_node (by decide) (show (0 : Nat) ≤ 8 by decide) dpattern_88 g1 ⟨by omega, by omega⟩ ⟨by decide, by decide⟩ ⟨by decide, by decide⟩ ⟨by omega, by omega⟩ (show 0 ≤ s0 ∧ s0 ≤ 15 by omega) (show 0 ≤ ((h 0 7) + 1) ∧ ((h 0 7) + 1) ≤ 900 by omega) (show (h 0 95) < 900 by omega) ?_
            intro w3 k88_0 g4
            replace k88_0 : (w3 = 1 ∧ (h 0 85) = 1) ∨ (w3 = 0 ∧ (h 0 85) = 0) := k88_0
            replace g4 : mo_G Zz (ja_up (ja_up (ja_up (ja_up (ja_up (ja_up (ja_up (ja_up (ja_up (ja_up (ja_up h 0 7 ((h 0 7) + 1)) 0 95 ((h 0 95) + 1)) 58 ((h 0 95).toNat) s0) 59 ((h 0 95).toNat) 0) 60 ((h 0 95).toNat) 0) 61 ((h 0 95).toNat) ((h 0 7) + 1)) 62 ((h 0 95).toNat) 0) 64 ((h 0 95).toNat) (h 0 76)) 65 ((h 0 95).toNat) 0) 66 ((h 0 95).toNat) 0) 67 ((h 0 95).toNat) w3) := g4
            show mJ l D cA ad 3 cX12_pattern 9 (some .boolean) 91 [(2, (0, s0)), (0, (2, ((0 : Nat) : Int)))] [(0, (h 0 95))] (ja_up (ja_up (ja_up (ja_up (ja_up (ja_up (ja_up (ja_up (ja_up (ja_up (ja_up h 0 7 ((h 0 7) + 1)) 0 95 ((h 0 95) + 1)) 58 ((h 0 95).toNat) s0) 59 ((h 0 95).toNat) 0) 60 ((h 0 95).toNat) 0) 61 ((h 0 95).toNat) ((h 0 7) + 1)) 62 ((h 0 95).toNat) 0) 64 ((h 0 95).toNat) (h 0 76)) 65 ((h 0 95).toNat) 0) 66 ((h 0 95).toNat) 0) 67 ((h 0 95).toNat) w3) Q
            refine ja_istore_n dpattern_91 rfl (by decide) (L2 := [(3, (0, (h 0 95))), (2, (0, s0)), (0, (2, ((0 : Nat) : Int)))]) rfl ?_
            refine ja_aload_n dpattern_92 rfl rfl ?_
            refine ja_aload_n dpattern_93 rfl rfl ?_
            refine fa_places dpattern_94 ?_
            refine ja_aload_n dpattern_97 rfl rfl ?_
            refine fg_at (v := (h 0 7) + 1) rfl dpattern_98 ?_
            refine il_places (v := h 3 ((h 0 7) + 1).toNat) rfl ⟨by omega, by omega⟩ dpattern_101 ?_
            have f5 := gC_places g ((h 0 7) + 1).toNat
            refine ja_iconst dpattern_102 ?_
            refine ja_iadd dpattern_103 ?_
            refine t_partEnd (by decide) (show (0 : Nat) ≤ 8 by decide) dpattern_104 g4 ⟨by omega, by omega⟩ (show 0 ≤ ((h 3 ((h 0 7) + 1).toNat) + 1) by omega) ?_
            intro w6 k104_0
            replace k104_0 : ((h 3 ((h 0 7) + 1).toNat) + 1) ≤ w6 ∧ (w6 ≤ (h 0 1) ∨ w6 = ((h 3 ((h 0 7) + 1).toNat) + 1)) := k104_0
            refine ja_istore dpattern_107 (by decide) (L2 := [(4, (0, w6)), (3, (0, (h 0 95))), (2, (0, s0)), (0, (2, ((0 : Nat) : Int)))]) rfl ?_
            refine ja_aload_n dpattern_109 rfl rfl ?_
            refine ja_iload dpattern_110 rfl ?_
            refine t_byteAt (by decide) (show (0 : Nat) ≤ 8 by decide) dpattern_112 g4 ⟨by omega, by omega⟩ (show 0 ≤ w6 by omega) ?_
            intro w7 k112_0
            replace k112_0 : (w7 = -1 ∧ (h 0 1) ≤ w6) ∨ (0 ≤ w7 ∧ w7 ≤ 255 ∧ w6 < (h 0 1) ∧ w7 = (h 1 (w6).toNat)) := k112_0
            refine ja_bipush 43 dpattern_115 rfl ?_
            refine ja_icmp_ne 124 dpattern_117 rfl ⟨by omega, by omega⟩ ⟨by decide, by decide⟩ (fun c117 => ?_) (fun c117 => ?_)
            · refine ja_iconst dpattern_124 ?_
              refine ja_istore dpattern_125 (by decide) (L2 := [(5, (0, 0)), (4, (0, w6)), (3, (0, (h 0 95))), (2, (0, s0)), (0, (2, ((0 : Nat) : Int)))]) rfl ?_
              refine ja_iload dpattern_127 rfl ?_
              refine ja_if_eq 139 dpattern_129 rfl ⟨by decide, by decide⟩ (fun c129 => ?_) (fun c129 => absurd c129 (by omega))
              refine ja_iload dpattern_139 rfl ?_
              refine ja_istore dpattern_141 (by decide) (L2 := [(6, (0, w6)), (5, (0, 0)), (4, (0, w6)), (3, (0, (h 0 95))), (2, (0, s0)), (0, (2, ((0 : Nat) : Int)))]) rfl ?_
              refine ja_aload_n dpattern_143 rfl rfl ?_
              refine ja_iload dpattern_144 rfl ?_
              refine t_byteAt (by decide) (show (0 : Nat) ≤ 8 by decide) dpattern_146 g4 ⟨by omega, by omega⟩ (show 0 ≤ w6 by omega) ?_
              intro w8 k146_0
              replace k146_0 : (w8 = -1 ∧ (h 0 1) ≤ w6) ∨ (0 ≤ w8 ∧ w8 ≤ 255 ∧ w6 < (h 0 1) ∧ w8 = (h 1 (w6).toNat)) := k146_0
              refine ja_bipush 46 dpattern_149 rfl ?_
              refine ja_icmp_ne 158 dpattern_151 rfl ⟨by omega, by omega⟩ ⟨by decide, by decide⟩ (fun c151 => ?_) (fun c151 => ?_)
              · refine ja_iconst dpattern_158 ?_
                refine ja_istore dpattern_159 (by decide) (L2 := [(7, (0, 0)), (6, (0, w6)), (5, (0, 0)), (4, (0, w6)), (3, (0, (h 0 95))), (2, (0, s0)), (0, (2, ((0 : Nat) : Int)))]) rfl ?_
                refine ja_aload_n dpattern_161 rfl rfl ?_
                refine fa_nodeA dpattern_162 ?_
                refine ja_iload_n dpattern_165 rfl rfl ?_
                refine ja_iload dpattern_166 rfl ?_
                refine ja_if_eq 178 dpattern_168 rfl ⟨by decide, by decide⟩ (fun c168 => ?_) (fun c168 => absurd c168 (by omega))
                refine ja_iconst dpattern_178 ?_
                have g9 := gW_nodeA g4 (h 0 95).toNat (x := (-1)) ⟨by decide, by decide⟩
                refine is_nodeA ⟨by omega, by omega⟩ dpattern_179 ?_
                refine ja_aload_n dpattern_180 rfl rfl ?_
                refine fa_nodeB dpattern_181 ?_
                refine ja_iload_n dpattern_184 rfl rfl ?_
                refine ja_iload dpattern_185 rfl ?_
                refine ja_if_eq 194 dpattern_187 rfl ⟨by decide, by decide⟩ (fun c187 => ?_) (fun c187 => absurd c187 (by omega))
                refine ja_iconst dpattern_194 ?_
                have g10 := gW_nodeB g9 (h 0 95).toNat (x := 0) ⟨by decide, by decide⟩
                refine is_nodeB ⟨by omega, by omega⟩ dpattern_195 ?_
                refine ja_iload_n dpattern_196 rfl rfl ?_
                refine ja_iconst dpattern_197 ?_
                refine ja_icmp_ne 214 dpattern_198 rfl ⟨by omega, by omega⟩ ⟨by decide, by decide⟩ (fun c198 => ?_) (fun c198 => ?_)
                · refine ja_iload_n dpattern_214 rfl rfl ?_
                  refine ja_bipush 6 dpattern_215 rfl ?_
                  refine ja_icmp_eq 230 dpattern_217 rfl ⟨by omega, by omega⟩ ⟨by decide, by decide⟩ (fun c217 => ?_) (fun c217 => ?_)
                  · refine ja_iconst dpattern_230 ?_
                    refine ja_goto 235 dpattern_231 rfl ?_
                    refine ja_istore dpattern_235 (by decide) (L2 := [(8, (0, 1)), (7, (0, 0)), (6, (0, w6)), (5, (0, 0)), (4, (0, w6)), (3, (0, (h 0 95))), (2, (0, s0)), (0, (2, ((0 : Nat) : Int)))]) rfl ?_
                    refine ja_iload dpattern_237 rfl ?_
                    refine ja_if_ne 252 dpattern_239 rfl ⟨by decide, by decide⟩ (fun c239 => ?_) (fun c239 => absurd c239 (by omega))
                    refine ja_aload_n dpattern_252 rfl rfl ?_
                    refine ja_iload_n dpattern_253 rfl rfl ?_
                    refine t_leaf (by decide) (show (0 : Nat) ≤ 8 by decide) dpattern_254 g10 ⟨by omega, by omega⟩ (show 0 ≤ (h 0 95) ∧ (h 0 95) ≤ 899 by omega) (show (h 0 109) < 400 by omega) ?_
                    intro g11
                    replace g11 : mo_G Zz (ja_up (ja_up (ja_up (ja_up (ja_up (ja_up (ja_up (ja_up (ja_up (ja_up (ja_up (ja_up (ja_up (ja_up (ja_up h 0 7 ((h 0 7) + 1)) 0 95 ((h 0 95) + 1)) 58 ((h 0 95).toNat) s0) 59 ((h 0 95).toNat) 0) 60 ((h 0 95).toNat) 0) 61 ((h 0 95).toNat) ((h 0 7) + 1)) 62 ((h 0 95).toNat) 0) 64 ((h 0 95).toNat) (h 0 76)) 65 ((h 0 95).toNat) 0) 66 ((h 0 95).toNat) 0) 67 ((h 0 95).toNat) w3) 59 ((h 0 95).toNat) (-1)) 60 ((h 0 95).toNat) 0) 70 ((h 0 109).toNat) (h 0 95)) 0 109 ((h 0 109) + 1)) := g11
                    show mJ l D cA ad 3 cX12_pattern 9 (some .boolean) 257 [(8, (0, 1)), (7, (0, 0)), (6, (0, w6)), (5, (0, 0)), (4, (0, w6)), (3, (0, (h 0 95))), (2, (0, s0)), (0, (2, ((0 : Nat) : Int)))] [(0, 1)] (ja_up (ja_up (ja_up (ja_up (ja_up (ja_up (ja_up (ja_up (ja_up (ja_up (ja_up (ja_up (ja_up (ja_up (ja_up h 0 7 ((h 0 7) + 1)) 0 95 ((h 0 95) + 1)) 58 ((h 0 95).toNat) s0) 59 ((h 0 95).toNat) 0) 60 ((h 0 95).toNat) 0) 61 ((h 0 95).toNat) ((h 0 7) + 1)) 62 ((h 0 95).toNat) 0) 64 ((h 0 95).toNat) (h 0 76)) 65 ((h 0 95).toNat) 0) 66 ((h 0 95).toNat) 0) 67 ((h 0 95).toNat) w3) 59 ((h 0 95).toNat) (-1)) 60 ((h 0 95).toNat) 0) 70 ((h 0 109).toNat) (h 0 95)) 0 109 ((h 0 109) + 1)) Q
                    refine ja_if_eq 271 dpattern_257 rfl ⟨by decide, by decide⟩ (fun c257 => absurd c257 (by omega)) (fun c257 => ?_)
                    refine ja_aload_n dpattern_260 rfl rfl ?_
                    refine t_take (by decide) (show (0 : Nat) ≤ 8 by decide) dpattern_261 g11  ?_ ?_
                    · intro k261_0 g12
                      replace k261_0 : ((h 0 7) + 1) < 900 := k261_0
                      replace g12 : mo_G Zz (ja_up (ja_up (ja_up (ja_up (ja_up (ja_up (ja_up (ja_up (ja_up (ja_up (ja_up (ja_up (ja_up (ja_up (ja_up (ja_up h 0 7 ((h 0 7) + 1)) 0 95 ((h 0 95) + 1)) 58 ((h 0 95).toNat) s0) 59 ((h 0 95).toNat) 0) 60 ((h 0 95).toNat) 0) 61 ((h 0 95).toNat) ((h 0 7) + 1)) 62 ((h 0 95).toNat) 0) 64 ((h 0 95).toNat) (h 0 76)) 65 ((h 0 95).toNat) 0) 66 ((h 0 95).toNat) 0) 67 ((h 0 95).toNat) w3) 59 ((h 0 95).toNat) (-1)) 60 ((h 0 95).toNat) 0) 70 ((h 0 109).toNat) (h 0 95)) 0 109 ((h 0 109) + 1)) 0 7 (((h 0 7) + 1) + 1)) := g12
                      show mJ l D cA ad 3 cX12_pattern 9 (some .boolean) 264 [(8, (0, 1)), (7, (0, 0)), (6, (0, w6)), (5, (0, 0)), (4, (0, w6)), (3, (0, (h 0 95))), (2, (0, s0)), (0, (2, ((0 : Nat) : Int)))] [(0, 1)] (ja_up (ja_up (ja_up (ja_up (ja_up (ja_up (ja_up (ja_up (ja_up (ja_up (ja_up (ja_up (ja_up (ja_up (ja_up (ja_up h 0 7 ((h 0 7) + 1)) 0 95 ((h 0 95) + 1)) 58 ((h 0 95).toNat) s0) 59 ((h 0 95).toNat) 0) 60 ((h 0 95).toNat) 0) 61 ((h 0 95).toNat) ((h 0 7) + 1)) 62 ((h 0 95).toNat) 0) 64 ((h 0 95).toNat) (h 0 76)) 65 ((h 0 95).toNat) 0) 66 ((h 0 95).toNat) 0) 67 ((h 0 95).toNat) w3) 59 ((h 0 95).toNat) (-1)) 60 ((h 0 95).toNat) 0) 70 ((h 0 109).toNat) (h 0 95)) 0 109 ((h 0 109) + 1)) 0 7 (((h 0 7) + 1) + 1)) Q
                      refine ja_if_eq 271 dpattern_264 rfl ⟨by decide, by decide⟩ (fun c264 => absurd c264 (by omega)) (fun c264 => ?_)
                      refine ja_iconst dpattern_267 ?_
                      refine ja_goto 272 dpattern_268 rfl ?_
                      refine ja_zreturn dpattern_272 rfl (by omega) ?_
                      exact mo_fin (by omega) rfl (k1 (ja_up (ja_up (ja_up (ja_up (ja_up (ja_up (ja_up (ja_up (ja_up (ja_up (ja_up (ja_up (ja_up (ja_up (ja_up (ja_up h 0 7 ((h 0 7) + 1)) 0 95 ((h 0 95) + 1)) 58 ((h 0 95).toNat) s0) 59 ((h 0 95).toNat) 0) 60 ((h 0 95).toNat) 0) 61 ((h 0 95).toNat) ((h 0 7) + 1)) 62 ((h 0 95).toNat) 0) 64 ((h 0 95).toNat) (h 0 76)) 65 ((h 0 95).toNat) 0) 66 ((h 0 95).toNat) 0) 67 ((h 0 95).toNat) w3) 59 ((h 0 95).toNat) (-1)) 60 ((h 0 95).toNat) 0) 70 ((h 0 109).toNat) (h 0 95)) 0 109 ((h 0 109) + 1)) 0 7 (((h 0 7) + 1) + 1)) (ab_leaf g p1 p2 (lf_pat at1 (by first | (simp [ja_up]; done) | (simp [ja_up]; omega)) (by omega) (by omega) (by omega) (by omega))) g12)
                    · intro h13 k261_1 g14
                      replace k261_1 : 0 < (h13 0 8) ∧ (h13 0 1) = (h 0 1) ∧ (h13 0 118) = (h 0 118) ∧ (h13 0 127) = (h 0 127) := k261_1
                      refine ja_if_eq 271 dpattern_264 rfl ⟨by decide, by decide⟩ (fun c264 => ?_) (fun c264 => absurd c264 (by omega))
                      refine ja_iconst dpattern_271 ?_
                      refine ja_zreturn dpattern_272 rfl (by omega) ?_
                      exact mo_fin (by omega) rfl (k2 h13 (by omega) g14)
                  · refine ja_iload dpattern_220 rfl ?_
                    refine ja_if_ne 230 dpattern_222 rfl ⟨by decide, by decide⟩ (fun c222 => absurd c222 (by omega)) (fun c222 => ?_)
                    refine ja_iload dpattern_225 rfl ?_
                    refine ja_if_ne 234 dpattern_227 rfl ⟨by decide, by decide⟩ (fun c227 => absurd c227 (by omega)) (fun c227 => ?_)
                    refine ja_iconst dpattern_230 ?_
                    refine ja_goto 235 dpattern_231 rfl ?_
                    refine ja_istore dpattern_235 (by decide) (L2 := [(8, (0, 1)), (7, (0, 0)), (6, (0, w6)), (5, (0, 0)), (4, (0, w6)), (3, (0, (h 0 95))), (2, (0, s0)), (0, (2, ((0 : Nat) : Int)))]) rfl ?_
                    refine ja_iload dpattern_237 rfl ?_
                    refine ja_if_ne 252 dpattern_239 rfl ⟨by decide, by decide⟩ (fun c239 => ?_) (fun c239 => absurd c239 (by omega))
                    refine ja_aload_n dpattern_252 rfl rfl ?_
                    refine ja_iload_n dpattern_253 rfl rfl ?_
                    refine t_leaf (by decide) (show (0 : Nat) ≤ 8 by decide) dpattern_254 g10 ⟨by omega, by omega⟩ (show 0 ≤ (h 0 95) ∧ (h 0 95) ≤ 899 by omega) (show (h 0 109) < 400 by omega) ?_
                    intro g15
                    replace g15 : mo_G Zz (ja_up (ja_up (ja_up (ja_up (ja_up (ja_up (ja_up (ja_up (ja_up (ja_up (ja_up (ja_up (ja_up (ja_up (ja_up h 0 7 ((h 0 7) + 1)) 0 95 ((h 0 95) + 1)) 58 ((h 0 95).toNat) s0) 59 ((h 0 95).toNat) 0) 60 ((h 0 95).toNat) 0) 61 ((h 0 95).toNat) ((h 0 7) + 1)) 62 ((h 0 95).toNat) 0) 64 ((h 0 95).toNat) (h 0 76)) 65 ((h 0 95).toNat) 0) 66 ((h 0 95).toNat) 0) 67 ((h 0 95).toNat) w3) 59 ((h 0 95).toNat) (-1)) 60 ((h 0 95).toNat) 0) 70 ((h 0 109).toNat) (h 0 95)) 0 109 ((h 0 109) + 1)) := g15
                    show mJ l D cA ad 3 cX12_pattern 9 (some .boolean) 257 [(8, (0, 1)), (7, (0, 0)), (6, (0, w6)), (5, (0, 0)), (4, (0, w6)), (3, (0, (h 0 95))), (2, (0, s0)), (0, (2, ((0 : Nat) : Int)))] [(0, 1)] (ja_up (ja_up (ja_up (ja_up (ja_up (ja_up (ja_up (ja_up (ja_up (ja_up (ja_up (ja_up (ja_up (ja_up (ja_up h 0 7 ((h 0 7) + 1)) 0 95 ((h 0 95) + 1)) 58 ((h 0 95).toNat) s0) 59 ((h 0 95).toNat) 0) 60 ((h 0 95).toNat) 0) 61 ((h 0 95).toNat) ((h 0 7) + 1)) 62 ((h 0 95).toNat) 0) 64 ((h 0 95).toNat) (h 0 76)) 65 ((h 0 95).toNat) 0) 66 ((h 0 95).toNat) 0) 67 ((h 0 95).toNat) w3) 59 ((h 0 95).toNat) (-1)) 60 ((h 0 95).toNat) 0) 70 ((h 0 109).toNat) (h 0 95)) 0 109 ((h 0 109) + 1)) Q
                    refine ja_if_eq 271 dpattern_257 rfl ⟨by decide, by decide⟩ (fun c257 => absurd c257 (by omega)) (fun c257 => ?_)
                    refine ja_aload_n dpattern_260 rfl rfl ?_
                    refine t_take (by decide) (show (0 : Nat) ≤ 8 by decide) dpattern_261 g15  ?_ ?_
                    · intro k261_0 g16
                      replace k261_0 : ((h 0 7) + 1) < 900 := k261_0
                      replace g16 : mo_G Zz (ja_up (ja_up (ja_up (ja_up (ja_up (ja_up (ja_up (ja_up (ja_up (ja_up (ja_up (ja_up (ja_up (ja_up (ja_up (ja_up h 0 7 ((h 0 7) + 1)) 0 95 ((h 0 95) + 1)) 58 ((h 0 95).toNat) s0) 59 ((h 0 95).toNat) 0) 60 ((h 0 95).toNat) 0) 61 ((h 0 95).toNat) ((h 0 7) + 1)) 62 ((h 0 95).toNat) 0) 64 ((h 0 95).toNat) (h 0 76)) 65 ((h 0 95).toNat) 0) 66 ((h 0 95).toNat) 0) 67 ((h 0 95).toNat) w3) 59 ((h 0 95).toNat) (-1)) 60 ((h 0 95).toNat) 0) 70 ((h 0 109).toNat) (h 0 95)) 0 109 ((h 0 109) + 1)) 0 7 (((h 0 7) + 1) + 1)) := g16
                      show mJ l D cA ad 3 cX12_pattern 9 (some .boolean) 264 [(8, (0, 1)), (7, (0, 0)), (6, (0, w6)), (5, (0, 0)), (4, (0, w6)), (3, (0, (h 0 95))), (2, (0, s0)), (0, (2, ((0 : Nat) : Int)))] [(0, 1)] (ja_up (ja_up (ja_up (ja_up (ja_up (ja_up (ja_up (ja_up (ja_up (ja_up (ja_up (ja_up (ja_up (ja_up (ja_up (ja_up h 0 7 ((h 0 7) + 1)) 0 95 ((h 0 95) + 1)) 58 ((h 0 95).toNat) s0) 59 ((h 0 95).toNat) 0) 60 ((h 0 95).toNat) 0) 61 ((h 0 95).toNat) ((h 0 7) + 1)) 62 ((h 0 95).toNat) 0) 64 ((h 0 95).toNat) (h 0 76)) 65 ((h 0 95).toNat) 0) 66 ((h 0 95).toNat) 0) 67 ((h 0 95).toNat) w3) 59 ((h 0 95).toNat) (-1)) 60 ((h 0 95).toNat) 0) 70 ((h 0 109).toNat) (h 0 95)) 0 109 ((h 0 109) + 1)) 0 7 (((h 0 7) + 1) + 1)) Q
                      refine ja_if_eq 271 dpattern_264 rfl ⟨by decide, by decide⟩ (fun c264 => absurd c264 (by omega)) (fun c264 => ?_)
                      refine ja_iconst dpattern_267 ?_
                      refine ja_goto 272 dpattern_268 rfl ?_
                      refine ja_zreturn dpattern_272 rfl (by omega) ?_
                      exact mo_fin (by omega) rfl (k1 (ja_up (ja_up (ja_up (ja_up (ja_up (ja_up (ja_up (ja_up (ja_up (ja_up (ja_up (ja_up (ja_up (ja_up (ja_up (ja_up h 0 7 ((h 0 7) + 1)) 0 95 ((h 0 95) + 1)) 58 ((h 0 95).toNat) s0) 59 ((h 0 95).toNat) 0) 60 ((h 0 95).toNat) 0) 61 ((h 0 95).toNat) ((h 0 7) + 1)) 62 ((h 0 95).toNat) 0) 64 ((h 0 95).toNat) (h 0 76)) 65 ((h 0 95).toNat) 0) 66 ((h 0 95).toNat) 0) 67 ((h 0 95).toNat) w3) 59 ((h 0 95).toNat) (-1)) 60 ((h 0 95).toNat) 0) 70 ((h 0 109).toNat) (h 0 95)) 0 109 ((h 0 109) + 1)) 0 7 (((h 0 7) + 1) + 1)) (ab_leaf g p1 p2 (lf_pat at1 (by first | (simp [ja_up]; done) | (simp [ja_up]; omega)) (by omega) (by omega) (by omega) (by omega))) g16)
                    · intro h17 k261_1 g18
                      replace k261_1 : 0 < (h17 0 8) ∧ (h17 0 1) = (h 0 1) ∧ (h17 0 118) = (h 0 118) ∧ (h17 0 127) = (h 0 127) := k261_1
                      refine ja_if_eq 271 dpattern_264 rfl ⟨by decide, by decide⟩ (fun c264 => ?_) (fun c264 => absurd c264 (by omega))
                      refine ja_iconst dpattern_271 ?_
                      refine ja_zreturn dpattern_272 rfl (by omega) ?_
                      exact mo_fin (by omega) rfl (k2 h17 (by omega) g18)
                · refine ja_iload dpattern_201 rfl ?_
                  refine ja_if_ne 210 dpattern_203 rfl ⟨by decide, by decide⟩ (fun c203 => absurd c203 (by omega)) (fun c203 => ?_)
                  refine ja_iconst dpattern_206 ?_
                  refine ja_goto 235 dpattern_207 rfl ?_
                  refine ja_istore dpattern_235 (by decide) (L2 := [(8, (0, 1)), (7, (0, 0)), (6, (0, w6)), (5, (0, 0)), (4, (0, w6)), (3, (0, (h 0 95))), (2, (0, s0)), (0, (2, ((0 : Nat) : Int)))]) rfl ?_
                  refine ja_iload dpattern_237 rfl ?_
                  refine ja_if_ne 252 dpattern_239 rfl ⟨by decide, by decide⟩ (fun c239 => ?_) (fun c239 => absurd c239 (by omega))
                  refine ja_aload_n dpattern_252 rfl rfl ?_
                  refine ja_iload_n dpattern_253 rfl rfl ?_
                  refine t_leaf (by decide) (show (0 : Nat) ≤ 8 by decide) dpattern_254 g10 ⟨by omega, by omega⟩ (show 0 ≤ (h 0 95) ∧ (h 0 95) ≤ 899 by omega) (show (h 0 109) < 400 by omega) ?_
                  intro g19
                  replace g19 : mo_G Zz (ja_up (ja_up (ja_up (ja_up (ja_up (ja_up (ja_up (ja_up (ja_up (ja_up (ja_up (ja_up (ja_up (ja_up (ja_up h 0 7 ((h 0 7) + 1)) 0 95 ((h 0 95) + 1)) 58 ((h 0 95).toNat) s0) 59 ((h 0 95).toNat) 0) 60 ((h 0 95).toNat) 0) 61 ((h 0 95).toNat) ((h 0 7) + 1)) 62 ((h 0 95).toNat) 0) 64 ((h 0 95).toNat) (h 0 76)) 65 ((h 0 95).toNat) 0) 66 ((h 0 95).toNat) 0) 67 ((h 0 95).toNat) w3) 59 ((h 0 95).toNat) (-1)) 60 ((h 0 95).toNat) 0) 70 ((h 0 109).toNat) (h 0 95)) 0 109 ((h 0 109) + 1)) := g19
                  show mJ l D cA ad 3 cX12_pattern 9 (some .boolean) 257 [(8, (0, 1)), (7, (0, 0)), (6, (0, w6)), (5, (0, 0)), (4, (0, w6)), (3, (0, (h 0 95))), (2, (0, s0)), (0, (2, ((0 : Nat) : Int)))] [(0, 1)] (ja_up (ja_up (ja_up (ja_up (ja_up (ja_up (ja_up (ja_up (ja_up (ja_up (ja_up (ja_up (ja_up (ja_up (ja_up h 0 7 ((h 0 7) + 1)) 0 95 ((h 0 95) + 1)) 58 ((h 0 95).toNat) s0) 59 ((h 0 95).toNat) 0) 60 ((h 0 95).toNat) 0) 61 ((h 0 95).toNat) ((h 0 7) + 1)) 62 ((h 0 95).toNat) 0) 64 ((h 0 95).toNat) (h 0 76)) 65 ((h 0 95).toNat) 0) 66 ((h 0 95).toNat) 0) 67 ((h 0 95).toNat) w3) 59 ((h 0 95).toNat) (-1)) 60 ((h 0 95).toNat) 0) 70 ((h 0 109).toNat) (h 0 95)) 0 109 ((h 0 109) + 1)) Q
                  refine ja_if_eq 271 dpattern_257 rfl ⟨by decide, by decide⟩ (fun c257 => absurd c257 (by omega)) (fun c257 => ?_)
                  refine ja_aload_n dpattern_260 rfl rfl ?_
                  refine t_take (by decide) (show (0 : Nat) ≤ 8 by decide) dpattern_261 g19  ?_ ?_
                  · intro k261_0 g20
                    replace k261_0 : ((h 0 7) + 1) < 900 := k261_0
                    replace g20 : mo_G Zz (ja_up (ja_up (ja_up (ja_up (ja_up (ja_up (ja_up (ja_up (ja_up (ja_up (ja_up (ja_up (ja_up (ja_up (ja_up (ja_up h 0 7 ((h 0 7) + 1)) 0 95 ((h 0 95) + 1)) 58 ((h 0 95).toNat) s0) 59 ((h 0 95).toNat) 0) 60 ((h 0 95).toNat) 0) 61 ((h 0 95).toNat) ((h 0 7) + 1)) 62 ((h 0 95).toNat) 0) 64 ((h 0 95).toNat) (h 0 76)) 65 ((h 0 95).toNat) 0) 66 ((h 0 95).toNat) 0) 67 ((h 0 95).toNat) w3) 59 ((h 0 95).toNat) (-1)) 60 ((h 0 95).toNat) 0) 70 ((h 0 109).toNat) (h 0 95)) 0 109 ((h 0 109) + 1)) 0 7 (((h 0 7) + 1) + 1)) := g20
                    show mJ l D cA ad 3 cX12_pattern 9 (some .boolean) 264 [(8, (0, 1)), (7, (0, 0)), (6, (0, w6)), (5, (0, 0)), (4, (0, w6)), (3, (0, (h 0 95))), (2, (0, s0)), (0, (2, ((0 : Nat) : Int)))] [(0, 1)] (ja_up (ja_up (ja_up (ja_up (ja_up (ja_up (ja_up (ja_up (ja_up (ja_up (ja_up (ja_up (ja_up (ja_up (ja_up (ja_up h 0 7 ((h 0 7) + 1)) 0 95 ((h 0 95) + 1)) 58 ((h 0 95).toNat) s0) 59 ((h 0 95).toNat) 0) 60 ((h 0 95).toNat) 0) 61 ((h 0 95).toNat) ((h 0 7) + 1)) 62 ((h 0 95).toNat) 0) 64 ((h 0 95).toNat) (h 0 76)) 65 ((h 0 95).toNat) 0) 66 ((h 0 95).toNat) 0) 67 ((h 0 95).toNat) w3) 59 ((h 0 95).toNat) (-1)) 60 ((h 0 95).toNat) 0) 70 ((h 0 109).toNat) (h 0 95)) 0 109 ((h 0 109) + 1)) 0 7 (((h 0 7) + 1) + 1)) Q
                    refine ja_if_eq 271 dpattern_264 rfl ⟨by decide, by decide⟩ (fun c264 => absurd c264 (by omega)) (fun c264 => ?_)
                    refine ja_iconst dpattern_267 ?_
                    refine ja_goto 272 dpattern_268 rfl ?_
                    refine ja_zreturn dpattern_272 rfl (by omega) ?_
                    exact mo_fin (by omega) rfl (k1 (ja_up (ja_up (ja_up (ja_up (ja_up (ja_up (ja_up (ja_up (ja_up (ja_up (ja_up (ja_up (ja_up (ja_up (ja_up (ja_up h 0 7 ((h 0 7) + 1)) 0 95 ((h 0 95) + 1)) 58 ((h 0 95).toNat) s0) 59 ((h 0 95).toNat) 0) 60 ((h 0 95).toNat) 0) 61 ((h 0 95).toNat) ((h 0 7) + 1)) 62 ((h 0 95).toNat) 0) 64 ((h 0 95).toNat) (h 0 76)) 65 ((h 0 95).toNat) 0) 66 ((h 0 95).toNat) 0) 67 ((h 0 95).toNat) w3) 59 ((h 0 95).toNat) (-1)) 60 ((h 0 95).toNat) 0) 70 ((h 0 109).toNat) (h 0 95)) 0 109 ((h 0 109) + 1)) 0 7 (((h 0 7) + 1) + 1)) (ab_leaf g p1 p2 (lf_pat at1 (by first | (simp [ja_up]; done) | (simp [ja_up]; omega)) (by omega) (by omega) (by omega) (by omega))) g20)
                  · intro h21 k261_1 g22
                    replace k261_1 : 0 < (h21 0 8) ∧ (h21 0 1) = (h 0 1) ∧ (h21 0 118) = (h 0 118) ∧ (h21 0 127) = (h 0 127) := k261_1
                    refine ja_if_eq 271 dpattern_264 rfl ⟨by decide, by decide⟩ (fun c264 => ?_) (fun c264 => absurd c264 (by omega))
                    refine ja_iconst dpattern_271 ?_
                    refine ja_zreturn dpattern_272 rfl (by omega) ?_
                    exact mo_fin (by omega) rfl (k2 h21 (by omega) g22)
              · refine ja_iconst dpattern_154 ?_
                refine ja_goto 159 dpattern_155 rfl ?_
                refine ja_istore dpattern_159 (by decide) (L2 := [(7, (0, 1)), (6, (0, w6)), (5, (0, 0)), (4, (0, w6)), (3, (0, (h 0 95))), (2, (0, s0)), (0, (2, ((0 : Nat) : Int)))]) rfl ?_
                refine ja_aload_n dpattern_161 rfl rfl ?_
                refine fa_nodeA dpattern_162 ?_
                refine ja_iload_n dpattern_165 rfl rfl ?_
                refine ja_iload dpattern_166 rfl ?_
                refine ja_if_eq 178 dpattern_168 rfl ⟨by decide, by decide⟩ (fun c168 => absurd c168 (by omega)) (fun c168 => ?_)
                refine ja_iload dpattern_171 rfl ?_
                refine ja_iconst dpattern_173 ?_
                refine ja_iadd dpattern_174 ?_
                refine ja_goto 179 dpattern_175 rfl ?_
                have g23 := gW_nodeA g4 (h 0 95).toNat (x := w6 + 1) ⟨by omega, by omega⟩
                refine is_nodeA ⟨by omega, by omega⟩ dpattern_179 ?_
                refine ja_aload_n dpattern_180 rfl rfl ?_
                refine fa_nodeB dpattern_181 ?_
                refine ja_iload_n dpattern_184 rfl rfl ?_
                refine ja_iload dpattern_185 rfl ?_
                refine ja_if_eq 194 dpattern_187 rfl ⟨by decide, by decide⟩ (fun c187 => ?_) (fun c187 => absurd c187 (by omega))
                refine ja_iconst dpattern_194 ?_
                have g24 := gW_nodeB g23 (h 0 95).toNat (x := 0) ⟨by decide, by decide⟩
                refine is_nodeB ⟨by omega, by omega⟩ dpattern_195 ?_
                refine ja_iload_n dpattern_196 rfl rfl ?_
                refine ja_iconst dpattern_197 ?_
                refine ja_icmp_ne 214 dpattern_198 rfl ⟨by omega, by omega⟩ ⟨by decide, by decide⟩ (fun c198 => ?_) (fun c198 => ?_)
                · refine ja_iload_n dpattern_214 rfl rfl ?_
                  refine ja_bipush 6 dpattern_215 rfl ?_
                  refine ja_icmp_eq 230 dpattern_217 rfl ⟨by omega, by omega⟩ ⟨by decide, by decide⟩ (fun c217 => ?_) (fun c217 => ?_)
                  · refine ja_iconst dpattern_230 ?_
                    refine ja_goto 235 dpattern_231 rfl ?_
                    refine ja_istore dpattern_235 (by decide) (L2 := [(8, (0, 1)), (7, (0, 1)), (6, (0, w6)), (5, (0, 0)), (4, (0, w6)), (3, (0, (h 0 95))), (2, (0, s0)), (0, (2, ((0 : Nat) : Int)))]) rfl ?_
                    refine ja_iload dpattern_237 rfl ?_
                    refine ja_if_ne 252 dpattern_239 rfl ⟨by decide, by decide⟩ (fun c239 => ?_) (fun c239 => absurd c239 (by omega))
                    refine ja_aload_n dpattern_252 rfl rfl ?_
                    refine ja_iload_n dpattern_253 rfl rfl ?_
                    refine t_leaf (by decide) (show (0 : Nat) ≤ 8 by decide) dpattern_254 g24 ⟨by omega, by omega⟩ (show 0 ≤ (h 0 95) ∧ (h 0 95) ≤ 899 by omega) (show (h 0 109) < 400 by omega) ?_
                    intro g25
                    replace g25 : mo_G Zz (ja_up (ja_up (ja_up (ja_up (ja_up (ja_up (ja_up (ja_up (ja_up (ja_up (ja_up (ja_up (ja_up (ja_up (ja_up h 0 7 ((h 0 7) + 1)) 0 95 ((h 0 95) + 1)) 58 ((h 0 95).toNat) s0) 59 ((h 0 95).toNat) 0) 60 ((h 0 95).toNat) 0) 61 ((h 0 95).toNat) ((h 0 7) + 1)) 62 ((h 0 95).toNat) 0) 64 ((h 0 95).toNat) (h 0 76)) 65 ((h 0 95).toNat) 0) 66 ((h 0 95).toNat) 0) 67 ((h 0 95).toNat) w3) 59 ((h 0 95).toNat) (w6 + 1)) 60 ((h 0 95).toNat) 0) 70 ((h 0 109).toNat) (h 0 95)) 0 109 ((h 0 109) + 1)) := g25
                    show mJ l D cA ad 3 cX12_pattern 9 (some .boolean) 257 [(8, (0, 1)), (7, (0, 1)), (6, (0, w6)), (5, (0, 0)), (4, (0, w6)), (3, (0, (h 0 95))), (2, (0, s0)), (0, (2, ((0 : Nat) : Int)))] [(0, 1)] (ja_up (ja_up (ja_up (ja_up (ja_up (ja_up (ja_up (ja_up (ja_up (ja_up (ja_up (ja_up (ja_up (ja_up (ja_up h 0 7 ((h 0 7) + 1)) 0 95 ((h 0 95) + 1)) 58 ((h 0 95).toNat) s0) 59 ((h 0 95).toNat) 0) 60 ((h 0 95).toNat) 0) 61 ((h 0 95).toNat) ((h 0 7) + 1)) 62 ((h 0 95).toNat) 0) 64 ((h 0 95).toNat) (h 0 76)) 65 ((h 0 95).toNat) 0) 66 ((h 0 95).toNat) 0) 67 ((h 0 95).toNat) w3) 59 ((h 0 95).toNat) (w6 + 1)) 60 ((h 0 95).toNat) 0) 70 ((h 0 109).toNat) (h 0 95)) 0 109 ((h 0 109) + 1)) Q
                    refine ja_if_eq 271 dpattern_257 rfl ⟨by decide, by decide⟩ (fun c257 => absurd c257 (by omega)) (fun c257 => ?_)
                    refine ja_aload_n dpattern_260 rfl rfl ?_
                    refine t_take (by decide) (show (0 : Nat) ≤ 8 by decide) dpattern_261 g25  ?_ ?_
                    · intro k261_0 g26
                      replace k261_0 : ((h 0 7) + 1) < 900 := k261_0
                      replace g26 : mo_G Zz (ja_up (ja_up (ja_up (ja_up (ja_up (ja_up (ja_up (ja_up (ja_up (ja_up (ja_up (ja_up (ja_up (ja_up (ja_up (ja_up h 0 7 ((h 0 7) + 1)) 0 95 ((h 0 95) + 1)) 58 ((h 0 95).toNat) s0) 59 ((h 0 95).toNat) 0) 60 ((h 0 95).toNat) 0) 61 ((h 0 95).toNat) ((h 0 7) + 1)) 62 ((h 0 95).toNat) 0) 64 ((h 0 95).toNat) (h 0 76)) 65 ((h 0 95).toNat) 0) 66 ((h 0 95).toNat) 0) 67 ((h 0 95).toNat) w3) 59 ((h 0 95).toNat) (w6 + 1)) 60 ((h 0 95).toNat) 0) 70 ((h 0 109).toNat) (h 0 95)) 0 109 ((h 0 109) + 1)) 0 7 (((h 0 7) + 1) + 1)) := g26
                      show mJ l D cA ad 3 cX12_pattern 9 (some .boolean) 264 [(8, (0, 1)), (7, (0, 1)), (6, (0, w6)), (5, (0, 0)), (4, (0, w6)), (3, (0, (h 0 95))), (2, (0, s0)), (0, (2, ((0 : Nat) : Int)))] [(0, 1)] (ja_up (ja_up (ja_up (ja_up (ja_up (ja_up (ja_up (ja_up (ja_up (ja_up (ja_up (ja_up (ja_up (ja_up (ja_up (ja_up h 0 7 ((h 0 7) + 1)) 0 95 ((h 0 95) + 1)) 58 ((h 0 95).toNat) s0) 59 ((h 0 95).toNat) 0) 60 ((h 0 95).toNat) 0) 61 ((h 0 95).toNat) ((h 0 7) + 1)) 62 ((h 0 95).toNat) 0) 64 ((h 0 95).toNat) (h 0 76)) 65 ((h 0 95).toNat) 0) 66 ((h 0 95).toNat) 0) 67 ((h 0 95).toNat) w3) 59 ((h 0 95).toNat) (w6 + 1)) 60 ((h 0 95).toNat) 0) 70 ((h 0 109).toNat) (h 0 95)) 0 109 ((h 0 109) + 1)) 0 7 (((h 0 7) + 1) + 1)) Q
                      refine ja_if_eq 271 dpattern_264 rfl ⟨by decide, by decide⟩ (fun c264 => absurd c264 (by omega)) (fun c264 => ?_)
                      refine ja_iconst dpattern_267 ?_
                      refine ja_goto 272 dpattern_268 rfl ?_
                      refine ja_zreturn dpattern_272 rfl (by omega) ?_
                      exact mo_fin (by omega) rfl (k1 (ja_up (ja_up (ja_up (ja_up (ja_up (ja_up (ja_up (ja_up (ja_up (ja_up (ja_up (ja_up (ja_up (ja_up (ja_up (ja_up h 0 7 ((h 0 7) + 1)) 0 95 ((h 0 95) + 1)) 58 ((h 0 95).toNat) s0) 59 ((h 0 95).toNat) 0) 60 ((h 0 95).toNat) 0) 61 ((h 0 95).toNat) ((h 0 7) + 1)) 62 ((h 0 95).toNat) 0) 64 ((h 0 95).toNat) (h 0 76)) 65 ((h 0 95).toNat) 0) 66 ((h 0 95).toNat) 0) 67 ((h 0 95).toNat) w3) 59 ((h 0 95).toNat) (w6 + 1)) 60 ((h 0 95).toNat) 0) 70 ((h 0 109).toNat) (h 0 95)) 0 109 ((h 0 109) + 1)) 0 7 (((h 0 7) + 1) + 1)) (ab_leaf g p1 p2 (lf_pat at1 (by first | (simp [ja_up]; done) | (simp [ja_up]; omega)) (by omega) (by omega) (by omega) (by omega))) g26)
                    · intro h27 k261_1 g28
                      replace k261_1 : 0 < (h27 0 8) ∧ (h27 0 1) = (h 0 1) ∧ (h27 0 118) = (h 0 118) ∧ (h27 0 127) = (h 0 127) := k261_1
                      refine ja_if_eq 271 dpattern_264 rfl ⟨by decide, by decide⟩ (fun c264 => ?_) (fun c264 => absurd c264 (by omega))
                      refine ja_iconst dpattern_271 ?_
                      refine ja_zreturn dpattern_272 rfl (by omega) ?_
                      exact mo_fin (by omega) rfl (k2 h27 (by omega) g28)
                  · refine ja_iload dpattern_220 rfl ?_
                    refine ja_if_ne 230 dpattern_222 rfl ⟨by decide, by decide⟩ (fun c222 => ?_) (fun c222 => absurd c222 (by omega))
                    refine ja_iconst dpattern_230 ?_
                    refine ja_goto 235 dpattern_231 rfl ?_
                    refine ja_istore dpattern_235 (by decide) (L2 := [(8, (0, 1)), (7, (0, 1)), (6, (0, w6)), (5, (0, 0)), (4, (0, w6)), (3, (0, (h 0 95))), (2, (0, s0)), (0, (2, ((0 : Nat) : Int)))]) rfl ?_
                    refine ja_iload dpattern_237 rfl ?_
                    refine ja_if_ne 252 dpattern_239 rfl ⟨by decide, by decide⟩ (fun c239 => ?_) (fun c239 => absurd c239 (by omega))
                    refine ja_aload_n dpattern_252 rfl rfl ?_
                    refine ja_iload_n dpattern_253 rfl rfl ?_
                    refine t_leaf (by decide) (show (0 : Nat) ≤ 8 by decide) dpattern_254 g24 ⟨by omega, by omega⟩ (show 0 ≤ (h 0 95) ∧ (h 0 95) ≤ 899 by omega) (show (h 0 109) < 400 by omega) ?_
                    intro g29
                    replace g29 : mo_G Zz (ja_up (ja_up (ja_up (ja_up (ja_up (ja_up (ja_up (ja_up (ja_up (ja_up (ja_up (ja_up (ja_up (ja_up (ja_up h 0 7 ((h 0 7) + 1)) 0 95 ((h 0 95) + 1)) 58 ((h 0 95).toNat) s0) 59 ((h 0 95).toNat) 0) 60 ((h 0 95).toNat) 0) 61 ((h 0 95).toNat) ((h 0 7) + 1)) 62 ((h 0 95).toNat) 0) 64 ((h 0 95).toNat) (h 0 76)) 65 ((h 0 95).toNat) 0) 66 ((h 0 95).toNat) 0) 67 ((h 0 95).toNat) w3) 59 ((h 0 95).toNat) (w6 + 1)) 60 ((h 0 95).toNat) 0) 70 ((h 0 109).toNat) (h 0 95)) 0 109 ((h 0 109) + 1)) := g29
                    show mJ l D cA ad 3 cX12_pattern 9 (some .boolean) 257 [(8, (0, 1)), (7, (0, 1)), (6, (0, w6)), (5, (0, 0)), (4, (0, w6)), (3, (0, (h 0 95))), (2, (0, s0)), (0, (2, ((0 : Nat) : Int)))] [(0, 1)] (ja_up (ja_up (ja_up (ja_up (ja_up (ja_up (ja_up (ja_up (ja_up (ja_up (ja_up (ja_up (ja_up (ja_up (ja_up h 0 7 ((h 0 7) + 1)) 0 95 ((h 0 95) + 1)) 58 ((h 0 95).toNat) s0) 59 ((h 0 95).toNat) 0) 60 ((h 0 95).toNat) 0) 61 ((h 0 95).toNat) ((h 0 7) + 1)) 62 ((h 0 95).toNat) 0) 64 ((h 0 95).toNat) (h 0 76)) 65 ((h 0 95).toNat) 0) 66 ((h 0 95).toNat) 0) 67 ((h 0 95).toNat) w3) 59 ((h 0 95).toNat) (w6 + 1)) 60 ((h 0 95).toNat) 0) 70 ((h 0 109).toNat) (h 0 95)) 0 109 ((h 0 109) + 1)) Q
                    refine ja_if_eq 271 dpattern_257 rfl ⟨by decide, by decide⟩ (fun c257 => absurd c257 (by omega)) (fun c257 => ?_)
                    refine ja_aload_n dpattern_260 rfl rfl ?_
                    refine t_take (by decide) (show (0 : Nat) ≤ 8 by decide) dpattern_261 g29  ?_ ?_
                    · intro k261_0 g30
                      replace k261_0 : ((h 0 7) + 1) < 900 := k261_0
                      replace g30 : mo_G Zz (ja_up (ja_up (ja_up (ja_up (ja_up (ja_up (ja_up (ja_up (ja_up (ja_up (ja_up (ja_up (ja_up (ja_up (ja_up (ja_up h 0 7 ((h 0 7) + 1)) 0 95 ((h 0 95) + 1)) 58 ((h 0 95).toNat) s0) 59 ((h 0 95).toNat) 0) 60 ((h 0 95).toNat) 0) 61 ((h 0 95).toNat) ((h 0 7) + 1)) 62 ((h 0 95).toNat) 0) 64 ((h 0 95).toNat) (h 0 76)) 65 ((h 0 95).toNat) 0) 66 ((h 0 95).toNat) 0) 67 ((h 0 95).toNat) w3) 59 ((h 0 95).toNat) (w6 + 1)) 60 ((h 0 95).toNat) 0) 70 ((h 0 109).toNat) (h 0 95)) 0 109 ((h 0 109) + 1)) 0 7 (((h 0 7) + 1) + 1)) := g30
                      show mJ l D cA ad 3 cX12_pattern 9 (some .boolean) 264 [(8, (0, 1)), (7, (0, 1)), (6, (0, w6)), (5, (0, 0)), (4, (0, w6)), (3, (0, (h 0 95))), (2, (0, s0)), (0, (2, ((0 : Nat) : Int)))] [(0, 1)] (ja_up (ja_up (ja_up (ja_up (ja_up (ja_up (ja_up (ja_up (ja_up (ja_up (ja_up (ja_up (ja_up (ja_up (ja_up (ja_up h 0 7 ((h 0 7) + 1)) 0 95 ((h 0 95) + 1)) 58 ((h 0 95).toNat) s0) 59 ((h 0 95).toNat) 0) 60 ((h 0 95).toNat) 0) 61 ((h 0 95).toNat) ((h 0 7) + 1)) 62 ((h 0 95).toNat) 0) 64 ((h 0 95).toNat) (h 0 76)) 65 ((h 0 95).toNat) 0) 66 ((h 0 95).toNat) 0) 67 ((h 0 95).toNat) w3) 59 ((h 0 95).toNat) (w6 + 1)) 60 ((h 0 95).toNat) 0) 70 ((h 0 109).toNat) (h 0 95)) 0 109 ((h 0 109) + 1)) 0 7 (((h 0 7) + 1) + 1)) Q
                      refine ja_if_eq 271 dpattern_264 rfl ⟨by decide, by decide⟩ (fun c264 => absurd c264 (by omega)) (fun c264 => ?_)
                      refine ja_iconst dpattern_267 ?_
                      refine ja_goto 272 dpattern_268 rfl ?_
                      refine ja_zreturn dpattern_272 rfl (by omega) ?_
                      exact mo_fin (by omega) rfl (k1 (ja_up (ja_up (ja_up (ja_up (ja_up (ja_up (ja_up (ja_up (ja_up (ja_up (ja_up (ja_up (ja_up (ja_up (ja_up (ja_up h 0 7 ((h 0 7) + 1)) 0 95 ((h 0 95) + 1)) 58 ((h 0 95).toNat) s0) 59 ((h 0 95).toNat) 0) 60 ((h 0 95).toNat) 0) 61 ((h 0 95).toNat) ((h 0 7) + 1)) 62 ((h 0 95).toNat) 0) 64 ((h 0 95).toNat) (h 0 76)) 65 ((h 0 95).toNat) 0) 66 ((h 0 95).toNat) 0) 67 ((h 0 95).toNat) w3) 59 ((h 0 95).toNat) (w6 + 1)) 60 ((h 0 95).toNat) 0) 70 ((h 0 109).toNat) (h 0 95)) 0 109 ((h 0 109) + 1)) 0 7 (((h 0 7) + 1) + 1)) (ab_leaf g p1 p2 (lf_pat at1 (by first | (simp [ja_up]; done) | (simp [ja_up]; omega)) (by omega) (by omega) (by omega) (by omega))) g30)
                    · intro h31 k261_1 g32
                      replace k261_1 : 0 < (h31 0 8) ∧ (h31 0 1) = (h 0 1) ∧ (h31 0 118) = (h 0 118) ∧ (h31 0 127) = (h 0 127) := k261_1
                      refine ja_if_eq 271 dpattern_264 rfl ⟨by decide, by decide⟩ (fun c264 => ?_) (fun c264 => absurd c264 (by omega))
                      refine ja_iconst dpattern_271 ?_
                      refine ja_zreturn dpattern_272 rfl (by omega) ?_
                      exact mo_fin (by omega) rfl (k2 h31 (by omega) g32)
                · refine ja_iload dpattern_201 rfl ?_
                  refine ja_if_ne 210 dpattern_203 rfl ⟨by decide, by decide⟩ (fun c203 => ?_) (fun c203 => absurd c203 (by omega))
                  refine ja_iconst dpattern_210 ?_
                  refine ja_goto 235 dpattern_211 rfl ?_
                  refine ja_istore dpattern_235 (by decide) (L2 := [(8, (0, 0)), (7, (0, 1)), (6, (0, w6)), (5, (0, 0)), (4, (0, w6)), (3, (0, (h 0 95))), (2, (0, s0)), (0, (2, ((0 : Nat) : Int)))]) rfl ?_
                  refine ja_iload dpattern_237 rfl ?_
                  refine ja_if_ne 252 dpattern_239 rfl ⟨by decide, by decide⟩ (fun c239 => absurd c239 (by omega)) (fun c239 => ?_)
                  refine ja_aload_n dpattern_242 rfl rfl ?_
                  refine ja_bipush 7 dpattern_243 rfl ?_
                  refine ja_aload_n dpattern_245 rfl rfl ?_
                  refine fg_at (v := (h 0 7) + 1) rfl dpattern_246 ?_
                  refine t_judge (by decide) (show (0 : Nat) ≤ 8 by decide) dpattern_249 g24 ⟨by decide, by decide⟩ ⟨by omega, by omega⟩ (show 1 ≤ 7 ∧ 7 ≤ 8 by omega) (show 0 ≤ ((h 0 7) + 1) ∧ ((h 0 7) + 1) ≤ 900 by omega) ?_
                  intro w33 w34 k249_0 g35
                  replace k249_0 : 1 ≤ w33 ∧ w33 ≤ 8 ∧ -2147483648 ≤ w34 ∧ w34 ≤ 2147483647 := k249_0
                  replace g35 : mo_G Zz (ja_up (ja_up (ja_up (ja_up (ja_up (ja_up (ja_up (ja_up (ja_up (ja_up (ja_up (ja_up (ja_up (ja_up (ja_up h 0 7 ((h 0 7) + 1)) 0 95 ((h 0 95) + 1)) 58 ((h 0 95).toNat) s0) 59 ((h 0 95).toNat) 0) 60 ((h 0 95).toNat) 0) 61 ((h 0 95).toNat) ((h 0 7) + 1)) 62 ((h 0 95).toNat) 0) 64 ((h 0 95).toNat) (h 0 76)) 65 ((h 0 95).toNat) 0) 66 ((h 0 95).toNat) 0) 67 ((h 0 95).toNat) w3) 59 ((h 0 95).toNat) (w6 + 1)) 60 ((h 0 95).toNat) 0) 0 11 w33) 0 12 w34) := g35
                  show mJ l D cA ad 3 cX12_pattern 9 (some .boolean) 252 [(8, (0, 0)), (7, (0, 1)), (6, (0, w6)), (5, (0, 0)), (4, (0, w6)), (3, (0, (h 0 95))), (2, (0, s0)), (0, (2, ((0 : Nat) : Int)))] [] (ja_up (ja_up (ja_up (ja_up (ja_up (ja_up (ja_up (ja_up (ja_up (ja_up (ja_up (ja_up (ja_up (ja_up (ja_up h 0 7 ((h 0 7) + 1)) 0 95 ((h 0 95) + 1)) 58 ((h 0 95).toNat) s0) 59 ((h 0 95).toNat) 0) 60 ((h 0 95).toNat) 0) 61 ((h 0 95).toNat) ((h 0 7) + 1)) 62 ((h 0 95).toNat) 0) 64 ((h 0 95).toNat) (h 0 76)) 65 ((h 0 95).toNat) 0) 66 ((h 0 95).toNat) 0) 67 ((h 0 95).toNat) w3) 59 ((h 0 95).toNat) (w6 + 1)) 60 ((h 0 95).toNat) 0) 0 11 w33) 0 12 w34) Q
                  refine ja_aload_n dpattern_252 rfl rfl ?_
                  refine ja_iload_n dpattern_253 rfl rfl ?_
                  refine t_leaf (by decide) (show (0 : Nat) ≤ 8 by decide) dpattern_254 g35 ⟨by omega, by omega⟩ (show 0 ≤ (h 0 95) ∧ (h 0 95) ≤ 899 by omega) (show (h 0 109) < 400 by omega) ?_
                  intro g36
                  replace g36 : mo_G Zz (ja_up (ja_up (ja_up (ja_up (ja_up (ja_up (ja_up (ja_up (ja_up (ja_up (ja_up (ja_up (ja_up (ja_up (ja_up (ja_up (ja_up h 0 7 ((h 0 7) + 1)) 0 95 ((h 0 95) + 1)) 58 ((h 0 95).toNat) s0) 59 ((h 0 95).toNat) 0) 60 ((h 0 95).toNat) 0) 61 ((h 0 95).toNat) ((h 0 7) + 1)) 62 ((h 0 95).toNat) 0) 64 ((h 0 95).toNat) (h 0 76)) 65 ((h 0 95).toNat) 0) 66 ((h 0 95).toNat) 0) 67 ((h 0 95).toNat) w3) 59 ((h 0 95).toNat) (w6 + 1)) 60 ((h 0 95).toNat) 0) 0 11 w33) 0 12 w34) 70 ((h 0 109).toNat) (h 0 95)) 0 109 ((h 0 109) + 1)) := g36
                  show mJ l D cA ad 3 cX12_pattern 9 (some .boolean) 257 [(8, (0, 0)), (7, (0, 1)), (6, (0, w6)), (5, (0, 0)), (4, (0, w6)), (3, (0, (h 0 95))), (2, (0, s0)), (0, (2, ((0 : Nat) : Int)))] [(0, 1)] (ja_up (ja_up (ja_up (ja_up (ja_up (ja_up (ja_up (ja_up (ja_up (ja_up (ja_up (ja_up (ja_up (ja_up (ja_up (ja_up (ja_up h 0 7 ((h 0 7) + 1)) 0 95 ((h 0 95) + 1)) 58 ((h 0 95).toNat) s0) 59 ((h 0 95).toNat) 0) 60 ((h 0 95).toNat) 0) 61 ((h 0 95).toNat) ((h 0 7) + 1)) 62 ((h 0 95).toNat) 0) 64 ((h 0 95).toNat) (h 0 76)) 65 ((h 0 95).toNat) 0) 66 ((h 0 95).toNat) 0) 67 ((h 0 95).toNat) w3) 59 ((h 0 95).toNat) (w6 + 1)) 60 ((h 0 95).toNat) 0) 0 11 w33) 0 12 w34) 70 ((h 0 109).toNat) (h 0 95)) 0 109 ((h 0 109) + 1)) Q
                  refine ja_if_eq 271 dpattern_257 rfl ⟨by decide, by decide⟩ (fun c257 => absurd c257 (by omega)) (fun c257 => ?_)
                  refine ja_aload_n dpattern_260 rfl rfl ?_
                  refine t_take (by decide) (show (0 : Nat) ≤ 8 by decide) dpattern_261 g36  ?_ ?_
                  · intro k261_0 g37
                    replace k261_0 : ((h 0 7) + 1) < 900 := k261_0
                    replace g37 : mo_G Zz (ja_up (ja_up (ja_up (ja_up (ja_up (ja_up (ja_up (ja_up (ja_up (ja_up (ja_up (ja_up (ja_up (ja_up (ja_up (ja_up (ja_up (ja_up h 0 7 ((h 0 7) + 1)) 0 95 ((h 0 95) + 1)) 58 ((h 0 95).toNat) s0) 59 ((h 0 95).toNat) 0) 60 ((h 0 95).toNat) 0) 61 ((h 0 95).toNat) ((h 0 7) + 1)) 62 ((h 0 95).toNat) 0) 64 ((h 0 95).toNat) (h 0 76)) 65 ((h 0 95).toNat) 0) 66 ((h 0 95).toNat) 0) 67 ((h 0 95).toNat) w3) 59 ((h 0 95).toNat) (w6 + 1)) 60 ((h 0 95).toNat) 0) 0 11 w33) 0 12 w34) 70 ((h 0 109).toNat) (h 0 95)) 0 109 ((h 0 109) + 1)) 0 7 (((h 0 7) + 1) + 1)) := g37
                    show mJ l D cA ad 3 cX12_pattern 9 (some .boolean) 264 [(8, (0, 0)), (7, (0, 1)), (6, (0, w6)), (5, (0, 0)), (4, (0, w6)), (3, (0, (h 0 95))), (2, (0, s0)), (0, (2, ((0 : Nat) : Int)))] [(0, 1)] (ja_up (ja_up (ja_up (ja_up (ja_up (ja_up (ja_up (ja_up (ja_up (ja_up (ja_up (ja_up (ja_up (ja_up (ja_up (ja_up (ja_up (ja_up h 0 7 ((h 0 7) + 1)) 0 95 ((h 0 95) + 1)) 58 ((h 0 95).toNat) s0) 59 ((h 0 95).toNat) 0) 60 ((h 0 95).toNat) 0) 61 ((h 0 95).toNat) ((h 0 7) + 1)) 62 ((h 0 95).toNat) 0) 64 ((h 0 95).toNat) (h 0 76)) 65 ((h 0 95).toNat) 0) 66 ((h 0 95).toNat) 0) 67 ((h 0 95).toNat) w3) 59 ((h 0 95).toNat) (w6 + 1)) 60 ((h 0 95).toNat) 0) 0 11 w33) 0 12 w34) 70 ((h 0 109).toNat) (h 0 95)) 0 109 ((h 0 109) + 1)) 0 7 (((h 0 7) + 1) + 1)) Q
                    refine ja_if_eq 271 dpattern_264 rfl ⟨by decide, by decide⟩ (fun c264 => absurd c264 (by omega)) (fun c264 => ?_)
                    refine ja_iconst dpattern_267 ?_
                    refine ja_goto 272 dpattern_268 rfl ?_
                    refine ja_zreturn dpattern_272 rfl (by omega) ?_
                    exact mo_fin (by omega) rfl (k1 (ja_up (ja_up (ja_up (ja_up (ja_up (ja_up (ja_up (ja_up (ja_up (ja_up (ja_up (ja_up (ja_up (ja_up (ja_up (ja_up (ja_up (ja_up h 0 7 ((h 0 7) + 1)) 0 95 ((h 0 95) + 1)) 58 ((h 0 95).toNat) s0) 59 ((h 0 95).toNat) 0) 60 ((h 0 95).toNat) 0) 61 ((h 0 95).toNat) ((h 0 7) + 1)) 62 ((h 0 95).toNat) 0) 64 ((h 0 95).toNat) (h 0 76)) 65 ((h 0 95).toNat) 0) 66 ((h 0 95).toNat) 0) 67 ((h 0 95).toNat) w3) 59 ((h 0 95).toNat) (w6 + 1)) 60 ((h 0 95).toNat) 0) 0 11 w33) 0 12 w34) 70 ((h 0 109).toNat) (h 0 95)) 0 109 ((h 0 109) + 1)) 0 7 (((h 0 7) + 1) + 1)) (ab_leaf g p1 p2 (lf_patj at1 (by first | (simp [ja_up]; done) | (simp [ja_up]; omega)) (by omega) (by omega) (by omega) (by omega) (by omega))) g37)
                  · intro h38 k261_1 g39
                    replace k261_1 : 0 < (h38 0 8) ∧ (h38 0 1) = (h 0 1) ∧ (h38 0 118) = (h 0 118) ∧ (h38 0 127) = (h 0 127) := k261_1
                    refine ja_if_eq 271 dpattern_264 rfl ⟨by decide, by decide⟩ (fun c264 => ?_) (fun c264 => absurd c264 (by omega))
                    refine ja_iconst dpattern_271 ?_
                    refine ja_zreturn dpattern_272 rfl (by omega) ?_
                    exact mo_fin (by omega) rfl (k2 h38 (by omega) g39)
            · refine ja_iconst dpattern_120 ?_
              refine ja_goto 125 dpattern_121 rfl ?_
              refine ja_istore dpattern_125 (by decide) (L2 := [(5, (0, 1)), (4, (0, w6)), (3, (0, (h 0 95))), (2, (0, s0)), (0, (2, ((0 : Nat) : Int)))]) rfl ?_
              refine ja_iload dpattern_127 rfl ?_
              refine ja_if_eq 139 dpattern_129 rfl ⟨by decide, by decide⟩ (fun c129 => absurd c129 (by omega)) (fun c129 => ?_)
              refine ja_iload dpattern_132 rfl ?_
              refine ja_iconst dpattern_134 ?_
              refine ja_iadd dpattern_135 ?_
              refine ja_goto 141 dpattern_136 rfl ?_
              refine ja_istore dpattern_141 (by decide) (L2 := [(6, (0, (w6 + 1))), (5, (0, 1)), (4, (0, w6)), (3, (0, (h 0 95))), (2, (0, s0)), (0, (2, ((0 : Nat) : Int)))]) rfl ?_
              refine ja_aload_n dpattern_143 rfl rfl ?_
              refine ja_iload dpattern_144 rfl ?_
              refine t_byteAt (by decide) (show (0 : Nat) ≤ 8 by decide) dpattern_146 g4 ⟨by omega, by omega⟩ (show 0 ≤ (w6 + 1) by omega) ?_
              intro w40 k146_0
              replace k146_0 : (w40 = -1 ∧ (h 0 1) ≤ (w6 + 1)) ∨ (0 ≤ w40 ∧ w40 ≤ 255 ∧ (w6 + 1) < (h 0 1) ∧ w40 = (h 1 (w6 + 1).toNat)) := k146_0
              refine ja_bipush 46 dpattern_149 rfl ?_
              refine ja_icmp_ne 158 dpattern_151 rfl ⟨by omega, by omega⟩ ⟨by decide, by decide⟩ (fun c151 => ?_) (fun c151 => ?_)
              · refine ja_iconst dpattern_158 ?_
                refine ja_istore dpattern_159 (by decide) (L2 := [(7, (0, 0)), (6, (0, (w6 + 1))), (5, (0, 1)), (4, (0, w6)), (3, (0, (h 0 95))), (2, (0, s0)), (0, (2, ((0 : Nat) : Int)))]) rfl ?_
                refine ja_aload_n dpattern_161 rfl rfl ?_
                refine fa_nodeA dpattern_162 ?_
                refine ja_iload_n dpattern_165 rfl rfl ?_
                refine ja_iload dpattern_166 rfl ?_
                refine ja_if_eq 178 dpattern_168 rfl ⟨by decide, by decide⟩ (fun c168 => ?_) (fun c168 => absurd c168 (by omega))
                refine ja_iconst dpattern_178 ?_
                have g41 := gW_nodeA g4 (h 0 95).toNat (x := (-1)) ⟨by decide, by decide⟩
                refine is_nodeA ⟨by omega, by omega⟩ dpattern_179 ?_
                refine ja_aload_n dpattern_180 rfl rfl ?_
                refine fa_nodeB dpattern_181 ?_
                refine ja_iload_n dpattern_184 rfl rfl ?_
                refine ja_iload dpattern_185 rfl ?_
                refine ja_if_eq 194 dpattern_187 rfl ⟨by decide, by decide⟩ (fun c187 => absurd c187 (by omega)) (fun c187 => ?_)
                refine ja_iconst dpattern_190 ?_
                refine ja_goto 195 dpattern_191 rfl ?_
                have g42 := gW_nodeB g41 (h 0 95).toNat (x := 1) ⟨by decide, by decide⟩
                refine is_nodeB ⟨by omega, by omega⟩ dpattern_195 ?_
                refine ja_iload_n dpattern_196 rfl rfl ?_
                refine ja_iconst dpattern_197 ?_
                refine ja_icmp_ne 214 dpattern_198 rfl ⟨by omega, by omega⟩ ⟨by decide, by decide⟩ (fun c198 => ?_) (fun c198 => ?_)
                · refine ja_iload_n dpattern_214 rfl rfl ?_
                  refine ja_bipush 6 dpattern_215 rfl ?_
                  refine ja_icmp_eq 230 dpattern_217 rfl ⟨by omega, by omega⟩ ⟨by decide, by decide⟩ (fun c217 => ?_) (fun c217 => ?_)
                  · refine ja_iconst dpattern_230 ?_
                    refine ja_goto 235 dpattern_231 rfl ?_
                    refine ja_istore dpattern_235 (by decide) (L2 := [(8, (0, 1)), (7, (0, 0)), (6, (0, (w6 + 1))), (5, (0, 1)), (4, (0, w6)), (3, (0, (h 0 95))), (2, (0, s0)), (0, (2, ((0 : Nat) : Int)))]) rfl ?_
                    refine ja_iload dpattern_237 rfl ?_
                    refine ja_if_ne 252 dpattern_239 rfl ⟨by decide, by decide⟩ (fun c239 => ?_) (fun c239 => absurd c239 (by omega))
                    refine ja_aload_n dpattern_252 rfl rfl ?_
                    refine ja_iload_n dpattern_253 rfl rfl ?_
                    refine t_leaf (by decide) (show (0 : Nat) ≤ 8 by decide) dpattern_254 g42 ⟨by omega, by omega⟩ (show 0 ≤ (h 0 95) ∧ (h 0 95) ≤ 899 by omega) (show (h 0 109) < 400 by omega) ?_
                    intro g43
                    replace g43 : mo_G Zz (ja_up (ja_up (ja_up (ja_up (ja_up (ja_up (ja_up (ja_up (ja_up (ja_up (ja_up (ja_up (ja_up (ja_up (ja_up h 0 7 ((h 0 7) + 1)) 0 95 ((h 0 95) + 1)) 58 ((h 0 95).toNat) s0) 59 ((h 0 95).toNat) 0) 60 ((h 0 95).toNat) 0) 61 ((h 0 95).toNat) ((h 0 7) + 1)) 62 ((h 0 95).toNat) 0) 64 ((h 0 95).toNat) (h 0 76)) 65 ((h 0 95).toNat) 0) 66 ((h 0 95).toNat) 0) 67 ((h 0 95).toNat) w3) 59 ((h 0 95).toNat) (-1)) 60 ((h 0 95).toNat) 1) 70 ((h 0 109).toNat) (h 0 95)) 0 109 ((h 0 109) + 1)) := g43
                    show mJ l D cA ad 3 cX12_pattern 9 (some .boolean) 257 [(8, (0, 1)), (7, (0, 0)), (6, (0, (w6 + 1))), (5, (0, 1)), (4, (0, w6)), (3, (0, (h 0 95))), (2, (0, s0)), (0, (2, ((0 : Nat) : Int)))] [(0, 1)] (ja_up (ja_up (ja_up (ja_up (ja_up (ja_up (ja_up (ja_up (ja_up (ja_up (ja_up (ja_up (ja_up (ja_up (ja_up h 0 7 ((h 0 7) + 1)) 0 95 ((h 0 95) + 1)) 58 ((h 0 95).toNat) s0) 59 ((h 0 95).toNat) 0) 60 ((h 0 95).toNat) 0) 61 ((h 0 95).toNat) ((h 0 7) + 1)) 62 ((h 0 95).toNat) 0) 64 ((h 0 95).toNat) (h 0 76)) 65 ((h 0 95).toNat) 0) 66 ((h 0 95).toNat) 0) 67 ((h 0 95).toNat) w3) 59 ((h 0 95).toNat) (-1)) 60 ((h 0 95).toNat) 1) 70 ((h 0 109).toNat) (h 0 95)) 0 109 ((h 0 109) + 1)) Q
                    refine ja_if_eq 271 dpattern_257 rfl ⟨by decide, by decide⟩ (fun c257 => absurd c257 (by omega)) (fun c257 => ?_)
                    refine ja_aload_n dpattern_260 rfl rfl ?_
                    refine t_take (by decide) (show (0 : Nat) ≤ 8 by decide) dpattern_261 g43  ?_ ?_
                    · intro k261_0 g44
                      replace k261_0 : ((h 0 7) + 1) < 900 := k261_0
                      replace g44 : mo_G Zz (ja_up (ja_up (ja_up (ja_up (ja_up (ja_up (ja_up (ja_up (ja_up (ja_up (ja_up (ja_up (ja_up (ja_up (ja_up (ja_up h 0 7 ((h 0 7) + 1)) 0 95 ((h 0 95) + 1)) 58 ((h 0 95).toNat) s0) 59 ((h 0 95).toNat) 0) 60 ((h 0 95).toNat) 0) 61 ((h 0 95).toNat) ((h 0 7) + 1)) 62 ((h 0 95).toNat) 0) 64 ((h 0 95).toNat) (h 0 76)) 65 ((h 0 95).toNat) 0) 66 ((h 0 95).toNat) 0) 67 ((h 0 95).toNat) w3) 59 ((h 0 95).toNat) (-1)) 60 ((h 0 95).toNat) 1) 70 ((h 0 109).toNat) (h 0 95)) 0 109 ((h 0 109) + 1)) 0 7 (((h 0 7) + 1) + 1)) := g44
                      show mJ l D cA ad 3 cX12_pattern 9 (some .boolean) 264 [(8, (0, 1)), (7, (0, 0)), (6, (0, (w6 + 1))), (5, (0, 1)), (4, (0, w6)), (3, (0, (h 0 95))), (2, (0, s0)), (0, (2, ((0 : Nat) : Int)))] [(0, 1)] (ja_up (ja_up (ja_up (ja_up (ja_up (ja_up (ja_up (ja_up (ja_up (ja_up (ja_up (ja_up (ja_up (ja_up (ja_up (ja_up h 0 7 ((h 0 7) + 1)) 0 95 ((h 0 95) + 1)) 58 ((h 0 95).toNat) s0) 59 ((h 0 95).toNat) 0) 60 ((h 0 95).toNat) 0) 61 ((h 0 95).toNat) ((h 0 7) + 1)) 62 ((h 0 95).toNat) 0) 64 ((h 0 95).toNat) (h 0 76)) 65 ((h 0 95).toNat) 0) 66 ((h 0 95).toNat) 0) 67 ((h 0 95).toNat) w3) 59 ((h 0 95).toNat) (-1)) 60 ((h 0 95).toNat) 1) 70 ((h 0 109).toNat) (h 0 95)) 0 109 ((h 0 109) + 1)) 0 7 (((h 0 7) + 1) + 1)) Q
                      refine ja_if_eq 271 dpattern_264 rfl ⟨by decide, by decide⟩ (fun c264 => absurd c264 (by omega)) (fun c264 => ?_)
                      refine ja_iconst dpattern_267 ?_
                      refine ja_goto 272 dpattern_268 rfl ?_
                      refine ja_zreturn dpattern_272 rfl (by omega) ?_
                      exact mo_fin (by omega) rfl (k1 (ja_up (ja_up (ja_up (ja_up (ja_up (ja_up (ja_up (ja_up (ja_up (ja_up (ja_up (ja_up (ja_up (ja_up (ja_up (ja_up h 0 7 ((h 0 7) + 1)) 0 95 ((h 0 95) + 1)) 58 ((h 0 95).toNat) s0) 59 ((h 0 95).toNat) 0) 60 ((h 0 95).toNat) 0) 61 ((h 0 95).toNat) ((h 0 7) + 1)) 62 ((h 0 95).toNat) 0) 64 ((h 0 95).toNat) (h 0 76)) 65 ((h 0 95).toNat) 0) 66 ((h 0 95).toNat) 0) 67 ((h 0 95).toNat) w3) 59 ((h 0 95).toNat) (-1)) 60 ((h 0 95).toNat) 1) 70 ((h 0 109).toNat) (h 0 95)) 0 109 ((h 0 109) + 1)) 0 7 (((h 0 7) + 1) + 1)) (ab_leaf g p1 p2 (lf_pat at1 (by first | (simp [ja_up]; done) | (simp [ja_up]; omega)) (by omega) (by omega) (by omega) (by omega))) g44)
                    · intro h45 k261_1 g46
                      replace k261_1 : 0 < (h45 0 8) ∧ (h45 0 1) = (h 0 1) ∧ (h45 0 118) = (h 0 118) ∧ (h45 0 127) = (h 0 127) := k261_1
                      refine ja_if_eq 271 dpattern_264 rfl ⟨by decide, by decide⟩ (fun c264 => ?_) (fun c264 => absurd c264 (by omega))
                      refine ja_iconst dpattern_271 ?_
                      refine ja_zreturn dpattern_272 rfl (by omega) ?_
                      exact mo_fin (by omega) rfl (k2 h45 (by omega) g46)
                  · refine ja_iload dpattern_220 rfl ?_
                    refine ja_if_ne 230 dpattern_222 rfl ⟨by decide, by decide⟩ (fun c222 => absurd c222 (by omega)) (fun c222 => ?_)
                    refine ja_iload dpattern_225 rfl ?_
                    refine ja_if_ne 234 dpattern_227 rfl ⟨by decide, by decide⟩ (fun c227 => ?_) (fun c227 => absurd c227 (by omega))
                    refine ja_iconst dpattern_234 ?_
                    refine ja_istore dpattern_235 (by decide) (L2 := [(8, (0, 0)), (7, (0, 0)), (6, (0, (w6 + 1))), (5, (0, 1)), (4, (0, w6)), (3, (0, (h 0 95))), (2, (0, s0)), (0, (2, ((0 : Nat) : Int)))]) rfl ?_
                    refine ja_iload dpattern_237 rfl ?_
                    refine ja_if_ne 252 dpattern_239 rfl ⟨by decide, by decide⟩ (fun c239 => absurd c239 (by omega)) (fun c239 => ?_)
                    refine ja_aload_n dpattern_242 rfl rfl ?_
                    refine ja_bipush 7 dpattern_243 rfl ?_
                    refine ja_aload_n dpattern_245 rfl rfl ?_
                    refine fg_at (v := (h 0 7) + 1) rfl dpattern_246 ?_
                    refine t_judge (by decide) (show (0 : Nat) ≤ 8 by decide) dpattern_249 g42 ⟨by decide, by decide⟩ ⟨by omega, by omega⟩ (show 1 ≤ 7 ∧ 7 ≤ 8 by omega) (show 0 ≤ ((h 0 7) + 1) ∧ ((h 0 7) + 1) ≤ 900 by omega) ?_
                    intro w47 w48 k249_0 g49
                    replace k249_0 : 1 ≤ w47 ∧ w47 ≤ 8 ∧ -2147483648 ≤ w48 ∧ w48 ≤ 2147483647 := k249_0
                    replace g49 : mo_G Zz (ja_up (ja_up (ja_up (ja_up (ja_up (ja_up (ja_up (ja_up (ja_up (ja_up (ja_up (ja_up (ja_up (ja_up (ja_up h 0 7 ((h 0 7) + 1)) 0 95 ((h 0 95) + 1)) 58 ((h 0 95).toNat) s0) 59 ((h 0 95).toNat) 0) 60 ((h 0 95).toNat) 0) 61 ((h 0 95).toNat) ((h 0 7) + 1)) 62 ((h 0 95).toNat) 0) 64 ((h 0 95).toNat) (h 0 76)) 65 ((h 0 95).toNat) 0) 66 ((h 0 95).toNat) 0) 67 ((h 0 95).toNat) w3) 59 ((h 0 95).toNat) (-1)) 60 ((h 0 95).toNat) 1) 0 11 w47) 0 12 w48) := g49
                    show mJ l D cA ad 3 cX12_pattern 9 (some .boolean) 252 [(8, (0, 0)), (7, (0, 0)), (6, (0, (w6 + 1))), (5, (0, 1)), (4, (0, w6)), (3, (0, (h 0 95))), (2, (0, s0)), (0, (2, ((0 : Nat) : Int)))] [] (ja_up (ja_up (ja_up (ja_up (ja_up (ja_up (ja_up (ja_up (ja_up (ja_up (ja_up (ja_up (ja_up (ja_up (ja_up h 0 7 ((h 0 7) + 1)) 0 95 ((h 0 95) + 1)) 58 ((h 0 95).toNat) s0) 59 ((h 0 95).toNat) 0) 60 ((h 0 95).toNat) 0) 61 ((h 0 95).toNat) ((h 0 7) + 1)) 62 ((h 0 95).toNat) 0) 64 ((h 0 95).toNat) (h 0 76)) 65 ((h 0 95).toNat) 0) 66 ((h 0 95).toNat) 0) 67 ((h 0 95).toNat) w3) 59 ((h 0 95).toNat) (-1)) 60 ((h 0 95).toNat) 1) 0 11 w47) 0 12 w48) Q
                    refine ja_aload_n dpattern_252 rfl rfl ?_
                    refine ja_iload_n dpattern_253 rfl rfl ?_
                    refine t_leaf (by decide) (show (0 : Nat) ≤ 8 by decide) dpattern_254 g49 ⟨by omega, by omega⟩ (show 0 ≤ (h 0 95) ∧ (h 0 95) ≤ 899 by omega) (show (h 0 109) < 400 by omega) ?_
                    intro g50
                    replace g50 : mo_G Zz (ja_up (ja_up (ja_up (ja_up (ja_up (ja_up (ja_up (ja_up (ja_up (ja_up (ja_up (ja_up (ja_up (ja_up (ja_up (ja_up (ja_up h 0 7 ((h 0 7) + 1)) 0 95 ((h 0 95) + 1)) 58 ((h 0 95).toNat) s0) 59 ((h 0 95).toNat) 0) 60 ((h 0 95).toNat) 0) 61 ((h 0 95).toNat) ((h 0 7) + 1)) 62 ((h 0 95).toNat) 0) 64 ((h 0 95).toNat) (h 0 76)) 65 ((h 0 95).toNat) 0) 66 ((h 0 95).toNat) 0) 67 ((h 0 95).toNat) w3) 59 ((h 0 95).toNat) (-1)) 60 ((h 0 95).toNat) 1) 0 11 w47) 0 12 w48) 70 ((h 0 109).toNat) (h 0 95)) 0 109 ((h 0 109) + 1)) := g50
                    show mJ l D cA ad 3 cX12_pattern 9 (some .boolean) 257 [(8, (0, 0)), (7, (0, 0)), (6, (0, (w6 + 1))), (5, (0, 1)), (4, (0, w6)), (3, (0, (h 0 95))), (2, (0, s0)), (0, (2, ((0 : Nat) : Int)))] [(0, 1)] (ja_up (ja_up (ja_up (ja_up (ja_up (ja_up (ja_up (ja_up (ja_up (ja_up (ja_up (ja_up (ja_up (ja_up (ja_up (ja_up (ja_up h 0 7 ((h 0 7) + 1)) 0 95 ((h 0 95) + 1)) 58 ((h 0 95).toNat) s0) 59 ((h 0 95).toNat) 0) 60 ((h 0 95).toNat) 0) 61 ((h 0 95).toNat) ((h 0 7) + 1)) 62 ((h 0 95).toNat) 0) 64 ((h 0 95).toNat) (h 0 76)) 65 ((h 0 95).toNat) 0) 66 ((h 0 95).toNat) 0) 67 ((h 0 95).toNat) w3) 59 ((h 0 95).toNat) (-1)) 60 ((h 0 95).toNat) 1) 0 11 w47) 0 12 w48) 70 ((h 0 109).toNat) (h 0 95)) 0 109 ((h 0 109) + 1)) Q
                    refine ja_if_eq 271 dpattern_257 rfl ⟨by decide, by decide⟩ (fun c257 => absurd c257 (by omega)) (fun c257 => ?_)
                    refine ja_aload_n dpattern_260 rfl rfl ?_
                    refine t_take (by decide) (show (0 : Nat) ≤ 8 by decide) dpattern_261 g50  ?_ ?_
                    · intro k261_0 g51
                      replace k261_0 : ((h 0 7) + 1) < 900 := k261_0
                      replace g51 : mo_G Zz (ja_up (ja_up (ja_up (ja_up (ja_up (ja_up (ja_up (ja_up (ja_up (ja_up (ja_up (ja_up (ja_up (ja_up (ja_up (ja_up (ja_up (ja_up h 0 7 ((h 0 7) + 1)) 0 95 ((h 0 95) + 1)) 58 ((h 0 95).toNat) s0) 59 ((h 0 95).toNat) 0) 60 ((h 0 95).toNat) 0) 61 ((h 0 95).toNat) ((h 0 7) + 1)) 62 ((h 0 95).toNat) 0) 64 ((h 0 95).toNat) (h 0 76)) 65 ((h 0 95).toNat) 0) 66 ((h 0 95).toNat) 0) 67 ((h 0 95).toNat) w3) 59 ((h 0 95).toNat) (-1)) 60 ((h 0 95).toNat) 1) 0 11 w47) 0 12 w48) 70 ((h 0 109).toNat) (h 0 95)) 0 109 ((h 0 109) + 1)) 0 7 (((h 0 7) + 1) + 1)) := g51
                      show mJ l D cA ad 3 cX12_pattern 9 (some .boolean) 264 [(8, (0, 0)), (7, (0, 0)), (6, (0, (w6 + 1))), (5, (0, 1)), (4, (0, w6)), (3, (0, (h 0 95))), (2, (0, s0)), (0, (2, ((0 : Nat) : Int)))] [(0, 1)] (ja_up (ja_up (ja_up (ja_up (ja_up (ja_up (ja_up (ja_up (ja_up (ja_up (ja_up (ja_up (ja_up (ja_up (ja_up (ja_up (ja_up (ja_up h 0 7 ((h 0 7) + 1)) 0 95 ((h 0 95) + 1)) 58 ((h 0 95).toNat) s0) 59 ((h 0 95).toNat) 0) 60 ((h 0 95).toNat) 0) 61 ((h 0 95).toNat) ((h 0 7) + 1)) 62 ((h 0 95).toNat) 0) 64 ((h 0 95).toNat) (h 0 76)) 65 ((h 0 95).toNat) 0) 66 ((h 0 95).toNat) 0) 67 ((h 0 95).toNat) w3) 59 ((h 0 95).toNat) (-1)) 60 ((h 0 95).toNat) 1) 0 11 w47) 0 12 w48) 70 ((h 0 109).toNat) (h 0 95)) 0 109 ((h 0 109) + 1)) 0 7 (((h 0 7) + 1) + 1)) Q
                      refine ja_if_eq 271 dpattern_264 rfl ⟨by decide, by decide⟩ (fun c264 => absurd c264 (by omega)) (fun c264 => ?_)
                      refine ja_iconst dpattern_267 ?_
                      refine ja_goto 272 dpattern_268 rfl ?_
                      refine ja_zreturn dpattern_272 rfl (by omega) ?_
                      exact mo_fin (by omega) rfl (k1 (ja_up (ja_up (ja_up (ja_up (ja_up (ja_up (ja_up (ja_up (ja_up (ja_up (ja_up (ja_up (ja_up (ja_up (ja_up (ja_up (ja_up (ja_up h 0 7 ((h 0 7) + 1)) 0 95 ((h 0 95) + 1)) 58 ((h 0 95).toNat) s0) 59 ((h 0 95).toNat) 0) 60 ((h 0 95).toNat) 0) 61 ((h 0 95).toNat) ((h 0 7) + 1)) 62 ((h 0 95).toNat) 0) 64 ((h 0 95).toNat) (h 0 76)) 65 ((h 0 95).toNat) 0) 66 ((h 0 95).toNat) 0) 67 ((h 0 95).toNat) w3) 59 ((h 0 95).toNat) (-1)) 60 ((h 0 95).toNat) 1) 0 11 w47) 0 12 w48) 70 ((h 0 109).toNat) (h 0 95)) 0 109 ((h 0 109) + 1)) 0 7 (((h 0 7) + 1) + 1)) (ab_leaf g p1 p2 (lf_patj at1 (by first | (simp [ja_up]; done) | (simp [ja_up]; omega)) (by omega) (by omega) (by omega) (by omega) (by omega))) g51)
                    · intro h52 k261_1 g53
                      replace k261_1 : 0 < (h52 0 8) ∧ (h52 0 1) = (h 0 1) ∧ (h52 0 118) = (h 0 118) ∧ (h52 0 127) = (h 0 127) := k261_1
                      refine ja_if_eq 271 dpattern_264 rfl ⟨by decide, by decide⟩ (fun c264 => ?_) (fun c264 => absurd c264 (by omega))
                      refine ja_iconst dpattern_271 ?_
                      refine ja_zreturn dpattern_272 rfl (by omega) ?_
                      exact mo_fin (by omega) rfl (k2 h52 (by omega) g53)
                · refine ja_iload dpattern_201 rfl ?_
                  refine ja_if_ne 210 dpattern_203 rfl ⟨by decide, by decide⟩ (fun c203 => absurd c203 (by omega)) (fun c203 => ?_)
                  refine ja_iconst dpattern_206 ?_
                  refine ja_goto 235 dpattern_207 rfl ?_
                  refine ja_istore dpattern_235 (by decide) (L2 := [(8, (0, 1)), (7, (0, 0)), (6, (0, (w6 + 1))), (5, (0, 1)), (4, (0, w6)), (3, (0, (h 0 95))), (2, (0, s0)), (0, (2, ((0 : Nat) : Int)))]) rfl ?_
                  refine ja_iload dpattern_237 rfl ?_
                  refine ja_if_ne 252 dpattern_239 rfl ⟨by decide, by decide⟩ (fun c239 => ?_) (fun c239 => absurd c239 (by omega))
                  refine ja_aload_n dpattern_252 rfl rfl ?_
                  refine ja_iload_n dpattern_253 rfl rfl ?_
                  refine t_leaf (by decide) (show (0 : Nat) ≤ 8 by decide) dpattern_254 g42 ⟨by omega, by omega⟩ (show 0 ≤ (h 0 95) ∧ (h 0 95) ≤ 899 by omega) (show (h 0 109) < 400 by omega) ?_
                  intro g54
                  replace g54 : mo_G Zz (ja_up (ja_up (ja_up (ja_up (ja_up (ja_up (ja_up (ja_up (ja_up (ja_up (ja_up (ja_up (ja_up (ja_up (ja_up h 0 7 ((h 0 7) + 1)) 0 95 ((h 0 95) + 1)) 58 ((h 0 95).toNat) s0) 59 ((h 0 95).toNat) 0) 60 ((h 0 95).toNat) 0) 61 ((h 0 95).toNat) ((h 0 7) + 1)) 62 ((h 0 95).toNat) 0) 64 ((h 0 95).toNat) (h 0 76)) 65 ((h 0 95).toNat) 0) 66 ((h 0 95).toNat) 0) 67 ((h 0 95).toNat) w3) 59 ((h 0 95).toNat) (-1)) 60 ((h 0 95).toNat) 1) 70 ((h 0 109).toNat) (h 0 95)) 0 109 ((h 0 109) + 1)) := g54
                  show mJ l D cA ad 3 cX12_pattern 9 (some .boolean) 257 [(8, (0, 1)), (7, (0, 0)), (6, (0, (w6 + 1))), (5, (0, 1)), (4, (0, w6)), (3, (0, (h 0 95))), (2, (0, s0)), (0, (2, ((0 : Nat) : Int)))] [(0, 1)] (ja_up (ja_up (ja_up (ja_up (ja_up (ja_up (ja_up (ja_up (ja_up (ja_up (ja_up (ja_up (ja_up (ja_up (ja_up h 0 7 ((h 0 7) + 1)) 0 95 ((h 0 95) + 1)) 58 ((h 0 95).toNat) s0) 59 ((h 0 95).toNat) 0) 60 ((h 0 95).toNat) 0) 61 ((h 0 95).toNat) ((h 0 7) + 1)) 62 ((h 0 95).toNat) 0) 64 ((h 0 95).toNat) (h 0 76)) 65 ((h 0 95).toNat) 0) 66 ((h 0 95).toNat) 0) 67 ((h 0 95).toNat) w3) 59 ((h 0 95).toNat) (-1)) 60 ((h 0 95).toNat) 1) 70 ((h 0 109).toNat) (h 0 95)) 0 109 ((h 0 109) + 1)) Q
                  refine ja_if_eq 271 dpattern_257 rfl ⟨by decide, by decide⟩ (fun c257 => absurd c257 (by omega)) (fun c257 => ?_)
                  refine ja_aload_n dpattern_260 rfl rfl ?_
                  refine t_take (by decide) (show (0 : Nat) ≤ 8 by decide) dpattern_261 g54  ?_ ?_
                  · intro k261_0 g55
                    replace k261_0 : ((h 0 7) + 1) < 900 := k261_0
                    replace g55 : mo_G Zz (ja_up (ja_up (ja_up (ja_up (ja_up (ja_up (ja_up (ja_up (ja_up (ja_up (ja_up (ja_up (ja_up (ja_up (ja_up (ja_up h 0 7 ((h 0 7) + 1)) 0 95 ((h 0 95) + 1)) 58 ((h 0 95).toNat) s0) 59 ((h 0 95).toNat) 0) 60 ((h 0 95).toNat) 0) 61 ((h 0 95).toNat) ((h 0 7) + 1)) 62 ((h 0 95).toNat) 0) 64 ((h 0 95).toNat) (h 0 76)) 65 ((h 0 95).toNat) 0) 66 ((h 0 95).toNat) 0) 67 ((h 0 95).toNat) w3) 59 ((h 0 95).toNat) (-1)) 60 ((h 0 95).toNat) 1) 70 ((h 0 109).toNat) (h 0 95)) 0 109 ((h 0 109) + 1)) 0 7 (((h 0 7) + 1) + 1)) := g55
                    show mJ l D cA ad 3 cX12_pattern 9 (some .boolean) 264 [(8, (0, 1)), (7, (0, 0)), (6, (0, (w6 + 1))), (5, (0, 1)), (4, (0, w6)), (3, (0, (h 0 95))), (2, (0, s0)), (0, (2, ((0 : Nat) : Int)))] [(0, 1)] (ja_up (ja_up (ja_up (ja_up (ja_up (ja_up (ja_up (ja_up (ja_up (ja_up (ja_up (ja_up (ja_up (ja_up (ja_up (ja_up h 0 7 ((h 0 7) + 1)) 0 95 ((h 0 95) + 1)) 58 ((h 0 95).toNat) s0) 59 ((h 0 95).toNat) 0) 60 ((h 0 95).toNat) 0) 61 ((h 0 95).toNat) ((h 0 7) + 1)) 62 ((h 0 95).toNat) 0) 64 ((h 0 95).toNat) (h 0 76)) 65 ((h 0 95).toNat) 0) 66 ((h 0 95).toNat) 0) 67 ((h 0 95).toNat) w3) 59 ((h 0 95).toNat) (-1)) 60 ((h 0 95).toNat) 1) 70 ((h 0 109).toNat) (h 0 95)) 0 109 ((h 0 109) + 1)) 0 7 (((h 0 7) + 1) + 1)) Q
                    refine ja_if_eq 271 dpattern_264 rfl ⟨by decide, by decide⟩ (fun c264 => absurd c264 (by omega)) (fun c264 => ?_)
                    refine ja_iconst dpattern_267 ?_
                    refine ja_goto 272 dpattern_268 rfl ?_
                    refine ja_zreturn dpattern_272 rfl (by omega) ?_
                    exact mo_fin (by omega) rfl (k1 (ja_up (ja_up (ja_up (ja_up (ja_up (ja_up (ja_up (ja_up (ja_up (ja_up (ja_up (ja_up (ja_up (ja_up (ja_up (ja_up h 0 7 ((h 0 7) + 1)) 0 95 ((h 0 95) + 1)) 58 ((h 0 95).toNat) s0) 59 ((h 0 95).toNat) 0) 60 ((h 0 95).toNat) 0) 61 ((h 0 95).toNat) ((h 0 7) + 1)) 62 ((h 0 95).toNat) 0) 64 ((h 0 95).toNat) (h 0 76)) 65 ((h 0 95).toNat) 0) 66 ((h 0 95).toNat) 0) 67 ((h 0 95).toNat) w3) 59 ((h 0 95).toNat) (-1)) 60 ((h 0 95).toNat) 1) 70 ((h 0 109).toNat) (h 0 95)) 0 109 ((h 0 109) + 1)) 0 7 (((h 0 7) + 1) + 1)) (ab_leaf g p1 p2 (lf_pat at1 (by first | (simp [ja_up]; done) | (simp [ja_up]; omega)) (by omega) (by omega) (by omega) (by omega))) g55)
                  · intro h56 k261_1 g57
                    replace k261_1 : 0 < (h56 0 8) ∧ (h56 0 1) = (h 0 1) ∧ (h56 0 118) = (h 0 118) ∧ (h56 0 127) = (h 0 127) := k261_1
                    refine ja_if_eq 271 dpattern_264 rfl ⟨by decide, by decide⟩ (fun c264 => ?_) (fun c264 => absurd c264 (by omega))
                    refine ja_iconst dpattern_271 ?_
                    refine ja_zreturn dpattern_272 rfl (by omega) ?_
                    exact mo_fin (by omega) rfl (k2 h56 (by omega) g57)
              · refine ja_iconst dpattern_154 ?_
                refine ja_goto 159 dpattern_155 rfl ?_
                refine ja_istore dpattern_159 (by decide) (L2 := [(7, (0, 1)), (6, (0, (w6 + 1))), (5, (0, 1)), (4, (0, w6)), (3, (0, (h 0 95))), (2, (0, s0)), (0, (2, ((0 : Nat) : Int)))]) rfl ?_
                refine ja_aload_n dpattern_161 rfl rfl ?_
                refine fa_nodeA dpattern_162 ?_
                refine ja_iload_n dpattern_165 rfl rfl ?_
                refine ja_iload dpattern_166 rfl ?_
                refine ja_if_eq 178 dpattern_168 rfl ⟨by decide, by decide⟩ (fun c168 => absurd c168 (by omega)) (fun c168 => ?_)
                refine ja_iload dpattern_171 rfl ?_
                refine ja_iconst dpattern_173 ?_
                refine ja_iadd dpattern_174 ?_
                refine ja_goto 179 dpattern_175 rfl ?_
                have g58 := gW_nodeA g4 (h 0 95).toNat (x := (w6 + 1) + 1) ⟨by omega, by omega⟩
                refine is_nodeA ⟨by omega, by omega⟩ dpattern_179 ?_
                refine ja_aload_n dpattern_180 rfl rfl ?_
                refine fa_nodeB dpattern_181 ?_
                refine ja_iload_n dpattern_184 rfl rfl ?_
                refine ja_iload dpattern_185 rfl ?_
                refine ja_if_eq 194 dpattern_187 rfl ⟨by decide, by decide⟩ (fun c187 => absurd c187 (by omega)) (fun c187 => ?_)
                refine ja_iconst dpattern_190 ?_
                refine ja_goto 195 dpattern_191 rfl ?_
                have g59 := gW_nodeB g58 (h 0 95).toNat (x := 1) ⟨by decide, by decide⟩
                refine is_nodeB ⟨by omega, by omega⟩ dpattern_195 ?_
                refine ja_iload_n dpattern_196 rfl rfl ?_
                refine ja_iconst dpattern_197 ?_
                refine ja_icmp_ne 214 dpattern_198 rfl ⟨by omega, by omega⟩ ⟨by decide, by decide⟩ (fun c198 => ?_) (fun c198 => ?_)
                · refine ja_iload_n dpattern_214 rfl rfl ?_
                  refine ja_bipush 6 dpattern_215 rfl ?_
                  refine ja_icmp_eq 230 dpattern_217 rfl ⟨by omega, by omega⟩ ⟨by decide, by decide⟩ (fun c217 => ?_) (fun c217 => ?_)
                  · refine ja_iconst dpattern_230 ?_
                    refine ja_goto 235 dpattern_231 rfl ?_
                    refine ja_istore dpattern_235 (by decide) (L2 := [(8, (0, 1)), (7, (0, 1)), (6, (0, (w6 + 1))), (5, (0, 1)), (4, (0, w6)), (3, (0, (h 0 95))), (2, (0, s0)), (0, (2, ((0 : Nat) : Int)))]) rfl ?_
                    refine ja_iload dpattern_237 rfl ?_
                    refine ja_if_ne 252 dpattern_239 rfl ⟨by decide, by decide⟩ (fun c239 => ?_) (fun c239 => absurd c239 (by omega))
                    refine ja_aload_n dpattern_252 rfl rfl ?_
                    refine ja_iload_n dpattern_253 rfl rfl ?_
                    refine t_leaf (by decide) (show (0 : Nat) ≤ 8 by decide) dpattern_254 g59 ⟨by omega, by omega⟩ (show 0 ≤ (h 0 95) ∧ (h 0 95) ≤ 899 by omega) (show (h 0 109) < 400 by omega) ?_
                    intro g60
                    replace g60 : mo_G Zz (ja_up (ja_up (ja_up (ja_up (ja_up (ja_up (ja_up (ja_up (ja_up (ja_up (ja_up (ja_up (ja_up (ja_up (ja_up h 0 7 ((h 0 7) + 1)) 0 95 ((h 0 95) + 1)) 58 ((h 0 95).toNat) s0) 59 ((h 0 95).toNat) 0) 60 ((h 0 95).toNat) 0) 61 ((h 0 95).toNat) ((h 0 7) + 1)) 62 ((h 0 95).toNat) 0) 64 ((h 0 95).toNat) (h 0 76)) 65 ((h 0 95).toNat) 0) 66 ((h 0 95).toNat) 0) 67 ((h 0 95).toNat) w3) 59 ((h 0 95).toNat) ((w6 + 1) + 1)) 60 ((h 0 95).toNat) 1) 70 ((h 0 109).toNat) (h 0 95)) 0 109 ((h 0 109) + 1)) := g60
                    show mJ l D cA ad 3 cX12_pattern 9 (some .boolean) 257 [(8, (0, 1)), (7, (0, 1)), (6, (0, (w6 + 1))), (5, (0, 1)), (4, (0, w6)), (3, (0, (h 0 95))), (2, (0, s0)), (0, (2, ((0 : Nat) : Int)))] [(0, 1)] (ja_up (ja_up (ja_up (ja_up (ja_up (ja_up (ja_up (ja_up (ja_up (ja_up (ja_up (ja_up (ja_up (ja_up (ja_up h 0 7 ((h 0 7) + 1)) 0 95 ((h 0 95) + 1)) 58 ((h 0 95).toNat) s0) 59 ((h 0 95).toNat) 0) 60 ((h 0 95).toNat) 0) 61 ((h 0 95).toNat) ((h 0 7) + 1)) 62 ((h 0 95).toNat) 0) 64 ((h 0 95).toNat) (h 0 76)) 65 ((h 0 95).toNat) 0) 66 ((h 0 95).toNat) 0) 67 ((h 0 95).toNat) w3) 59 ((h 0 95).toNat) ((w6 + 1) + 1)) 60 ((h 0 95).toNat) 1) 70 ((h 0 109).toNat) (h 0 95)) 0 109 ((h 0 109) + 1)) Q
                    refine ja_if_eq 271 dpattern_257 rfl ⟨by decide, by decide⟩ (fun c257 => absurd c257 (by omega)) (fun c257 => ?_)
                    refine ja_aload_n dpattern_260 rfl rfl ?_
                    refine t_take (by decide) (show (0 : Nat) ≤ 8 by decide) dpattern_261 g60  ?_ ?_
                    · intro k261_0 g61
                      replace k261_0 : ((h 0 7) + 1) < 900 := k261_0
                      replace g61 : mo_G Zz (ja_up (ja_up (ja_up (ja_up (ja_up (ja_up (ja_up (ja_up (ja_up (ja_up (ja_up (ja_up (ja_up (ja_up (ja_up (ja_up h 0 7 ((h 0 7) + 1)) 0 95 ((h 0 95) + 1)) 58 ((h 0 95).toNat) s0) 59 ((h 0 95).toNat) 0) 60 ((h 0 95).toNat) 0) 61 ((h 0 95).toNat) ((h 0 7) + 1)) 62 ((h 0 95).toNat) 0) 64 ((h 0 95).toNat) (h 0 76)) 65 ((h 0 95).toNat) 0) 66 ((h 0 95).toNat) 0) 67 ((h 0 95).toNat) w3) 59 ((h 0 95).toNat) ((w6 + 1) + 1)) 60 ((h 0 95).toNat) 1) 70 ((h 0 109).toNat) (h 0 95)) 0 109 ((h 0 109) + 1)) 0 7 (((h 0 7) + 1) + 1)) := g61
                      show mJ l D cA ad 3 cX12_pattern 9 (some .boolean) 264 [(8, (0, 1)), (7, (0, 1)), (6, (0, (w6 + 1))), (5, (0, 1)), (4, (0, w6)), (3, (0, (h 0 95))), (2, (0, s0)), (0, (2, ((0 : Nat) : Int)))] [(0, 1)] (ja_up (ja_up (ja_up (ja_up (ja_up (ja_up (ja_up (ja_up (ja_up (ja_up (ja_up (ja_up (ja_up (ja_up (ja_up (ja_up h 0 7 ((h 0 7) + 1)) 0 95 ((h 0 95) + 1)) 58 ((h 0 95).toNat) s0) 59 ((h 0 95).toNat) 0) 60 ((h 0 95).toNat) 0) 61 ((h 0 95).toNat) ((h 0 7) + 1)) 62 ((h 0 95).toNat) 0) 64 ((h 0 95).toNat) (h 0 76)) 65 ((h 0 95).toNat) 0) 66 ((h 0 95).toNat) 0) 67 ((h 0 95).toNat) w3) 59 ((h 0 95).toNat) ((w6 + 1) + 1)) 60 ((h 0 95).toNat) 1) 70 ((h 0 109).toNat) (h 0 95)) 0 109 ((h 0 109) + 1)) 0 7 (((h 0 7) + 1) + 1)) Q
                      refine ja_if_eq 271 dpattern_264 rfl ⟨by decide, by decide⟩ (fun c264 => absurd c264 (by omega)) (fun c264 => ?_)
                      refine ja_iconst dpattern_267 ?_
                      refine ja_goto 272 dpattern_268 rfl ?_
                      refine ja_zreturn dpattern_272 rfl (by omega) ?_
                      exact mo_fin (by omega) rfl (k1 (ja_up (ja_up (ja_up (ja_up (ja_up (ja_up (ja_up (ja_up (ja_up (ja_up (ja_up (ja_up (ja_up (ja_up (ja_up (ja_up h 0 7 ((h 0 7) + 1)) 0 95 ((h 0 95) + 1)) 58 ((h 0 95).toNat) s0) 59 ((h 0 95).toNat) 0) 60 ((h 0 95).toNat) 0) 61 ((h 0 95).toNat) ((h 0 7) + 1)) 62 ((h 0 95).toNat) 0) 64 ((h 0 95).toNat) (h 0 76)) 65 ((h 0 95).toNat) 0) 66 ((h 0 95).toNat) 0) 67 ((h 0 95).toNat) w3) 59 ((h 0 95).toNat) ((w6 + 1) + 1)) 60 ((h 0 95).toNat) 1) 70 ((h 0 109).toNat) (h 0 95)) 0 109 ((h 0 109) + 1)) 0 7 (((h 0 7) + 1) + 1)) (ab_leaf g p1 p2 (lf_pat at1 (by first | (simp [ja_up]; done) | (simp [ja_up]; omega)) (by omega) (by omega) (by omega) (by omega))) g61)
                    · intro h62 k261_1 g63
                      replace k261_1 : 0 < (h62 0 8) ∧ (h62 0 1) = (h 0 1) ∧ (h62 0 118) = (h 0 118) ∧ (h62 0 127) = (h 0 127) := k261_1
                      refine ja_if_eq 271 dpattern_264 rfl ⟨by decide, by decide⟩ (fun c264 => ?_) (fun c264 => absurd c264 (by omega))
                      refine ja_iconst dpattern_271 ?_
                      refine ja_zreturn dpattern_272 rfl (by omega) ?_
                      exact mo_fin (by omega) rfl (k2 h62 (by omega) g63)
                  · refine ja_iload dpattern_220 rfl ?_
                    refine ja_if_ne 230 dpattern_222 rfl ⟨by decide, by decide⟩ (fun c222 => ?_) (fun c222 => absurd c222 (by omega))
                    refine ja_iconst dpattern_230 ?_
                    refine ja_goto 235 dpattern_231 rfl ?_
                    refine ja_istore dpattern_235 (by decide) (L2 := [(8, (0, 1)), (7, (0, 1)), (6, (0, (w6 + 1))), (5, (0, 1)), (4, (0, w6)), (3, (0, (h 0 95))), (2, (0, s0)), (0, (2, ((0 : Nat) : Int)))]) rfl ?_
                    refine ja_iload dpattern_237 rfl ?_
                    refine ja_if_ne 252 dpattern_239 rfl ⟨by decide, by decide⟩ (fun c239 => ?_) (fun c239 => absurd c239 (by omega))
                    refine ja_aload_n dpattern_252 rfl rfl ?_
                    refine ja_iload_n dpattern_253 rfl rfl ?_
                    refine t_leaf (by decide) (show (0 : Nat) ≤ 8 by decide) dpattern_254 g59 ⟨by omega, by omega⟩ (show 0 ≤ (h 0 95) ∧ (h 0 95) ≤ 899 by omega) (show (h 0 109) < 400 by omega) ?_
                    intro g64
                    replace g64 : mo_G Zz (ja_up (ja_up (ja_up (ja_up (ja_up (ja_up (ja_up (ja_up (ja_up (ja_up (ja_up (ja_up (ja_up (ja_up (ja_up h 0 7 ((h 0 7) + 1)) 0 95 ((h 0 95) + 1)) 58 ((h 0 95).toNat) s0) 59 ((h 0 95).toNat) 0) 60 ((h 0 95).toNat) 0) 61 ((h 0 95).toNat) ((h 0 7) + 1)) 62 ((h 0 95).toNat) 0) 64 ((h 0 95).toNat) (h 0 76)) 65 ((h 0 95).toNat) 0) 66 ((h 0 95).toNat) 0) 67 ((h 0 95).toNat) w3) 59 ((h 0 95).toNat) ((w6 + 1) + 1)) 60 ((h 0 95).toNat) 1) 70 ((h 0 109).toNat) (h 0 95)) 0 109 ((h 0 109) + 1)) := g64
                    show mJ l D cA ad 3 cX12_pattern 9 (some .boolean) 257 [(8, (0, 1)), (7, (0, 1)), (6, (0, (w6 + 1))), (5, (0, 1)), (4, (0, w6)), (3, (0, (h 0 95))), (2, (0, s0)), (0, (2, ((0 : Nat) : Int)))] [(0, 1)] (ja_up (ja_up (ja_up (ja_up (ja_up (ja_up (ja_up (ja_up (ja_up (ja_up (ja_up (ja_up (ja_up (ja_up (ja_up h 0 7 ((h 0 7) + 1)) 0 95 ((h 0 95) + 1)) 58 ((h 0 95).toNat) s0) 59 ((h 0 95).toNat) 0) 60 ((h 0 95).toNat) 0) 61 ((h 0 95).toNat) ((h 0 7) + 1)) 62 ((h 0 95).toNat) 0) 64 ((h 0 95).toNat) (h 0 76)) 65 ((h 0 95).toNat) 0) 66 ((h 0 95).toNat) 0) 67 ((h 0 95).toNat) w3) 59 ((h 0 95).toNat) ((w6 + 1) + 1)) 60 ((h 0 95).toNat) 1) 70 ((h 0 109).toNat) (h 0 95)) 0 109 ((h 0 109) + 1)) Q
                    refine ja_if_eq 271 dpattern_257 rfl ⟨by decide, by decide⟩ (fun c257 => absurd c257 (by omega)) (fun c257 => ?_)
                    refine ja_aload_n dpattern_260 rfl rfl ?_
                    refine t_take (by decide) (show (0 : Nat) ≤ 8 by decide) dpattern_261 g64  ?_ ?_
                    · intro k261_0 g65
                      replace k261_0 : ((h 0 7) + 1) < 900 := k261_0
                      replace g65 : mo_G Zz (ja_up (ja_up (ja_up (ja_up (ja_up (ja_up (ja_up (ja_up (ja_up (ja_up (ja_up (ja_up (ja_up (ja_up (ja_up (ja_up h 0 7 ((h 0 7) + 1)) 0 95 ((h 0 95) + 1)) 58 ((h 0 95).toNat) s0) 59 ((h 0 95).toNat) 0) 60 ((h 0 95).toNat) 0) 61 ((h 0 95).toNat) ((h 0 7) + 1)) 62 ((h 0 95).toNat) 0) 64 ((h 0 95).toNat) (h 0 76)) 65 ((h 0 95).toNat) 0) 66 ((h 0 95).toNat) 0) 67 ((h 0 95).toNat) w3) 59 ((h 0 95).toNat) ((w6 + 1) + 1)) 60 ((h 0 95).toNat) 1) 70 ((h 0 109).toNat) (h 0 95)) 0 109 ((h 0 109) + 1)) 0 7 (((h 0 7) + 1) + 1)) := g65
                      show mJ l D cA ad 3 cX12_pattern 9 (some .boolean) 264 [(8, (0, 1)), (7, (0, 1)), (6, (0, (w6 + 1))), (5, (0, 1)), (4, (0, w6)), (3, (0, (h 0 95))), (2, (0, s0)), (0, (2, ((0 : Nat) : Int)))] [(0, 1)] (ja_up (ja_up (ja_up (ja_up (ja_up (ja_up (ja_up (ja_up (ja_up (ja_up (ja_up (ja_up (ja_up (ja_up (ja_up (ja_up h 0 7 ((h 0 7) + 1)) 0 95 ((h 0 95) + 1)) 58 ((h 0 95).toNat) s0) 59 ((h 0 95).toNat) 0) 60 ((h 0 95).toNat) 0) 61 ((h 0 95).toNat) ((h 0 7) + 1)) 62 ((h 0 95).toNat) 0) 64 ((h 0 95).toNat) (h 0 76)) 65 ((h 0 95).toNat) 0) 66 ((h 0 95).toNat) 0) 67 ((h 0 95).toNat) w3) 59 ((h 0 95).toNat) ((w6 + 1) + 1)) 60 ((h 0 95).toNat) 1) 70 ((h 0 109).toNat) (h 0 95)) 0 109 ((h 0 109) + 1)) 0 7 (((h 0 7) + 1) + 1)) Q
                      refine ja_if_eq 271 dpattern_264 rfl ⟨by decide, by decide⟩ (fun c264 => absurd c264 (by omega)) (fun c264 => ?_)
                      refine ja_iconst dpattern_267 ?_
                      refine ja_goto 272 dpattern_268 rfl ?_
                      refine ja_zreturn dpattern_272 rfl (by omega) ?_
                      exact mo_fin (by omega) rfl (k1 (ja_up (ja_up (ja_up (ja_up (ja_up (ja_up (ja_up (ja_up (ja_up (ja_up (ja_up (ja_up (ja_up (ja_up (ja_up (ja_up h 0 7 ((h 0 7) + 1)) 0 95 ((h 0 95) + 1)) 58 ((h 0 95).toNat) s0) 59 ((h 0 95).toNat) 0) 60 ((h 0 95).toNat) 0) 61 ((h 0 95).toNat) ((h 0 7) + 1)) 62 ((h 0 95).toNat) 0) 64 ((h 0 95).toNat) (h 0 76)) 65 ((h 0 95).toNat) 0) 66 ((h 0 95).toNat) 0) 67 ((h 0 95).toNat) w3) 59 ((h 0 95).toNat) ((w6 + 1) + 1)) 60 ((h 0 95).toNat) 1) 70 ((h 0 109).toNat) (h 0 95)) 0 109 ((h 0 109) + 1)) 0 7 (((h 0 7) + 1) + 1)) (ab_leaf g p1 p2 (lf_pat at1 (by first | (simp [ja_up]; done) | (simp [ja_up]; omega)) (by omega) (by omega) (by omega) (by omega))) g65)
                    · intro h66 k261_1 g67
                      replace k261_1 : 0 < (h66 0 8) ∧ (h66 0 1) = (h 0 1) ∧ (h66 0 118) = (h 0 118) ∧ (h66 0 127) = (h 0 127) := k261_1
                      refine ja_if_eq 271 dpattern_264 rfl ⟨by decide, by decide⟩ (fun c264 => ?_) (fun c264 => absurd c264 (by omega))
                      refine ja_iconst dpattern_271 ?_
                      refine ja_zreturn dpattern_272 rfl (by omega) ?_
                      exact mo_fin (by omega) rfl (k2 h66 (by omega) g67)
                · refine ja_iload dpattern_201 rfl ?_
                  refine ja_if_ne 210 dpattern_203 rfl ⟨by decide, by decide⟩ (fun c203 => ?_) (fun c203 => absurd c203 (by omega))
                  refine ja_iconst dpattern_210 ?_
                  refine ja_goto 235 dpattern_211 rfl ?_
                  refine ja_istore dpattern_235 (by decide) (L2 := [(8, (0, 0)), (7, (0, 1)), (6, (0, (w6 + 1))), (5, (0, 1)), (4, (0, w6)), (3, (0, (h 0 95))), (2, (0, s0)), (0, (2, ((0 : Nat) : Int)))]) rfl ?_
                  refine ja_iload dpattern_237 rfl ?_
                  refine ja_if_ne 252 dpattern_239 rfl ⟨by decide, by decide⟩ (fun c239 => absurd c239 (by omega)) (fun c239 => ?_)
                  refine ja_aload_n dpattern_242 rfl rfl ?_
                  refine ja_bipush 7 dpattern_243 rfl ?_
                  refine ja_aload_n dpattern_245 rfl rfl ?_
                  refine fg_at (v := (h 0 7) + 1) rfl dpattern_246 ?_
                  refine t_judge (by decide) (show (0 : Nat) ≤ 8 by decide) dpattern_249 g59 ⟨by decide, by decide⟩ ⟨by omega, by omega⟩ (show 1 ≤ 7 ∧ 7 ≤ 8 by omega) (show 0 ≤ ((h 0 7) + 1) ∧ ((h 0 7) + 1) ≤ 900 by omega) ?_
                  intro w68 w69 k249_0 g70
                  replace k249_0 : 1 ≤ w68 ∧ w68 ≤ 8 ∧ -2147483648 ≤ w69 ∧ w69 ≤ 2147483647 := k249_0
                  replace g70 : mo_G Zz (ja_up (ja_up (ja_up (ja_up (ja_up (ja_up (ja_up (ja_up (ja_up (ja_up (ja_up (ja_up (ja_up (ja_up (ja_up h 0 7 ((h 0 7) + 1)) 0 95 ((h 0 95) + 1)) 58 ((h 0 95).toNat) s0) 59 ((h 0 95).toNat) 0) 60 ((h 0 95).toNat) 0) 61 ((h 0 95).toNat) ((h 0 7) + 1)) 62 ((h 0 95).toNat) 0) 64 ((h 0 95).toNat) (h 0 76)) 65 ((h 0 95).toNat) 0) 66 ((h 0 95).toNat) 0) 67 ((h 0 95).toNat) w3) 59 ((h 0 95).toNat) ((w6 + 1) + 1)) 60 ((h 0 95).toNat) 1) 0 11 w68) 0 12 w69) := g70
                  show mJ l D cA ad 3 cX12_pattern 9 (some .boolean) 252 [(8, (0, 0)), (7, (0, 1)), (6, (0, (w6 + 1))), (5, (0, 1)), (4, (0, w6)), (3, (0, (h 0 95))), (2, (0, s0)), (0, (2, ((0 : Nat) : Int)))] [] (ja_up (ja_up (ja_up (ja_up (ja_up (ja_up (ja_up (ja_up (ja_up (ja_up (ja_up (ja_up (ja_up (ja_up (ja_up h 0 7 ((h 0 7) + 1)) 0 95 ((h 0 95) + 1)) 58 ((h 0 95).toNat) s0) 59 ((h 0 95).toNat) 0) 60 ((h 0 95).toNat) 0) 61 ((h 0 95).toNat) ((h 0 7) + 1)) 62 ((h 0 95).toNat) 0) 64 ((h 0 95).toNat) (h 0 76)) 65 ((h 0 95).toNat) 0) 66 ((h 0 95).toNat) 0) 67 ((h 0 95).toNat) w3) 59 ((h 0 95).toNat) ((w6 + 1) + 1)) 60 ((h 0 95).toNat) 1) 0 11 w68) 0 12 w69) Q
                  refine ja_aload_n dpattern_252 rfl rfl ?_
                  refine ja_iload_n dpattern_253 rfl rfl ?_
                  refine t_leaf (by decide) (show (0 : Nat) ≤ 8 by decide) dpattern_254 g70 ⟨by omega, by omega⟩ (show 0 ≤ (h 0 95) ∧ (h 0 95) ≤ 899 by omega) (show (h 0 109) < 400 by omega) ?_
                  intro g71
                  replace g71 : mo_G Zz (ja_up (ja_up (ja_up (ja_up (ja_up (ja_up (ja_up (ja_up (ja_up (ja_up (ja_up (ja_up (ja_up (ja_up (ja_up (ja_up (ja_up h 0 7 ((h 0 7) + 1)) 0 95 ((h 0 95) + 1)) 58 ((h 0 95).toNat) s0) 59 ((h 0 95).toNat) 0) 60 ((h 0 95).toNat) 0) 61 ((h 0 95).toNat) ((h 0 7) + 1)) 62 ((h 0 95).toNat) 0) 64 ((h 0 95).toNat) (h 0 76)) 65 ((h 0 95).toNat) 0) 66 ((h 0 95).toNat) 0) 67 ((h 0 95).toNat) w3) 59 ((h 0 95).toNat) ((w6 + 1) + 1)) 60 ((h 0 95).toNat) 1) 0 11 w68) 0 12 w69) 70 ((h 0 109).toNat) (h 0 95)) 0 109 ((h 0 109) + 1)) := g71
                  show mJ l D cA ad 3 cX12_pattern 9 (some .boolean) 257 [(8, (0, 0)), (7, (0, 1)), (6, (0, (w6 + 1))), (5, (0, 1)), (4, (0, w6)), (3, (0, (h 0 95))), (2, (0, s0)), (0, (2, ((0 : Nat) : Int)))] [(0, 1)] (ja_up (ja_up (ja_up (ja_up (ja_up (ja_up (ja_up (ja_up (ja_up (ja_up (ja_up (ja_up (ja_up (ja_up (ja_up (ja_up (ja_up h 0 7 ((h 0 7) + 1)) 0 95 ((h 0 95) + 1)) 58 ((h 0 95).toNat) s0) 59 ((h 0 95).toNat) 0) 60 ((h 0 95).toNat) 0) 61 ((h 0 95).toNat) ((h 0 7) + 1)) 62 ((h 0 95).toNat) 0) 64 ((h 0 95).toNat) (h 0 76)) 65 ((h 0 95).toNat) 0) 66 ((h 0 95).toNat) 0) 67 ((h 0 95).toNat) w3) 59 ((h 0 95).toNat) ((w6 + 1) + 1)) 60 ((h 0 95).toNat) 1) 0 11 w68) 0 12 w69) 70 ((h 0 109).toNat) (h 0 95)) 0 109 ((h 0 109) + 1)) Q
                  refine ja_if_eq 271 dpattern_257 rfl ⟨by decide, by decide⟩ (fun c257 => absurd c257 (by omega)) (fun c257 => ?_)
                  refine ja_aload_n dpattern_260 rfl rfl ?_
                  refine t_take (by decide) (show (0 : Nat) ≤ 8 by decide) dpattern_261 g71  ?_ ?_
                  · intro k261_0 g72
                    replace k261_0 : ((h 0 7) + 1) < 900 := k261_0
                    replace g72 : mo_G Zz (ja_up (ja_up (ja_up (ja_up (ja_up (ja_up (ja_up (ja_up (ja_up (ja_up (ja_up (ja_up (ja_up (ja_up (ja_up (ja_up (ja_up (ja_up h 0 7 ((h 0 7) + 1)) 0 95 ((h 0 95) + 1)) 58 ((h 0 95).toNat) s0) 59 ((h 0 95).toNat) 0) 60 ((h 0 95).toNat) 0) 61 ((h 0 95).toNat) ((h 0 7) + 1)) 62 ((h 0 95).toNat) 0) 64 ((h 0 95).toNat) (h 0 76)) 65 ((h 0 95).toNat) 0) 66 ((h 0 95).toNat) 0) 67 ((h 0 95).toNat) w3) 59 ((h 0 95).toNat) ((w6 + 1) + 1)) 60 ((h 0 95).toNat) 1) 0 11 w68) 0 12 w69) 70 ((h 0 109).toNat) (h 0 95)) 0 109 ((h 0 109) + 1)) 0 7 (((h 0 7) + 1) + 1)) := g72
                    show mJ l D cA ad 3 cX12_pattern 9 (some .boolean) 264 [(8, (0, 0)), (7, (0, 1)), (6, (0, (w6 + 1))), (5, (0, 1)), (4, (0, w6)), (3, (0, (h 0 95))), (2, (0, s0)), (0, (2, ((0 : Nat) : Int)))] [(0, 1)] (ja_up (ja_up (ja_up (ja_up (ja_up (ja_up (ja_up (ja_up (ja_up (ja_up (ja_up (ja_up (ja_up (ja_up (ja_up (ja_up (ja_up (ja_up h 0 7 ((h 0 7) + 1)) 0 95 ((h 0 95) + 1)) 58 ((h 0 95).toNat) s0) 59 ((h 0 95).toNat) 0) 60 ((h 0 95).toNat) 0) 61 ((h 0 95).toNat) ((h 0 7) + 1)) 62 ((h 0 95).toNat) 0) 64 ((h 0 95).toNat) (h 0 76)) 65 ((h 0 95).toNat) 0) 66 ((h 0 95).toNat) 0) 67 ((h 0 95).toNat) w3) 59 ((h 0 95).toNat) ((w6 + 1) + 1)) 60 ((h 0 95).toNat) 1) 0 11 w68) 0 12 w69) 70 ((h 0 109).toNat) (h 0 95)) 0 109 ((h 0 109) + 1)) 0 7 (((h 0 7) + 1) + 1)) Q
                    refine ja_if_eq 271 dpattern_264 rfl ⟨by decide, by decide⟩ (fun c264 => absurd c264 (by omega)) (fun c264 => ?_)
                    refine ja_iconst dpattern_267 ?_
                    refine ja_goto 272 dpattern_268 rfl ?_
                    refine ja_zreturn dpattern_272 rfl (by omega) ?_
                    exact mo_fin (by omega) rfl (k1 (ja_up (ja_up (ja_up (ja_up (ja_up (ja_up (ja_up (ja_up (ja_up (ja_up (ja_up (ja_up (ja_up (ja_up (ja_up (ja_up (ja_up (ja_up h 0 7 ((h 0 7) + 1)) 0 95 ((h 0 95) + 1)) 58 ((h 0 95).toNat) s0) 59 ((h 0 95).toNat) 0) 60 ((h 0 95).toNat) 0) 61 ((h 0 95).toNat) ((h 0 7) + 1)) 62 ((h 0 95).toNat) 0) 64 ((h 0 95).toNat) (h 0 76)) 65 ((h 0 95).toNat) 0) 66 ((h 0 95).toNat) 0) 67 ((h 0 95).toNat) w3) 59 ((h 0 95).toNat) ((w6 + 1) + 1)) 60 ((h 0 95).toNat) 1) 0 11 w68) 0 12 w69) 70 ((h 0 109).toNat) (h 0 95)) 0 109 ((h 0 109) + 1)) 0 7 (((h 0 7) + 1) + 1)) (ab_leaf g p1 p2 (lf_patj at1 (by first | (simp [ja_up]; done) | (simp [ja_up]; omega)) (by omega) (by omega) (by omega) (by omega) (by omega))) g72)
                  · intro h73 k261_1 g74
                    replace k261_1 : 0 < (h73 0 8) ∧ (h73 0 1) = (h 0 1) ∧ (h73 0 118) = (h 0 118) ∧ (h73 0 127) = (h 0 127) := k261_1
                    refine ja_if_eq 271 dpattern_264 rfl ⟨by decide, by decide⟩ (fun c264 => ?_) (fun c264 => absurd c264 (by omega))
                    refine ja_iconst dpattern_271 ?_
                    refine ja_zreturn dpattern_272 rfl (by omega) ?_
                    exact mo_fin (by omega) rfl (k2 h73 (by omega) g74)
          · refine ja_aload_n dpattern_75 rfl rfl ?_
            refine t_wrong (by decide) (show (0 : Nat) ≤ 8 by decide) dpattern_76 g1  ?_
            intro h75 k76_0 g76
            replace k76_0 : 0 < (h75 0 8) ∧ (h75 0 1) = (h 0 1) ∧ (h75 0 118) = (h 0 118) ∧ (h75 0 127) = (h 0 127) := k76_0
            refine ja_zreturn dpattern_79 rfl (by omega) ?_
            exact mo_fin (by omega) rfl (k2 h75 (by omega) g76)
        · intro h77 k54_1 g78
          refine ja_if_ne 62 dpattern_57 rfl ⟨by decide, by decide⟩ (fun c57 => absurd c57 (by omega)) (fun c57 => ?_)
          refine ja_iconst dpattern_60 ?_
          refine ja_zreturn dpattern_61 rfl (by omega) ?_
          exact mo_fin (by omega) rfl (k2 h77 (by omega) g78)
  have hN := piB_num g p1 p2
  obtain ⟨N1, N2, N3, N4, N5, N6, N7, N8, N9, N10, N11, N12, N13, ⟨NK1, NK2⟩, ND1, ND2, ND3, NU1, NU2⟩ := hN
  have hn1 : (h 0 18) = 0 + pk_sum pk_c s := p2.1.1
  obtain ⟨T1, T2, T3, T4⟩ := bs_31t (by omega) p2
  refine ja_iload_n dpattern_0 rfl rfl ?_
  refine ja_bipush 8 dpattern_1 rfl ?_
  refine ja_icmp_ne 10 dpattern_3 rfl ⟨by omega, by omega⟩ ⟨by decide, by decide⟩ (fun c3 => ?_) (fun c3 => ?_)
  · refine ja_iload_n dpattern_10 rfl rfl ?_
    refine ja_bipush 35 dpattern_11 rfl ?_
    refine ja_icmp_ne 20 dpattern_13 rfl ⟨by omega, by omega⟩ ⟨by decide, by decide⟩ (fun c13 => ?_) (fun c13 => ?_)
    · refine ja_iload_n dpattern_20 rfl rfl ?_
      refine ja_bipush 24 dpattern_21 rfl ?_
      refine ja_icmp_ne 30 dpattern_23 rfl ⟨by omega, by omega⟩ ⟨by decide, by decide⟩ (fun c23 => ?_) (fun c23 => ?_)
      · refine ja_iload_n dpattern_30 rfl rfl ?_
        refine ja_bipush 16 dpattern_31 rfl ?_
        refine ja_icmp_ne 40 dpattern_33 rfl ⟨by omega, by omega⟩ ⟨by decide, by decide⟩ (fun c33 => ?_) (fun c33 => ?_)
        · refine ja_iload_n dpattern_40 rfl rfl ?_
          refine ja_bipush 37 dpattern_41 rfl ?_
          refine ja_icmp_ne 50 dpattern_43 rfl ⟨by omega, by omega⟩ ⟨by decide, by decide⟩ (fun c43 => ?_) (fun c43 => ?_)
          · refine ja_bipush 6 dpattern_50 rfl ?_
            exact ja_wk (fun q hq => by simp only [List.mem_cons, List.not_mem_nil, or_false] at hq; rcases hq with rfl <;> rfl) ((CUT _) 6  ⟨by decide, by decide⟩ (show 0 ≤ 6 ∧ 6 ≤ 6 by omega) rfl)
          · refine ja_iconst dpattern_46 ?_
            refine ja_goto 52 dpattern_47 rfl ?_
            exact ja_wk (fun q hq => by simp only [List.mem_cons, List.not_mem_nil, or_false] at hq; rcases hq with rfl <;> rfl) ((CUT _) 4  ⟨by decide, by decide⟩ (show 0 ≤ 4 ∧ 4 ≤ 6 by omega) rfl)
        · refine ja_iconst dpattern_36 ?_
          refine ja_goto 52 dpattern_37 rfl ?_
          exact ja_wk (fun q hq => by simp only [List.mem_cons, List.not_mem_nil, or_false] at hq; rcases hq with rfl <;> rfl) ((CUT _) 3  ⟨by decide, by decide⟩ (show 0 ≤ 3 ∧ 3 ≤ 6 by omega) rfl)
      · refine ja_iconst dpattern_26 ?_
        refine ja_goto 52 dpattern_27 rfl ?_
        exact ja_wk (fun q hq => by simp only [List.mem_cons, List.not_mem_nil, or_false] at hq; rcases hq with rfl <;> rfl) ((CUT _) 2  ⟨by decide, by decide⟩ (show 0 ≤ 2 ∧ 2 ≤ 6 by omega) rfl)
    · refine ja_iconst dpattern_16 ?_
      refine ja_goto 52 dpattern_17 rfl ?_
      exact ja_wk (fun q hq => by simp only [List.mem_cons, List.not_mem_nil, or_false] at hq; rcases hq with rfl <;> rfl) ((CUT _) 1  ⟨by decide, by decide⟩ (show 0 ≤ 1 ∧ 1 ≤ 6 by omega) rfl)
  · refine ja_iconst dpattern_6 ?_
    refine ja_goto 52 dpattern_7 rfl ?_
    exact ja_wk (fun q hq => by simp only [List.mem_cons, List.not_mem_nil, or_false] at hq; rcases hq with rfl <;> rfl) ((CUT _) 0  ⟨by decide, by decide⟩ (show 0 ≤ 0 ∧ 0 ≤ 6 by omega) rfl)
theorem t_pattern {a1 : Int} {R r ph q0 b c : Int} {tf : mo_TF} {s : List mo_A} {ht st rg : Nat → Int} {tu : Int} {d nL pc : Nat} {cc : ByteArray} {rt : Option FieldType} {L : List (Nat × ja_V)} {S : List ja_V} {h : ja_H} {Q : Option ja_V → ja_H → Prop} (hdd : 3 < d) (hwd : ja_wd S ≤ 8) (hd : decode cc pc = .ok (.invokevirtual 900, 3)) (g : mo_G Zz h) (r1 : -2147483648 ≤ a1 ∧ a1 ≤ 2147483647) (p1 : pk_S h (h 0 17).toNat s) (p2 : piB h R r ph tf q0 ((31, b, c) :: s) ht st rg tu) (p3 : (s.length : Int) ≤ 6 * pk_sum pk_c s + 2) (k1 : ∀ (h' : ja_H), (pi_done h h' R r ph tf q0 (pi_mu h s)) → mo_G Zz h' → mJ l D cA ad d cc nL rt (pc + 3) L ((0, 1) :: S) h' Q) (k2 : ∀ (h' : ja_H), (0 < (h' 0 8) ∧ (h' 0 1) = (h 0 1) ∧ (h' 0 118) = (h 0 118) ∧ (h' 0 127) = (h 0 127)) → mo_G Zz h' → mJ l D cA ad d cc nL rt (pc + 3) L ((0, 0) :: S) h' Q) : mJ l D cA ad d cc nL rt pc L ((0, a1) :: (2, ((0 : Nat) : Int)) :: S) h Q :=
  mc_pattern hdd hwd hd (s_pattern g r1 p1 p2 p3 k1 k2)
end
theorem dargs_0 : decode cX12_args 0 = .ok (.aload_n 0, 1) := by decide +kernel
theorem dargs_1 : decode cX12_args 1 = .ok (.bipush 9, 2) := by decide +kernel
theorem dargs_3 : decode cX12_args 3 = .ok (.iconst 0, 1) := by decide +kernel
theorem dargs_4 : decode cX12_args 4 = .ok (.iconst 0, 1) := by decide +kernel
theorem dargs_5 : decode cX12_args 5 = .ok (.aload_n 0, 1) := by decide +kernel
theorem dargs_6 : decode cX12_args 6 = .ok (.getfield 574, 3) := by decide +kernel
theorem dargs_9 : decode cX12_args 9 = .ok (.invokevirtual 878, 3) := by decide +kernel
theorem dargs_12 : decode cX12_args 12 = .ok (.istore_n 1, 1) := by decide +kernel
theorem dargs_13 : decode cX12_args 13 = .ok (.aload_n 0, 1) := by decide +kernel
theorem dargs_14 : decode cX12_args 14 = .ok (.bipush 41, 2) := by decide +kernel
theorem dargs_16 : decode cX12_args 16 = .ok (.invokevirtual 586, 3) := by decide +kernel
theorem dargs_19 : decode cX12_args 19 = .ok (.ifCond .ne 7, 3) := by decide +kernel
theorem dargs_22 : decode cX12_args 22 = .ok (.iconst 1, 1) := by decide +kernel
theorem dargs_23 : decode cX12_args 23 = .ok (.goto 4, 3) := by decide +kernel
theorem dargs_26 : decode cX12_args 26 = .ok (.iconst 0, 1) := by decide +kernel
theorem dargs_27 : decode cX12_args 27 = .ok (.istore_n 2, 1) := by decide +kernel
theorem dargs_28 : decode cX12_args 28 = .ok (.iload_n 2, 1) := by decide +kernel
theorem dargs_29 : decode cX12_args 29 = .ok (.ifCond .eq 140, 3) := by decide +kernel
theorem dargs_32 : decode cX12_args 32 = .ok (.aload_n 0, 1) := by decide +kernel
theorem dargs_33 : decode cX12_args 33 = .ok (.getfield 194, 3) := by decide +kernel
theorem dargs_36 : decode cX12_args 36 = .ok (.iload_n 1, 1) := by decide +kernel
theorem dargs_37 : decode cX12_args 37 = .ok (.iaload, 1) := by decide +kernel
theorem dargs_38 : decode cX12_args 38 = .ok (.bipush 6, 2) := by decide +kernel
theorem dargs_40 : decode cX12_args 40 = .ok (.if_icmp .ne 25, 3) := by decide +kernel
theorem dargs_43 : decode cX12_args 43 = .ok (.aload_n 0, 1) := by decide +kernel
theorem dargs_44 : decode cX12_args 44 = .ok (.invokevirtual 599, 3) := by decide +kernel
theorem dargs_47 : decode cX12_args 47 = .ok (.ifCond .ne 12, 3) := by decide +kernel
theorem dargs_50 : decode cX12_args 50 = .ok (.aload_n 0, 1) := by decide +kernel
theorem dargs_51 : decode cX12_args 51 = .ok (.bipush 42, 2) := by decide +kernel
theorem dargs_53 : decode cX12_args 53 = .ok (.invokevirtual 586, 3) := by decide +kernel
theorem dargs_56 : decode cX12_args 56 = .ok (.ifCond .eq 9, 3) := by decide +kernel
theorem dargs_59 : decode cX12_args 59 = .ok (.aload_n 0, 1) := by decide +kernel
theorem dargs_60 : decode cX12_args 60 = .ok (.iconst 3, 1) := by decide +kernel
theorem dargs_61 : decode cX12_args 61 = .ok (.invokevirtual 583, 3) := by decide +kernel
theorem dargs_64 : decode cX12_args 64 = .ok (.ireturn, 1) := by decide +kernel
theorem dargs_65 : decode cX12_args 65 = .ok (.aload_n 0, 1) := by decide +kernel
theorem dargs_66 : decode cX12_args 66 = .ok (.getfield 574, 3) := by decide +kernel
theorem dargs_69 : decode cX12_args 69 = .ok (.istore_n 3, 1) := by decide +kernel
theorem dargs_70 : decode cX12_args 70 = .ok (.aload_n 0, 1) := by decide +kernel
theorem dargs_71 : decode cX12_args 71 = .ok (.bipush 42, 2) := by decide +kernel
theorem dargs_73 : decode cX12_args 73 = .ok (.invokevirtual 586, 3) := by decide +kernel
theorem dargs_76 : decode cX12_args 76 = .ok (.ifCond .eq 29, 3) := by decide +kernel
theorem dargs_79 : decode cX12_args 79 = .ok (.aload_n 0, 1) := by decide +kernel
theorem dargs_80 : decode cX12_args 80 = .ok (.getfield 197, 3) := by decide +kernel
theorem dargs_83 : decode cX12_args 83 = .ok (.bipush 7, 2) := by decide +kernel
theorem dargs_85 : decode cX12_args 85 = .ok (.iload_n 1, 1) := by decide +kernel
theorem dargs_86 : decode cX12_args 86 = .ok (.imul, 1) := by decide +kernel
theorem dargs_87 : decode cX12_args 87 = .ok (.aload_n 0, 1) := by decide +kernel
theorem dargs_88 : decode cX12_args 88 = .ok (.getfield 194, 3) := by decide +kernel
theorem dargs_91 : decode cX12_args 91 = .ok (.iload_n 1, 1) := by decide +kernel
theorem dargs_92 : decode cX12_args 92 = .ok (.iaload, 1) := by decide +kernel
theorem dargs_93 : decode cX12_args 93 = .ok (.iadd, 1) := by decide +kernel
theorem dargs_94 : decode cX12_args 94 = .ok (.iconst (-1), 1) := by decide +kernel
theorem dargs_95 : decode cX12_args 95 = .ok (.iastore, 1) := by decide +kernel
theorem dargs_96 : decode cX12_args 96 = .ok (.aload_n 0, 1) := by decide +kernel
theorem dargs_97 : decode cX12_args 97 = .ok (.invokevirtual 589, 3) := by decide +kernel
theorem dargs_100 : decode cX12_args 100 = .ok (.ifCond .ne 36, 3) := by decide +kernel
theorem dargs_103 : decode cX12_args 103 = .ok (.iconst 0, 1) := by decide +kernel
theorem dargs_104 : decode cX12_args 104 = .ok (.ireturn, 1) := by decide +kernel
theorem dargs_105 : decode cX12_args 105 = .ok (.aload_n 0, 1) := by decide +kernel
theorem dargs_106 : decode cX12_args 106 = .ok (.invokevirtual 739, 3) := by decide +kernel
theorem dargs_109 : decode cX12_args 109 = .ok (.ifCond .ne 5, 3) := by decide +kernel
theorem dargs_112 : decode cX12_args 112 = .ok (.iconst 0, 1) := by decide +kernel
theorem dargs_113 : decode cX12_args 113 = .ok (.ireturn, 1) := by decide +kernel
theorem dargs_114 : decode cX12_args 114 = .ok (.aload_n 0, 1) := by decide +kernel
theorem dargs_115 : decode cX12_args 115 = .ok (.getfield 197, 3) := by decide +kernel
theorem dargs_118 : decode cX12_args 118 = .ok (.bipush 7, 2) := by decide +kernel
theorem dargs_120 : decode cX12_args 120 = .ok (.iload_n 1, 1) := by decide +kernel
theorem dargs_121 : decode cX12_args 121 = .ok (.imul, 1) := by decide +kernel
theorem dargs_122 : decode cX12_args 122 = .ok (.aload_n 0, 1) := by decide +kernel
theorem dargs_123 : decode cX12_args 123 = .ok (.getfield 194, 3) := by decide +kernel
theorem dargs_126 : decode cX12_args 126 = .ok (.iload_n 1, 1) := by decide +kernel
theorem dargs_127 : decode cX12_args 127 = .ok (.iaload, 1) := by decide +kernel
theorem dargs_128 : decode cX12_args 128 = .ok (.iadd, 1) := by decide +kernel
theorem dargs_129 : decode cX12_args 129 = .ok (.aload_n 0, 1) := by decide +kernel
theorem dargs_130 : decode cX12_args 130 = .ok (.iload_n 1, 1) := by decide +kernel
theorem dargs_131 : decode cX12_args 131 = .ok (.iload_n 3, 1) := by decide +kernel
theorem dargs_132 : decode cX12_args 132 = .ok (.invokevirtual 894, 3) := by decide +kernel
theorem dargs_135 : decode cX12_args 135 = .ok (.iastore, 1) := by decide +kernel
theorem dargs_136 : decode cX12_args 136 = .ok (.aload_n 0, 1) := by decide +kernel
theorem dargs_137 : decode cX12_args 137 = .ok (.getfield 194, 3) := by decide +kernel
theorem dargs_140 : decode cX12_args 140 = .ok (.iload_n 1, 1) := by decide +kernel
theorem dargs_141 : decode cX12_args 141 = .ok (.dup2, 1) := by decide +kernel
theorem dargs_142 : decode cX12_args 142 = .ok (.iaload, 1) := by decide +kernel
theorem dargs_143 : decode cX12_args 143 = .ok (.iconst 1, 1) := by decide +kernel
theorem dargs_144 : decode cX12_args 144 = .ok (.iadd, 1) := by decide +kernel
theorem dargs_145 : decode cX12_args 145 = .ok (.iastore, 1) := by decide +kernel
theorem dargs_146 : decode cX12_args 146 = .ok (.aload_n 0, 1) := by decide +kernel
theorem dargs_147 : decode cX12_args 147 = .ok (.bipush 44, 2) := by decide +kernel
theorem dargs_149 : decode cX12_args 149 = .ok (.invokevirtual 586, 3) := by decide +kernel
theorem dargs_152 : decode cX12_args 152 = .ok (.istore_n 2, 1) := by decide +kernel
theorem dargs_153 : decode cX12_args 153 = .ok (.iload_n 2, 1) := by decide +kernel
theorem dargs_154 : decode cX12_args 154 = .ok (.ifCond .eq 12, 3) := by decide +kernel
theorem dargs_157 : decode cX12_args 157 = .ok (.aload_n 0, 1) := by decide +kernel
theorem dargs_158 : decode cX12_args 158 = .ok (.invokevirtual 589, 3) := by decide +kernel
theorem dargs_161 : decode cX12_args 161 = .ok (.ifCond .ne 5, 3) := by decide +kernel
theorem dargs_164 : decode cX12_args 164 = .ok (.iconst 0, 1) := by decide +kernel
theorem dargs_165 : decode cX12_args 165 = .ok (.ireturn, 1) := by decide +kernel
theorem dargs_166 : decode cX12_args 166 = .ok (.goto (-138), 3) := by decide +kernel
theorem dargs_169 : decode cX12_args 169 = .ok (.aload_n 0, 1) := by decide +kernel
theorem dargs_170 : decode cX12_args 170 = .ok (.iload_n 1, 1) := by decide +kernel
theorem dargs_171 : decode cX12_args 171 = .ok (.invokevirtual 882, 3) := by decide +kernel
theorem dargs_174 : decode cX12_args 174 = .ok (.ifCond .eq 16, 3) := by decide +kernel
theorem dargs_177 : decode cX12_args 177 = .ok (.aload_n 0, 1) := by decide +kernel
theorem dargs_178 : decode cX12_args 178 = .ok (.bipush 41, 2) := by decide +kernel
theorem dargs_180 : decode cX12_args 180 = .ok (.invokevirtual 742, 3) := by decide +kernel
theorem dargs_183 : decode cX12_args 183 = .ok (.ifCond .eq 7, 3) := by decide +kernel
theorem dargs_186 : decode cX12_args 186 = .ok (.iconst 1, 1) := by decide +kernel
theorem dargs_187 : decode cX12_args 187 = .ok (.goto 4, 3) := by decide +kernel
theorem dargs_190 : decode cX12_args 190 = .ok (.iconst 0, 1) := by decide +kernel
theorem dargs_191 : decode cX12_args 191 = .ok (.ireturn, 1) := by decide +kernel
section
variable {l : Launch} {D : va_G} {cA : Nat → ClassId} {ad : Nat → Nat}
theorem s_args {R r ph q0 b c : Int} {tf : mo_TF} {s : List mo_A} {ht st rg : Nat → Int} {tu : Int} {h : ja_H} {Q : Option ja_V → ja_H → Prop} (g : mo_G Zz h) (p1 : pk_S h (h 0 17).toNat s) (p2 : piB h R r ph tf q0 ((31, b, c) :: s) ht st rg tu) (p3 : (s.length : Int) ≤ 6 * pk_sum pk_c s + 2) (k1 : ∀ (h' : ja_H), (pi_done h h' R r ph tf q0 (pi_mu h s)) → mo_G Zz h' → Q (some (0, 1)) h') (k2 : ∀ (h' : ja_H), (0 < (h' 0 8) ∧ (h' 0 1) = (h 0 1) ∧ (h' 0 118) = (h 0 118) ∧ (h' 0 127) = (h 0 127)) → mo_G Zz h' → Q (some (0, 0)) h') : mM_args l D cA ad  h Q := by
  show mJ l D cA ad 4 cX12_args 4 (some .boolean) 0 [(0, (2, ((0 : Nat) : Int)))] [] h Q
  have kn_at := gF_at g
  have kn_wTop := gF_wTop g
  have kn_words := gF_words g
  have kn_nest := gF_nest g
  have kn_nodes := gF_nodes g
  have kn_wants := gF_wants g
  have kn_uses := gF_uses g
  have kn_treeTop := gF_treeTop g
  have kn_quiet := gF_quiet g
  have kn_inFlow := gF_inFlow g
  have kn_false1 := gF_false1 g
  have kn_params := gF_params g
  have CUT : ∀ n : Nat, (∀ (x2 : Int) (u : ja_H), mo_G Zz u → (-2147483648 ≤ x2 ∧ x2 ≤ 2147483647) → (lfA h u ∧ (x2 = 0 ∨ x2 = 1) ∧ (u 0 68) < (u 0 7)) → ((1000 - (u 0 7)).toNat) = n → mJ l D cA ad 4 cX12_args 4 (some .boolean) 28 [(0, (2, ((0 : Nat) : Int))), (1, (0, (h 0 95))), (2, (0, x2))] [] u Q) := by
    intro n
    induction n using Nat.strongRecOn with
    | _ n ih =>
      skip
      · intro x2 u gu qx2 iv hm
        subst hm
        have ku_at := gF_at gu
        have ku_wTop := gF_wTop gu
        have ku_words := gF_words gu
        have ku_nest := gF_nest gu
        have ku_nodes := gF_nodes gu
        have ku_wants := gF_wants gu
        have ku_uses := gF_uses gu
        have ku_treeTop := gF_treeTop gu
        have ku_quiet := gF_quiet gu
        have ku_inFlow := gF_inFlow gu
        have ku_false1 := gF_false1 gu
        have ku_params := gF_params gu
        have hN := piB_num g p1 p2
        obtain ⟨N1, N2, N3, N4, N5, N6, N7, N8, N9, N10, N11, N12, N13, ⟨NK1, NK2⟩, ND1, ND2, ND3, NU1, NU2⟩ := hN
        have hn1 : (h 0 18) = 0 + pk_sum pk_c s := p2.1.1
        obtain ⟨T1, T2, T3, T4⟩ := bs_31t (by omega) p2
        obtain ⟨lf, lx, lw⟩ := iv
        have l0 := lf.1.1
        have l1 := lf.2.2.1
        have lT : (u 0 109) = (h 0 109) := lf.1.2.2.2.1 0 109 rfl
        have lsz : (u 0 1) = (h 0 1) := lf.1.2.2.2.2 0 1 rfl
        have lco : (u 0 118) = (h 0 118) := lf.1.2.2.2.2 0 118 rfl
        have lst : (u 0 127) = (h 0 127) := lf.1.2.2.2.2 0 127 rfl
        have lq := l0.1
        refine ja_iload_n dargs_28 rfl rfl ?_
        refine ja_if_eq 169 dargs_29 rfl ⟨by omega, by omega⟩ (fun c29 => ?_) (fun c29 => ?_)
        · refine ja_aload_n dargs_169 rfl rfl ?_
          refine ja_iload_n dargs_170 rfl rfl ?_
          refine t_leaf (by decide) (show (0 : Nat) ≤ 8 by decide) dargs_171 gu ⟨by omega, by omega⟩ (show 0 ≤ (h 0 95) ∧ (h 0 95) ≤ 899 by omega) (show (u 0 109) < 400 by omega) ?_
          intro g1
          replace g1 : mo_G Zz (ja_up (ja_up u 70 ((u 0 109).toNat) (h 0 95)) 0 109 ((u 0 109) + 1)) := g1
          show mJ l D cA ad 4 cX12_args 4 (some .boolean) 174 [(0, (2, ((0 : Nat) : Int))), (1, (0, (h 0 95))), (2, (0, x2))] [(0, 1)] (ja_up (ja_up u 70 ((u 0 109).toNat) (h 0 95)) 0 109 ((u 0 109) + 1)) Q
          refine ja_if_eq 190 dargs_174 rfl ⟨by decide, by decide⟩ (fun c174 => absurd c174 (by omega)) (fun c174 => ?_)
          refine ja_aload_n dargs_177 rfl rfl ?_
          refine ja_bipush 41 dargs_178 rfl ?_
          refine t_sign (by decide) (show (0 : Nat) ≤ 8 by decide) dargs_180 g1 ⟨by decide, by decide⟩ ?_ ?_
          · intro k180_0 g2
            replace k180_0 : (u 0 7) < 900 ∧ (u 2 (u 0 7).toNat) = 5 ∧ (u 5 (u 0 7).toNat) = 41 := k180_0
            replace g2 : mo_G Zz (ja_up (ja_up (ja_up u 70 ((u 0 109).toNat) (h 0 95)) 0 109 ((u 0 109) + 1)) 0 7 ((u 0 7) + 1)) := g2
            show mJ l D cA ad 4 cX12_args 4 (some .boolean) 183 [(0, (2, ((0 : Nat) : Int))), (1, (0, (h 0 95))), (2, (0, x2))] [(0, 1)] (ja_up (ja_up (ja_up u 70 ((u 0 109).toNat) (h 0 95)) 0 109 ((u 0 109) + 1)) 0 7 ((u 0 7) + 1)) Q
            refine ja_if_eq 190 dargs_183 rfl ⟨by decide, by decide⟩ (fun c183 => absurd c183 (by omega)) (fun c183 => ?_)
            refine ja_iconst dargs_186 ?_
            refine ja_goto 191 dargs_187 rfl ?_
            refine ja_zreturn dargs_191 rfl (by omega) ?_
            exact mo_fin (by omega) rfl (k1 (ja_up (ja_up (ja_up u 70 ((u 0 109).toNat) (h 0 95)) 0 109 ((u 0 109) + 1)) 0 7 ((u 0 7) + 1)) (ab_leaf g p1 p2 (lfA_G lf)) g2)
          · intro h3 k180_1 g4
            replace k180_1 : 0 < (h3 0 8) ∧ (h3 0 1) = (u 0 1) ∧ (h3 0 118) = (u 0 118) ∧ (h3 0 127) = (u 0 127) := k180_1
            refine ja_if_eq 190 dargs_183 rfl ⟨by decide, by decide⟩ (fun c183 => ?_) (fun c183 => absurd c183 (by omega))
            refine ja_iconst dargs_190 ?_
            refine ja_zreturn dargs_191 rfl (by omega) ?_
            exact mo_fin (by omega) rfl (k2 h3 (by omega) g4)
        · have hno := ku_nodes
          refine ja_aload_n dargs_32 rfl rfl ?_
          refine fa_nodeMany dargs_33 ?_
          refine ja_iload_n dargs_36 rfl rfl ?_
          refine il_nodeMany (v := u 62 (h 0 95).toNat) rfl ⟨by omega, by omega⟩ dargs_37 ?_
          have f5 := gC_nodeMany gu (h 0 95).toNat
          refine ja_bipush 6 dargs_38 rfl ?_
          refine ja_icmp_ne 65 dargs_40 rfl ⟨by omega, by omega⟩ ⟨by decide, by decide⟩ (fun c40 => ?_) (fun c40 => ?_)
          · refine ja_aload_n dargs_65 rfl rfl ?_
            refine fg_at (v := u 0 7) rfl dargs_66 ?_
            have f6 := gF_at gu
            refine ja_istore_n dargs_69 rfl (by decide) (L2 := [(3, (0, (u 0 7))), (0, (2, ((0 : Nat) : Int))), (1, (0, (h 0 95))), (2, (0, x2))]) rfl ?_
            refine ja_aload_n dargs_70 rfl rfl ?_
            refine ja_bipush 42 dargs_71 rfl ?_
            refine t_isSign (by decide) (show (0 : Nat) ≤ 8 by decide) dargs_73 gu ⟨by decide, by decide⟩ ?_
            intro w7 k73_0
            refine ja_if_eq 105 dargs_76 rfl ⟨by omega, by omega⟩ (fun c76 => ?_) (fun c76 => ?_)
            · replace k73_0 := is0 k73_0 c76
              refine ja_aload_n dargs_105 rfl rfl ?_
              refine t_name (by decide) (show (0 : Nat) ≤ 8 by decide) dargs_106 gu  ?_ ?_
              · intro k106_0 g8
                replace k106_0 : (u 0 7) < 900 ∧ (u 2 (u 0 7).toNat) = 2 := k106_0
                replace g8 : mo_G Zz (ja_up u 0 7 ((u 0 7) + 1)) := g8
                show mJ l D cA ad 4 cX12_args 4 (some .boolean) 109 [(3, (0, (u 0 7))), (0, (2, ((0 : Nat) : Int))), (1, (0, (h 0 95))), (2, (0, x2))] [(0, 1)] (ja_up u 0 7 ((u 0 7) + 1)) Q
                refine ja_if_ne 114 dargs_109 rfl ⟨by decide, by decide⟩ (fun c109 => ?_) (fun c109 => absurd c109 (by omega))
                refine ja_aload_n dargs_114 rfl rfl ?_
                refine fa_nodeArg dargs_115 ?_
                refine ja_bipush 7 dargs_118 rfl ?_
                refine ja_iload_n dargs_120 rfl rfl ?_
                refine ja_imul dargs_121 ?_
                refine ja_aload_n dargs_122 rfl rfl ?_
                refine fa_nodeMany dargs_123 ?_
                refine ja_iload_n dargs_126 rfl rfl ?_
                refine il_nodeMany (v := u 62 (h 0 95).toNat) rfl ⟨by omega, by omega⟩ dargs_127 ?_
                refine ja_iadd dargs_128 ?_
                refine ja_aload_n dargs_129 rfl rfl ?_
                refine ja_iload_n dargs_130 rfl rfl ?_
                refine ja_iload_n dargs_131 rfl rfl ?_
                refine t_named (by decide) (show (2 : Nat) ≤ 8 by decide) dargs_132 g8 ⟨by omega, by omega⟩ ⟨by omega, by omega⟩ (show 0 ≤ (h 0 95) ∧ (h 0 95) ≤ 899 by omega) (show 0 ≤ (u 0 7) ∧ (u 0 7) ≤ 900 by omega) (show (u 0 68) < 900 by omega) ?_ ?_
                · intro w9 w10 w11 w12 w13 k132_0 g14
                  replace k132_0 : 0 ≤ w9 ∧ w9 < (u 0 82) ∧ 0 ≤ w10 ∧ w10 ≤ 8 ∧ (1 ≤ w10 ∨ w10 = (u 0 11)) ∧ -2147483648 ≤ w11 ∧ w11 ≤ 2147483647 ∧ 0 ≤ w12 ∧ w12 ≤ 1 ∧ -2147483648 ≤ w13 ∧ w13 ≤ 2147483647 := k132_0
                  replace g14 : mo_G Zz (ja_up (ja_up (ja_up (ja_up (ja_up u 0 7 ((u 0 7) + 1)) 0 11 w10) 0 12 w11) 66 ((h 0 95).toNat) w12) 65 ((h 0 95).toNat) w13) := g14
                  show mJ l D cA ad 4 cX12_args 4 (some .boolean) 135 [(3, (0, (u 0 7))), (0, (2, ((0 : Nat) : Int))), (1, (0, (h 0 95))), (2, (0, x2))] [(0, w9), (0, ((7 * (h 0 95)) + (u 62 (h 0 95).toNat))), (2, ((63 : Nat) : Int))] (ja_up (ja_up (ja_up (ja_up (ja_up u 0 7 ((u 0 7) + 1)) 0 11 w10) 0 12 w11) 66 ((h 0 95).toNat) w12) 65 ((h 0 95).toNat) w13) Q
                  have g15 := gW_nodeArg g14 ((7 * (h 0 95)) + (u 62 (h 0 95).toNat)).toNat (x := w9) ⟨by omega, by omega⟩
                  refine is_nodeArg ⟨by omega, by omega⟩ dargs_135 ?_
                  refine ja_aload_n dargs_136 rfl rfl ?_
                  refine fa_nodeMany dargs_137 ?_
                  refine ja_iload_n dargs_140 rfl rfl ?_
                  refine ja_dup2 dargs_141 (by first | decide | (dsimp only; decide)) (by first | decide | (dsimp only; decide)) ?_
                  refine il_nodeMany (v := u 62 (h 0 95).toNat) rfl ⟨by omega, by omega⟩ dargs_142 ?_
                  refine ja_iconst dargs_143 ?_
                  refine ja_iadd dargs_144 ?_
                  have g16 := gW_nodeMany g15 (h 0 95).toNat (x := (u 62 (h 0 95).toNat) + 1) ⟨by omega, by omega⟩
                  refine is_nodeMany ⟨by omega, by omega⟩ dargs_145 ?_
                  refine ja_aload_n dargs_146 rfl rfl ?_
                  refine ja_bipush 44 dargs_147 rfl ?_
                  refine t_isSign (by decide) (show (0 : Nat) ≤ 8 by decide) dargs_149 g16 ⟨by decide, by decide⟩ ?_
                  intro w17 k149_0
                  replace k149_0 : (w17 = 1 ∧ (u 2 ((u 0 7) + 1).toNat) = 5 ∧ (u 5 ((u 0 7) + 1).toNat) = 44) ∨ (w17 = 0 ∧ ¬ ((u 2 ((u 0 7) + 1).toNat) = 5 ∧ (u 5 ((u 0 7) + 1).toNat) = 44)) := k149_0
                  refine ja_istore_n dargs_152 rfl (by decide) (L2 := [(2, (0, w17)), (3, (0, (u 0 7))), (0, (2, ((0 : Nat) : Int))), (1, (0, (h 0 95)))]) rfl ?_
                  refine ja_iload_n dargs_153 rfl rfl ?_
                  refine ja_if_eq 166 dargs_154 rfl ⟨by omega, by omega⟩ (fun c154 => ?_) (fun c154 => ?_)
                  · replace k149_0 := is0 k149_0 c154
                    refine ja_goto 28 dargs_166 rfl ?_
                    exact ja_wk (fun q hq => by simp only [List.mem_cons, List.not_mem_nil, or_false] at hq; rcases hq with rfl | rfl | rfl <;> rfl) ((ih ((1000 - ((u 0 7) + 1)).toNat) (by omega)) w17 (ja_up (ja_up (ja_up (ja_up (ja_up (ja_up (ja_up u 0 7 ((u 0 7) + 1)) 0 11 w10) 0 12 w11) 66 ((h 0 95).toNat) w12) 65 ((h 0 95).toNat) w13) 63 (((7 * (h 0 95)) + (u 62 (h 0 95).toNat)).toNat) w9) 62 ((h 0 95).toNat) ((u 62 (h 0 95).toNat) + 1)) g16 ⟨by omega, by omega⟩ (⟨(lfA_bind g lf (by omega) (by omega) (by omega)), by omega, (show (u 0 68) < ((u 0 7) + 1) by omega)⟩) rfl)
                  · have z154 := is1v k149_0 c154
                    replace k149_0 := is1 k149_0 c154
                    refine ja_aload_n dargs_157 rfl rfl ?_
                    refine t_take (by decide) (show (0 : Nat) ≤ 8 by decide) dargs_158 g16  ?_ ?_
                    · intro k158_0 g18
                      replace k158_0 : ((u 0 7) + 1) < 900 := k158_0
                      replace g18 : mo_G Zz (ja_up (ja_up (ja_up (ja_up (ja_up (ja_up (ja_up (ja_up u 0 7 ((u 0 7) + 1)) 0 11 w10) 0 12 w11) 66 ((h 0 95).toNat) w12) 65 ((h 0 95).toNat) w13) 63 (((7 * (h 0 95)) + (u 62 (h 0 95).toNat)).toNat) w9) 62 ((h 0 95).toNat) ((u 62 (h 0 95).toNat) + 1)) 0 7 (((u 0 7) + 1) + 1)) := g18
                      show mJ l D cA ad 4 cX12_args 4 (some .boolean) 161 [(2, (0, w17)), (3, (0, (u 0 7))), (0, (2, ((0 : Nat) : Int))), (1, (0, (h 0 95)))] [(0, 1)] (ja_up (ja_up (ja_up (ja_up (ja_up (ja_up (ja_up (ja_up u 0 7 ((u 0 7) + 1)) 0 11 w10) 0 12 w11) 66 ((h 0 95).toNat) w12) 65 ((h 0 95).toNat) w13) 63 (((7 * (h 0 95)) + (u 62 (h 0 95).toNat)).toNat) w9) 62 ((h 0 95).toNat) ((u 62 (h 0 95).toNat) + 1)) 0 7 (((u 0 7) + 1) + 1)) Q
                      refine ja_if_ne 166 dargs_161 rfl ⟨by decide, by decide⟩ (fun c161 => ?_) (fun c161 => absurd c161 (by omega))
                      refine ja_goto 28 dargs_166 rfl ?_
                      exact ja_wk (fun q hq => by simp only [List.mem_cons, List.not_mem_nil, or_false] at hq; rcases hq with rfl | rfl | rfl <;> rfl) ((ih ((1000 - (((u 0 7) + 1) + 1)).toNat) (by omega)) w17 (ja_up (ja_up (ja_up (ja_up (ja_up (ja_up (ja_up (ja_up u 0 7 ((u 0 7) + 1)) 0 11 w10) 0 12 w11) 66 ((h 0 95).toNat) w12) 65 ((h 0 95).toNat) w13) 63 (((7 * (h 0 95)) + (u 62 (h 0 95).toNat)).toNat) w9) 62 ((h 0 95).toNat) ((u 62 (h 0 95).toNat) + 1)) 0 7 (((u 0 7) + 1) + 1)) g18 ⟨by omega, by omega⟩ (⟨(lfA_tk (lfA_bind g lf (by omega) (by omega) (by omega))), by omega, (show (u 0 68) < (((u 0 7) + 1) + 1) by omega)⟩) rfl)
                    · intro h19 k158_1 g20
                      replace k158_1 : 0 < (h19 0 8) ∧ (h19 0 1) = (u 0 1) ∧ (h19 0 118) = (u 0 118) ∧ (h19 0 127) = (u 0 127) := k158_1
                      refine ja_if_ne 166 dargs_161 rfl ⟨by decide, by decide⟩ (fun c161 => absurd c161 (by omega)) (fun c161 => ?_)
                      refine ja_iconst dargs_164 ?_
                      refine ja_zreturn dargs_165 rfl (by omega) ?_
                      exact mo_fin (by omega) rfl (k2 h19 (by omega) g20)
                · intro g21
                  replace g21 : mo_G Zz (ja_up (ja_up (ja_up (ja_up (ja_up u 0 7 ((u 0 7) + 1)) 45 ((u 0 68).toNat) 0) 44 ((u 0 68).toNat) (u 0 7)) 46 ((u 0 68).toNat) 0) 0 68 ((u 0 68) + 1)) := g21
                  show mJ l D cA ad 4 cX12_args 4 (some .boolean) 135 [(3, (0, (u 0 7))), (0, (2, ((0 : Nat) : Int))), (1, (0, (h 0 95))), (2, (0, x2))] [(0, (1000 + (u 0 7))), (0, ((7 * (h 0 95)) + (u 62 (h 0 95).toNat))), (2, ((63 : Nat) : Int))] (ja_up (ja_up (ja_up (ja_up (ja_up u 0 7 ((u 0 7) + 1)) 45 ((u 0 68).toNat) 0) 44 ((u 0 68).toNat) (u 0 7)) 46 ((u 0 68).toNat) 0) 0 68 ((u 0 68) + 1)) Q
                  have g22 := gW_nodeArg g21 ((7 * (h 0 95)) + (u 62 (h 0 95).toNat)).toNat (x := 1000 + (u 0 7)) ⟨by omega, by omega⟩
                  refine is_nodeArg ⟨by omega, by omega⟩ dargs_135 ?_
                  refine ja_aload_n dargs_136 rfl rfl ?_
                  refine fa_nodeMany dargs_137 ?_
                  refine ja_iload_n dargs_140 rfl rfl ?_
                  refine ja_dup2 dargs_141 (by first | decide | (dsimp only; decide)) (by first | decide | (dsimp only; decide)) ?_
                  refine il_nodeMany (v := u 62 (h 0 95).toNat) rfl ⟨by omega, by omega⟩ dargs_142 ?_
                  refine ja_iconst dargs_143 ?_
                  refine ja_iadd dargs_144 ?_
                  have g23 := gW_nodeMany g22 (h 0 95).toNat (x := (u 62 (h 0 95).toNat) + 1) ⟨by omega, by omega⟩
                  refine is_nodeMany ⟨by omega, by omega⟩ dargs_145 ?_
                  refine ja_aload_n dargs_146 rfl rfl ?_
                  refine ja_bipush 44 dargs_147 rfl ?_
                  refine t_isSign (by decide) (show (0 : Nat) ≤ 8 by decide) dargs_149 g23 ⟨by decide, by decide⟩ ?_
                  intro w24 k149_0
                  replace k149_0 : (w24 = 1 ∧ (u 2 ((u 0 7) + 1).toNat) = 5 ∧ (u 5 ((u 0 7) + 1).toNat) = 44) ∨ (w24 = 0 ∧ ¬ ((u 2 ((u 0 7) + 1).toNat) = 5 ∧ (u 5 ((u 0 7) + 1).toNat) = 44)) := k149_0
                  refine ja_istore_n dargs_152 rfl (by decide) (L2 := [(2, (0, w24)), (3, (0, (u 0 7))), (0, (2, ((0 : Nat) : Int))), (1, (0, (h 0 95)))]) rfl ?_
                  refine ja_iload_n dargs_153 rfl rfl ?_
                  refine ja_if_eq 166 dargs_154 rfl ⟨by omega, by omega⟩ (fun c154 => ?_) (fun c154 => ?_)
                  · replace k149_0 := is0 k149_0 c154
                    refine ja_goto 28 dargs_166 rfl ?_
                    exact ja_wk (fun q hq => by simp only [List.mem_cons, List.not_mem_nil, or_false] at hq; rcases hq with rfl | rfl | rfl <;> rfl) ((ih ((1000 - ((u 0 7) + 1)).toNat) (by omega)) w24 (ja_up (ja_up (ja_up (ja_up (ja_up (ja_up (ja_up u 0 7 ((u 0 7) + 1)) 45 ((u 0 68).toNat) 0) 44 ((u 0 68).toNat) (u 0 7)) 46 ((u 0 68).toNat) 0) 0 68 ((u 0 68) + 1)) 63 (((7 * (h 0 95)) + (u 62 (h 0 95).toNat)).toNat) (1000 + (u 0 7))) 62 ((h 0 95).toNat) ((u 62 (h 0 95).toNat) + 1)) g23 ⟨by omega, by omega⟩ (⟨(lfA_want g lf (by omega) (by omega) (by omega)), by omega, (show ((u 0 68) + 1) < ((u 0 7) + 1) by omega)⟩) rfl)
                  · have z154 := is1v k149_0 c154
                    replace k149_0 := is1 k149_0 c154
                    refine ja_aload_n dargs_157 rfl rfl ?_
                    refine t_take (by decide) (show (0 : Nat) ≤ 8 by decide) dargs_158 g23  ?_ ?_
                    · intro k158_0 g25
                      replace k158_0 : ((u 0 7) + 1) < 900 := k158_0
                      replace g25 : mo_G Zz (ja_up (ja_up (ja_up (ja_up (ja_up (ja_up (ja_up (ja_up u 0 7 ((u 0 7) + 1)) 45 ((u 0 68).toNat) 0) 44 ((u 0 68).toNat) (u 0 7)) 46 ((u 0 68).toNat) 0) 0 68 ((u 0 68) + 1)) 63 (((7 * (h 0 95)) + (u 62 (h 0 95).toNat)).toNat) (1000 + (u 0 7))) 62 ((h 0 95).toNat) ((u 62 (h 0 95).toNat) + 1)) 0 7 (((u 0 7) + 1) + 1)) := g25
                      show mJ l D cA ad 4 cX12_args 4 (some .boolean) 161 [(2, (0, w24)), (3, (0, (u 0 7))), (0, (2, ((0 : Nat) : Int))), (1, (0, (h 0 95)))] [(0, 1)] (ja_up (ja_up (ja_up (ja_up (ja_up (ja_up (ja_up (ja_up u 0 7 ((u 0 7) + 1)) 45 ((u 0 68).toNat) 0) 44 ((u 0 68).toNat) (u 0 7)) 46 ((u 0 68).toNat) 0) 0 68 ((u 0 68) + 1)) 63 (((7 * (h 0 95)) + (u 62 (h 0 95).toNat)).toNat) (1000 + (u 0 7))) 62 ((h 0 95).toNat) ((u 62 (h 0 95).toNat) + 1)) 0 7 (((u 0 7) + 1) + 1)) Q
                      refine ja_if_ne 166 dargs_161 rfl ⟨by decide, by decide⟩ (fun c161 => ?_) (fun c161 => absurd c161 (by omega))
                      refine ja_goto 28 dargs_166 rfl ?_
                      exact ja_wk (fun q hq => by simp only [List.mem_cons, List.not_mem_nil, or_false] at hq; rcases hq with rfl | rfl | rfl <;> rfl) ((ih ((1000 - (((u 0 7) + 1) + 1)).toNat) (by omega)) w24 (ja_up (ja_up (ja_up (ja_up (ja_up (ja_up (ja_up (ja_up u 0 7 ((u 0 7) + 1)) 45 ((u 0 68).toNat) 0) 44 ((u 0 68).toNat) (u 0 7)) 46 ((u 0 68).toNat) 0) 0 68 ((u 0 68) + 1)) 63 (((7 * (h 0 95)) + (u 62 (h 0 95).toNat)).toNat) (1000 + (u 0 7))) 62 ((h 0 95).toNat) ((u 62 (h 0 95).toNat) + 1)) 0 7 (((u 0 7) + 1) + 1)) g25 ⟨by omega, by omega⟩ (⟨(lfA_tk (lfA_want g lf (by omega) (by omega) (by omega))), by omega, (show ((u 0 68) + 1) < (((u 0 7) + 1) + 1) by omega)⟩) rfl)
                    · intro h26 k158_1 g27
                      replace k158_1 : 0 < (h26 0 8) ∧ (h26 0 1) = (u 0 1) ∧ (h26 0 118) = (u 0 118) ∧ (h26 0 127) = (u 0 127) := k158_1
                      refine ja_if_ne 166 dargs_161 rfl ⟨by decide, by decide⟩ (fun c161 => absurd c161 (by omega)) (fun c161 => ?_)
                      refine ja_iconst dargs_164 ?_
                      refine ja_zreturn dargs_165 rfl (by omega) ?_
                      exact mo_fin (by omega) rfl (k2 h26 (by omega) g27)
              · intro h28 k106_1 g29
                refine ja_if_ne 114 dargs_109 rfl ⟨by decide, by decide⟩ (fun c109 => absurd c109 (by omega)) (fun c109 => ?_)
                refine ja_iconst dargs_112 ?_
                refine ja_zreturn dargs_113 rfl (by omega) ?_
                exact mo_fin (by omega) rfl (k2 h28 (by omega) g29)
            · have z76 := is1v k73_0 c76
              replace k73_0 := is1 k73_0 c76
              refine ja_aload_n dargs_79 rfl rfl ?_
              refine fa_nodeArg dargs_80 ?_
              refine ja_bipush 7 dargs_83 rfl ?_
              refine ja_iload_n dargs_85 rfl rfl ?_
              refine ja_imul dargs_86 ?_
              refine ja_aload_n dargs_87 rfl rfl ?_
              refine fa_nodeMany dargs_88 ?_
              refine ja_iload_n dargs_91 rfl rfl ?_
              refine il_nodeMany (v := u 62 (h 0 95).toNat) rfl ⟨by omega, by omega⟩ dargs_92 ?_
              refine ja_iadd dargs_93 ?_
              refine ja_iconst dargs_94 ?_
              have g30 := gW_nodeArg gu ((7 * (h 0 95)) + (u 62 (h 0 95).toNat)).toNat (x := (-1)) ⟨by decide, by decide⟩
              refine is_nodeArg ⟨by omega, by omega⟩ dargs_95 ?_
              refine ja_aload_n dargs_96 rfl rfl ?_
              refine t_take (by decide) (show (0 : Nat) ≤ 8 by decide) dargs_97 g30  ?_ ?_
              · intro k97_0 g31
                replace k97_0 : (u 0 7) < 900 := k97_0
                replace g31 : mo_G Zz (ja_up (ja_up u 63 (((7 * (h 0 95)) + (u 62 (h 0 95).toNat)).toNat) (-1)) 0 7 ((u 0 7) + 1)) := g31
                show mJ l D cA ad 4 cX12_args 4 (some .boolean) 100 [(3, (0, (u 0 7))), (0, (2, ((0 : Nat) : Int))), (1, (0, (h 0 95))), (2, (0, x2))] [(0, 1)] (ja_up (ja_up u 63 (((7 * (h 0 95)) + (u 62 (h 0 95).toNat)).toNat) (-1)) 0 7 ((u 0 7) + 1)) Q
                refine ja_if_ne 136 dargs_100 rfl ⟨by decide, by decide⟩ (fun c100 => ?_) (fun c100 => absurd c100 (by omega))
                refine ja_aload_n dargs_136 rfl rfl ?_
                refine fa_nodeMany dargs_137 ?_
                refine ja_iload_n dargs_140 rfl rfl ?_
                refine ja_dup2 dargs_141 (by first | decide | (dsimp only; decide)) (by first | decide | (dsimp only; decide)) ?_
                refine il_nodeMany (v := u 62 (h 0 95).toNat) rfl ⟨by omega, by omega⟩ dargs_142 ?_
                refine ja_iconst dargs_143 ?_
                refine ja_iadd dargs_144 ?_
                have g32 := gW_nodeMany g31 (h 0 95).toNat (x := (u 62 (h 0 95).toNat) + 1) ⟨by omega, by omega⟩
                refine is_nodeMany ⟨by omega, by omega⟩ dargs_145 ?_
                refine ja_aload_n dargs_146 rfl rfl ?_
                refine ja_bipush 44 dargs_147 rfl ?_
                refine t_isSign (by decide) (show (0 : Nat) ≤ 8 by decide) dargs_149 g32 ⟨by decide, by decide⟩ ?_
                intro w33 k149_0
                replace k149_0 : (w33 = 1 ∧ (u 2 ((u 0 7) + 1).toNat) = 5 ∧ (u 5 ((u 0 7) + 1).toNat) = 44) ∨ (w33 = 0 ∧ ¬ ((u 2 ((u 0 7) + 1).toNat) = 5 ∧ (u 5 ((u 0 7) + 1).toNat) = 44)) := k149_0
                refine ja_istore_n dargs_152 rfl (by decide) (L2 := [(2, (0, w33)), (3, (0, (u 0 7))), (0, (2, ((0 : Nat) : Int))), (1, (0, (h 0 95)))]) rfl ?_
                refine ja_iload_n dargs_153 rfl rfl ?_
                refine ja_if_eq 166 dargs_154 rfl ⟨by omega, by omega⟩ (fun c154 => ?_) (fun c154 => ?_)
                · replace k149_0 := is0 k149_0 c154
                  refine ja_goto 28 dargs_166 rfl ?_
                  exact ja_wk (fun q hq => by simp only [List.mem_cons, List.not_mem_nil, or_false] at hq; rcases hq with rfl | rfl | rfl <;> rfl) ((ih ((1000 - ((u 0 7) + 1)).toNat) (by omega)) w33 (ja_up (ja_up (ja_up u 63 (((7 * (h 0 95)) + (u 62 (h 0 95).toNat)).toNat) (-1)) 0 7 ((u 0 7) + 1)) 62 ((h 0 95).toNat) ((u 62 (h 0 95).toNat) + 1)) g32 ⟨by omega, by omega⟩ (⟨(lfA_star g lf (by omega)), by omega, (show (u 0 68) < ((u 0 7) + 1) by omega)⟩) rfl)
                · have z154 := is1v k149_0 c154
                  replace k149_0 := is1 k149_0 c154
                  refine ja_aload_n dargs_157 rfl rfl ?_
                  refine t_take (by decide) (show (0 : Nat) ≤ 8 by decide) dargs_158 g32  ?_ ?_
                  · intro k158_0 g34
                    replace k158_0 : ((u 0 7) + 1) < 900 := k158_0
                    replace g34 : mo_G Zz (ja_up (ja_up (ja_up (ja_up u 63 (((7 * (h 0 95)) + (u 62 (h 0 95).toNat)).toNat) (-1)) 0 7 ((u 0 7) + 1)) 62 ((h 0 95).toNat) ((u 62 (h 0 95).toNat) + 1)) 0 7 (((u 0 7) + 1) + 1)) := g34
                    show mJ l D cA ad 4 cX12_args 4 (some .boolean) 161 [(2, (0, w33)), (3, (0, (u 0 7))), (0, (2, ((0 : Nat) : Int))), (1, (0, (h 0 95)))] [(0, 1)] (ja_up (ja_up (ja_up (ja_up u 63 (((7 * (h 0 95)) + (u 62 (h 0 95).toNat)).toNat) (-1)) 0 7 ((u 0 7) + 1)) 62 ((h 0 95).toNat) ((u 62 (h 0 95).toNat) + 1)) 0 7 (((u 0 7) + 1) + 1)) Q
                    refine ja_if_ne 166 dargs_161 rfl ⟨by decide, by decide⟩ (fun c161 => ?_) (fun c161 => absurd c161 (by omega))
                    refine ja_goto 28 dargs_166 rfl ?_
                    exact ja_wk (fun q hq => by simp only [List.mem_cons, List.not_mem_nil, or_false] at hq; rcases hq with rfl | rfl | rfl <;> rfl) ((ih ((1000 - (((u 0 7) + 1) + 1)).toNat) (by omega)) w33 (ja_up (ja_up (ja_up (ja_up u 63 (((7 * (h 0 95)) + (u 62 (h 0 95).toNat)).toNat) (-1)) 0 7 ((u 0 7) + 1)) 62 ((h 0 95).toNat) ((u 62 (h 0 95).toNat) + 1)) 0 7 (((u 0 7) + 1) + 1)) g34 ⟨by omega, by omega⟩ (⟨(lfA_tk (lfA_star g lf (by omega))), by omega, (show (u 0 68) < (((u 0 7) + 1) + 1) by omega)⟩) rfl)
                  · intro h35 k158_1 g36
                    replace k158_1 : 0 < (h35 0 8) ∧ (h35 0 1) = (u 0 1) ∧ (h35 0 118) = (u 0 118) ∧ (h35 0 127) = (u 0 127) := k158_1
                    refine ja_if_ne 166 dargs_161 rfl ⟨by decide, by decide⟩ (fun c161 => absurd c161 (by omega)) (fun c161 => ?_)
                    refine ja_iconst dargs_164 ?_
                    refine ja_zreturn dargs_165 rfl (by omega) ?_
                    exact mo_fin (by omega) rfl (k2 h35 (by omega) g36)
              · intro h37 k97_1 g38
                replace k97_1 : 0 < (h37 0 8) ∧ (h37 0 1) = (u 0 1) ∧ (h37 0 118) = (u 0 118) ∧ (h37 0 127) = (u 0 127) := k97_1
                refine ja_if_ne 136 dargs_100 rfl ⟨by decide, by decide⟩ (fun c100 => absurd c100 (by omega)) (fun c100 => ?_)
                refine ja_iconst dargs_103 ?_
                refine ja_zreturn dargs_104 rfl (by omega) ?_
                exact mo_fin (by omega) rfl (k2 h37 (by omega) g38)
          · refine ja_aload_n dargs_43 rfl rfl ?_
            refine t_isName (by decide) (show (0 : Nat) ≤ 8 by decide) dargs_44 gu  ?_
            intro w39 k44_0
            refine ja_if_ne 59 dargs_47 rfl ⟨by omega, by omega⟩ (fun c47 => ?_) (fun c47 => ?_)
            · have z47 := is1v k44_0 c47
              replace k44_0 := is1 k44_0 c47
              refine ja_aload_n dargs_59 rfl rfl ?_
              refine ja_iconst dargs_60 ?_
              refine t_halt (by decide) (show (0 : Nat) ≤ 8 by decide) dargs_61 gu ⟨by decide, by decide⟩ (show 1 ≤ 3 ∧ 3 ≤ 8 by omega) ?_
              intro h40 k61_0 g41
              refine ja_zreturn dargs_64 rfl (by omega) ?_
              exact mo_fin (by omega) rfl (k2 h40 (by omega) g41)
            · replace k44_0 := is0 k44_0 c47
              refine ja_aload_n dargs_50 rfl rfl ?_
              refine ja_bipush 42 dargs_51 rfl ?_
              refine t_isSign (by decide) (show (0 : Nat) ≤ 8 by decide) dargs_53 gu ⟨by decide, by decide⟩ ?_
              intro w42 k53_0
              refine ja_if_eq 65 dargs_56 rfl ⟨by omega, by omega⟩ (fun c56 => ?_) (fun c56 => ?_)
              · replace k53_0 := is0 k53_0 c56
                refine ja_aload_n dargs_65 rfl rfl ?_
                refine fg_at (v := u 0 7) rfl dargs_66 ?_
                have f43 := gF_at gu
                refine ja_istore_n dargs_69 rfl (by decide) (L2 := [(3, (0, (u 0 7))), (0, (2, ((0 : Nat) : Int))), (1, (0, (h 0 95))), (2, (0, x2))]) rfl ?_
                refine ja_aload_n dargs_70 rfl rfl ?_
                refine ja_bipush 42 dargs_71 rfl ?_
                refine t_isSign (by decide) (show (0 : Nat) ≤ 8 by decide) dargs_73 gu ⟨by decide, by decide⟩ ?_
                intro w44 k73_0
                refine ja_if_eq 105 dargs_76 rfl ⟨by omega, by omega⟩ (fun c76 => ?_) (fun c76 => ?_)
                · replace k73_0 := is0 k73_0 c76
                  refine ja_aload_n dargs_105 rfl rfl ?_
                  refine t_name (by decide) (show (0 : Nat) ≤ 8 by decide) dargs_106 gu  ?_ ?_
                  · intro k106_0 g45
                    replace k106_0 : (u 0 7) < 900 ∧ (u 2 (u 0 7).toNat) = 2 := k106_0
                    replace g45 : mo_G Zz (ja_up u 0 7 ((u 0 7) + 1)) := g45
                    show mJ l D cA ad 4 cX12_args 4 (some .boolean) 109 [(3, (0, (u 0 7))), (0, (2, ((0 : Nat) : Int))), (1, (0, (h 0 95))), (2, (0, x2))] [(0, 1)] (ja_up u 0 7 ((u 0 7) + 1)) Q
                    refine ja_if_ne 114 dargs_109 rfl ⟨by decide, by decide⟩ (fun c109 => ?_) (fun c109 => absurd c109 (by omega))
                    refine ja_aload_n dargs_114 rfl rfl ?_
                    refine fa_nodeArg dargs_115 ?_
                    refine ja_bipush 7 dargs_118 rfl ?_
                    refine ja_iload_n dargs_120 rfl rfl ?_
                    refine ja_imul dargs_121 ?_
                    refine ja_aload_n dargs_122 rfl rfl ?_
                    refine fa_nodeMany dargs_123 ?_
                    refine ja_iload_n dargs_126 rfl rfl ?_
                    refine il_nodeMany (v := u 62 (h 0 95).toNat) rfl ⟨by omega, by omega⟩ dargs_127 ?_
                    refine ja_iadd dargs_128 ?_
                    refine ja_aload_n dargs_129 rfl rfl ?_
                    refine ja_iload_n dargs_130 rfl rfl ?_
                    refine ja_iload_n dargs_131 rfl rfl ?_
                    refine t_named (by decide) (show (2 : Nat) ≤ 8 by decide) dargs_132 g45 ⟨by omega, by omega⟩ ⟨by omega, by omega⟩ (show 0 ≤ (h 0 95) ∧ (h 0 95) ≤ 899 by omega) (show 0 ≤ (u 0 7) ∧ (u 0 7) ≤ 900 by omega) (show (u 0 68) < 900 by omega) ?_ ?_
                    · intro w46 w47 w48 w49 w50 k132_0 g51
                      replace k132_0 : 0 ≤ w46 ∧ w46 < (u 0 82) ∧ 0 ≤ w47 ∧ w47 ≤ 8 ∧ (1 ≤ w47 ∨ w47 = (u 0 11)) ∧ -2147483648 ≤ w48 ∧ w48 ≤ 2147483647 ∧ 0 ≤ w49 ∧ w49 ≤ 1 ∧ -2147483648 ≤ w50 ∧ w50 ≤ 2147483647 := k132_0
                      replace g51 : mo_G Zz (ja_up (ja_up (ja_up (ja_up (ja_up u 0 7 ((u 0 7) + 1)) 0 11 w47) 0 12 w48) 66 ((h 0 95).toNat) w49) 65 ((h 0 95).toNat) w50) := g51
                      show mJ l D cA ad 4 cX12_args 4 (some .boolean) 135 [(3, (0, (u 0 7))), (0, (2, ((0 : Nat) : Int))), (1, (0, (h 0 95))), (2, (0, x2))] [(0, w46), (0, ((7 * (h 0 95)) + (u 62 (h 0 95).toNat))), (2, ((63 : Nat) : Int))] (ja_up (ja_up (ja_up (ja_up (ja_up u 0 7 ((u 0 7) + 1)) 0 11 w47) 0 12 w48) 66 ((h 0 95).toNat) w49) 65 ((h 0 95).toNat) w50) Q
                      have g52 := gW_nodeArg g51 ((7 * (h 0 95)) + (u 62 (h 0 95).toNat)).toNat (x := w46) ⟨by omega, by omega⟩
                      refine is_nodeArg ⟨by omega, by omega⟩ dargs_135 ?_
                      refine ja_aload_n dargs_136 rfl rfl ?_
                      refine fa_nodeMany dargs_137 ?_
                      refine ja_iload_n dargs_140 rfl rfl ?_
                      refine ja_dup2 dargs_141 (by first | decide | (dsimp only; decide)) (by first | decide | (dsimp only; decide)) ?_
                      refine il_nodeMany (v := u 62 (h 0 95).toNat) rfl ⟨by omega, by omega⟩ dargs_142 ?_
                      refine ja_iconst dargs_143 ?_
                      refine ja_iadd dargs_144 ?_
                      have g53 := gW_nodeMany g52 (h 0 95).toNat (x := (u 62 (h 0 95).toNat) + 1) ⟨by omega, by omega⟩
                      refine is_nodeMany ⟨by omega, by omega⟩ dargs_145 ?_
                      refine ja_aload_n dargs_146 rfl rfl ?_
                      refine ja_bipush 44 dargs_147 rfl ?_
                      refine t_isSign (by decide) (show (0 : Nat) ≤ 8 by decide) dargs_149 g53 ⟨by decide, by decide⟩ ?_
                      intro w54 k149_0
                      replace k149_0 : (w54 = 1 ∧ (u 2 ((u 0 7) + 1).toNat) = 5 ∧ (u 5 ((u 0 7) + 1).toNat) = 44) ∨ (w54 = 0 ∧ ¬ ((u 2 ((u 0 7) + 1).toNat) = 5 ∧ (u 5 ((u 0 7) + 1).toNat) = 44)) := k149_0
                      refine ja_istore_n dargs_152 rfl (by decide) (L2 := [(2, (0, w54)), (3, (0, (u 0 7))), (0, (2, ((0 : Nat) : Int))), (1, (0, (h 0 95)))]) rfl ?_
                      refine ja_iload_n dargs_153 rfl rfl ?_
                      refine ja_if_eq 166 dargs_154 rfl ⟨by omega, by omega⟩ (fun c154 => ?_) (fun c154 => ?_)
                      · replace k149_0 := is0 k149_0 c154
                        refine ja_goto 28 dargs_166 rfl ?_
                        exact ja_wk (fun q hq => by simp only [List.mem_cons, List.not_mem_nil, or_false] at hq; rcases hq with rfl | rfl | rfl <;> rfl) ((ih ((1000 - ((u 0 7) + 1)).toNat) (by omega)) w54 (ja_up (ja_up (ja_up (ja_up (ja_up (ja_up (ja_up u 0 7 ((u 0 7) + 1)) 0 11 w47) 0 12 w48) 66 ((h 0 95).toNat) w49) 65 ((h 0 95).toNat) w50) 63 (((7 * (h 0 95)) + (u 62 (h 0 95).toNat)).toNat) w46) 62 ((h 0 95).toNat) ((u 62 (h 0 95).toNat) + 1)) g53 ⟨by omega, by omega⟩ (⟨(lfA_bind g lf (by omega) (by omega) (by omega)), by omega, (show (u 0 68) < ((u 0 7) + 1) by omega)⟩) rfl)
                      · have z154 := is1v k149_0 c154
                        replace k149_0 := is1 k149_0 c154
                        refine ja_aload_n dargs_157 rfl rfl ?_
                        refine t_take (by decide) (show (0 : Nat) ≤ 8 by decide) dargs_158 g53  ?_ ?_
                        · intro k158_0 g55
                          replace k158_0 : ((u 0 7) + 1) < 900 := k158_0
                          replace g55 : mo_G Zz (ja_up (ja_up (ja_up (ja_up (ja_up (ja_up (ja_up (ja_up u 0 7 ((u 0 7) + 1)) 0 11 w47) 0 12 w48) 66 ((h 0 95).toNat) w49) 65 ((h 0 95).toNat) w50) 63 (((7 * (h 0 95)) + (u 62 (h 0 95).toNat)).toNat) w46) 62 ((h 0 95).toNat) ((u 62 (h 0 95).toNat) + 1)) 0 7 (((u 0 7) + 1) + 1)) := g55
                          show mJ l D cA ad 4 cX12_args 4 (some .boolean) 161 [(2, (0, w54)), (3, (0, (u 0 7))), (0, (2, ((0 : Nat) : Int))), (1, (0, (h 0 95)))] [(0, 1)] (ja_up (ja_up (ja_up (ja_up (ja_up (ja_up (ja_up (ja_up u 0 7 ((u 0 7) + 1)) 0 11 w47) 0 12 w48) 66 ((h 0 95).toNat) w49) 65 ((h 0 95).toNat) w50) 63 (((7 * (h 0 95)) + (u 62 (h 0 95).toNat)).toNat) w46) 62 ((h 0 95).toNat) ((u 62 (h 0 95).toNat) + 1)) 0 7 (((u 0 7) + 1) + 1)) Q
                          refine ja_if_ne 166 dargs_161 rfl ⟨by decide, by decide⟩ (fun c161 => ?_) (fun c161 => absurd c161 (by omega))
                          refine ja_goto 28 dargs_166 rfl ?_
                          exact ja_wk (fun q hq => by simp only [List.mem_cons, List.not_mem_nil, or_false] at hq; rcases hq with rfl | rfl | rfl <;> rfl) ((ih ((1000 - (((u 0 7) + 1) + 1)).toNat) (by omega)) w54 (ja_up (ja_up (ja_up (ja_up (ja_up (ja_up (ja_up (ja_up u 0 7 ((u 0 7) + 1)) 0 11 w47) 0 12 w48) 66 ((h 0 95).toNat) w49) 65 ((h 0 95).toNat) w50) 63 (((7 * (h 0 95)) + (u 62 (h 0 95).toNat)).toNat) w46) 62 ((h 0 95).toNat) ((u 62 (h 0 95).toNat) + 1)) 0 7 (((u 0 7) + 1) + 1)) g55 ⟨by omega, by omega⟩ (⟨(lfA_tk (lfA_bind g lf (by omega) (by omega) (by omega))), by omega, (show (u 0 68) < (((u 0 7) + 1) + 1) by omega)⟩) rfl)
                        · intro h56 k158_1 g57
                          replace k158_1 : 0 < (h56 0 8) ∧ (h56 0 1) = (u 0 1) ∧ (h56 0 118) = (u 0 118) ∧ (h56 0 127) = (u 0 127) := k158_1
                          refine ja_if_ne 166 dargs_161 rfl ⟨by decide, by decide⟩ (fun c161 => absurd c161 (by omega)) (fun c161 => ?_)
                          refine ja_iconst dargs_164 ?_
                          refine ja_zreturn dargs_165 rfl (by omega) ?_
                          exact mo_fin (by omega) rfl (k2 h56 (by omega) g57)
                    · intro g58
                      replace g58 : mo_G Zz (ja_up (ja_up (ja_up (ja_up (ja_up u 0 7 ((u 0 7) + 1)) 45 ((u 0 68).toNat) 0) 44 ((u 0 68).toNat) (u 0 7)) 46 ((u 0 68).toNat) 0) 0 68 ((u 0 68) + 1)) := g58
                      show mJ l D cA ad 4 cX12_args 4 (some .boolean) 135 [(3, (0, (u 0 7))), (0, (2, ((0 : Nat) : Int))), (1, (0, (h 0 95))), (2, (0, x2))] [(0, (1000 + (u 0 7))), (0, ((7 * (h 0 95)) + (u 62 (h 0 95).toNat))), (2, ((63 : Nat) : Int))] (ja_up (ja_up (ja_up (ja_up (ja_up u 0 7 ((u 0 7) + 1)) 45 ((u 0 68).toNat) 0) 44 ((u 0 68).toNat) (u 0 7)) 46 ((u 0 68).toNat) 0) 0 68 ((u 0 68) + 1)) Q
                      have g59 := gW_nodeArg g58 ((7 * (h 0 95)) + (u 62 (h 0 95).toNat)).toNat (x := 1000 + (u 0 7)) ⟨by omega, by omega⟩
                      refine is_nodeArg ⟨by omega, by omega⟩ dargs_135 ?_
                      refine ja_aload_n dargs_136 rfl rfl ?_
                      refine fa_nodeMany dargs_137 ?_
                      refine ja_iload_n dargs_140 rfl rfl ?_
                      refine ja_dup2 dargs_141 (by first | decide | (dsimp only; decide)) (by first | decide | (dsimp only; decide)) ?_
                      refine il_nodeMany (v := u 62 (h 0 95).toNat) rfl ⟨by omega, by omega⟩ dargs_142 ?_
                      refine ja_iconst dargs_143 ?_
                      refine ja_iadd dargs_144 ?_
                      have g60 := gW_nodeMany g59 (h 0 95).toNat (x := (u 62 (h 0 95).toNat) + 1) ⟨by omega, by omega⟩
                      refine is_nodeMany ⟨by omega, by omega⟩ dargs_145 ?_
                      refine ja_aload_n dargs_146 rfl rfl ?_
                      refine ja_bipush 44 dargs_147 rfl ?_
                      refine t_isSign (by decide) (show (0 : Nat) ≤ 8 by decide) dargs_149 g60 ⟨by decide, by decide⟩ ?_
                      intro w61 k149_0
                      replace k149_0 : (w61 = 1 ∧ (u 2 ((u 0 7) + 1).toNat) = 5 ∧ (u 5 ((u 0 7) + 1).toNat) = 44) ∨ (w61 = 0 ∧ ¬ ((u 2 ((u 0 7) + 1).toNat) = 5 ∧ (u 5 ((u 0 7) + 1).toNat) = 44)) := k149_0
                      refine ja_istore_n dargs_152 rfl (by decide) (L2 := [(2, (0, w61)), (3, (0, (u 0 7))), (0, (2, ((0 : Nat) : Int))), (1, (0, (h 0 95)))]) rfl ?_
                      refine ja_iload_n dargs_153 rfl rfl ?_
                      refine ja_if_eq 166 dargs_154 rfl ⟨by omega, by omega⟩ (fun c154 => ?_) (fun c154 => ?_)
                      · replace k149_0 := is0 k149_0 c154
                        refine ja_goto 28 dargs_166 rfl ?_
                        exact ja_wk (fun q hq => by simp only [List.mem_cons, List.not_mem_nil, or_false] at hq; rcases hq with rfl | rfl | rfl <;> rfl) ((ih ((1000 - ((u 0 7) + 1)).toNat) (by omega)) w61 (ja_up (ja_up (ja_up (ja_up (ja_up (ja_up (ja_up u 0 7 ((u 0 7) + 1)) 45 ((u 0 68).toNat) 0) 44 ((u 0 68).toNat) (u 0 7)) 46 ((u 0 68).toNat) 0) 0 68 ((u 0 68) + 1)) 63 (((7 * (h 0 95)) + (u 62 (h 0 95).toNat)).toNat) (1000 + (u 0 7))) 62 ((h 0 95).toNat) ((u 62 (h 0 95).toNat) + 1)) g60 ⟨by omega, by omega⟩ (⟨(lfA_want g lf (by omega) (by omega) (by omega)), by omega, (show ((u 0 68) + 1) < ((u 0 7) + 1) by omega)⟩) rfl)
                      · have z154 := is1v k149_0 c154
                        replace k149_0 := is1 k149_0 c154
                        refine ja_aload_n dargs_157 rfl rfl ?_
                        refine t_take (by decide) (show (0 : Nat) ≤ 8 by decide) dargs_158 g60  ?_ ?_
                        · intro k158_0 g62
                          replace k158_0 : ((u 0 7) + 1) < 900 := k158_0
                          replace g62 : mo_G Zz (ja_up (ja_up (ja_up (ja_up (ja_up (ja_up (ja_up (ja_up u 0 7 ((u 0 7) + 1)) 45 ((u 0 68).toNat) 0) 44 ((u 0 68).toNat) (u 0 7)) 46 ((u 0 68).toNat) 0) 0 68 ((u 0 68) + 1)) 63 (((7 * (h 0 95)) + (u 62 (h 0 95).toNat)).toNat) (1000 + (u 0 7))) 62 ((h 0 95).toNat) ((u 62 (h 0 95).toNat) + 1)) 0 7 (((u 0 7) + 1) + 1)) := g62
                          show mJ l D cA ad 4 cX12_args 4 (some .boolean) 161 [(2, (0, w61)), (3, (0, (u 0 7))), (0, (2, ((0 : Nat) : Int))), (1, (0, (h 0 95)))] [(0, 1)] (ja_up (ja_up (ja_up (ja_up (ja_up (ja_up (ja_up (ja_up u 0 7 ((u 0 7) + 1)) 45 ((u 0 68).toNat) 0) 44 ((u 0 68).toNat) (u 0 7)) 46 ((u 0 68).toNat) 0) 0 68 ((u 0 68) + 1)) 63 (((7 * (h 0 95)) + (u 62 (h 0 95).toNat)).toNat) (1000 + (u 0 7))) 62 ((h 0 95).toNat) ((u 62 (h 0 95).toNat) + 1)) 0 7 (((u 0 7) + 1) + 1)) Q
                          refine ja_if_ne 166 dargs_161 rfl ⟨by decide, by decide⟩ (fun c161 => ?_) (fun c161 => absurd c161 (by omega))
                          refine ja_goto 28 dargs_166 rfl ?_
                          exact ja_wk (fun q hq => by simp only [List.mem_cons, List.not_mem_nil, or_false] at hq; rcases hq with rfl | rfl | rfl <;> rfl) ((ih ((1000 - (((u 0 7) + 1) + 1)).toNat) (by omega)) w61 (ja_up (ja_up (ja_up (ja_up (ja_up (ja_up (ja_up (ja_up u 0 7 ((u 0 7) + 1)) 45 ((u 0 68).toNat) 0) 44 ((u 0 68).toNat) (u 0 7)) 46 ((u 0 68).toNat) 0) 0 68 ((u 0 68) + 1)) 63 (((7 * (h 0 95)) + (u 62 (h 0 95).toNat)).toNat) (1000 + (u 0 7))) 62 ((h 0 95).toNat) ((u 62 (h 0 95).toNat) + 1)) 0 7 (((u 0 7) + 1) + 1)) g62 ⟨by omega, by omega⟩ (⟨(lfA_tk (lfA_want g lf (by omega) (by omega) (by omega))), by omega, (show ((u 0 68) + 1) < (((u 0 7) + 1) + 1) by omega)⟩) rfl)
                        · intro h63 k158_1 g64
                          replace k158_1 : 0 < (h63 0 8) ∧ (h63 0 1) = (u 0 1) ∧ (h63 0 118) = (u 0 118) ∧ (h63 0 127) = (u 0 127) := k158_1
                          refine ja_if_ne 166 dargs_161 rfl ⟨by decide, by decide⟩ (fun c161 => absurd c161 (by omega)) (fun c161 => ?_)
                          refine ja_iconst dargs_164 ?_
                          refine ja_zreturn dargs_165 rfl (by omega) ?_
                          exact mo_fin (by omega) rfl (k2 h63 (by omega) g64)
                  · intro h65 k106_1 g66
                    refine ja_if_ne 114 dargs_109 rfl ⟨by decide, by decide⟩ (fun c109 => absurd c109 (by omega)) (fun c109 => ?_)
                    refine ja_iconst dargs_112 ?_
                    refine ja_zreturn dargs_113 rfl (by omega) ?_
                    exact mo_fin (by omega) rfl (k2 h65 (by omega) g66)
                · have z76 := is1v k73_0 c76
                  replace k73_0 := is1 k73_0 c76
                  refine ja_aload_n dargs_79 rfl rfl ?_
                  refine fa_nodeArg dargs_80 ?_
                  refine ja_bipush 7 dargs_83 rfl ?_
                  refine ja_iload_n dargs_85 rfl rfl ?_
                  refine ja_imul dargs_86 ?_
                  refine ja_aload_n dargs_87 rfl rfl ?_
                  refine fa_nodeMany dargs_88 ?_
                  refine ja_iload_n dargs_91 rfl rfl ?_
                  refine il_nodeMany (v := u 62 (h 0 95).toNat) rfl ⟨by omega, by omega⟩ dargs_92 ?_
                  refine ja_iadd dargs_93 ?_
                  refine ja_iconst dargs_94 ?_
                  have g67 := gW_nodeArg gu ((7 * (h 0 95)) + (u 62 (h 0 95).toNat)).toNat (x := (-1)) ⟨by decide, by decide⟩
                  refine is_nodeArg ⟨by omega, by omega⟩ dargs_95 ?_
                  refine ja_aload_n dargs_96 rfl rfl ?_
                  refine t_take (by decide) (show (0 : Nat) ≤ 8 by decide) dargs_97 g67  ?_ ?_
                  · intro k97_0 g68
                    replace k97_0 : (u 0 7) < 900 := k97_0
                    replace g68 : mo_G Zz (ja_up (ja_up u 63 (((7 * (h 0 95)) + (u 62 (h 0 95).toNat)).toNat) (-1)) 0 7 ((u 0 7) + 1)) := g68
                    show mJ l D cA ad 4 cX12_args 4 (some .boolean) 100 [(3, (0, (u 0 7))), (0, (2, ((0 : Nat) : Int))), (1, (0, (h 0 95))), (2, (0, x2))] [(0, 1)] (ja_up (ja_up u 63 (((7 * (h 0 95)) + (u 62 (h 0 95).toNat)).toNat) (-1)) 0 7 ((u 0 7) + 1)) Q
                    refine ja_if_ne 136 dargs_100 rfl ⟨by decide, by decide⟩ (fun c100 => ?_) (fun c100 => absurd c100 (by omega))
                    refine ja_aload_n dargs_136 rfl rfl ?_
                    refine fa_nodeMany dargs_137 ?_
                    refine ja_iload_n dargs_140 rfl rfl ?_
                    refine ja_dup2 dargs_141 (by first | decide | (dsimp only; decide)) (by first | decide | (dsimp only; decide)) ?_
                    refine il_nodeMany (v := u 62 (h 0 95).toNat) rfl ⟨by omega, by omega⟩ dargs_142 ?_
                    refine ja_iconst dargs_143 ?_
                    refine ja_iadd dargs_144 ?_
                    have g69 := gW_nodeMany g68 (h 0 95).toNat (x := (u 62 (h 0 95).toNat) + 1) ⟨by omega, by omega⟩
                    refine is_nodeMany ⟨by omega, by omega⟩ dargs_145 ?_
                    refine ja_aload_n dargs_146 rfl rfl ?_
                    refine ja_bipush 44 dargs_147 rfl ?_
                    refine t_isSign (by decide) (show (0 : Nat) ≤ 8 by decide) dargs_149 g69 ⟨by decide, by decide⟩ ?_
                    intro w70 k149_0
                    replace k149_0 : (w70 = 1 ∧ (u 2 ((u 0 7) + 1).toNat) = 5 ∧ (u 5 ((u 0 7) + 1).toNat) = 44) ∨ (w70 = 0 ∧ ¬ ((u 2 ((u 0 7) + 1).toNat) = 5 ∧ (u 5 ((u 0 7) + 1).toNat) = 44)) := k149_0
                    refine ja_istore_n dargs_152 rfl (by decide) (L2 := [(2, (0, w70)), (3, (0, (u 0 7))), (0, (2, ((0 : Nat) : Int))), (1, (0, (h 0 95)))]) rfl ?_
                    refine ja_iload_n dargs_153 rfl rfl ?_
                    refine ja_if_eq 166 dargs_154 rfl ⟨by omega, by omega⟩ (fun c154 => ?_) (fun c154 => ?_)
                    · replace k149_0 := is0 k149_0 c154
                      refine ja_goto 28 dargs_166 rfl ?_
                      exact ja_wk (fun q hq => by simp only [List.mem_cons, List.not_mem_nil, or_false] at hq; rcases hq with rfl | rfl | rfl <;> rfl) ((ih ((1000 - ((u 0 7) + 1)).toNat) (by omega)) w70 (ja_up (ja_up (ja_up u 63 (((7 * (h 0 95)) + (u 62 (h 0 95).toNat)).toNat) (-1)) 0 7 ((u 0 7) + 1)) 62 ((h 0 95).toNat) ((u 62 (h 0 95).toNat) + 1)) g69 ⟨by omega, by omega⟩ (⟨(lfA_star g lf (by omega)), by omega, (show (u 0 68) < ((u 0 7) + 1) by omega)⟩) rfl)
                    · have z154 := is1v k149_0 c154
                      replace k149_0 := is1 k149_0 c154
                      refine ja_aload_n dargs_157 rfl rfl ?_
                      refine t_take (by decide) (show (0 : Nat) ≤ 8 by decide) dargs_158 g69  ?_ ?_
                      · intro k158_0 g71
                        replace k158_0 : ((u 0 7) + 1) < 900 := k158_0
                        replace g71 : mo_G Zz (ja_up (ja_up (ja_up (ja_up u 63 (((7 * (h 0 95)) + (u 62 (h 0 95).toNat)).toNat) (-1)) 0 7 ((u 0 7) + 1)) 62 ((h 0 95).toNat) ((u 62 (h 0 95).toNat) + 1)) 0 7 (((u 0 7) + 1) + 1)) := g71
                        show mJ l D cA ad 4 cX12_args 4 (some .boolean) 161 [(2, (0, w70)), (3, (0, (u 0 7))), (0, (2, ((0 : Nat) : Int))), (1, (0, (h 0 95)))] [(0, 1)] (ja_up (ja_up (ja_up (ja_up u 63 (((7 * (h 0 95)) + (u 62 (h 0 95).toNat)).toNat) (-1)) 0 7 ((u 0 7) + 1)) 62 ((h 0 95).toNat) ((u 62 (h 0 95).toNat) + 1)) 0 7 (((u 0 7) + 1) + 1)) Q
                        refine ja_if_ne 166 dargs_161 rfl ⟨by decide, by decide⟩ (fun c161 => ?_) (fun c161 => absurd c161 (by omega))
                        refine ja_goto 28 dargs_166 rfl ?_
                        exact ja_wk (fun q hq => by simp only [List.mem_cons, List.not_mem_nil, or_false] at hq; rcases hq with rfl | rfl | rfl <;> rfl) ((ih ((1000 - (((u 0 7) + 1) + 1)).toNat) (by omega)) w70 (ja_up (ja_up (ja_up (ja_up u 63 (((7 * (h 0 95)) + (u 62 (h 0 95).toNat)).toNat) (-1)) 0 7 ((u 0 7) + 1)) 62 ((h 0 95).toNat) ((u 62 (h 0 95).toNat) + 1)) 0 7 (((u 0 7) + 1) + 1)) g71 ⟨by omega, by omega⟩ (⟨(lfA_tk (lfA_star g lf (by omega))), by omega, (show (u 0 68) < (((u 0 7) + 1) + 1) by omega)⟩) rfl)
                      · intro h72 k158_1 g73
                        replace k158_1 : 0 < (h72 0 8) ∧ (h72 0 1) = (u 0 1) ∧ (h72 0 118) = (u 0 118) ∧ (h72 0 127) = (u 0 127) := k158_1
                        refine ja_if_ne 166 dargs_161 rfl ⟨by decide, by decide⟩ (fun c161 => absurd c161 (by omega)) (fun c161 => ?_)
                        refine ja_iconst dargs_164 ?_
                        refine ja_zreturn dargs_165 rfl (by omega) ?_
                        exact mo_fin (by omega) rfl (k2 h72 (by omega) g73)
                  · intro h74 k97_1 g75
                    replace k97_1 : 0 < (h74 0 8) ∧ (h74 0 1) = (u 0 1) ∧ (h74 0 118) = (u 0 118) ∧ (h74 0 127) = (u 0 127) := k97_1
                    refine ja_if_ne 136 dargs_100 rfl ⟨by decide, by decide⟩ (fun c100 => absurd c100 (by omega)) (fun c100 => ?_)
                    refine ja_iconst dargs_103 ?_
                    refine ja_zreturn dargs_104 rfl (by omega) ?_
                    exact mo_fin (by omega) rfl (k2 h74 (by omega) g75)
              · have z56 := is1v k53_0 c56
                replace k53_0 := is1 k53_0 c56
                refine ja_aload_n dargs_59 rfl rfl ?_
                refine ja_iconst dargs_60 ?_
                refine t_halt (by decide) (show (0 : Nat) ≤ 8 by decide) dargs_61 gu ⟨by decide, by decide⟩ (show 1 ≤ 3 ∧ 3 ≤ 8 by omega) ?_
                intro h76 k61_0 g77
                refine ja_zreturn dargs_64 rfl (by omega) ?_
                exact mo_fin (by omega) rfl (k2 h76 (by omega) g77)
  have hN := piB_num g p1 p2
  obtain ⟨N1, N2, N3, N4, N5, N6, N7, N8, N9, N10, N11, N12, N13, ⟨NK1, NK2⟩, ND1, ND2, ND3, NU1, NU2⟩ := hN
  have hn1 : (h 0 18) = 0 + pk_sum pk_c s := p2.1.1
  obtain ⟨T1, T2, T3, T4⟩ := bs_31t (by omega) p2
  refine ja_aload_n dargs_0 rfl rfl ?_
  refine ja_bipush 9 dargs_1 rfl ?_
  refine ja_iconst dargs_3 ?_
  refine ja_iconst dargs_4 ?_
  refine ja_aload_n dargs_5 rfl rfl ?_
  refine fg_at (v := h 0 7) rfl dargs_6 ?_
  have f78 := gF_at g
  refine t_node (by decide) (show (0 : Nat) ≤ 8 by decide) dargs_9 g ⟨by decide, by decide⟩ ⟨by decide, by decide⟩ ⟨by decide, by decide⟩ ⟨by omega, by omega⟩ (show 0 ≤ 9 ∧ 9 ≤ 15 by omega) (show 0 ≤ (h 0 7) ∧ (h 0 7) ≤ 900 by omega) (show (h 0 95) < 900 by omega) ?_
  intro w79 k9_0 g80
  replace k9_0 : (w79 = 1 ∧ (h 0 85) = 1) ∨ (w79 = 0 ∧ (h 0 85) = 0) := k9_0
  replace g80 : mo_G Zz (ja_up (ja_up (ja_up (ja_up (ja_up (ja_up (ja_up (ja_up (ja_up (ja_up h 0 95 ((h 0 95) + 1)) 58 ((h 0 95).toNat) 9) 59 ((h 0 95).toNat) 0) 60 ((h 0 95).toNat) 0) 61 ((h 0 95).toNat) (h 0 7)) 62 ((h 0 95).toNat) 0) 64 ((h 0 95).toNat) (h 0 76)) 65 ((h 0 95).toNat) 0) 66 ((h 0 95).toNat) 0) 67 ((h 0 95).toNat) w79) := g80
  show mJ l D cA ad 4 cX12_args 4 (some .boolean) 12 [(0, (2, ((0 : Nat) : Int)))] [(0, (h 0 95))] (ja_up (ja_up (ja_up (ja_up (ja_up (ja_up (ja_up (ja_up (ja_up (ja_up h 0 95 ((h 0 95) + 1)) 58 ((h 0 95).toNat) 9) 59 ((h 0 95).toNat) 0) 60 ((h 0 95).toNat) 0) 61 ((h 0 95).toNat) (h 0 7)) 62 ((h 0 95).toNat) 0) 64 ((h 0 95).toNat) (h 0 76)) 65 ((h 0 95).toNat) 0) 66 ((h 0 95).toNat) 0) 67 ((h 0 95).toNat) w79) Q
  refine ja_istore_n dargs_12 rfl (by decide) (L2 := [(1, (0, (h 0 95))), (0, (2, ((0 : Nat) : Int)))]) rfl ?_
  refine ja_aload_n dargs_13 rfl rfl ?_
  refine ja_bipush 41 dargs_14 rfl ?_
  refine t_isSign (by decide) (show (0 : Nat) ≤ 8 by decide) dargs_16 g80 ⟨by decide, by decide⟩ ?_
  intro w81 k16_0
  replace k16_0 : (w81 = 1 ∧ (h 2 (h 0 7).toNat) = 5 ∧ (h 5 (h 0 7).toNat) = 41) ∨ (w81 = 0 ∧ ¬ ((h 2 (h 0 7).toNat) = 5 ∧ (h 5 (h 0 7).toNat) = 41)) := k16_0
  refine ja_if_ne 26 dargs_19 rfl ⟨by omega, by omega⟩ (fun c19 => ?_) (fun c19 => ?_)
  · have z19 := is1v k16_0 c19
    replace k16_0 := is1 k16_0 c19
    refine ja_iconst dargs_26 ?_
    refine ja_istore_n dargs_27 rfl (by decide) (L2 := [(2, (0, 0)), (1, (0, (h 0 95))), (0, (2, ((0 : Nat) : Int)))]) rfl ?_
    exact ja_wk (fun q hq => by simp only [List.mem_cons, List.not_mem_nil, or_false] at hq; rcases hq with rfl | rfl | rfl <;> rfl) ((CUT _) 0 (ja_up (ja_up (ja_up (ja_up (ja_up (ja_up (ja_up (ja_up (ja_up (ja_up h 0 95 ((h 0 95) + 1)) 58 ((h 0 95).toNat) 9) 59 ((h 0 95).toNat) 0) 60 ((h 0 95).toNat) 0) 61 ((h 0 95).toNat) (h 0 7)) 62 ((h 0 95).toNat) 0) 64 ((h 0 95).toNat) (h 0 76)) 65 ((h 0 95).toNat) 0) 66 ((h 0 95).toNat) 0) 67 ((h 0 95).toNat) w79) g80 ⟨by decide, by decide⟩ (⟨(lfA_init (by omega) (by omega) (by omega)), by omega, (show (h 0 68) < (h 0 7) by omega)⟩) rfl)
  · replace k16_0 := is0 k16_0 c19
    refine ja_iconst dargs_22 ?_
    refine ja_goto 27 dargs_23 rfl ?_
    refine ja_istore_n dargs_27 rfl (by decide) (L2 := [(2, (0, 1)), (1, (0, (h 0 95))), (0, (2, ((0 : Nat) : Int)))]) rfl ?_
    exact ja_wk (fun q hq => by simp only [List.mem_cons, List.not_mem_nil, or_false] at hq; rcases hq with rfl | rfl | rfl <;> rfl) ((CUT _) 1 (ja_up (ja_up (ja_up (ja_up (ja_up (ja_up (ja_up (ja_up (ja_up (ja_up h 0 95 ((h 0 95) + 1)) 58 ((h 0 95).toNat) 9) 59 ((h 0 95).toNat) 0) 60 ((h 0 95).toNat) 0) 61 ((h 0 95).toNat) (h 0 7)) 62 ((h 0 95).toNat) 0) 64 ((h 0 95).toNat) (h 0 76)) 65 ((h 0 95).toNat) 0) 66 ((h 0 95).toNat) 0) 67 ((h 0 95).toNat) w79) g80 ⟨by decide, by decide⟩ (⟨(lfA_init (by omega) (by omega) (by omega)), by omega, (show (h 0 68) < (h 0 7) by omega)⟩) rfl)
theorem t_args {R r ph q0 b c : Int} {tf : mo_TF} {s : List mo_A} {ht st rg : Nat → Int} {tu : Int} {d nL pc : Nat} {cc : ByteArray} {rt : Option FieldType} {L : List (Nat × ja_V)} {S : List ja_V} {h : ja_H} {Q : Option ja_V → ja_H → Prop} (hdd : 4 < d) (hwd : ja_wd S ≤ 8) (hd : decode cc pc = .ok (.invokevirtual 897, 3)) (g : mo_G Zz h) (p1 : pk_S h (h 0 17).toNat s) (p2 : piB h R r ph tf q0 ((31, b, c) :: s) ht st rg tu) (p3 : (s.length : Int) ≤ 6 * pk_sum pk_c s + 2) (k1 : ∀ (h' : ja_H), (pi_done h h' R r ph tf q0 (pi_mu h s)) → mo_G Zz h' → mJ l D cA ad d cc nL rt (pc + 3) L ((0, 1) :: S) h' Q) (k2 : ∀ (h' : ja_H), (0 < (h' 0 8) ∧ (h' 0 1) = (h 0 1) ∧ (h' 0 118) = (h 0 118) ∧ (h' 0 127) = (h 0 127)) → mo_G Zz h' → mJ l D cA ad d cc nL rt (pc + 3) L ((0, 0) :: S) h' Q) : mJ l D cA ad d cc nL rt pc L ((2, ((0 : Nat) : Int)) :: S) h Q :=
  mc_args hdd hwd hd (s_args g p1 p2 p3 k1 k2)
end
theorem duse_0 : decode cX12_use 0 = .ok (.aload_n 0, 1) := by decide +kernel
theorem duse_1 : decode cX12_use 1 = .ok (.bipush 12, 2) := by decide +kernel
theorem duse_3 : decode cX12_use 3 = .ok (.iconst (-1), 1) := by decide +kernel
theorem duse_4 : decode cX12_use 4 = .ok (.iconst 0, 1) := by decide +kernel
theorem duse_5 : decode cX12_use 5 = .ok (.aload_n 0, 1) := by decide +kernel
theorem duse_6 : decode cX12_use 6 = .ok (.getfield 574, 3) := by decide +kernel
theorem duse_9 : decode cX12_use 9 = .ok (.invokevirtual 878, 3) := by decide +kernel
theorem duse_12 : decode cX12_use 12 = .ok (.istore_n 1, 1) := by decide +kernel
theorem duse_13 : decode cX12_use 13 = .ok (.aload_n 0, 1) := by decide +kernel
theorem duse_14 : decode cX12_use 14 = .ok (.getfield 149, 3) := by decide +kernel
theorem duse_17 : decode cX12_use 17 = .ok (.aload_n 0, 1) := by decide +kernel
theorem duse_18 : decode cX12_use 18 = .ok (.getfield 683, 3) := by decide +kernel
theorem duse_21 : decode cX12_use 21 = .ok (.iload_n 1, 1) := by decide +kernel
theorem duse_22 : decode cX12_use 22 = .ok (.iastore, 1) := by decide +kernel
theorem duse_23 : decode cX12_use 23 = .ok (.aload_n 0, 1) := by decide +kernel
theorem duse_24 : decode cX12_use 24 = .ok (.dup, 1) := by decide +kernel
theorem duse_25 : decode cX12_use 25 = .ok (.getfield 683, 3) := by decide +kernel
theorem duse_28 : decode cX12_use 28 = .ok (.iconst 1, 1) := by decide +kernel
theorem duse_29 : decode cX12_use 29 = .ok (.iadd, 1) := by decide +kernel
theorem duse_30 : decode cX12_use 30 = .ok (.putfield 683, 3) := by decide +kernel
theorem duse_33 : decode cX12_use 33 = .ok (.aload_n 0, 1) := by decide +kernel
theorem duse_34 : decode cX12_use 34 = .ok (.invokevirtual 589, 3) := by decide +kernel
theorem duse_37 : decode cX12_use 37 = .ok (.ifCond .eq 12, 3) := by decide +kernel
theorem duse_40 : decode cX12_use 40 = .ok (.aload_n 0, 1) := by decide +kernel
theorem duse_41 : decode cX12_use 41 = .ok (.bipush 40, 2) := by decide +kernel
theorem duse_43 : decode cX12_use 43 = .ok (.invokevirtual 742, 3) := by decide +kernel
theorem duse_46 : decode cX12_use 46 = .ok (.ifCond .ne 5, 3) := by decide +kernel
theorem duse_49 : decode cX12_use 49 = .ok (.iconst 0, 1) := by decide +kernel
theorem duse_50 : decode cX12_use 50 = .ok (.ireturn, 1) := by decide +kernel
theorem duse_51 : decode cX12_use 51 = .ok (.aload_n 0, 1) := by decide +kernel
theorem duse_52 : decode cX12_use 52 = .ok (.bipush 41, 2) := by decide +kernel
theorem duse_54 : decode cX12_use 54 = .ok (.invokevirtual 586, 3) := by decide +kernel
theorem duse_57 : decode cX12_use 57 = .ok (.ifCond .ne 7, 3) := by decide +kernel
theorem duse_60 : decode cX12_use 60 = .ok (.iconst 1, 1) := by decide +kernel
theorem duse_61 : decode cX12_use 61 = .ok (.goto 4, 3) := by decide +kernel
theorem duse_64 : decode cX12_use 64 = .ok (.iconst 0, 1) := by decide +kernel
theorem duse_65 : decode cX12_use 65 = .ok (.istore_n 2, 1) := by decide +kernel
theorem duse_66 : decode cX12_use 66 = .ok (.iload_n 2, 1) := by decide +kernel
theorem duse_67 : decode cX12_use 67 = .ok (.ifCond .eq 121, 3) := by decide +kernel
theorem duse_70 : decode cX12_use 70 = .ok (.aload_n 0, 1) := by decide +kernel
theorem duse_71 : decode cX12_use 71 = .ok (.invokevirtual 599, 3) := by decide +kernel
theorem duse_74 : decode cX12_use 74 = .ok (.ifCond .eq 20, 3) := by decide +kernel
theorem duse_77 : decode cX12_use 77 = .ok (.aload_n 0, 1) := by decide +kernel
theorem duse_78 : decode cX12_use 78 = .ok (.getfield 194, 3) := by decide +kernel
theorem duse_81 : decode cX12_use 81 = .ok (.iload_n 1, 1) := by decide +kernel
theorem duse_82 : decode cX12_use 82 = .ok (.iaload, 1) := by decide +kernel
theorem duse_83 : decode cX12_use 83 = .ok (.bipush 6, 2) := by decide +kernel
theorem duse_85 : decode cX12_use 85 = .ok (.if_icmp .ne 9, 3) := by decide +kernel
theorem duse_88 : decode cX12_use 88 = .ok (.aload_n 0, 1) := by decide +kernel
theorem duse_89 : decode cX12_use 89 = .ok (.iconst 3, 1) := by decide +kernel
theorem duse_90 : decode cX12_use 90 = .ok (.invokevirtual 583, 3) := by decide +kernel
theorem duse_93 : decode cX12_use 93 = .ok (.ireturn, 1) := by decide +kernel
theorem duse_94 : decode cX12_use 94 = .ok (.aload_n 0, 1) := by decide +kernel
theorem duse_95 : decode cX12_use 95 = .ok (.getfield 574, 3) := by decide +kernel
theorem duse_98 : decode cX12_use 98 = .ok (.istore_n 3, 1) := by decide +kernel
theorem duse_99 : decode cX12_use 99 = .ok (.aload_n 0, 1) := by decide +kernel
theorem duse_100 : decode cX12_use 100 = .ok (.invokevirtual 739, 3) := by decide +kernel
theorem duse_103 : decode cX12_use 103 = .ok (.ifCond .ne 5, 3) := by decide +kernel
theorem duse_106 : decode cX12_use 106 = .ok (.iconst 0, 1) := by decide +kernel
theorem duse_107 : decode cX12_use 107 = .ok (.ireturn, 1) := by decide +kernel
theorem duse_108 : decode cX12_use 108 = .ok (.aload_n 0, 1) := by decide +kernel
theorem duse_109 : decode cX12_use 109 = .ok (.iload_n 3, 1) := by decide +kernel
theorem duse_110 : decode cX12_use 110 = .ok (.invokevirtual 885, 3) := by decide +kernel
theorem duse_113 : decode cX12_use 113 = .ok (.istore 4, 2) := by decide +kernel
theorem duse_115 : decode cX12_use 115 = .ok (.iload 4, 2) := by decide +kernel
theorem duse_117 : decode cX12_use 117 = .ok (.ifCond .ge 12, 3) := by decide +kernel
theorem duse_120 : decode cX12_use 120 = .ok (.aload_n 0, 1) := by decide +kernel
theorem duse_121 : decode cX12_use 121 = .ok (.iconst 5, 1) := by decide +kernel
theorem duse_122 : decode cX12_use 122 = .ok (.iload_n 3, 1) := by decide +kernel
theorem duse_123 : decode cX12_use 123 = .ok (.invokevirtual 719, 3) := by decide +kernel
theorem duse_126 : decode cX12_use 126 = .ok (.goto 11, 3) := by decide +kernel
theorem duse_129 : decode cX12_use 129 = .ok (.aload_n 0, 1) := by decide +kernel
theorem duse_130 : decode cX12_use 130 = .ok (.iload_n 1, 1) := by decide +kernel
theorem duse_131 : decode cX12_use 131 = .ok (.iload 4, 2) := by decide +kernel
theorem duse_133 : decode cX12_use 133 = .ok (.iload_n 3, 1) := by decide +kernel
theorem duse_134 : decode cX12_use 134 = .ok (.invokevirtual 888, 3) := by decide +kernel
theorem duse_137 : decode cX12_use 137 = .ok (.aload_n 0, 1) := by decide +kernel
theorem duse_138 : decode cX12_use 138 = .ok (.getfield 197, 3) := by decide +kernel
theorem duse_141 : decode cX12_use 141 = .ok (.bipush 7, 2) := by decide +kernel
theorem duse_143 : decode cX12_use 143 = .ok (.iload_n 1, 1) := by decide +kernel
theorem duse_144 : decode cX12_use 144 = .ok (.imul, 1) := by decide +kernel
theorem duse_145 : decode cX12_use 145 = .ok (.aload_n 0, 1) := by decide +kernel
theorem duse_146 : decode cX12_use 146 = .ok (.getfield 194, 3) := by decide +kernel
theorem duse_149 : decode cX12_use 149 = .ok (.iload_n 1, 1) := by decide +kernel
theorem duse_150 : decode cX12_use 150 = .ok (.iaload, 1) := by decide +kernel
theorem duse_151 : decode cX12_use 151 = .ok (.iadd, 1) := by decide +kernel
theorem duse_152 : decode cX12_use 152 = .ok (.iload 4, 2) := by decide +kernel
theorem duse_154 : decode cX12_use 154 = .ok (.iastore, 1) := by decide +kernel
theorem duse_155 : decode cX12_use 155 = .ok (.aload_n 0, 1) := by decide +kernel
theorem duse_156 : decode cX12_use 156 = .ok (.getfield 194, 3) := by decide +kernel
theorem duse_159 : decode cX12_use 159 = .ok (.iload_n 1, 1) := by decide +kernel
theorem duse_160 : decode cX12_use 160 = .ok (.dup2, 1) := by decide +kernel
theorem duse_161 : decode cX12_use 161 = .ok (.iaload, 1) := by decide +kernel
theorem duse_162 : decode cX12_use 162 = .ok (.iconst 1, 1) := by decide +kernel
theorem duse_163 : decode cX12_use 163 = .ok (.iadd, 1) := by decide +kernel
theorem duse_164 : decode cX12_use 164 = .ok (.iastore, 1) := by decide +kernel
theorem duse_165 : decode cX12_use 165 = .ok (.aload_n 0, 1) := by decide +kernel
theorem duse_166 : decode cX12_use 166 = .ok (.bipush 44, 2) := by decide +kernel
theorem duse_168 : decode cX12_use 168 = .ok (.invokevirtual 586, 3) := by decide +kernel
theorem duse_171 : decode cX12_use 171 = .ok (.istore_n 2, 1) := by decide +kernel
theorem duse_172 : decode cX12_use 172 = .ok (.iload_n 2, 1) := by decide +kernel
theorem duse_173 : decode cX12_use 173 = .ok (.ifCond .eq 12, 3) := by decide +kernel
theorem duse_176 : decode cX12_use 176 = .ok (.aload_n 0, 1) := by decide +kernel
theorem duse_177 : decode cX12_use 177 = .ok (.invokevirtual 589, 3) := by decide +kernel
theorem duse_180 : decode cX12_use 180 = .ok (.ifCond .ne 5, 3) := by decide +kernel
theorem duse_183 : decode cX12_use 183 = .ok (.iconst 0, 1) := by decide +kernel
theorem duse_184 : decode cX12_use 184 = .ok (.ireturn, 1) := by decide +kernel
theorem duse_185 : decode cX12_use 185 = .ok (.goto (-119), 3) := by decide +kernel
theorem duse_188 : decode cX12_use 188 = .ok (.aload_n 0, 1) := by decide +kernel
theorem duse_189 : decode cX12_use 189 = .ok (.iload_n 1, 1) := by decide +kernel
theorem duse_190 : decode cX12_use 190 = .ok (.invokevirtual 882, 3) := by decide +kernel
theorem duse_193 : decode cX12_use 193 = .ok (.ifCond .eq 16, 3) := by decide +kernel
theorem duse_196 : decode cX12_use 196 = .ok (.aload_n 0, 1) := by decide +kernel
theorem duse_197 : decode cX12_use 197 = .ok (.bipush 41, 2) := by decide +kernel
theorem duse_199 : decode cX12_use 199 = .ok (.invokevirtual 742, 3) := by decide +kernel
theorem duse_202 : decode cX12_use 202 = .ok (.ifCond .eq 7, 3) := by decide +kernel
theorem duse_205 : decode cX12_use 205 = .ok (.iconst 1, 1) := by decide +kernel
theorem duse_206 : decode cX12_use 206 = .ok (.goto 4, 3) := by decide +kernel
theorem duse_209 : decode cX12_use 209 = .ok (.iconst 0, 1) := by decide +kernel
theorem duse_210 : decode cX12_use 210 = .ok (.ireturn, 1) := by decide +kernel
section
variable {l : Launch} {D : va_G} {cA : Nat → ClassId} {ad : Nat → Nat}
theorem s_use {R r ph q0 b c : Int} {tf : mo_TF} {s : List mo_A} {ht st rg : Nat → Int} {tu : Int} {h : ja_H} {Q : Option ja_V → ja_H → Prop} (g : mo_G Zz h) (p1 : pk_S h (h 0 17).toNat s) (p2 : piB h R r ph tf q0 ((31, b, c) :: s) ht st rg tu) (p3 : (s.length : Int) ≤ 6 * pk_sum pk_c s + 2) (p4 : (h 0 85) = 0) (k1 : ∀ (h' : ja_H), (pi_done h h' R r ph tf q0 (pi_mu h s)) → mo_G Zz h' → Q (some (0, 1)) h') (k2 : ∀ (h' : ja_H), (0 < (h' 0 8) ∧ (h' 0 1) = (h 0 1) ∧ (h' 0 118) = (h 0 118) ∧ (h' 0 127) = (h 0 127)) → mo_G Zz h' → Q (some (0, 0)) h') : mM_use l D cA ad  h Q := by
  show mJ l D cA ad 4 cX12_use 5 (some .boolean) 0 [(0, (2, ((0 : Nat) : Int)))] [] h Q
  have kn_at := gF_at g
  have kn_wTop := gF_wTop g
  have kn_words := gF_words g
  have kn_nest := gF_nest g
  have kn_nodes := gF_nodes g
  have kn_wants := gF_wants g
  have kn_uses := gF_uses g
  have kn_treeTop := gF_treeTop g
  have kn_quiet := gF_quiet g
  have kn_inFlow := gF_inFlow g
  have kn_false1 := gF_false1 g
  have kn_params := gF_params g
  have CUT : ∀ n : Nat, (∀ (x2 : Int) (u : ja_H), mo_G Zz u → (-2147483648 ≤ x2 ∧ x2 ≤ 2147483647) → (lfU h u ∧ (x2 = 0 ∨ x2 = 1) ∧ (u 0 68) < (u 0 7)) → ((1000 - (u 0 7)).toNat) = n → mJ l D cA ad 4 cX12_use 5 (some .boolean) 66 [(0, (2, ((0 : Nat) : Int))), (1, (0, (h 0 95))), (2, (0, x2))] [] u Q) := by
    intro n
    induction n using Nat.strongRecOn with
    | _ n ih =>
      skip
      · intro x2 u gu qx2 iv hm
        subst hm
        have ku_at := gF_at gu
        have ku_wTop := gF_wTop gu
        have ku_words := gF_words gu
        have ku_nest := gF_nest gu
        have ku_nodes := gF_nodes gu
        have ku_wants := gF_wants gu
        have ku_uses := gF_uses gu
        have ku_treeTop := gF_treeTop gu
        have ku_quiet := gF_quiet gu
        have ku_inFlow := gF_inFlow gu
        have ku_false1 := gF_false1 gu
        have ku_params := gF_params gu
        have hN := piB_num g p1 p2
        obtain ⟨N1, N2, N3, N4, N5, N6, N7, N8, N9, N10, N11, N12, N13, ⟨NK1, NK2⟩, ND1, ND2, ND3, NU1, NU2⟩ := hN
        have hn1 : (h 0 18) = 0 + pk_sum pk_c s := p2.1.1
        obtain ⟨T1, T2, T3, T4⟩ := bs_31t (by omega) p2
        obtain ⟨lf, lx, lw⟩ := iv
        have l0 := lf.1.1
        have l1 := lf.2.2.1
        have lT : (u 0 109) = (h 0 109) := lf.1.2.2.2.1 0 109 rfl
        have lsz : (u 0 1) = (h 0 1) := lf.1.2.2.2.2 0 1 rfl
        have lco : (u 0 118) = (h 0 118) := lf.1.2.2.2.2 0 118 rfl
        have lst : (u 0 127) = (h 0 127) := lf.1.2.2.2.2 0 127 rfl
        have lq := l0.1
        refine ja_iload_n duse_66 rfl rfl ?_
        refine ja_if_eq 188 duse_67 rfl ⟨by omega, by omega⟩ (fun c67 => ?_) (fun c67 => ?_)
        · refine ja_aload_n duse_188 rfl rfl ?_
          refine ja_iload_n duse_189 rfl rfl ?_
          refine t_leaf (by decide) (show (0 : Nat) ≤ 8 by decide) duse_190 gu ⟨by omega, by omega⟩ (show 0 ≤ (h 0 95) ∧ (h 0 95) ≤ 899 by omega) (show (u 0 109) < 400 by omega) ?_
          intro g1
          replace g1 : mo_G Zz (ja_up (ja_up u 70 ((u 0 109).toNat) (h 0 95)) 0 109 ((u 0 109) + 1)) := g1
          show mJ l D cA ad 4 cX12_use 5 (some .boolean) 193 [(0, (2, ((0 : Nat) : Int))), (1, (0, (h 0 95))), (2, (0, x2))] [(0, 1)] (ja_up (ja_up u 70 ((u 0 109).toNat) (h 0 95)) 0 109 ((u 0 109) + 1)) Q
          refine ja_if_eq 209 duse_193 rfl ⟨by decide, by decide⟩ (fun c193 => absurd c193 (by omega)) (fun c193 => ?_)
          refine ja_aload_n duse_196 rfl rfl ?_
          refine ja_bipush 41 duse_197 rfl ?_
          refine t_sign (by decide) (show (0 : Nat) ≤ 8 by decide) duse_199 g1 ⟨by decide, by decide⟩ ?_ ?_
          · intro k199_0 g2
            replace k199_0 : (u 0 7) < 900 ∧ (u 2 (u 0 7).toNat) = 5 ∧ (u 5 (u 0 7).toNat) = 41 := k199_0
            replace g2 : mo_G Zz (ja_up (ja_up (ja_up u 70 ((u 0 109).toNat) (h 0 95)) 0 109 ((u 0 109) + 1)) 0 7 ((u 0 7) + 1)) := g2
            show mJ l D cA ad 4 cX12_use 5 (some .boolean) 202 [(0, (2, ((0 : Nat) : Int))), (1, (0, (h 0 95))), (2, (0, x2))] [(0, 1)] (ja_up (ja_up (ja_up u 70 ((u 0 109).toNat) (h 0 95)) 0 109 ((u 0 109) + 1)) 0 7 ((u 0 7) + 1)) Q
            refine ja_if_eq 209 duse_202 rfl ⟨by decide, by decide⟩ (fun c202 => absurd c202 (by omega)) (fun c202 => ?_)
            refine ja_iconst duse_205 ?_
            refine ja_goto 210 duse_206 rfl ?_
            refine ja_zreturn duse_210 rfl (by omega) ?_
            exact mo_fin (by omega) rfl (k1 (ja_up (ja_up (ja_up u 70 ((u 0 109).toNat) (h 0 95)) 0 109 ((u 0 109) + 1)) 0 7 ((u 0 7) + 1)) (ab_leaf g p1 p2 (lfU_G (by omega) lf)) g2)
          · intro h3 k199_1 g4
            replace k199_1 : 0 < (h3 0 8) ∧ (h3 0 1) = (u 0 1) ∧ (h3 0 118) = (u 0 118) ∧ (h3 0 127) = (u 0 127) := k199_1
            refine ja_if_eq 209 duse_202 rfl ⟨by decide, by decide⟩ (fun c202 => ?_) (fun c202 => absurd c202 (by omega))
            refine ja_iconst duse_209 ?_
            refine ja_zreturn duse_210 rfl (by omega) ?_
            exact mo_fin (by omega) rfl (k2 h3 (by omega) g4)
        · refine ja_aload_n duse_70 rfl rfl ?_
          refine t_isName (by decide) (show (0 : Nat) ≤ 8 by decide) duse_71 gu  ?_
          intro w5 k71_0
          refine ja_if_eq 94 duse_74 rfl ⟨by omega, by omega⟩ (fun c74 => ?_) (fun c74 => ?_)
          · replace k71_0 := is0 k71_0 c74
            refine ja_aload_n duse_94 rfl rfl ?_
            refine fg_at (v := u 0 7) rfl duse_95 ?_
            have f6 := gF_at gu
            refine ja_istore_n duse_98 rfl (by decide) (L2 := [(3, (0, (u 0 7))), (0, (2, ((0 : Nat) : Int))), (1, (0, (h 0 95))), (2, (0, x2))]) rfl ?_
            refine ja_aload_n duse_99 rfl rfl ?_
            refine t_name (by decide) (show (0 : Nat) ≤ 8 by decide) duse_100 gu  ?_ ?_
            · intro k100_0 g7
              replace k100_0 : (u 0 7) < 900 ∧ (u 2 (u 0 7).toNat) = 2 := k100_0
              replace g7 : mo_G Zz (ja_up u 0 7 ((u 0 7) + 1)) := g7
              show mJ l D cA ad 4 cX12_use 5 (some .boolean) 103 [(3, (0, (u 0 7))), (0, (2, ((0 : Nat) : Int))), (1, (0, (h 0 95))), (2, (0, x2))] [(0, 1)] (ja_up u 0 7 ((u 0 7) + 1)) Q
              refine ja_if_ne 108 duse_103 rfl ⟨by decide, by decide⟩ (fun c103 => ?_) (fun c103 => absurd c103 (by omega))
              refine ja_aload_n duse_108 rfl rfl ?_
              refine ja_iload_n duse_109 rfl rfl ?_
              refine t_paramOf (by decide) (show (0 : Nat) ≤ 8 by decide) duse_110 g7 ⟨by omega, by omega⟩ (show 0 ≤ (u 0 7) ∧ (u 0 7) ≤ 900 by omega) ?_
              intro w8 k110_0
              replace k110_0 : -1 ≤ w8 ∧ w8 < (u 0 82) := k110_0
              refine ja_istore duse_113 (by decide) (L2 := [(4, (0, w8)), (3, (0, (u 0 7))), (0, (2, ((0 : Nat) : Int))), (1, (0, (h 0 95))), (2, (0, x2))]) rfl ?_
              refine ja_iload duse_115 rfl ?_
              refine ja_if_ge 129 duse_117 rfl ⟨by omega, by omega⟩ (fun c117 => ?_) (fun c117 => ?_)
              · refine ja_aload_n duse_129 rfl rfl ?_
                refine ja_iload_n duse_130 rfl rfl ?_
                refine ja_iload duse_131 rfl ?_
                refine ja_iload_n duse_133 rfl rfl ?_
                refine t_bind (by decide) (show (0 : Nat) ≤ 8 by decide) duse_134 g7 ⟨by omega, by omega⟩ ⟨by omega, by omega⟩ ⟨by omega, by omega⟩ (show 0 ≤ (h 0 95) ∧ (h 0 95) ≤ 899 by omega) (show 0 ≤ (u 0 7) ∧ (u 0 7) ≤ 900 by omega) ?_
                intro w9 w10 w11 w12 k134_0 g13
                replace k134_0 : 0 ≤ w9 ∧ w9 ≤ 8 ∧ (1 ≤ w9 ∨ w9 = (u 0 11)) ∧ -2147483648 ≤ w10 ∧ w10 ≤ 2147483647 ∧ 0 ≤ w11 ∧ w11 ≤ 1 ∧ -2147483648 ≤ w12 ∧ w12 ≤ 2147483647 := k134_0
                replace g13 : mo_G Zz (ja_up (ja_up (ja_up (ja_up (ja_up u 0 7 ((u 0 7) + 1)) 0 11 w9) 0 12 w10) 66 ((h 0 95).toNat) w11) 65 ((h 0 95).toNat) w12) := g13
                show mJ l D cA ad 4 cX12_use 5 (some .boolean) 137 [(4, (0, w8)), (3, (0, (u 0 7))), (0, (2, ((0 : Nat) : Int))), (1, (0, (h 0 95))), (2, (0, x2))] [] (ja_up (ja_up (ja_up (ja_up (ja_up u 0 7 ((u 0 7) + 1)) 0 11 w9) 0 12 w10) 66 ((h 0 95).toNat) w11) 65 ((h 0 95).toNat) w12) Q
                refine ja_aload_n duse_137 rfl rfl ?_
                refine fa_nodeArg duse_138 ?_
                refine ja_bipush 7 duse_141 rfl ?_
                refine ja_iload_n duse_143 rfl rfl ?_
                refine ja_imul duse_144 ?_
                refine ja_aload_n duse_145 rfl rfl ?_
                refine fa_nodeMany duse_146 ?_
                refine ja_iload_n duse_149 rfl rfl ?_
                refine il_nodeMany (v := u 62 (h 0 95).toNat) rfl ⟨by omega, by omega⟩ duse_150 ?_
                have f14 := gC_nodeMany gu (h 0 95).toNat
                refine ja_iadd duse_151 ?_
                refine ja_iload duse_152 rfl ?_
                have g15 := gW_nodeArg g13 ((7 * (h 0 95)) + (u 62 (h 0 95).toNat)).toNat (x := w8) ⟨by omega, by omega⟩
                refine is_nodeArg ⟨by omega, by omega⟩ duse_154 ?_
                refine ja_aload_n duse_155 rfl rfl ?_
                refine fa_nodeMany duse_156 ?_
                refine ja_iload_n duse_159 rfl rfl ?_
                refine ja_dup2 duse_160 (by first | decide | (dsimp only; decide)) (by first | decide | (dsimp only; decide)) ?_
                refine il_nodeMany (v := u 62 (h 0 95).toNat) rfl ⟨by omega, by omega⟩ duse_161 ?_
                refine ja_iconst duse_162 ?_
                refine ja_iadd duse_163 ?_
                have g16 := gW_nodeMany g15 (h 0 95).toNat (x := (u 62 (h 0 95).toNat) + 1) ⟨by omega, by omega⟩
                refine is_nodeMany ⟨by omega, by omega⟩ duse_164 ?_
                refine ja_aload_n duse_165 rfl rfl ?_
                refine ja_bipush 44 duse_166 rfl ?_
                refine t_isSign (by decide) (show (0 : Nat) ≤ 8 by decide) duse_168 g16 ⟨by decide, by decide⟩ ?_
                intro w17 k168_0
                replace k168_0 : (w17 = 1 ∧ (u 2 ((u 0 7) + 1).toNat) = 5 ∧ (u 5 ((u 0 7) + 1).toNat) = 44) ∨ (w17 = 0 ∧ ¬ ((u 2 ((u 0 7) + 1).toNat) = 5 ∧ (u 5 ((u 0 7) + 1).toNat) = 44)) := k168_0
                refine ja_istore_n duse_171 rfl (by decide) (L2 := [(2, (0, w17)), (4, (0, w8)), (3, (0, (u 0 7))), (0, (2, ((0 : Nat) : Int))), (1, (0, (h 0 95)))]) rfl ?_
                refine ja_iload_n duse_172 rfl rfl ?_
                refine ja_if_eq 185 duse_173 rfl ⟨by omega, by omega⟩ (fun c173 => ?_) (fun c173 => ?_)
                · replace k168_0 := is0 k168_0 c173
                  refine ja_goto 66 duse_185 rfl ?_
                  exact ja_wk (fun q hq => by simp only [List.mem_cons, List.not_mem_nil, or_false] at hq; rcases hq with rfl | rfl | rfl <;> rfl) ((ih ((1000 - ((u 0 7) + 1)).toNat) (by omega)) w17 (ja_up (ja_up (ja_up (ja_up (ja_up (ja_up (ja_up u 0 7 ((u 0 7) + 1)) 0 11 w9) 0 12 w10) 66 ((h 0 95).toNat) w11) 65 ((h 0 95).toNat) w12) 63 (((7 * (h 0 95)) + (u 62 (h 0 95).toNat)).toNat) w8) 62 ((h 0 95).toNat) ((u 62 (h 0 95).toNat) + 1)) g16 ⟨by omega, by omega⟩ (⟨(lfU_bind g lf (by omega) (by omega) (by omega)), by omega, (show (u 0 68) < ((u 0 7) + 1) by omega)⟩) rfl)
                · have z173 := is1v k168_0 c173
                  replace k168_0 := is1 k168_0 c173
                  refine ja_aload_n duse_176 rfl rfl ?_
                  refine t_take (by decide) (show (0 : Nat) ≤ 8 by decide) duse_177 g16  ?_ ?_
                  · intro k177_0 g18
                    replace k177_0 : ((u 0 7) + 1) < 900 := k177_0
                    replace g18 : mo_G Zz (ja_up (ja_up (ja_up (ja_up (ja_up (ja_up (ja_up (ja_up u 0 7 ((u 0 7) + 1)) 0 11 w9) 0 12 w10) 66 ((h 0 95).toNat) w11) 65 ((h 0 95).toNat) w12) 63 (((7 * (h 0 95)) + (u 62 (h 0 95).toNat)).toNat) w8) 62 ((h 0 95).toNat) ((u 62 (h 0 95).toNat) + 1)) 0 7 (((u 0 7) + 1) + 1)) := g18
                    show mJ l D cA ad 4 cX12_use 5 (some .boolean) 180 [(2, (0, w17)), (4, (0, w8)), (3, (0, (u 0 7))), (0, (2, ((0 : Nat) : Int))), (1, (0, (h 0 95)))] [(0, 1)] (ja_up (ja_up (ja_up (ja_up (ja_up (ja_up (ja_up (ja_up u 0 7 ((u 0 7) + 1)) 0 11 w9) 0 12 w10) 66 ((h 0 95).toNat) w11) 65 ((h 0 95).toNat) w12) 63 (((7 * (h 0 95)) + (u 62 (h 0 95).toNat)).toNat) w8) 62 ((h 0 95).toNat) ((u 62 (h 0 95).toNat) + 1)) 0 7 (((u 0 7) + 1) + 1)) Q
                    refine ja_if_ne 185 duse_180 rfl ⟨by decide, by decide⟩ (fun c180 => ?_) (fun c180 => absurd c180 (by omega))
                    refine ja_goto 66 duse_185 rfl ?_
                    exact ja_wk (fun q hq => by simp only [List.mem_cons, List.not_mem_nil, or_false] at hq; rcases hq with rfl | rfl | rfl <;> rfl) ((ih ((1000 - (((u 0 7) + 1) + 1)).toNat) (by omega)) w17 (ja_up (ja_up (ja_up (ja_up (ja_up (ja_up (ja_up (ja_up u 0 7 ((u 0 7) + 1)) 0 11 w9) 0 12 w10) 66 ((h 0 95).toNat) w11) 65 ((h 0 95).toNat) w12) 63 (((7 * (h 0 95)) + (u 62 (h 0 95).toNat)).toNat) w8) 62 ((h 0 95).toNat) ((u 62 (h 0 95).toNat) + 1)) 0 7 (((u 0 7) + 1) + 1)) g18 ⟨by omega, by omega⟩ (⟨(lfU_tk (lfU_bind g lf (by omega) (by omega) (by omega))), by omega, (show (u 0 68) < (((u 0 7) + 1) + 1) by omega)⟩) rfl)
                  · intro h19 k177_1 g20
                    replace k177_1 : 0 < (h19 0 8) ∧ (h19 0 1) = (u 0 1) ∧ (h19 0 118) = (u 0 118) ∧ (h19 0 127) = (u 0 127) := k177_1
                    refine ja_if_ne 185 duse_180 rfl ⟨by decide, by decide⟩ (fun c180 => absurd c180 (by omega)) (fun c180 => ?_)
                    refine ja_iconst duse_183 ?_
                    refine ja_zreturn duse_184 rfl (by omega) ?_
                    exact mo_fin (by omega) rfl (k2 h19 (by omega) g20)
              · refine ja_aload_n duse_120 rfl rfl ?_
                refine ja_iconst duse_121 ?_
                refine ja_iload_n duse_122 rfl rfl ?_
                refine t_judge (by decide) (show (0 : Nat) ≤ 8 by decide) duse_123 g7 ⟨by decide, by decide⟩ ⟨by omega, by omega⟩ (show 1 ≤ 5 ∧ 5 ≤ 8 by omega) (show 0 ≤ (u 0 7) ∧ (u 0 7) ≤ 900 by omega) ?_
                intro w21 w22 k123_0 g23
                replace k123_0 : 1 ≤ w21 ∧ w21 ≤ 8 ∧ -2147483648 ≤ w22 ∧ w22 ≤ 2147483647 := k123_0
                replace g23 : mo_G Zz (ja_up (ja_up (ja_up u 0 7 ((u 0 7) + 1)) 0 11 w21) 0 12 w22) := g23
                show mJ l D cA ad 4 cX12_use 5 (some .boolean) 126 [(4, (0, w8)), (3, (0, (u 0 7))), (0, (2, ((0 : Nat) : Int))), (1, (0, (h 0 95))), (2, (0, x2))] [] (ja_up (ja_up (ja_up u 0 7 ((u 0 7) + 1)) 0 11 w21) 0 12 w22) Q
                refine ja_goto 137 duse_126 rfl ?_
                refine ja_aload_n duse_137 rfl rfl ?_
                refine fa_nodeArg duse_138 ?_
                refine ja_bipush 7 duse_141 rfl ?_
                refine ja_iload_n duse_143 rfl rfl ?_
                refine ja_imul duse_144 ?_
                refine ja_aload_n duse_145 rfl rfl ?_
                refine fa_nodeMany duse_146 ?_
                refine ja_iload_n duse_149 rfl rfl ?_
                refine il_nodeMany (v := u 62 (h 0 95).toNat) rfl ⟨by omega, by omega⟩ duse_150 ?_
                have f24 := gC_nodeMany gu (h 0 95).toNat
                refine ja_iadd duse_151 ?_
                refine ja_iload duse_152 rfl ?_
                have g25 := gW_nodeArg g23 ((7 * (h 0 95)) + (u 62 (h 0 95).toNat)).toNat (x := w8) ⟨by omega, by omega⟩
                refine is_nodeArg ⟨by omega, by omega⟩ duse_154 ?_
                refine ja_aload_n duse_155 rfl rfl ?_
                refine fa_nodeMany duse_156 ?_
                refine ja_iload_n duse_159 rfl rfl ?_
                refine ja_dup2 duse_160 (by first | decide | (dsimp only; decide)) (by first | decide | (dsimp only; decide)) ?_
                refine il_nodeMany (v := u 62 (h 0 95).toNat) rfl ⟨by omega, by omega⟩ duse_161 ?_
                refine ja_iconst duse_162 ?_
                refine ja_iadd duse_163 ?_
                have g26 := gW_nodeMany g25 (h 0 95).toNat (x := (u 62 (h 0 95).toNat) + 1) ⟨by omega, by omega⟩
                refine is_nodeMany ⟨by omega, by omega⟩ duse_164 ?_
                refine ja_aload_n duse_165 rfl rfl ?_
                refine ja_bipush 44 duse_166 rfl ?_
                refine t_isSign (by decide) (show (0 : Nat) ≤ 8 by decide) duse_168 g26 ⟨by decide, by decide⟩ ?_
                intro w27 k168_0
                replace k168_0 : (w27 = 1 ∧ (u 2 ((u 0 7) + 1).toNat) = 5 ∧ (u 5 ((u 0 7) + 1).toNat) = 44) ∨ (w27 = 0 ∧ ¬ ((u 2 ((u 0 7) + 1).toNat) = 5 ∧ (u 5 ((u 0 7) + 1).toNat) = 44)) := k168_0
                refine ja_istore_n duse_171 rfl (by decide) (L2 := [(2, (0, w27)), (4, (0, w8)), (3, (0, (u 0 7))), (0, (2, ((0 : Nat) : Int))), (1, (0, (h 0 95)))]) rfl ?_
                refine ja_iload_n duse_172 rfl rfl ?_
                refine ja_if_eq 185 duse_173 rfl ⟨by omega, by omega⟩ (fun c173 => ?_) (fun c173 => ?_)
                · replace k168_0 := is0 k168_0 c173
                  refine ja_goto 66 duse_185 rfl ?_
                  exact ja_wk (fun q hq => by simp only [List.mem_cons, List.not_mem_nil, or_false] at hq; rcases hq with rfl | rfl | rfl <;> rfl) ((ih ((1000 - ((u 0 7) + 1)).toNat) (by omega)) w27 (ja_up (ja_up (ja_up (ja_up (ja_up u 0 7 ((u 0 7) + 1)) 0 11 w21) 0 12 w22) 63 (((7 * (h 0 95)) + (u 62 (h 0 95).toNat)).toNat) w8) 62 ((h 0 95).toNat) ((u 62 (h 0 95).toNat) + 1)) g26 ⟨by omega, by omega⟩ (⟨(lfU_no g lf (by omega) (by omega)), by omega, (show (u 0 68) < ((u 0 7) + 1) by omega)⟩) rfl)
                · have z173 := is1v k168_0 c173
                  replace k168_0 := is1 k168_0 c173
                  refine ja_aload_n duse_176 rfl rfl ?_
                  refine t_take (by decide) (show (0 : Nat) ≤ 8 by decide) duse_177 g26  ?_ ?_
                  · intro k177_0 g28
                    replace k177_0 : ((u 0 7) + 1) < 900 := k177_0
                    replace g28 : mo_G Zz (ja_up (ja_up (ja_up (ja_up (ja_up (ja_up u 0 7 ((u 0 7) + 1)) 0 11 w21) 0 12 w22) 63 (((7 * (h 0 95)) + (u 62 (h 0 95).toNat)).toNat) w8) 62 ((h 0 95).toNat) ((u 62 (h 0 95).toNat) + 1)) 0 7 (((u 0 7) + 1) + 1)) := g28
                    show mJ l D cA ad 4 cX12_use 5 (some .boolean) 180 [(2, (0, w27)), (4, (0, w8)), (3, (0, (u 0 7))), (0, (2, ((0 : Nat) : Int))), (1, (0, (h 0 95)))] [(0, 1)] (ja_up (ja_up (ja_up (ja_up (ja_up (ja_up u 0 7 ((u 0 7) + 1)) 0 11 w21) 0 12 w22) 63 (((7 * (h 0 95)) + (u 62 (h 0 95).toNat)).toNat) w8) 62 ((h 0 95).toNat) ((u 62 (h 0 95).toNat) + 1)) 0 7 (((u 0 7) + 1) + 1)) Q
                    refine ja_if_ne 185 duse_180 rfl ⟨by decide, by decide⟩ (fun c180 => ?_) (fun c180 => absurd c180 (by omega))
                    refine ja_goto 66 duse_185 rfl ?_
                    exact ja_wk (fun q hq => by simp only [List.mem_cons, List.not_mem_nil, or_false] at hq; rcases hq with rfl | rfl | rfl <;> rfl) ((ih ((1000 - (((u 0 7) + 1) + 1)).toNat) (by omega)) w27 (ja_up (ja_up (ja_up (ja_up (ja_up (ja_up u 0 7 ((u 0 7) + 1)) 0 11 w21) 0 12 w22) 63 (((7 * (h 0 95)) + (u 62 (h 0 95).toNat)).toNat) w8) 62 ((h 0 95).toNat) ((u 62 (h 0 95).toNat) + 1)) 0 7 (((u 0 7) + 1) + 1)) g28 ⟨by omega, by omega⟩ (⟨(lfU_tk (lfU_no g lf (by omega) (by omega))), by omega, (show (u 0 68) < (((u 0 7) + 1) + 1) by omega)⟩) rfl)
                  · intro h29 k177_1 g30
                    replace k177_1 : 0 < (h29 0 8) ∧ (h29 0 1) = (u 0 1) ∧ (h29 0 118) = (u 0 118) ∧ (h29 0 127) = (u 0 127) := k177_1
                    refine ja_if_ne 185 duse_180 rfl ⟨by decide, by decide⟩ (fun c180 => absurd c180 (by omega)) (fun c180 => ?_)
                    refine ja_iconst duse_183 ?_
                    refine ja_zreturn duse_184 rfl (by omega) ?_
                    exact mo_fin (by omega) rfl (k2 h29 (by omega) g30)
            · intro h31 k100_1 g32
              refine ja_if_ne 108 duse_103 rfl ⟨by decide, by decide⟩ (fun c103 => absurd c103 (by omega)) (fun c103 => ?_)
              refine ja_iconst duse_106 ?_
              refine ja_zreturn duse_107 rfl (by omega) ?_
              exact mo_fin (by omega) rfl (k2 h31 (by omega) g32)
          · have z74 := is1v k71_0 c74
            replace k71_0 := is1 k71_0 c74
            refine ja_aload_n duse_77 rfl rfl ?_
            refine fa_nodeMany duse_78 ?_
            refine ja_iload_n duse_81 rfl rfl ?_
            refine il_nodeMany (v := u 62 (h 0 95).toNat) rfl ⟨by omega, by omega⟩ duse_82 ?_
            have f33 := gC_nodeMany gu (h 0 95).toNat
            refine ja_bipush 6 duse_83 rfl ?_
            refine ja_icmp_ne 94 duse_85 rfl ⟨by omega, by omega⟩ ⟨by decide, by decide⟩ (fun c85 => ?_) (fun c85 => ?_)
            · refine ja_aload_n duse_94 rfl rfl ?_
              refine fg_at (v := u 0 7) rfl duse_95 ?_
              have f34 := gF_at gu
              refine ja_istore_n duse_98 rfl (by decide) (L2 := [(3, (0, (u 0 7))), (0, (2, ((0 : Nat) : Int))), (1, (0, (h 0 95))), (2, (0, x2))]) rfl ?_
              refine ja_aload_n duse_99 rfl rfl ?_
              refine t_name (by decide) (show (0 : Nat) ≤ 8 by decide) duse_100 gu  ?_ ?_
              · intro k100_0 g35
                replace k100_0 : (u 0 7) < 900 ∧ (u 2 (u 0 7).toNat) = 2 := k100_0
                replace g35 : mo_G Zz (ja_up u 0 7 ((u 0 7) + 1)) := g35
                show mJ l D cA ad 4 cX12_use 5 (some .boolean) 103 [(3, (0, (u 0 7))), (0, (2, ((0 : Nat) : Int))), (1, (0, (h 0 95))), (2, (0, x2))] [(0, 1)] (ja_up u 0 7 ((u 0 7) + 1)) Q
                refine ja_if_ne 108 duse_103 rfl ⟨by decide, by decide⟩ (fun c103 => ?_) (fun c103 => absurd c103 (by omega))
                refine ja_aload_n duse_108 rfl rfl ?_
                refine ja_iload_n duse_109 rfl rfl ?_
                refine t_paramOf (by decide) (show (0 : Nat) ≤ 8 by decide) duse_110 g35 ⟨by omega, by omega⟩ (show 0 ≤ (u 0 7) ∧ (u 0 7) ≤ 900 by omega) ?_
                intro w36 k110_0
                replace k110_0 : -1 ≤ w36 ∧ w36 < (u 0 82) := k110_0
                refine ja_istore duse_113 (by decide) (L2 := [(4, (0, w36)), (3, (0, (u 0 7))), (0, (2, ((0 : Nat) : Int))), (1, (0, (h 0 95))), (2, (0, x2))]) rfl ?_
                refine ja_iload duse_115 rfl ?_
                refine ja_if_ge 129 duse_117 rfl ⟨by omega, by omega⟩ (fun c117 => ?_) (fun c117 => ?_)
                · refine ja_aload_n duse_129 rfl rfl ?_
                  refine ja_iload_n duse_130 rfl rfl ?_
                  refine ja_iload duse_131 rfl ?_
                  refine ja_iload_n duse_133 rfl rfl ?_
                  refine t_bind (by decide) (show (0 : Nat) ≤ 8 by decide) duse_134 g35 ⟨by omega, by omega⟩ ⟨by omega, by omega⟩ ⟨by omega, by omega⟩ (show 0 ≤ (h 0 95) ∧ (h 0 95) ≤ 899 by omega) (show 0 ≤ (u 0 7) ∧ (u 0 7) ≤ 900 by omega) ?_
                  intro w37 w38 w39 w40 k134_0 g41
                  replace k134_0 : 0 ≤ w37 ∧ w37 ≤ 8 ∧ (1 ≤ w37 ∨ w37 = (u 0 11)) ∧ -2147483648 ≤ w38 ∧ w38 ≤ 2147483647 ∧ 0 ≤ w39 ∧ w39 ≤ 1 ∧ -2147483648 ≤ w40 ∧ w40 ≤ 2147483647 := k134_0
                  replace g41 : mo_G Zz (ja_up (ja_up (ja_up (ja_up (ja_up u 0 7 ((u 0 7) + 1)) 0 11 w37) 0 12 w38) 66 ((h 0 95).toNat) w39) 65 ((h 0 95).toNat) w40) := g41
                  show mJ l D cA ad 4 cX12_use 5 (some .boolean) 137 [(4, (0, w36)), (3, (0, (u 0 7))), (0, (2, ((0 : Nat) : Int))), (1, (0, (h 0 95))), (2, (0, x2))] [] (ja_up (ja_up (ja_up (ja_up (ja_up u 0 7 ((u 0 7) + 1)) 0 11 w37) 0 12 w38) 66 ((h 0 95).toNat) w39) 65 ((h 0 95).toNat) w40) Q
                  refine ja_aload_n duse_137 rfl rfl ?_
                  refine fa_nodeArg duse_138 ?_
                  refine ja_bipush 7 duse_141 rfl ?_
                  refine ja_iload_n duse_143 rfl rfl ?_
                  refine ja_imul duse_144 ?_
                  refine ja_aload_n duse_145 rfl rfl ?_
                  refine fa_nodeMany duse_146 ?_
                  refine ja_iload_n duse_149 rfl rfl ?_
                  refine il_nodeMany (v := u 62 (h 0 95).toNat) rfl ⟨by omega, by omega⟩ duse_150 ?_
                  refine ja_iadd duse_151 ?_
                  refine ja_iload duse_152 rfl ?_
                  have g42 := gW_nodeArg g41 ((7 * (h 0 95)) + (u 62 (h 0 95).toNat)).toNat (x := w36) ⟨by omega, by omega⟩
                  refine is_nodeArg ⟨by omega, by omega⟩ duse_154 ?_
                  refine ja_aload_n duse_155 rfl rfl ?_
                  refine fa_nodeMany duse_156 ?_
                  refine ja_iload_n duse_159 rfl rfl ?_
                  refine ja_dup2 duse_160 (by first | decide | (dsimp only; decide)) (by first | decide | (dsimp only; decide)) ?_
                  refine il_nodeMany (v := u 62 (h 0 95).toNat) rfl ⟨by omega, by omega⟩ duse_161 ?_
                  refine ja_iconst duse_162 ?_
                  refine ja_iadd duse_163 ?_
                  have g43 := gW_nodeMany g42 (h 0 95).toNat (x := (u 62 (h 0 95).toNat) + 1) ⟨by omega, by omega⟩
                  refine is_nodeMany ⟨by omega, by omega⟩ duse_164 ?_
                  refine ja_aload_n duse_165 rfl rfl ?_
                  refine ja_bipush 44 duse_166 rfl ?_
                  refine t_isSign (by decide) (show (0 : Nat) ≤ 8 by decide) duse_168 g43 ⟨by decide, by decide⟩ ?_
                  intro w44 k168_0
                  replace k168_0 : (w44 = 1 ∧ (u 2 ((u 0 7) + 1).toNat) = 5 ∧ (u 5 ((u 0 7) + 1).toNat) = 44) ∨ (w44 = 0 ∧ ¬ ((u 2 ((u 0 7) + 1).toNat) = 5 ∧ (u 5 ((u 0 7) + 1).toNat) = 44)) := k168_0
                  refine ja_istore_n duse_171 rfl (by decide) (L2 := [(2, (0, w44)), (4, (0, w36)), (3, (0, (u 0 7))), (0, (2, ((0 : Nat) : Int))), (1, (0, (h 0 95)))]) rfl ?_
                  refine ja_iload_n duse_172 rfl rfl ?_
                  refine ja_if_eq 185 duse_173 rfl ⟨by omega, by omega⟩ (fun c173 => ?_) (fun c173 => ?_)
                  · replace k168_0 := is0 k168_0 c173
                    refine ja_goto 66 duse_185 rfl ?_
                    exact ja_wk (fun q hq => by simp only [List.mem_cons, List.not_mem_nil, or_false] at hq; rcases hq with rfl | rfl | rfl <;> rfl) ((ih ((1000 - ((u 0 7) + 1)).toNat) (by omega)) w44 (ja_up (ja_up (ja_up (ja_up (ja_up (ja_up (ja_up u 0 7 ((u 0 7) + 1)) 0 11 w37) 0 12 w38) 66 ((h 0 95).toNat) w39) 65 ((h 0 95).toNat) w40) 63 (((7 * (h 0 95)) + (u 62 (h 0 95).toNat)).toNat) w36) 62 ((h 0 95).toNat) ((u 62 (h 0 95).toNat) + 1)) g43 ⟨by omega, by omega⟩ (⟨(lfU_bind g lf (by omega) (by omega) (by omega)), by omega, (show (u 0 68) < ((u 0 7) + 1) by omega)⟩) rfl)
                  · have z173 := is1v k168_0 c173
                    replace k168_0 := is1 k168_0 c173
                    refine ja_aload_n duse_176 rfl rfl ?_
                    refine t_take (by decide) (show (0 : Nat) ≤ 8 by decide) duse_177 g43  ?_ ?_
                    · intro k177_0 g45
                      replace k177_0 : ((u 0 7) + 1) < 900 := k177_0
                      replace g45 : mo_G Zz (ja_up (ja_up (ja_up (ja_up (ja_up (ja_up (ja_up (ja_up u 0 7 ((u 0 7) + 1)) 0 11 w37) 0 12 w38) 66 ((h 0 95).toNat) w39) 65 ((h 0 95).toNat) w40) 63 (((7 * (h 0 95)) + (u 62 (h 0 95).toNat)).toNat) w36) 62 ((h 0 95).toNat) ((u 62 (h 0 95).toNat) + 1)) 0 7 (((u 0 7) + 1) + 1)) := g45
                      show mJ l D cA ad 4 cX12_use 5 (some .boolean) 180 [(2, (0, w44)), (4, (0, w36)), (3, (0, (u 0 7))), (0, (2, ((0 : Nat) : Int))), (1, (0, (h 0 95)))] [(0, 1)] (ja_up (ja_up (ja_up (ja_up (ja_up (ja_up (ja_up (ja_up u 0 7 ((u 0 7) + 1)) 0 11 w37) 0 12 w38) 66 ((h 0 95).toNat) w39) 65 ((h 0 95).toNat) w40) 63 (((7 * (h 0 95)) + (u 62 (h 0 95).toNat)).toNat) w36) 62 ((h 0 95).toNat) ((u 62 (h 0 95).toNat) + 1)) 0 7 (((u 0 7) + 1) + 1)) Q
                      refine ja_if_ne 185 duse_180 rfl ⟨by decide, by decide⟩ (fun c180 => ?_) (fun c180 => absurd c180 (by omega))
                      refine ja_goto 66 duse_185 rfl ?_
                      exact ja_wk (fun q hq => by simp only [List.mem_cons, List.not_mem_nil, or_false] at hq; rcases hq with rfl | rfl | rfl <;> rfl) ((ih ((1000 - (((u 0 7) + 1) + 1)).toNat) (by omega)) w44 (ja_up (ja_up (ja_up (ja_up (ja_up (ja_up (ja_up (ja_up u 0 7 ((u 0 7) + 1)) 0 11 w37) 0 12 w38) 66 ((h 0 95).toNat) w39) 65 ((h 0 95).toNat) w40) 63 (((7 * (h 0 95)) + (u 62 (h 0 95).toNat)).toNat) w36) 62 ((h 0 95).toNat) ((u 62 (h 0 95).toNat) + 1)) 0 7 (((u 0 7) + 1) + 1)) g45 ⟨by omega, by omega⟩ (⟨(lfU_tk (lfU_bind g lf (by omega) (by omega) (by omega))), by omega, (show (u 0 68) < (((u 0 7) + 1) + 1) by omega)⟩) rfl)
                    · intro h46 k177_1 g47
                      replace k177_1 : 0 < (h46 0 8) ∧ (h46 0 1) = (u 0 1) ∧ (h46 0 118) = (u 0 118) ∧ (h46 0 127) = (u 0 127) := k177_1
                      refine ja_if_ne 185 duse_180 rfl ⟨by decide, by decide⟩ (fun c180 => absurd c180 (by omega)) (fun c180 => ?_)
                      refine ja_iconst duse_183 ?_
                      refine ja_zreturn duse_184 rfl (by omega) ?_
                      exact mo_fin (by omega) rfl (k2 h46 (by omega) g47)
                · refine ja_aload_n duse_120 rfl rfl ?_
                  refine ja_iconst duse_121 ?_
                  refine ja_iload_n duse_122 rfl rfl ?_
                  refine t_judge (by decide) (show (0 : Nat) ≤ 8 by decide) duse_123 g35 ⟨by decide, by decide⟩ ⟨by omega, by omega⟩ (show 1 ≤ 5 ∧ 5 ≤ 8 by omega) (show 0 ≤ (u 0 7) ∧ (u 0 7) ≤ 900 by omega) ?_
                  intro w48 w49 k123_0 g50
                  replace k123_0 : 1 ≤ w48 ∧ w48 ≤ 8 ∧ -2147483648 ≤ w49 ∧ w49 ≤ 2147483647 := k123_0
                  replace g50 : mo_G Zz (ja_up (ja_up (ja_up u 0 7 ((u 0 7) + 1)) 0 11 w48) 0 12 w49) := g50
                  show mJ l D cA ad 4 cX12_use 5 (some .boolean) 126 [(4, (0, w36)), (3, (0, (u 0 7))), (0, (2, ((0 : Nat) : Int))), (1, (0, (h 0 95))), (2, (0, x2))] [] (ja_up (ja_up (ja_up u 0 7 ((u 0 7) + 1)) 0 11 w48) 0 12 w49) Q
                  refine ja_goto 137 duse_126 rfl ?_
                  refine ja_aload_n duse_137 rfl rfl ?_
                  refine fa_nodeArg duse_138 ?_
                  refine ja_bipush 7 duse_141 rfl ?_
                  refine ja_iload_n duse_143 rfl rfl ?_
                  refine ja_imul duse_144 ?_
                  refine ja_aload_n duse_145 rfl rfl ?_
                  refine fa_nodeMany duse_146 ?_
                  refine ja_iload_n duse_149 rfl rfl ?_
                  refine il_nodeMany (v := u 62 (h 0 95).toNat) rfl ⟨by omega, by omega⟩ duse_150 ?_
                  refine ja_iadd duse_151 ?_
                  refine ja_iload duse_152 rfl ?_
                  have g51 := gW_nodeArg g50 ((7 * (h 0 95)) + (u 62 (h 0 95).toNat)).toNat (x := w36) ⟨by omega, by omega⟩
                  refine is_nodeArg ⟨by omega, by omega⟩ duse_154 ?_
                  refine ja_aload_n duse_155 rfl rfl ?_
                  refine fa_nodeMany duse_156 ?_
                  refine ja_iload_n duse_159 rfl rfl ?_
                  refine ja_dup2 duse_160 (by first | decide | (dsimp only; decide)) (by first | decide | (dsimp only; decide)) ?_
                  refine il_nodeMany (v := u 62 (h 0 95).toNat) rfl ⟨by omega, by omega⟩ duse_161 ?_
                  refine ja_iconst duse_162 ?_
                  refine ja_iadd duse_163 ?_
                  have g52 := gW_nodeMany g51 (h 0 95).toNat (x := (u 62 (h 0 95).toNat) + 1) ⟨by omega, by omega⟩
                  refine is_nodeMany ⟨by omega, by omega⟩ duse_164 ?_
                  refine ja_aload_n duse_165 rfl rfl ?_
                  refine ja_bipush 44 duse_166 rfl ?_
                  refine t_isSign (by decide) (show (0 : Nat) ≤ 8 by decide) duse_168 g52 ⟨by decide, by decide⟩ ?_
                  intro w53 k168_0
                  replace k168_0 : (w53 = 1 ∧ (u 2 ((u 0 7) + 1).toNat) = 5 ∧ (u 5 ((u 0 7) + 1).toNat) = 44) ∨ (w53 = 0 ∧ ¬ ((u 2 ((u 0 7) + 1).toNat) = 5 ∧ (u 5 ((u 0 7) + 1).toNat) = 44)) := k168_0
                  refine ja_istore_n duse_171 rfl (by decide) (L2 := [(2, (0, w53)), (4, (0, w36)), (3, (0, (u 0 7))), (0, (2, ((0 : Nat) : Int))), (1, (0, (h 0 95)))]) rfl ?_
                  refine ja_iload_n duse_172 rfl rfl ?_
                  refine ja_if_eq 185 duse_173 rfl ⟨by omega, by omega⟩ (fun c173 => ?_) (fun c173 => ?_)
                  · replace k168_0 := is0 k168_0 c173
                    refine ja_goto 66 duse_185 rfl ?_
                    exact ja_wk (fun q hq => by simp only [List.mem_cons, List.not_mem_nil, or_false] at hq; rcases hq with rfl | rfl | rfl <;> rfl) ((ih ((1000 - ((u 0 7) + 1)).toNat) (by omega)) w53 (ja_up (ja_up (ja_up (ja_up (ja_up u 0 7 ((u 0 7) + 1)) 0 11 w48) 0 12 w49) 63 (((7 * (h 0 95)) + (u 62 (h 0 95).toNat)).toNat) w36) 62 ((h 0 95).toNat) ((u 62 (h 0 95).toNat) + 1)) g52 ⟨by omega, by omega⟩ (⟨(lfU_no g lf (by omega) (by omega)), by omega, (show (u 0 68) < ((u 0 7) + 1) by omega)⟩) rfl)
                  · have z173 := is1v k168_0 c173
                    replace k168_0 := is1 k168_0 c173
                    refine ja_aload_n duse_176 rfl rfl ?_
                    refine t_take (by decide) (show (0 : Nat) ≤ 8 by decide) duse_177 g52  ?_ ?_
                    · intro k177_0 g54
                      replace k177_0 : ((u 0 7) + 1) < 900 := k177_0
                      replace g54 : mo_G Zz (ja_up (ja_up (ja_up (ja_up (ja_up (ja_up u 0 7 ((u 0 7) + 1)) 0 11 w48) 0 12 w49) 63 (((7 * (h 0 95)) + (u 62 (h 0 95).toNat)).toNat) w36) 62 ((h 0 95).toNat) ((u 62 (h 0 95).toNat) + 1)) 0 7 (((u 0 7) + 1) + 1)) := g54
                      show mJ l D cA ad 4 cX12_use 5 (some .boolean) 180 [(2, (0, w53)), (4, (0, w36)), (3, (0, (u 0 7))), (0, (2, ((0 : Nat) : Int))), (1, (0, (h 0 95)))] [(0, 1)] (ja_up (ja_up (ja_up (ja_up (ja_up (ja_up u 0 7 ((u 0 7) + 1)) 0 11 w48) 0 12 w49) 63 (((7 * (h 0 95)) + (u 62 (h 0 95).toNat)).toNat) w36) 62 ((h 0 95).toNat) ((u 62 (h 0 95).toNat) + 1)) 0 7 (((u 0 7) + 1) + 1)) Q
                      refine ja_if_ne 185 duse_180 rfl ⟨by decide, by decide⟩ (fun c180 => ?_) (fun c180 => absurd c180 (by omega))
                      refine ja_goto 66 duse_185 rfl ?_
                      exact ja_wk (fun q hq => by simp only [List.mem_cons, List.not_mem_nil, or_false] at hq; rcases hq with rfl | rfl | rfl <;> rfl) ((ih ((1000 - (((u 0 7) + 1) + 1)).toNat) (by omega)) w53 (ja_up (ja_up (ja_up (ja_up (ja_up (ja_up u 0 7 ((u 0 7) + 1)) 0 11 w48) 0 12 w49) 63 (((7 * (h 0 95)) + (u 62 (h 0 95).toNat)).toNat) w36) 62 ((h 0 95).toNat) ((u 62 (h 0 95).toNat) + 1)) 0 7 (((u 0 7) + 1) + 1)) g54 ⟨by omega, by omega⟩ (⟨(lfU_tk (lfU_no g lf (by omega) (by omega))), by omega, (show (u 0 68) < (((u 0 7) + 1) + 1) by omega)⟩) rfl)
                    · intro h55 k177_1 g56
                      replace k177_1 : 0 < (h55 0 8) ∧ (h55 0 1) = (u 0 1) ∧ (h55 0 118) = (u 0 118) ∧ (h55 0 127) = (u 0 127) := k177_1
                      refine ja_if_ne 185 duse_180 rfl ⟨by decide, by decide⟩ (fun c180 => absurd c180 (by omega)) (fun c180 => ?_)
                      refine ja_iconst duse_183 ?_
                      refine ja_zreturn duse_184 rfl (by omega) ?_
                      exact mo_fin (by omega) rfl (k2 h55 (by omega) g56)
              · intro h57 k100_1 g58
                refine ja_if_ne 108 duse_103 rfl ⟨by decide, by decide⟩ (fun c103 => absurd c103 (by omega)) (fun c103 => ?_)
                refine ja_iconst duse_106 ?_
                refine ja_zreturn duse_107 rfl (by omega) ?_
                exact mo_fin (by omega) rfl (k2 h57 (by omega) g58)
            · refine ja_aload_n duse_88 rfl rfl ?_
              refine ja_iconst duse_89 ?_
              refine t_halt (by decide) (show (0 : Nat) ≤ 8 by decide) duse_90 gu ⟨by decide, by decide⟩ (show 1 ≤ 3 ∧ 3 ≤ 8 by omega) ?_
              intro h59 k90_0 g60
              refine ja_zreturn duse_93 rfl (by omega) ?_
              exact mo_fin (by omega) rfl (k2 h59 (by omega) g60)
  have hN := piB_num g p1 p2
  obtain ⟨N1, N2, N3, N4, N5, N6, N7, N8, N9, N10, N11, N12, N13, ⟨NK1, NK2⟩, ND1, ND2, ND3, NU1, NU2⟩ := hN
  have hn1 : (h 0 18) = 0 + pk_sum pk_c s := p2.1.1
  obtain ⟨T1, T2, T3, T4⟩ := bs_31t (by omega) p2
  have hip0 := p4
  refine ja_aload_n duse_0 rfl rfl ?_
  refine ja_bipush 12 duse_1 rfl ?_
  refine ja_iconst duse_3 ?_
  refine ja_iconst duse_4 ?_
  refine ja_aload_n duse_5 rfl rfl ?_
  refine fg_at (v := h 0 7) rfl duse_6 ?_
  have f61 := gF_at g
  refine t_node (by decide) (show (0 : Nat) ≤ 8 by decide) duse_9 g ⟨by decide, by decide⟩ ⟨by decide, by decide⟩ ⟨by decide, by decide⟩ ⟨by omega, by omega⟩ (show 0 ≤ 12 ∧ 12 ≤ 15 by omega) (show 0 ≤ (h 0 7) ∧ (h 0 7) ≤ 900 by omega) (show (h 0 95) < 900 by omega) ?_
  intro w62 k9_0 g63
  replace k9_0 : (w62 = 1 ∧ (h 0 85) = 1) ∨ (w62 = 0 ∧ (h 0 85) = 0) := k9_0
  replace g63 : mo_G Zz (ja_up (ja_up (ja_up (ja_up (ja_up (ja_up (ja_up (ja_up (ja_up (ja_up h 0 95 ((h 0 95) + 1)) 58 ((h 0 95).toNat) 12) 59 ((h 0 95).toNat) (-1)) 60 ((h 0 95).toNat) 0) 61 ((h 0 95).toNat) (h 0 7)) 62 ((h 0 95).toNat) 0) 64 ((h 0 95).toNat) (h 0 76)) 65 ((h 0 95).toNat) 0) 66 ((h 0 95).toNat) 0) 67 ((h 0 95).toNat) w62) := g63
  show mJ l D cA ad 4 cX12_use 5 (some .boolean) 12 [(0, (2, ((0 : Nat) : Int)))] [(0, (h 0 95))] (ja_up (ja_up (ja_up (ja_up (ja_up (ja_up (ja_up (ja_up (ja_up (ja_up h 0 95 ((h 0 95) + 1)) 58 ((h 0 95).toNat) 12) 59 ((h 0 95).toNat) (-1)) 60 ((h 0 95).toNat) 0) 61 ((h 0 95).toNat) (h 0 7)) 62 ((h 0 95).toNat) 0) 64 ((h 0 95).toNat) (h 0 76)) 65 ((h 0 95).toNat) 0) 66 ((h 0 95).toNat) 0) 67 ((h 0 95).toNat) w62) Q
  refine ja_istore_n duse_12 rfl (by decide) (L2 := [(1, (0, (h 0 95))), (0, (2, ((0 : Nat) : Int)))]) rfl ?_
  refine ja_aload_n duse_13 rfl rfl ?_
  refine fa_useNode duse_14 ?_
  refine ja_aload_n duse_17 rfl rfl ?_
  refine fg_uses (v := h 0 72) rfl duse_18 ?_
  have f64 := gF_uses g
  refine ja_iload_n duse_21 rfl rfl ?_
  have g65 := gW_useNode g63 (h 0 72).toNat (x := h 0 95) ⟨by omega, by omega⟩
  refine is_useNode ⟨by omega, by omega⟩ duse_22 ?_
  refine ja_aload_n duse_23 rfl rfl ?_
  refine ja_dup duse_24 (by decide) ?_
  refine fg_uses (v := h 0 72) rfl duse_25 ?_
  refine ja_iconst duse_28 ?_
  refine ja_iadd duse_29 ?_
  have g66 := gP_uses g65 (x := (h 0 72) + 1) ⟨by omega, by omega⟩
  refine fp_uses duse_30 ?_
  refine ja_aload_n duse_33 rfl rfl ?_
  refine t_take (by decide) (show (0 : Nat) ≤ 8 by decide) duse_34 g66  ?_ ?_
  · intro k34_0 g67
    replace k34_0 : (h 0 7) < 900 := k34_0
    replace g67 : mo_G Zz (ja_up (ja_up (ja_up (ja_up (ja_up (ja_up (ja_up (ja_up (ja_up (ja_up (ja_up (ja_up (ja_up h 0 95 ((h 0 95) + 1)) 58 ((h 0 95).toNat) 12) 59 ((h 0 95).toNat) (-1)) 60 ((h 0 95).toNat) 0) 61 ((h 0 95).toNat) (h 0 7)) 62 ((h 0 95).toNat) 0) 64 ((h 0 95).toNat) (h 0 76)) 65 ((h 0 95).toNat) 0) 66 ((h 0 95).toNat) 0) 67 ((h 0 95).toNat) w62) 47 ((h 0 72).toNat) (h 0 95)) 0 72 ((h 0 72) + 1)) 0 7 ((h 0 7) + 1)) := g67
    show mJ l D cA ad 4 cX12_use 5 (some .boolean) 37 [(1, (0, (h 0 95))), (0, (2, ((0 : Nat) : Int)))] [(0, 1)] (ja_up (ja_up (ja_up (ja_up (ja_up (ja_up (ja_up (ja_up (ja_up (ja_up (ja_up (ja_up (ja_up h 0 95 ((h 0 95) + 1)) 58 ((h 0 95).toNat) 12) 59 ((h 0 95).toNat) (-1)) 60 ((h 0 95).toNat) 0) 61 ((h 0 95).toNat) (h 0 7)) 62 ((h 0 95).toNat) 0) 64 ((h 0 95).toNat) (h 0 76)) 65 ((h 0 95).toNat) 0) 66 ((h 0 95).toNat) 0) 67 ((h 0 95).toNat) w62) 47 ((h 0 72).toNat) (h 0 95)) 0 72 ((h 0 72) + 1)) 0 7 ((h 0 7) + 1)) Q
    refine ja_if_eq 49 duse_37 rfl ⟨by decide, by decide⟩ (fun c37 => absurd c37 (by omega)) (fun c37 => ?_)
    refine ja_aload_n duse_40 rfl rfl ?_
    refine ja_bipush 40 duse_41 rfl ?_
    refine t_sign (by decide) (show (0 : Nat) ≤ 8 by decide) duse_43 g67 ⟨by decide, by decide⟩ ?_ ?_
    · intro k43_0 g68
      replace k43_0 : ((h 0 7) + 1) < 900 ∧ (h 2 ((h 0 7) + 1).toNat) = 5 ∧ (h 5 ((h 0 7) + 1).toNat) = 40 := k43_0
      replace g68 : mo_G Zz (ja_up (ja_up (ja_up (ja_up (ja_up (ja_up (ja_up (ja_up (ja_up (ja_up (ja_up (ja_up (ja_up (ja_up h 0 95 ((h 0 95) + 1)) 58 ((h 0 95).toNat) 12) 59 ((h 0 95).toNat) (-1)) 60 ((h 0 95).toNat) 0) 61 ((h 0 95).toNat) (h 0 7)) 62 ((h 0 95).toNat) 0) 64 ((h 0 95).toNat) (h 0 76)) 65 ((h 0 95).toNat) 0) 66 ((h 0 95).toNat) 0) 67 ((h 0 95).toNat) w62) 47 ((h 0 72).toNat) (h 0 95)) 0 72 ((h 0 72) + 1)) 0 7 ((h 0 7) + 1)) 0 7 (((h 0 7) + 1) + 1)) := g68
      show mJ l D cA ad 4 cX12_use 5 (some .boolean) 46 [(1, (0, (h 0 95))), (0, (2, ((0 : Nat) : Int)))] [(0, 1)] (ja_up (ja_up (ja_up (ja_up (ja_up (ja_up (ja_up (ja_up (ja_up (ja_up (ja_up (ja_up (ja_up (ja_up h 0 95 ((h 0 95) + 1)) 58 ((h 0 95).toNat) 12) 59 ((h 0 95).toNat) (-1)) 60 ((h 0 95).toNat) 0) 61 ((h 0 95).toNat) (h 0 7)) 62 ((h 0 95).toNat) 0) 64 ((h 0 95).toNat) (h 0 76)) 65 ((h 0 95).toNat) 0) 66 ((h 0 95).toNat) 0) 67 ((h 0 95).toNat) w62) 47 ((h 0 72).toNat) (h 0 95)) 0 72 ((h 0 72) + 1)) 0 7 ((h 0 7) + 1)) 0 7 (((h 0 7) + 1) + 1)) Q
      refine ja_if_ne 51 duse_46 rfl ⟨by decide, by decide⟩ (fun c46 => ?_) (fun c46 => absurd c46 (by omega))
      refine ja_aload_n duse_51 rfl rfl ?_
      refine ja_bipush 41 duse_52 rfl ?_
      refine t_isSign (by decide) (show (0 : Nat) ≤ 8 by decide) duse_54 g68 ⟨by decide, by decide⟩ ?_
      intro w69 k54_0
      replace k54_0 : (w69 = 1 ∧ (h 2 (((h 0 7) + 1) + 1).toNat) = 5 ∧ (h 5 (((h 0 7) + 1) + 1).toNat) = 41) ∨ (w69 = 0 ∧ ¬ ((h 2 (((h 0 7) + 1) + 1).toNat) = 5 ∧ (h 5 (((h 0 7) + 1) + 1).toNat) = 41)) := k54_0
      refine ja_if_ne 64 duse_57 rfl ⟨by omega, by omega⟩ (fun c57 => ?_) (fun c57 => ?_)
      · have z57 := is1v k54_0 c57
        replace k54_0 := is1 k54_0 c57
        refine ja_iconst duse_64 ?_
        refine ja_istore_n duse_65 rfl (by decide) (L2 := [(2, (0, 0)), (1, (0, (h 0 95))), (0, (2, ((0 : Nat) : Int)))]) rfl ?_
        exact ja_wk (fun q hq => by simp only [List.mem_cons, List.not_mem_nil, or_false] at hq; rcases hq with rfl | rfl | rfl <;> rfl) ((CUT _) 0 (ja_up (ja_up (ja_up (ja_up (ja_up (ja_up (ja_up (ja_up (ja_up (ja_up (ja_up (ja_up (ja_up (ja_up h 0 95 ((h 0 95) + 1)) 58 ((h 0 95).toNat) 12) 59 ((h 0 95).toNat) (-1)) 60 ((h 0 95).toNat) 0) 61 ((h 0 95).toNat) (h 0 7)) 62 ((h 0 95).toNat) 0) 64 ((h 0 95).toNat) (h 0 76)) 65 ((h 0 95).toNat) 0) 66 ((h 0 95).toNat) 0) 67 ((h 0 95).toNat) w62) 47 ((h 0 72).toNat) (h 0 95)) 0 72 ((h 0 72) + 1)) 0 7 ((h 0 7) + 1)) 0 7 (((h 0 7) + 1) + 1)) g68 ⟨by decide, by decide⟩ (⟨(lfU_tk (lfU_init (w := (h 0 7) + 1) (by omega) (by omega) (by omega) (by omega) hip0 (by omega))), by omega, (show (h 0 68) < (((h 0 7) + 1) + 1) by omega)⟩) rfl)
      · replace k54_0 := is0 k54_0 c57
        refine ja_iconst duse_60 ?_
        refine ja_goto 65 duse_61 rfl ?_
        refine ja_istore_n duse_65 rfl (by decide) (L2 := [(2, (0, 1)), (1, (0, (h 0 95))), (0, (2, ((0 : Nat) : Int)))]) rfl ?_
        exact ja_wk (fun q hq => by simp only [List.mem_cons, List.not_mem_nil, or_false] at hq; rcases hq with rfl | rfl | rfl <;> rfl) ((CUT _) 1 (ja_up (ja_up (ja_up (ja_up (ja_up (ja_up (ja_up (ja_up (ja_up (ja_up (ja_up (ja_up (ja_up (ja_up h 0 95 ((h 0 95) + 1)) 58 ((h 0 95).toNat) 12) 59 ((h 0 95).toNat) (-1)) 60 ((h 0 95).toNat) 0) 61 ((h 0 95).toNat) (h 0 7)) 62 ((h 0 95).toNat) 0) 64 ((h 0 95).toNat) (h 0 76)) 65 ((h 0 95).toNat) 0) 66 ((h 0 95).toNat) 0) 67 ((h 0 95).toNat) w62) 47 ((h 0 72).toNat) (h 0 95)) 0 72 ((h 0 72) + 1)) 0 7 ((h 0 7) + 1)) 0 7 (((h 0 7) + 1) + 1)) g68 ⟨by decide, by decide⟩ (⟨(lfU_tk (lfU_init (w := (h 0 7) + 1) (by omega) (by omega) (by omega) (by omega) hip0 (by omega))), by omega, (show (h 0 68) < (((h 0 7) + 1) + 1) by omega)⟩) rfl)
    · intro h70 k43_1 g71
      replace k43_1 : 0 < (h70 0 8) ∧ (h70 0 1) = (h 0 1) ∧ (h70 0 118) = (h 0 118) ∧ (h70 0 127) = (h 0 127) := k43_1
      refine ja_if_ne 51 duse_46 rfl ⟨by decide, by decide⟩ (fun c46 => absurd c46 (by omega)) (fun c46 => ?_)
      refine ja_iconst duse_49 ?_
      refine ja_zreturn duse_50 rfl (by omega) ?_
      exact mo_fin (by omega) rfl (k2 h70 (by omega) g71)
  · intro h72 k34_1 g73
    replace k34_1 : 0 < (h72 0 8) ∧ (h72 0 1) = (h 0 1) ∧ (h72 0 118) = (h 0 118) ∧ (h72 0 127) = (h 0 127) := k34_1
    refine ja_if_eq 49 duse_37 rfl ⟨by decide, by decide⟩ (fun c37 => ?_) (fun c37 => absurd c37 (by omega))
    refine ja_iconst duse_49 ?_
    refine ja_zreturn duse_50 rfl (by omega) ?_
    exact mo_fin (by omega) rfl (k2 h72 (by omega) g73)
theorem t_use {R r ph q0 b c : Int} {tf : mo_TF} {s : List mo_A} {ht st rg : Nat → Int} {tu : Int} {d nL pc : Nat} {cc : ByteArray} {rt : Option FieldType} {L : List (Nat × ja_V)} {S : List ja_V} {h : ja_H} {Q : Option ja_V → ja_H → Prop} (hdd : 4 < d) (hwd : ja_wd S ≤ 8) (hd : decode cc pc = .ok (.invokevirtual 891, 3)) (g : mo_G Zz h) (p1 : pk_S h (h 0 17).toNat s) (p2 : piB h R r ph tf q0 ((31, b, c) :: s) ht st rg tu) (p3 : (s.length : Int) ≤ 6 * pk_sum pk_c s + 2) (p4 : (h 0 85) = 0) (k1 : ∀ (h' : ja_H), (pi_done h h' R r ph tf q0 (pi_mu h s)) → mo_G Zz h' → mJ l D cA ad d cc nL rt (pc + 3) L ((0, 1) :: S) h' Q) (k2 : ∀ (h' : ja_H), (0 < (h' 0 8) ∧ (h' 0 1) = (h 0 1) ∧ (h' 0 118) = (h 0 118) ∧ (h' 0 127) = (h 0 127)) → mo_G Zz h' → mJ l D cA ad d cc nL rt (pc + 3) L ((0, 0) :: S) h' Q) : mJ l D cA ad d cc nL rt pc L ((2, ((0 : Nat) : Int)) :: S) h Q :=
  mc_use hdd hwd hd (s_use g p1 p2 p3 p4 k1 k2)
end
