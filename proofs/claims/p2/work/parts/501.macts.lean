/-! the reference: its acts, evaluated (written by a program) -/
variable {Zz : Zc}
theorem devaluated_0 : decode cX12_evaluated 0 = .ok (.aload_n 0, 1) := by decide +kernel
theorem devaluated_1 : decode cX12_evaluated 1 = .ok (.bipush 59, 2) := by decide +kernel
theorem devaluated_3 : decode cX12_evaluated 3 = .ok (.invokevirtual 586, 3) := by decide +kernel
theorem devaluated_6 : decode cX12_evaluated 6 = .ok (.ifCond .eq 43, 3) := by decide +kernel
theorem devaluated_9 : decode cX12_evaluated 9 = .ok (.aload_n 0, 1) := by decide +kernel
theorem devaluated_10 : decode cX12_evaluated 10 = .ok (.getfield 838, 3) := by decide +kernel
theorem devaluated_13 : decode cX12_evaluated 13 = .ok (.iconst 3, 1) := by decide +kernel
theorem devaluated_14 : decode cX12_evaluated 14 = .ok (.if_icmp .lt 29, 3) := by decide +kernel
theorem devaluated_17 : decode cX12_evaluated 17 = .ok (.aload_n 0, 1) := by decide +kernel
theorem devaluated_18 : decode cX12_evaluated 18 = .ok (.invokevirtual 589, 3) := by decide +kernel
theorem devaluated_21 : decode cX12_evaluated 21 = .ok (.ifCond .eq 18, 3) := by decide +kernel
theorem devaluated_24 : decode cX12_evaluated 24 = .ok (.aload_n 0, 1) := by decide +kernel
theorem devaluated_25 : decode cX12_evaluated 25 = .ok (.bipush 17, 2) := by decide +kernel
theorem devaluated_27 : decode cX12_evaluated 27 = .ok (.iconst 0, 1) := by decide +kernel
theorem devaluated_28 : decode cX12_evaluated 28 = .ok (.iconst 0, 1) := by decide +kernel
theorem devaluated_29 : decode cX12_evaluated 29 = .ok (.invokevirtual 732, 3) := by decide +kernel
theorem devaluated_32 : decode cX12_evaluated 32 = .ok (.ifCond .lt 7, 3) := by decide +kernel
theorem devaluated_35 : decode cX12_evaluated 35 = .ok (.iconst 1, 1) := by decide +kernel
theorem devaluated_36 : decode cX12_evaluated 36 = .ok (.goto 12, 3) := by decide +kernel
theorem devaluated_39 : decode cX12_evaluated 39 = .ok (.iconst 0, 1) := by decide +kernel
theorem devaluated_40 : decode cX12_evaluated 40 = .ok (.goto 8, 3) := by decide +kernel
theorem devaluated_43 : decode cX12_evaluated 43 = .ok (.aload_n 0, 1) := by decide +kernel
theorem devaluated_44 : decode cX12_evaluated 44 = .ok (.iconst 2, 1) := by decide +kernel
theorem devaluated_45 : decode cX12_evaluated 45 = .ok (.invokevirtual 583, 3) := by decide +kernel
theorem devaluated_48 : decode cX12_evaluated 48 = .ok (.ireturn, 1) := by decide +kernel
theorem devaluated_49 : decode cX12_evaluated 49 = .ok (.aload_n 0, 1) := by decide +kernel
theorem devaluated_50 : decode cX12_evaluated 50 = .ok (.bipush 61, 2) := by decide +kernel
theorem devaluated_52 : decode cX12_evaluated 52 = .ok (.invokevirtual 586, 3) := by decide +kernel
theorem devaluated_55 : decode cX12_evaluated 55 = .ok (.ifCond .ne 8, 3) := by decide +kernel
theorem devaluated_58 : decode cX12_evaluated 58 = .ok (.aload_n 0, 1) := by decide +kernel
theorem devaluated_59 : decode cX12_evaluated 59 = .ok (.invokevirtual 593, 3) := by decide +kernel
theorem devaluated_62 : decode cX12_evaluated 62 = .ok (.ireturn, 1) := by decide +kernel
theorem devaluated_63 : decode cX12_evaluated 63 = .ok (.aload_n 0, 1) := by decide +kernel
theorem devaluated_64 : decode cX12_evaluated 64 = .ok (.getfield 838, 3) := by decide +kernel
theorem devaluated_67 : decode cX12_evaluated 67 = .ok (.iconst 1, 1) := by decide +kernel
theorem devaluated_68 : decode cX12_evaluated 68 = .ok (.if_icmp .eq 17, 3) := by decide +kernel
theorem devaluated_71 : decode cX12_evaluated 71 = .ok (.aload_n 0, 1) := by decide +kernel
theorem devaluated_72 : decode cX12_evaluated 72 = .ok (.getfield 838, 3) := by decide +kernel
theorem devaluated_75 : decode cX12_evaluated 75 = .ok (.iconst 2, 1) := by decide +kernel
theorem devaluated_76 : decode cX12_evaluated 76 = .ok (.if_icmp .eq 9, 3) := by decide +kernel
theorem devaluated_79 : decode cX12_evaluated 79 = .ok (.aload_n 0, 1) := by decide +kernel
theorem devaluated_80 : decode cX12_evaluated 80 = .ok (.iconst 2, 1) := by decide +kernel
theorem devaluated_81 : decode cX12_evaluated 81 = .ok (.invokevirtual 583, 3) := by decide +kernel
theorem devaluated_84 : decode cX12_evaluated 84 = .ok (.ireturn, 1) := by decide +kernel
theorem devaluated_85 : decode cX12_evaluated 85 = .ok (.aload_n 0, 1) := by decide +kernel
theorem devaluated_86 : decode cX12_evaluated 86 = .ok (.dup, 1) := by decide +kernel
theorem devaluated_87 : decode cX12_evaluated 87 = .ok (.getfield 611, 3) := by decide +kernel
theorem devaluated_90 : decode cX12_evaluated 90 = .ok (.iconst 1, 1) := by decide +kernel
theorem devaluated_91 : decode cX12_evaluated 91 = .ok (.isub, 1) := by decide +kernel
theorem devaluated_92 : decode cX12_evaluated 92 = .ok (.putfield 611, 3) := by decide +kernel
theorem devaluated_95 : decode cX12_evaluated 95 = .ok (.aload_n 0, 1) := by decide +kernel
theorem devaluated_96 : decode cX12_evaluated 96 = .ok (.getfield 838, 3) := by decide +kernel
theorem devaluated_99 : decode cX12_evaluated 99 = .ok (.iconst 2, 1) := by decide +kernel
theorem devaluated_100 : decode cX12_evaluated 100 = .ok (.if_icmp .ne 7, 3) := by decide +kernel
theorem devaluated_103 : decode cX12_evaluated 103 = .ok (.iconst 2, 1) := by decide +kernel
theorem devaluated_104 : decode cX12_evaluated 104 = .ok (.goto 22, 3) := by decide +kernel
theorem devaluated_107 : decode cX12_evaluated 107 = .ok (.aload_n 0, 1) := by decide +kernel
theorem devaluated_108 : decode cX12_evaluated 108 = .ok (.getfield 231, 3) := by decide +kernel
theorem devaluated_111 : decode cX12_evaluated 111 = .ok (.aload_n 0, 1) := by decide +kernel
theorem devaluated_112 : decode cX12_evaluated 112 = .ok (.getfield 611, 3) := by decide +kernel
theorem devaluated_115 : decode cX12_evaluated 115 = .ok (.iaload, 1) := by decide +kernel
theorem devaluated_116 : decode cX12_evaluated 116 = .ok (.bipush 6, 2) := by decide +kernel
theorem devaluated_118 : decode cX12_evaluated 118 = .ok (.if_icmp .ne 7, 3) := by decide +kernel
theorem devaluated_121 : decode cX12_evaluated 121 = .ok (.iconst 1, 1) := by decide +kernel
theorem devaluated_122 : decode cX12_evaluated 122 = .ok (.goto 4, 3) := by decide +kernel
theorem devaluated_125 : decode cX12_evaluated 125 = .ok (.iconst 0, 1) := by decide +kernel
theorem devaluated_126 : decode cX12_evaluated 126 = .ok (.istore_n 1, 1) := by decide +kernel
theorem devaluated_127 : decode cX12_evaluated 127 = .ok (.aload_n 0, 1) := by decide +kernel
theorem devaluated_128 : decode cX12_evaluated 128 = .ok (.getfield 838, 3) := by decide +kernel
theorem devaluated_131 : decode cX12_evaluated 131 = .ok (.iconst 2, 1) := by decide +kernel
theorem devaluated_132 : decode cX12_evaluated 132 = .ok (.if_icmp .ne 10, 3) := by decide +kernel
theorem devaluated_135 : decode cX12_evaluated 135 = .ok (.aload_n 0, 1) := by decide +kernel
theorem devaluated_136 : decode cX12_evaluated 136 = .ok (.getfield 841, 3) := by decide +kernel
theorem devaluated_139 : decode cX12_evaluated 139 = .ok (.goto 12, 3) := by decide +kernel
theorem devaluated_142 : decode cX12_evaluated 142 = .ok (.aload_n 0, 1) := by decide +kernel
theorem devaluated_143 : decode cX12_evaluated 143 = .ok (.getfield 234, 3) := by decide +kernel
theorem devaluated_146 : decode cX12_evaluated 146 = .ok (.aload_n 0, 1) := by decide +kernel
theorem devaluated_147 : decode cX12_evaluated 147 = .ok (.getfield 611, 3) := by decide +kernel
theorem devaluated_150 : decode cX12_evaluated 150 = .ok (.iaload, 1) := by decide +kernel
theorem devaluated_151 : decode cX12_evaluated 151 = .ok (.istore_n 2, 1) := by decide +kernel
theorem devaluated_152 : decode cX12_evaluated 152 = .ok (.aload_n 0, 1) := by decide +kernel
theorem devaluated_153 : decode cX12_evaluated 153 = .ok (.getfield 838, 3) := by decide +kernel
theorem devaluated_156 : decode cX12_evaluated 156 = .ok (.iconst 2, 1) := by decide +kernel
theorem devaluated_157 : decode cX12_evaluated 157 = .ok (.if_icmp .ne 23, 3) := by decide +kernel
theorem devaluated_160 : decode cX12_evaluated 160 = .ok (.aload_n 0, 1) := by decide +kernel
theorem devaluated_161 : decode cX12_evaluated 161 = .ok (.getfield 164, 3) := by decide +kernel
theorem devaluated_164 : decode cX12_evaluated 164 = .ok (.aload_n 0, 1) := by decide +kernel
theorem devaluated_165 : decode cX12_evaluated 165 = .ok (.getfield 841, 3) := by decide +kernel
theorem devaluated_168 : decode cX12_evaluated 168 = .ok (.iconst 4, 1) := by decide +kernel
theorem devaluated_169 : decode cX12_evaluated 169 = .ok (.iastore, 1) := by decide +kernel
theorem devaluated_170 : decode cX12_evaluated 170 = .ok (.aload_n 0, 1) := by decide +kernel
theorem devaluated_171 : decode cX12_evaluated 171 = .ok (.getfield 173, 3) := by decide +kernel
theorem devaluated_174 : decode cX12_evaluated 174 = .ok (.aload_n 0, 1) := by decide +kernel
theorem devaluated_175 : decode cX12_evaluated 175 = .ok (.getfield 841, 3) := by decide +kernel
theorem devaluated_178 : decode cX12_evaluated 178 = .ok (.iconst 1, 1) := by decide +kernel
theorem devaluated_179 : decode cX12_evaluated 179 = .ok (.iastore, 1) := by decide +kernel
theorem devaluated_180 : decode cX12_evaluated 180 = .ok (.aload_n 0, 1) := by decide +kernel
theorem devaluated_181 : decode cX12_evaluated 181 = .ok (.invokevirtual 589, 3) := by decide +kernel
theorem devaluated_184 : decode cX12_evaluated 184 = .ok (.ifCond .eq 43, 3) := by decide +kernel
theorem devaluated_187 : decode cX12_evaluated 187 = .ok (.aload_n 0, 1) := by decide +kernel
theorem devaluated_188 : decode cX12_evaluated 188 = .ok (.bipush 19, 2) := by decide +kernel
theorem devaluated_190 : decode cX12_evaluated 190 = .ok (.iload_n 1, 1) := by decide +kernel
theorem devaluated_191 : decode cX12_evaluated 191 = .ok (.iload_n 2, 1) := by decide +kernel
theorem devaluated_192 : decode cX12_evaluated 192 = .ok (.iconst 0, 1) := by decide +kernel
theorem devaluated_193 : decode cX12_evaluated 193 = .ok (.invokevirtual 790, 3) := by decide +kernel
theorem devaluated_196 : decode cX12_evaluated 196 = .ok (.ifCond .eq 31, 3) := by decide +kernel
theorem devaluated_199 : decode cX12_evaluated 199 = .ok (.aload_n 0, 1) := by decide +kernel
theorem devaluated_200 : decode cX12_evaluated 200 = .ok (.bipush 37, 2) := by decide +kernel
theorem devaluated_202 : decode cX12_evaluated 202 = .ok (.bipush 59, 2) := by decide +kernel
theorem devaluated_204 : decode cX12_evaluated 204 = .ok (.iconst 0, 1) := by decide +kernel
theorem devaluated_205 : decode cX12_evaluated 205 = .ok (.iconst 0, 1) := by decide +kernel
theorem devaluated_206 : decode cX12_evaluated 206 = .ok (.invokevirtual 790, 3) := by decide +kernel
theorem devaluated_209 : decode cX12_evaluated 209 = .ok (.ifCond .eq 18, 3) := by decide +kernel
theorem devaluated_212 : decode cX12_evaluated 212 = .ok (.aload_n 0, 1) := by decide +kernel
theorem devaluated_213 : decode cX12_evaluated 213 = .ok (.iconst 1, 1) := by decide +kernel
theorem devaluated_214 : decode cX12_evaluated 214 = .ok (.iconst 0, 1) := by decide +kernel
theorem devaluated_215 : decode cX12_evaluated 215 = .ok (.iconst 0, 1) := by decide +kernel
theorem devaluated_216 : decode cX12_evaluated 216 = .ok (.iconst 0, 1) := by decide +kernel
theorem devaluated_217 : decode cX12_evaluated 217 = .ok (.invokevirtual 790, 3) := by decide +kernel
theorem devaluated_220 : decode cX12_evaluated 220 = .ok (.ifCond .eq 7, 3) := by decide +kernel
theorem devaluated_223 : decode cX12_evaluated 223 = .ok (.iconst 1, 1) := by decide +kernel
theorem devaluated_224 : decode cX12_evaluated 224 = .ok (.goto 4, 3) := by decide +kernel
theorem devaluated_227 : decode cX12_evaluated 227 = .ok (.iconst 0, 1) := by decide +kernel
theorem devaluated_228 : decode cX12_evaluated 228 = .ok (.ireturn, 1) := by decide +kernel
section
variable {l : Launch} {D : va_G} {cA : Nat → ClassId} {ad : Nat → Nat}
theorem s_evaluated {R r ph q0 a b : Int} {tf : mo_TF} {s : List mo_A} {ht st rg : Nat → Int} {tu : Int} {h : ja_H} {Q : Option ja_V → ja_H → Prop} (g : mo_G Zz h) (p1 : pk_S h (h 0 17).toNat s) (p2 : piB h R r ph tf q0 ((18, a, b) :: s) ht st rg tu) (p3 : tf_ok ph tf) (k1 : ∀ (h' : ja_H), (pi_done h h' R r ph tf q0 (pi_mu h ((18, a, b) :: s))) → mo_G Zz h' → Q (some (0, 1)) h') (k2 : ∀ (h' : ja_H), (0 < (h' 0 8) ∧ (h' 0 1) = (h 0 1) ∧ (h' 0 118) = (h 0 118) ∧ (h' 0 127) = (h 0 127)) → mo_G Zz h' → Q (some (0, 0)) h') : mM_evaluated l D cA ad  h Q := by
  show mJ l D cA ad 3 cX12_evaluated 3 (some .boolean) 0 [(0, (2, ((0 : Nat) : Int)))] [] h Q
  have kn_at := gF_at g
  have kn_wTop := gF_wTop g
  have kn_words := gF_words g
  have kn_nest := gF_nest g
  have kn_form := gF_form g
  have kn_formA := gF_formA g
  have hN := piB_num g p1 p2
  obtain ⟨N1, N2, N3, N4, N5, N6, N7, N8, N9, N10, N11, N12, N13, ⟨NK1, NK2⟩, ND1, ND2, ND3, NU1, NU2⟩ := hN
  have hn1 : (h 0 18) = 0 + pk_sum pk_c s := p2.1.1
  have hw1 : ((h 0 19) = 1 ∨ (h 0 19) = 2) → 1 ≤ (h 0 113) := bs_w1 p2
  refine ja_aload_n devaluated_0 rfl rfl ?_
  refine ja_bipush 59 devaluated_1 rfl ?_
  refine t_isSign (by decide) (show (0 : Nat) ≤ 8 by decide) devaluated_3 g ⟨by decide, by decide⟩ ?_
  intro w1 k3_0
  refine ja_if_eq 49 devaluated_6 rfl ⟨by omega, by omega⟩ (fun c6 => ?_) (fun c6 => ?_)
  · replace k3_0 := is0 k3_0 c6
    refine ja_aload_n devaluated_49 rfl rfl ?_
    refine ja_bipush 61 devaluated_50 rfl ?_
    refine t_isSign (by decide) (show (0 : Nat) ≤ 8 by decide) devaluated_52 g ⟨by decide, by decide⟩ ?_
    intro w2 k52_0
    refine ja_if_ne 63 devaluated_55 rfl ⟨by omega, by omega⟩ (fun c55 => ?_) (fun c55 => ?_)
    · have z55 := is1v k52_0 c55
      replace k52_0 := is1 k52_0 c55
      refine ja_aload_n devaluated_63 rfl rfl ?_
      refine fg_form (v := h 0 19) rfl devaluated_64 ?_
      have f3 := gF_form g
      refine ja_iconst devaluated_67 ?_
      refine ja_icmp_eq 85 devaluated_68 rfl ⟨by omega, by omega⟩ ⟨by decide, by decide⟩ (fun c68 => ?_) (fun c68 => ?_)
      · refine ja_aload_n devaluated_85 rfl rfl ?_
        refine ja_dup devaluated_86 (by decide) ?_
        refine fg_words (v := h 0 113) rfl devaluated_87 ?_
        have f4 := gF_words g
        refine ja_iconst devaluated_90 ?_
        refine ja_isub devaluated_91 ?_
        have g5 := gP_words g (x := (h 0 113) - 1) ⟨by omega, by omega⟩
        refine fp_words devaluated_92 ?_
        refine ja_aload_n devaluated_95 rfl rfl ?_
        refine fg_form (v := h 0 19) rfl devaluated_96 ?_
        refine ja_iconst devaluated_99 ?_
        refine ja_icmp_ne 107 devaluated_100 rfl ⟨by omega, by omega⟩ ⟨by decide, by decide⟩ (fun c100 => ?_) (fun c100 => ?_)
        · refine ja_aload_n devaluated_107 rfl rfl ?_
          refine fa_op devaluated_108 ?_
          refine ja_aload_n devaluated_111 rfl rfl ?_
          refine fg_words (v := (h 0 113) - 1) rfl devaluated_112 ?_
          refine il_op (v := h 74 ((h 0 113) - 1).toNat) rfl ⟨by omega, by omega⟩ devaluated_115 ?_
          have f6 := gC_op g ((h 0 113) - 1).toNat
          refine ja_bipush 6 devaluated_116 rfl ?_
          refine ja_icmp_ne 125 devaluated_118 rfl ⟨by omega, by omega⟩ ⟨by decide, by decide⟩ (fun c118 => ?_) (fun c118 => ?_)
          · refine ja_iconst devaluated_125 ?_
            refine ja_istore_n devaluated_126 rfl (by decide) (L2 := [(1, (0, 0)), (0, (2, ((0 : Nat) : Int)))]) rfl ?_
            refine ja_aload_n devaluated_127 rfl rfl ?_
            refine fg_form (v := h 0 19) rfl devaluated_128 ?_
            refine ja_iconst devaluated_131 ?_
            refine ja_icmp_ne 142 devaluated_132 rfl ⟨by omega, by omega⟩ ⟨by decide, by decide⟩ (fun c132 => ?_) (fun c132 => ?_)
            · refine ja_aload_n devaluated_142 rfl rfl ?_
              refine fa_opA devaluated_143 ?_
              refine ja_aload_n devaluated_146 rfl rfl ?_
              refine fg_words (v := (h 0 113) - 1) rfl devaluated_147 ?_
              refine il_opA (v := h 75 ((h 0 113) - 1).toNat) rfl ⟨by omega, by omega⟩ devaluated_150 ?_
              have f7 := gC_opA g ((h 0 113) - 1).toNat
              refine ja_istore_n devaluated_151 rfl (by decide) (L2 := [(2, (0, (h 75 ((h 0 113) - 1).toNat))), (1, (0, 0)), (0, (2, ((0 : Nat) : Int)))]) rfl ?_
              refine ja_aload_n devaluated_152 rfl rfl ?_
              refine fg_form (v := h 0 19) rfl devaluated_153 ?_
              refine ja_iconst devaluated_156 ?_
              refine ja_icmp_ne 180 devaluated_157 rfl ⟨by omega, by omega⟩ ⟨by decide, by decide⟩ (fun c157 => ?_) (fun c157 => ?_)
              · refine ja_aload_n devaluated_180 rfl rfl ?_
                refine t_take (by decide) (show (0 : Nat) ≤ 8 by decide) devaluated_181 g5  ?_ ?_
                · intro k181_0 g8
                  replace k181_0 : (h 0 7) < 900 := k181_0
                  replace g8 : mo_G Zz (ja_up (ja_up h 0 113 ((h 0 113) - 1)) 0 7 ((h 0 7) + 1)) := g8
                  show mJ l D cA ad 3 cX12_evaluated 3 (some .boolean) 184 [(2, (0, (h 75 ((h 0 113) - 1).toNat))), (1, (0, 0)), (0, (2, ((0 : Nat) : Int)))] [(0, 1)] (ja_up (ja_up h 0 113 ((h 0 113) - 1)) 0 7 ((h 0 7) + 1)) Q
                  refine ja_if_eq 227 devaluated_184 rfl ⟨by decide, by decide⟩ (fun c184 => absurd c184 (by omega)) (fun c184 => ?_)
                  refine ja_aload_n devaluated_187 rfl rfl ?_
                  refine ja_bipush 19 devaluated_188 rfl ?_
                  refine ja_iload_n devaluated_190 rfl rfl ?_
                  refine ja_iload_n devaluated_191 rfl rfl ?_
                  refine ja_iconst devaluated_192 ?_
                  refine t_later (by decide) (show (0 : Nat) ≤ 8 by decide) devaluated_193 g8 ⟨by decide, by decide⟩ ⟨by decide, by decide⟩ ⟨by omega, by omega⟩ ⟨by decide, by decide⟩ (show 0 ≤ 19 ∧ 19 ≤ 38 by omega) (show (h 0 17) < 2000 by omega) ?_
                  intro g9
                  replace g9 : mo_G Zz (ja_up (ja_up (ja_up (ja_up (ja_up (ja_up (ja_up h 0 113 ((h 0 113) - 1)) 0 7 ((h 0 7) + 1)) 6 ((h 0 17).toNat) 19) 7 ((h 0 17).toNat) 0) 8 ((h 0 17).toNat) (h 75 ((h 0 113) - 1).toNat)) 9 ((h 0 17).toNat) 0) 0 17 ((h 0 17) + 1)) := g9
                  show mJ l D cA ad 3 cX12_evaluated 3 (some .boolean) 196 [(2, (0, (h 75 ((h 0 113) - 1).toNat))), (1, (0, 0)), (0, (2, ((0 : Nat) : Int)))] [(0, 1)] (ja_up (ja_up (ja_up (ja_up (ja_up (ja_up (ja_up h 0 113 ((h 0 113) - 1)) 0 7 ((h 0 7) + 1)) 6 ((h 0 17).toNat) 19) 7 ((h 0 17).toNat) 0) 8 ((h 0 17).toNat) (h 75 ((h 0 113) - 1).toNat)) 9 ((h 0 17).toNat) 0) 0 17 ((h 0 17) + 1)) Q
                  refine ja_if_eq 227 devaluated_196 rfl ⟨by decide, by decide⟩ (fun c196 => absurd c196 (by omega)) (fun c196 => ?_)
                  refine ja_aload_n devaluated_199 rfl rfl ?_
                  refine ja_bipush 37 devaluated_200 rfl ?_
                  refine ja_bipush 59 devaluated_202 rfl ?_
                  refine ja_iconst devaluated_204 ?_
                  refine ja_iconst devaluated_205 ?_
                  refine t_later (by decide) (show (0 : Nat) ≤ 8 by decide) devaluated_206 g9 ⟨by decide, by decide⟩ ⟨by decide, by decide⟩ ⟨by decide, by decide⟩ ⟨by decide, by decide⟩ (show 0 ≤ 37 ∧ 37 ≤ 38 by omega) (show ((h 0 17) + 1) < 2000 by omega) ?_
                  intro g10
                  replace g10 : mo_G Zz (ja_up (ja_up (ja_up (ja_up (ja_up (ja_up (ja_up (ja_up (ja_up (ja_up (ja_up (ja_up h 0 113 ((h 0 113) - 1)) 0 7 ((h 0 7) + 1)) 6 ((h 0 17).toNat) 19) 7 ((h 0 17).toNat) 0) 8 ((h 0 17).toNat) (h 75 ((h 0 113) - 1).toNat)) 9 ((h 0 17).toNat) 0) 0 17 ((h 0 17) + 1)) 6 (((h 0 17) + 1).toNat) 37) 7 (((h 0 17) + 1).toNat) 59) 8 (((h 0 17) + 1).toNat) 0) 9 (((h 0 17) + 1).toNat) 0) 0 17 (((h 0 17) + 1) + 1)) := g10
                  show mJ l D cA ad 3 cX12_evaluated 3 (some .boolean) 209 [(2, (0, (h 75 ((h 0 113) - 1).toNat))), (1, (0, 0)), (0, (2, ((0 : Nat) : Int)))] [(0, 1)] (ja_up (ja_up (ja_up (ja_up (ja_up (ja_up (ja_up (ja_up (ja_up (ja_up (ja_up (ja_up h 0 113 ((h 0 113) - 1)) 0 7 ((h 0 7) + 1)) 6 ((h 0 17).toNat) 19) 7 ((h 0 17).toNat) 0) 8 ((h 0 17).toNat) (h 75 ((h 0 113) - 1).toNat)) 9 ((h 0 17).toNat) 0) 0 17 ((h 0 17) + 1)) 6 (((h 0 17) + 1).toNat) 37) 7 (((h 0 17) + 1).toNat) 59) 8 (((h 0 17) + 1).toNat) 0) 9 (((h 0 17) + 1).toNat) 0) 0 17 (((h 0 17) + 1) + 1)) Q
                  refine ja_if_eq 227 devaluated_209 rfl ⟨by decide, by decide⟩ (fun c209 => absurd c209 (by omega)) (fun c209 => ?_)
                  refine ja_aload_n devaluated_212 rfl rfl ?_
                  refine ja_iconst devaluated_213 ?_
                  refine ja_iconst devaluated_214 ?_
                  refine ja_iconst devaluated_215 ?_
                  refine ja_iconst devaluated_216 ?_
                  refine t_later (by decide) (show (0 : Nat) ≤ 8 by decide) devaluated_217 g10 ⟨by decide, by decide⟩ ⟨by decide, by decide⟩ ⟨by decide, by decide⟩ ⟨by decide, by decide⟩ (show 0 ≤ 1 ∧ 1 ≤ 38 by omega) (show (((h 0 17) + 1) + 1) < 2000 by omega) ?_
                  intro g11
                  replace g11 : mo_G Zz (ja_up (ja_up (ja_up (ja_up (ja_up (ja_up (ja_up (ja_up (ja_up (ja_up (ja_up (ja_up (ja_up (ja_up (ja_up (ja_up (ja_up h 0 113 ((h 0 113) - 1)) 0 7 ((h 0 7) + 1)) 6 ((h 0 17).toNat) 19) 7 ((h 0 17).toNat) 0) 8 ((h 0 17).toNat) (h 75 ((h 0 113) - 1).toNat)) 9 ((h 0 17).toNat) 0) 0 17 ((h 0 17) + 1)) 6 (((h 0 17) + 1).toNat) 37) 7 (((h 0 17) + 1).toNat) 59) 8 (((h 0 17) + 1).toNat) 0) 9 (((h 0 17) + 1).toNat) 0) 0 17 (((h 0 17) + 1) + 1)) 6 ((((h 0 17) + 1) + 1).toNat) 1) 7 ((((h 0 17) + 1) + 1).toNat) 0) 8 ((((h 0 17) + 1) + 1).toNat) 0) 9 ((((h 0 17) + 1) + 1).toNat) 0) 0 17 ((((h 0 17) + 1) + 1) + 1)) := g11
                  show mJ l D cA ad 3 cX12_evaluated 3 (some .boolean) 220 [(2, (0, (h 75 ((h 0 113) - 1).toNat))), (1, (0, 0)), (0, (2, ((0 : Nat) : Int)))] [(0, 1)] (ja_up (ja_up (ja_up (ja_up (ja_up (ja_up (ja_up (ja_up (ja_up (ja_up (ja_up (ja_up (ja_up (ja_up (ja_up (ja_up (ja_up h 0 113 ((h 0 113) - 1)) 0 7 ((h 0 7) + 1)) 6 ((h 0 17).toNat) 19) 7 ((h 0 17).toNat) 0) 8 ((h 0 17).toNat) (h 75 ((h 0 113) - 1).toNat)) 9 ((h 0 17).toNat) 0) 0 17 ((h 0 17) + 1)) 6 (((h 0 17) + 1).toNat) 37) 7 (((h 0 17) + 1).toNat) 59) 8 (((h 0 17) + 1).toNat) 0) 9 (((h 0 17) + 1).toNat) 0) 0 17 (((h 0 17) + 1) + 1)) 6 ((((h 0 17) + 1) + 1).toNat) 1) 7 ((((h 0 17) + 1) + 1).toNat) 0) 8 ((((h 0 17) + 1) + 1).toNat) 0) 9 ((((h 0 17) + 1) + 1).toNat) 0) 0 17 ((((h 0 17) + 1) + 1) + 1)) Q
                  refine ja_if_eq 227 devaluated_220 rfl ⟨by decide, by decide⟩ (fun c220 => absurd c220 (by omega)) (fun c220 => ?_)
                  refine ja_iconst devaluated_223 ?_
                  refine ja_goto 228 devaluated_224 rfl ?_
                  refine ja_zreturn devaluated_228 rfl (by omega) ?_
                  exact mo_fin (by omega) rfl (k1 (ja_up (ja_up (ja_up (ja_up (ja_up (ja_up (ja_up (ja_up (ja_up (ja_up (ja_up (ja_up (ja_up (ja_up (ja_up (ja_up (ja_up h 0 113 ((h 0 113) - 1)) 0 7 ((h 0 7) + 1)) 6 ((h 0 17).toNat) 19) 7 ((h 0 17).toNat) 0) 8 ((h 0 17).toNat) (h 75 ((h 0 113) - 1).toNat)) 9 ((h 0 17).toNat) 0) 0 17 ((h 0 17) + 1)) 6 (((h 0 17) + 1).toNat) 37) 7 (((h 0 17) + 1).toNat) 59) 8 (((h 0 17) + 1).toNat) 0) 9 (((h 0 17) + 1).toNat) 0) 0 17 (((h 0 17) + 1) + 1)) 6 ((((h 0 17) + 1) + 1).toNat) 1) 7 ((((h 0 17) + 1) + 1).toNat) 0) 8 ((((h 0 17) + 1) + 1).toNat) 0) 9 ((((h 0 17) + 1) + 1).toNat) 0) 0 17 ((((h 0 17) + 1) + 1) + 1)) (ab_assign1 (k := 0) g p1 p2 p3 (by omega) (by omega)) g11)
                · intro h12 k181_1 g13
                  replace k181_1 : 0 < (h12 0 8) ∧ (h12 0 1) = (h 0 1) ∧ (h12 0 118) = (h 0 118) ∧ (h12 0 127) = (h 0 127) := k181_1
                  refine ja_if_eq 227 devaluated_184 rfl ⟨by decide, by decide⟩ (fun c184 => ?_) (fun c184 => absurd c184 (by omega))
                  refine ja_iconst devaluated_227 ?_
                  refine ja_zreturn devaluated_228 rfl (by omega) ?_
                  exact mo_fin (by omega) rfl (k2 h12 (by omega) g13)
              · exfalso; omega
            · exfalso; omega
          · refine ja_iconst devaluated_121 ?_
            refine ja_goto 126 devaluated_122 rfl ?_
            refine ja_istore_n devaluated_126 rfl (by decide) (L2 := [(1, (0, 1)), (0, (2, ((0 : Nat) : Int)))]) rfl ?_
            refine ja_aload_n devaluated_127 rfl rfl ?_
            refine fg_form (v := h 0 19) rfl devaluated_128 ?_
            refine ja_iconst devaluated_131 ?_
            refine ja_icmp_ne 142 devaluated_132 rfl ⟨by omega, by omega⟩ ⟨by decide, by decide⟩ (fun c132 => ?_) (fun c132 => ?_)
            · refine ja_aload_n devaluated_142 rfl rfl ?_
              refine fa_opA devaluated_143 ?_
              refine ja_aload_n devaluated_146 rfl rfl ?_
              refine fg_words (v := (h 0 113) - 1) rfl devaluated_147 ?_
              refine il_opA (v := h 75 ((h 0 113) - 1).toNat) rfl ⟨by omega, by omega⟩ devaluated_150 ?_
              have f14 := gC_opA g ((h 0 113) - 1).toNat
              refine ja_istore_n devaluated_151 rfl (by decide) (L2 := [(2, (0, (h 75 ((h 0 113) - 1).toNat))), (1, (0, 1)), (0, (2, ((0 : Nat) : Int)))]) rfl ?_
              refine ja_aload_n devaluated_152 rfl rfl ?_
              refine fg_form (v := h 0 19) rfl devaluated_153 ?_
              refine ja_iconst devaluated_156 ?_
              refine ja_icmp_ne 180 devaluated_157 rfl ⟨by omega, by omega⟩ ⟨by decide, by decide⟩ (fun c157 => ?_) (fun c157 => ?_)
              · refine ja_aload_n devaluated_180 rfl rfl ?_
                refine t_take (by decide) (show (0 : Nat) ≤ 8 by decide) devaluated_181 g5  ?_ ?_
                · intro k181_0 g15
                  replace k181_0 : (h 0 7) < 900 := k181_0
                  replace g15 : mo_G Zz (ja_up (ja_up h 0 113 ((h 0 113) - 1)) 0 7 ((h 0 7) + 1)) := g15
                  show mJ l D cA ad 3 cX12_evaluated 3 (some .boolean) 184 [(2, (0, (h 75 ((h 0 113) - 1).toNat))), (1, (0, 1)), (0, (2, ((0 : Nat) : Int)))] [(0, 1)] (ja_up (ja_up h 0 113 ((h 0 113) - 1)) 0 7 ((h 0 7) + 1)) Q
                  refine ja_if_eq 227 devaluated_184 rfl ⟨by decide, by decide⟩ (fun c184 => absurd c184 (by omega)) (fun c184 => ?_)
                  refine ja_aload_n devaluated_187 rfl rfl ?_
                  refine ja_bipush 19 devaluated_188 rfl ?_
                  refine ja_iload_n devaluated_190 rfl rfl ?_
                  refine ja_iload_n devaluated_191 rfl rfl ?_
                  refine ja_iconst devaluated_192 ?_
                  refine t_later (by decide) (show (0 : Nat) ≤ 8 by decide) devaluated_193 g15 ⟨by decide, by decide⟩ ⟨by decide, by decide⟩ ⟨by omega, by omega⟩ ⟨by decide, by decide⟩ (show 0 ≤ 19 ∧ 19 ≤ 38 by omega) (show (h 0 17) < 2000 by omega) ?_
                  intro g16
                  replace g16 : mo_G Zz (ja_up (ja_up (ja_up (ja_up (ja_up (ja_up (ja_up h 0 113 ((h 0 113) - 1)) 0 7 ((h 0 7) + 1)) 6 ((h 0 17).toNat) 19) 7 ((h 0 17).toNat) 1) 8 ((h 0 17).toNat) (h 75 ((h 0 113) - 1).toNat)) 9 ((h 0 17).toNat) 0) 0 17 ((h 0 17) + 1)) := g16
                  show mJ l D cA ad 3 cX12_evaluated 3 (some .boolean) 196 [(2, (0, (h 75 ((h 0 113) - 1).toNat))), (1, (0, 1)), (0, (2, ((0 : Nat) : Int)))] [(0, 1)] (ja_up (ja_up (ja_up (ja_up (ja_up (ja_up (ja_up h 0 113 ((h 0 113) - 1)) 0 7 ((h 0 7) + 1)) 6 ((h 0 17).toNat) 19) 7 ((h 0 17).toNat) 1) 8 ((h 0 17).toNat) (h 75 ((h 0 113) - 1).toNat)) 9 ((h 0 17).toNat) 0) 0 17 ((h 0 17) + 1)) Q
                  refine ja_if_eq 227 devaluated_196 rfl ⟨by decide, by decide⟩ (fun c196 => absurd c196 (by omega)) (fun c196 => ?_)
                  refine ja_aload_n devaluated_199 rfl rfl ?_
                  refine ja_bipush 37 devaluated_200 rfl ?_
                  refine ja_bipush 59 devaluated_202 rfl ?_
                  refine ja_iconst devaluated_204 ?_
                  refine ja_iconst devaluated_205 ?_
                  refine t_later (by decide) (show (0 : Nat) ≤ 8 by decide) devaluated_206 g16 ⟨by decide, by decide⟩ ⟨by decide, by decide⟩ ⟨by decide, by decide⟩ ⟨by decide, by decide⟩ (show 0 ≤ 37 ∧ 37 ≤ 38 by omega) (show ((h 0 17) + 1) < 2000 by omega) ?_
                  intro g17
                  replace g17 : mo_G Zz (ja_up (ja_up (ja_up (ja_up (ja_up (ja_up (ja_up (ja_up (ja_up (ja_up (ja_up (ja_up h 0 113 ((h 0 113) - 1)) 0 7 ((h 0 7) + 1)) 6 ((h 0 17).toNat) 19) 7 ((h 0 17).toNat) 1) 8 ((h 0 17).toNat) (h 75 ((h 0 113) - 1).toNat)) 9 ((h 0 17).toNat) 0) 0 17 ((h 0 17) + 1)) 6 (((h 0 17) + 1).toNat) 37) 7 (((h 0 17) + 1).toNat) 59) 8 (((h 0 17) + 1).toNat) 0) 9 (((h 0 17) + 1).toNat) 0) 0 17 (((h 0 17) + 1) + 1)) := g17
                  show mJ l D cA ad 3 cX12_evaluated 3 (some .boolean) 209 [(2, (0, (h 75 ((h 0 113) - 1).toNat))), (1, (0, 1)), (0, (2, ((0 : Nat) : Int)))] [(0, 1)] (ja_up (ja_up (ja_up (ja_up (ja_up (ja_up (ja_up (ja_up (ja_up (ja_up (ja_up (ja_up h 0 113 ((h 0 113) - 1)) 0 7 ((h 0 7) + 1)) 6 ((h 0 17).toNat) 19) 7 ((h 0 17).toNat) 1) 8 ((h 0 17).toNat) (h 75 ((h 0 113) - 1).toNat)) 9 ((h 0 17).toNat) 0) 0 17 ((h 0 17) + 1)) 6 (((h 0 17) + 1).toNat) 37) 7 (((h 0 17) + 1).toNat) 59) 8 (((h 0 17) + 1).toNat) 0) 9 (((h 0 17) + 1).toNat) 0) 0 17 (((h 0 17) + 1) + 1)) Q
                  refine ja_if_eq 227 devaluated_209 rfl ⟨by decide, by decide⟩ (fun c209 => absurd c209 (by omega)) (fun c209 => ?_)
                  refine ja_aload_n devaluated_212 rfl rfl ?_
                  refine ja_iconst devaluated_213 ?_
                  refine ja_iconst devaluated_214 ?_
                  refine ja_iconst devaluated_215 ?_
                  refine ja_iconst devaluated_216 ?_
                  refine t_later (by decide) (show (0 : Nat) ≤ 8 by decide) devaluated_217 g17 ⟨by decide, by decide⟩ ⟨by decide, by decide⟩ ⟨by decide, by decide⟩ ⟨by decide, by decide⟩ (show 0 ≤ 1 ∧ 1 ≤ 38 by omega) (show (((h 0 17) + 1) + 1) < 2000 by omega) ?_
                  intro g18
                  replace g18 : mo_G Zz (ja_up (ja_up (ja_up (ja_up (ja_up (ja_up (ja_up (ja_up (ja_up (ja_up (ja_up (ja_up (ja_up (ja_up (ja_up (ja_up (ja_up h 0 113 ((h 0 113) - 1)) 0 7 ((h 0 7) + 1)) 6 ((h 0 17).toNat) 19) 7 ((h 0 17).toNat) 1) 8 ((h 0 17).toNat) (h 75 ((h 0 113) - 1).toNat)) 9 ((h 0 17).toNat) 0) 0 17 ((h 0 17) + 1)) 6 (((h 0 17) + 1).toNat) 37) 7 (((h 0 17) + 1).toNat) 59) 8 (((h 0 17) + 1).toNat) 0) 9 (((h 0 17) + 1).toNat) 0) 0 17 (((h 0 17) + 1) + 1)) 6 ((((h 0 17) + 1) + 1).toNat) 1) 7 ((((h 0 17) + 1) + 1).toNat) 0) 8 ((((h 0 17) + 1) + 1).toNat) 0) 9 ((((h 0 17) + 1) + 1).toNat) 0) 0 17 ((((h 0 17) + 1) + 1) + 1)) := g18
                  show mJ l D cA ad 3 cX12_evaluated 3 (some .boolean) 220 [(2, (0, (h 75 ((h 0 113) - 1).toNat))), (1, (0, 1)), (0, (2, ((0 : Nat) : Int)))] [(0, 1)] (ja_up (ja_up (ja_up (ja_up (ja_up (ja_up (ja_up (ja_up (ja_up (ja_up (ja_up (ja_up (ja_up (ja_up (ja_up (ja_up (ja_up h 0 113 ((h 0 113) - 1)) 0 7 ((h 0 7) + 1)) 6 ((h 0 17).toNat) 19) 7 ((h 0 17).toNat) 1) 8 ((h 0 17).toNat) (h 75 ((h 0 113) - 1).toNat)) 9 ((h 0 17).toNat) 0) 0 17 ((h 0 17) + 1)) 6 (((h 0 17) + 1).toNat) 37) 7 (((h 0 17) + 1).toNat) 59) 8 (((h 0 17) + 1).toNat) 0) 9 (((h 0 17) + 1).toNat) 0) 0 17 (((h 0 17) + 1) + 1)) 6 ((((h 0 17) + 1) + 1).toNat) 1) 7 ((((h 0 17) + 1) + 1).toNat) 0) 8 ((((h 0 17) + 1) + 1).toNat) 0) 9 ((((h 0 17) + 1) + 1).toNat) 0) 0 17 ((((h 0 17) + 1) + 1) + 1)) Q
                  refine ja_if_eq 227 devaluated_220 rfl ⟨by decide, by decide⟩ (fun c220 => absurd c220 (by omega)) (fun c220 => ?_)
                  refine ja_iconst devaluated_223 ?_
                  refine ja_goto 228 devaluated_224 rfl ?_
                  refine ja_zreturn devaluated_228 rfl (by omega) ?_
                  exact mo_fin (by omega) rfl (k1 (ja_up (ja_up (ja_up (ja_up (ja_up (ja_up (ja_up (ja_up (ja_up (ja_up (ja_up (ja_up (ja_up (ja_up (ja_up (ja_up (ja_up h 0 113 ((h 0 113) - 1)) 0 7 ((h 0 7) + 1)) 6 ((h 0 17).toNat) 19) 7 ((h 0 17).toNat) 1) 8 ((h 0 17).toNat) (h 75 ((h 0 113) - 1).toNat)) 9 ((h 0 17).toNat) 0) 0 17 ((h 0 17) + 1)) 6 (((h 0 17) + 1).toNat) 37) 7 (((h 0 17) + 1).toNat) 59) 8 (((h 0 17) + 1).toNat) 0) 9 (((h 0 17) + 1).toNat) 0) 0 17 (((h 0 17) + 1) + 1)) 6 ((((h 0 17) + 1) + 1).toNat) 1) 7 ((((h 0 17) + 1) + 1).toNat) 0) 8 ((((h 0 17) + 1) + 1).toNat) 0) 9 ((((h 0 17) + 1) + 1).toNat) 0) 0 17 ((((h 0 17) + 1) + 1) + 1)) (ab_assign1 (k := 1) g p1 p2 p3 (by omega) (by omega)) g18)
                · intro h19 k181_1 g20
                  replace k181_1 : 0 < (h19 0 8) ∧ (h19 0 1) = (h 0 1) ∧ (h19 0 118) = (h 0 118) ∧ (h19 0 127) = (h 0 127) := k181_1
                  refine ja_if_eq 227 devaluated_184 rfl ⟨by decide, by decide⟩ (fun c184 => ?_) (fun c184 => absurd c184 (by omega))
                  refine ja_iconst devaluated_227 ?_
                  refine ja_zreturn devaluated_228 rfl (by omega) ?_
                  exact mo_fin (by omega) rfl (k2 h19 (by omega) g20)
              · exfalso; omega
            · exfalso; omega
        · refine ja_iconst devaluated_103 ?_
          refine ja_goto 126 devaluated_104 rfl ?_
          refine ja_istore_n devaluated_126 rfl (by decide) (L2 := [(1, (0, 2)), (0, (2, ((0 : Nat) : Int)))]) rfl ?_
          refine ja_aload_n devaluated_127 rfl rfl ?_
          refine fg_form (v := h 0 19) rfl devaluated_128 ?_
          refine ja_iconst devaluated_131 ?_
          refine ja_icmp_ne 142 devaluated_132 rfl ⟨by omega, by omega⟩ ⟨by decide, by decide⟩ (fun c132 => ?_) (fun c132 => ?_)
          · exfalso; omega
          · refine ja_aload_n devaluated_135 rfl rfl ?_
            refine fg_formA (v := h 0 20) rfl devaluated_136 ?_
            have f21 := gF_formA g
            refine ja_goto 151 devaluated_139 rfl ?_
            refine ja_istore_n devaluated_151 rfl (by decide) (L2 := [(2, (0, (h 0 20))), (1, (0, 2)), (0, (2, ((0 : Nat) : Int)))]) rfl ?_
            refine ja_aload_n devaluated_152 rfl rfl ?_
            refine fg_form (v := h 0 19) rfl devaluated_153 ?_
            refine ja_iconst devaluated_156 ?_
            refine ja_icmp_ne 180 devaluated_157 rfl ⟨by omega, by omega⟩ ⟨by decide, by decide⟩ (fun c157 => ?_) (fun c157 => ?_)
            · exfalso; omega
            · refine ja_aload_n devaluated_160 rfl rfl ?_
              refine fa_pointKind devaluated_161 ?_
              refine ja_aload_n devaluated_164 rfl rfl ?_
              refine fg_formA (v := h 0 20) rfl devaluated_165 ?_
              refine ja_iconst devaluated_168 ?_
              have g22 := gW_pointKind g5 (h 0 20).toNat (x := 4) ⟨by decide, by decide⟩
              refine is_pointKind ⟨by omega, by omega⟩ devaluated_169 ?_
              refine ja_aload_n devaluated_170 rfl rfl ?_
              refine fa_pointArgs devaluated_171 ?_
              refine ja_aload_n devaluated_174 rfl rfl ?_
              refine fg_formA (v := h 0 20) rfl devaluated_175 ?_
              refine ja_iconst devaluated_178 ?_
              have g23 := gW_pointArgs g22 (h 0 20).toNat (x := 1) ⟨by decide, by decide⟩
              refine is_pointArgs ⟨by omega, by omega⟩ devaluated_179 ?_
              refine ja_aload_n devaluated_180 rfl rfl ?_
              refine t_take (by decide) (show (0 : Nat) ≤ 8 by decide) devaluated_181 g23  ?_ ?_
              · intro k181_0 g24
                replace k181_0 : (h 0 7) < 900 := k181_0
                replace g24 : mo_G Zz (ja_up (ja_up (ja_up (ja_up h 0 113 ((h 0 113) - 1)) 52 ((h 0 20).toNat) 4) 55 ((h 0 20).toNat) 1) 0 7 ((h 0 7) + 1)) := g24
                show mJ l D cA ad 3 cX12_evaluated 3 (some .boolean) 184 [(2, (0, (h 0 20))), (1, (0, 2)), (0, (2, ((0 : Nat) : Int)))] [(0, 1)] (ja_up (ja_up (ja_up (ja_up h 0 113 ((h 0 113) - 1)) 52 ((h 0 20).toNat) 4) 55 ((h 0 20).toNat) 1) 0 7 ((h 0 7) + 1)) Q
                refine ja_if_eq 227 devaluated_184 rfl ⟨by decide, by decide⟩ (fun c184 => absurd c184 (by omega)) (fun c184 => ?_)
                refine ja_aload_n devaluated_187 rfl rfl ?_
                refine ja_bipush 19 devaluated_188 rfl ?_
                refine ja_iload_n devaluated_190 rfl rfl ?_
                refine ja_iload_n devaluated_191 rfl rfl ?_
                refine ja_iconst devaluated_192 ?_
                refine t_later (by decide) (show (0 : Nat) ≤ 8 by decide) devaluated_193 g24 ⟨by decide, by decide⟩ ⟨by decide, by decide⟩ ⟨by omega, by omega⟩ ⟨by decide, by decide⟩ (show 0 ≤ 19 ∧ 19 ≤ 38 by omega) (show (h 0 17) < 2000 by omega) ?_
                intro g25
                replace g25 : mo_G Zz (ja_up (ja_up (ja_up (ja_up (ja_up (ja_up (ja_up (ja_up (ja_up h 0 113 ((h 0 113) - 1)) 52 ((h 0 20).toNat) 4) 55 ((h 0 20).toNat) 1) 0 7 ((h 0 7) + 1)) 6 ((h 0 17).toNat) 19) 7 ((h 0 17).toNat) 2) 8 ((h 0 17).toNat) (h 0 20)) 9 ((h 0 17).toNat) 0) 0 17 ((h 0 17) + 1)) := g25
                show mJ l D cA ad 3 cX12_evaluated 3 (some .boolean) 196 [(2, (0, (h 0 20))), (1, (0, 2)), (0, (2, ((0 : Nat) : Int)))] [(0, 1)] (ja_up (ja_up (ja_up (ja_up (ja_up (ja_up (ja_up (ja_up (ja_up h 0 113 ((h 0 113) - 1)) 52 ((h 0 20).toNat) 4) 55 ((h 0 20).toNat) 1) 0 7 ((h 0 7) + 1)) 6 ((h 0 17).toNat) 19) 7 ((h 0 17).toNat) 2) 8 ((h 0 17).toNat) (h 0 20)) 9 ((h 0 17).toNat) 0) 0 17 ((h 0 17) + 1)) Q
                refine ja_if_eq 227 devaluated_196 rfl ⟨by decide, by decide⟩ (fun c196 => absurd c196 (by omega)) (fun c196 => ?_)
                refine ja_aload_n devaluated_199 rfl rfl ?_
                refine ja_bipush 37 devaluated_200 rfl ?_
                refine ja_bipush 59 devaluated_202 rfl ?_
                refine ja_iconst devaluated_204 ?_
                refine ja_iconst devaluated_205 ?_
                refine t_later (by decide) (show (0 : Nat) ≤ 8 by decide) devaluated_206 g25 ⟨by decide, by decide⟩ ⟨by decide, by decide⟩ ⟨by decide, by decide⟩ ⟨by decide, by decide⟩ (show 0 ≤ 37 ∧ 37 ≤ 38 by omega) (show ((h 0 17) + 1) < 2000 by omega) ?_
                intro g26
                replace g26 : mo_G Zz (ja_up (ja_up (ja_up (ja_up (ja_up (ja_up (ja_up (ja_up (ja_up (ja_up (ja_up (ja_up (ja_up (ja_up h 0 113 ((h 0 113) - 1)) 52 ((h 0 20).toNat) 4) 55 ((h 0 20).toNat) 1) 0 7 ((h 0 7) + 1)) 6 ((h 0 17).toNat) 19) 7 ((h 0 17).toNat) 2) 8 ((h 0 17).toNat) (h 0 20)) 9 ((h 0 17).toNat) 0) 0 17 ((h 0 17) + 1)) 6 (((h 0 17) + 1).toNat) 37) 7 (((h 0 17) + 1).toNat) 59) 8 (((h 0 17) + 1).toNat) 0) 9 (((h 0 17) + 1).toNat) 0) 0 17 (((h 0 17) + 1) + 1)) := g26
                show mJ l D cA ad 3 cX12_evaluated 3 (some .boolean) 209 [(2, (0, (h 0 20))), (1, (0, 2)), (0, (2, ((0 : Nat) : Int)))] [(0, 1)] (ja_up (ja_up (ja_up (ja_up (ja_up (ja_up (ja_up (ja_up (ja_up (ja_up (ja_up (ja_up (ja_up (ja_up h 0 113 ((h 0 113) - 1)) 52 ((h 0 20).toNat) 4) 55 ((h 0 20).toNat) 1) 0 7 ((h 0 7) + 1)) 6 ((h 0 17).toNat) 19) 7 ((h 0 17).toNat) 2) 8 ((h 0 17).toNat) (h 0 20)) 9 ((h 0 17).toNat) 0) 0 17 ((h 0 17) + 1)) 6 (((h 0 17) + 1).toNat) 37) 7 (((h 0 17) + 1).toNat) 59) 8 (((h 0 17) + 1).toNat) 0) 9 (((h 0 17) + 1).toNat) 0) 0 17 (((h 0 17) + 1) + 1)) Q
                refine ja_if_eq 227 devaluated_209 rfl ⟨by decide, by decide⟩ (fun c209 => absurd c209 (by omega)) (fun c209 => ?_)
                refine ja_aload_n devaluated_212 rfl rfl ?_
                refine ja_iconst devaluated_213 ?_
                refine ja_iconst devaluated_214 ?_
                refine ja_iconst devaluated_215 ?_
                refine ja_iconst devaluated_216 ?_
                refine t_later (by decide) (show (0 : Nat) ≤ 8 by decide) devaluated_217 g26 ⟨by decide, by decide⟩ ⟨by decide, by decide⟩ ⟨by decide, by decide⟩ ⟨by decide, by decide⟩ (show 0 ≤ 1 ∧ 1 ≤ 38 by omega) (show (((h 0 17) + 1) + 1) < 2000 by omega) ?_
                intro g27
                replace g27 : mo_G Zz (ja_up (ja_up (ja_up (ja_up (ja_up (ja_up (ja_up (ja_up (ja_up (ja_up (ja_up (ja_up (ja_up (ja_up (ja_up (ja_up (ja_up (ja_up (ja_up h 0 113 ((h 0 113) - 1)) 52 ((h 0 20).toNat) 4) 55 ((h 0 20).toNat) 1) 0 7 ((h 0 7) + 1)) 6 ((h 0 17).toNat) 19) 7 ((h 0 17).toNat) 2) 8 ((h 0 17).toNat) (h 0 20)) 9 ((h 0 17).toNat) 0) 0 17 ((h 0 17) + 1)) 6 (((h 0 17) + 1).toNat) 37) 7 (((h 0 17) + 1).toNat) 59) 8 (((h 0 17) + 1).toNat) 0) 9 (((h 0 17) + 1).toNat) 0) 0 17 (((h 0 17) + 1) + 1)) 6 ((((h 0 17) + 1) + 1).toNat) 1) 7 ((((h 0 17) + 1) + 1).toNat) 0) 8 ((((h 0 17) + 1) + 1).toNat) 0) 9 ((((h 0 17) + 1) + 1).toNat) 0) 0 17 ((((h 0 17) + 1) + 1) + 1)) := g27
                show mJ l D cA ad 3 cX12_evaluated 3 (some .boolean) 220 [(2, (0, (h 0 20))), (1, (0, 2)), (0, (2, ((0 : Nat) : Int)))] [(0, 1)] (ja_up (ja_up (ja_up (ja_up (ja_up (ja_up (ja_up (ja_up (ja_up (ja_up (ja_up (ja_up (ja_up (ja_up (ja_up (ja_up (ja_up (ja_up (ja_up h 0 113 ((h 0 113) - 1)) 52 ((h 0 20).toNat) 4) 55 ((h 0 20).toNat) 1) 0 7 ((h 0 7) + 1)) 6 ((h 0 17).toNat) 19) 7 ((h 0 17).toNat) 2) 8 ((h 0 17).toNat) (h 0 20)) 9 ((h 0 17).toNat) 0) 0 17 ((h 0 17) + 1)) 6 (((h 0 17) + 1).toNat) 37) 7 (((h 0 17) + 1).toNat) 59) 8 (((h 0 17) + 1).toNat) 0) 9 (((h 0 17) + 1).toNat) 0) 0 17 (((h 0 17) + 1) + 1)) 6 ((((h 0 17) + 1) + 1).toNat) 1) 7 ((((h 0 17) + 1) + 1).toNat) 0) 8 ((((h 0 17) + 1) + 1).toNat) 0) 9 ((((h 0 17) + 1) + 1).toNat) 0) 0 17 ((((h 0 17) + 1) + 1) + 1)) Q
                refine ja_if_eq 227 devaluated_220 rfl ⟨by decide, by decide⟩ (fun c220 => absurd c220 (by omega)) (fun c220 => ?_)
                refine ja_iconst devaluated_223 ?_
                refine ja_goto 228 devaluated_224 rfl ?_
                refine ja_zreturn devaluated_228 rfl (by omega) ?_
                exact mo_fin (by omega) rfl (k1 (ja_up (ja_up (ja_up (ja_up (ja_up (ja_up (ja_up (ja_up (ja_up (ja_up (ja_up (ja_up (ja_up (ja_up (ja_up (ja_up (ja_up (ja_up (ja_up h 0 113 ((h 0 113) - 1)) 52 ((h 0 20).toNat) 4) 55 ((h 0 20).toNat) 1) 0 7 ((h 0 7) + 1)) 6 ((h 0 17).toNat) 19) 7 ((h 0 17).toNat) 2) 8 ((h 0 17).toNat) (h 0 20)) 9 ((h 0 17).toNat) 0) 0 17 ((h 0 17) + 1)) 6 (((h 0 17) + 1).toNat) 37) 7 (((h 0 17) + 1).toNat) 59) 8 (((h 0 17) + 1).toNat) 0) 9 (((h 0 17) + 1).toNat) 0) 0 17 (((h 0 17) + 1) + 1)) 6 ((((h 0 17) + 1) + 1).toNat) 1) 7 ((((h 0 17) + 1) + 1).toNat) 0) 8 ((((h 0 17) + 1) + 1).toNat) 0) 9 ((((h 0 17) + 1) + 1).toNat) 0) 0 17 ((((h 0 17) + 1) + 1) + 1)) (ab_assign2 g p1 p2 p3 (by omega)) g27)
              · intro h28 k181_1 g29
                replace k181_1 : 0 < (h28 0 8) ∧ (h28 0 1) = (h 0 1) ∧ (h28 0 118) = (h 0 118) ∧ (h28 0 127) = (h 0 127) := k181_1
                refine ja_if_eq 227 devaluated_184 rfl ⟨by decide, by decide⟩ (fun c184 => ?_) (fun c184 => absurd c184 (by omega))
                refine ja_iconst devaluated_227 ?_
                refine ja_zreturn devaluated_228 rfl (by omega) ?_
                exact mo_fin (by omega) rfl (k2 h28 (by omega) g29)
      · refine ja_aload_n devaluated_71 rfl rfl ?_
        refine fg_form (v := h 0 19) rfl devaluated_72 ?_
        refine ja_iconst devaluated_75 ?_
        refine ja_icmp_eq 85 devaluated_76 rfl ⟨by omega, by omega⟩ ⟨by decide, by decide⟩ (fun c76 => ?_) (fun c76 => ?_)
        · refine ja_aload_n devaluated_85 rfl rfl ?_
          refine ja_dup devaluated_86 (by decide) ?_
          refine fg_words (v := h 0 113) rfl devaluated_87 ?_
          have f30 := gF_words g
          refine ja_iconst devaluated_90 ?_
          refine ja_isub devaluated_91 ?_
          have g31 := gP_words g (x := (h 0 113) - 1) ⟨by omega, by omega⟩
          refine fp_words devaluated_92 ?_
          refine ja_aload_n devaluated_95 rfl rfl ?_
          refine fg_form (v := h 0 19) rfl devaluated_96 ?_
          refine ja_iconst devaluated_99 ?_
          refine ja_icmp_ne 107 devaluated_100 rfl ⟨by omega, by omega⟩ ⟨by decide, by decide⟩ (fun c100 => ?_) (fun c100 => ?_)
          · refine ja_aload_n devaluated_107 rfl rfl ?_
            refine fa_op devaluated_108 ?_
            refine ja_aload_n devaluated_111 rfl rfl ?_
            refine fg_words (v := (h 0 113) - 1) rfl devaluated_112 ?_
            refine il_op (v := h 74 ((h 0 113) - 1).toNat) rfl ⟨by omega, by omega⟩ devaluated_115 ?_
            have f32 := gC_op g ((h 0 113) - 1).toNat
            refine ja_bipush 6 devaluated_116 rfl ?_
            refine ja_icmp_ne 125 devaluated_118 rfl ⟨by omega, by omega⟩ ⟨by decide, by decide⟩ (fun c118 => ?_) (fun c118 => ?_)
            · refine ja_iconst devaluated_125 ?_
              refine ja_istore_n devaluated_126 rfl (by decide) (L2 := [(1, (0, 0)), (0, (2, ((0 : Nat) : Int)))]) rfl ?_
              refine ja_aload_n devaluated_127 rfl rfl ?_
              refine fg_form (v := h 0 19) rfl devaluated_128 ?_
              refine ja_iconst devaluated_131 ?_
              refine ja_icmp_ne 142 devaluated_132 rfl ⟨by omega, by omega⟩ ⟨by decide, by decide⟩ (fun c132 => ?_) (fun c132 => ?_)
              · refine ja_aload_n devaluated_142 rfl rfl ?_
                refine fa_opA devaluated_143 ?_
                refine ja_aload_n devaluated_146 rfl rfl ?_
                refine fg_words (v := (h 0 113) - 1) rfl devaluated_147 ?_
                refine il_opA (v := h 75 ((h 0 113) - 1).toNat) rfl ⟨by omega, by omega⟩ devaluated_150 ?_
                have f33 := gC_opA g ((h 0 113) - 1).toNat
                refine ja_istore_n devaluated_151 rfl (by decide) (L2 := [(2, (0, (h 75 ((h 0 113) - 1).toNat))), (1, (0, 0)), (0, (2, ((0 : Nat) : Int)))]) rfl ?_
                refine ja_aload_n devaluated_152 rfl rfl ?_
                refine fg_form (v := h 0 19) rfl devaluated_153 ?_
                refine ja_iconst devaluated_156 ?_
                refine ja_icmp_ne 180 devaluated_157 rfl ⟨by omega, by omega⟩ ⟨by decide, by decide⟩ (fun c157 => ?_) (fun c157 => ?_)
                · refine ja_aload_n devaluated_180 rfl rfl ?_
                  refine t_take (by decide) (show (0 : Nat) ≤ 8 by decide) devaluated_181 g31  ?_ ?_
                  · intro k181_0 g34
                    replace k181_0 : (h 0 7) < 900 := k181_0
                    replace g34 : mo_G Zz (ja_up (ja_up h 0 113 ((h 0 113) - 1)) 0 7 ((h 0 7) + 1)) := g34
                    show mJ l D cA ad 3 cX12_evaluated 3 (some .boolean) 184 [(2, (0, (h 75 ((h 0 113) - 1).toNat))), (1, (0, 0)), (0, (2, ((0 : Nat) : Int)))] [(0, 1)] (ja_up (ja_up h 0 113 ((h 0 113) - 1)) 0 7 ((h 0 7) + 1)) Q
                    refine ja_if_eq 227 devaluated_184 rfl ⟨by decide, by decide⟩ (fun c184 => absurd c184 (by omega)) (fun c184 => ?_)
                    refine ja_aload_n devaluated_187 rfl rfl ?_
                    refine ja_bipush 19 devaluated_188 rfl ?_
                    refine ja_iload_n devaluated_190 rfl rfl ?_
                    refine ja_iload_n devaluated_191 rfl rfl ?_
                    refine ja_iconst devaluated_192 ?_
                    refine t_later (by decide) (show (0 : Nat) ≤ 8 by decide) devaluated_193 g34 ⟨by decide, by decide⟩ ⟨by decide, by decide⟩ ⟨by omega, by omega⟩ ⟨by decide, by decide⟩ (show 0 ≤ 19 ∧ 19 ≤ 38 by omega) (show (h 0 17) < 2000 by omega) ?_
                    intro g35
                    replace g35 : mo_G Zz (ja_up (ja_up (ja_up (ja_up (ja_up (ja_up (ja_up h 0 113 ((h 0 113) - 1)) 0 7 ((h 0 7) + 1)) 6 ((h 0 17).toNat) 19) 7 ((h 0 17).toNat) 0) 8 ((h 0 17).toNat) (h 75 ((h 0 113) - 1).toNat)) 9 ((h 0 17).toNat) 0) 0 17 ((h 0 17) + 1)) := g35
                    show mJ l D cA ad 3 cX12_evaluated 3 (some .boolean) 196 [(2, (0, (h 75 ((h 0 113) - 1).toNat))), (1, (0, 0)), (0, (2, ((0 : Nat) : Int)))] [(0, 1)] (ja_up (ja_up (ja_up (ja_up (ja_up (ja_up (ja_up h 0 113 ((h 0 113) - 1)) 0 7 ((h 0 7) + 1)) 6 ((h 0 17).toNat) 19) 7 ((h 0 17).toNat) 0) 8 ((h 0 17).toNat) (h 75 ((h 0 113) - 1).toNat)) 9 ((h 0 17).toNat) 0) 0 17 ((h 0 17) + 1)) Q
                    refine ja_if_eq 227 devaluated_196 rfl ⟨by decide, by decide⟩ (fun c196 => absurd c196 (by omega)) (fun c196 => ?_)
                    refine ja_aload_n devaluated_199 rfl rfl ?_
                    refine ja_bipush 37 devaluated_200 rfl ?_
                    refine ja_bipush 59 devaluated_202 rfl ?_
                    refine ja_iconst devaluated_204 ?_
                    refine ja_iconst devaluated_205 ?_
                    refine t_later (by decide) (show (0 : Nat) ≤ 8 by decide) devaluated_206 g35 ⟨by decide, by decide⟩ ⟨by decide, by decide⟩ ⟨by decide, by decide⟩ ⟨by decide, by decide⟩ (show 0 ≤ 37 ∧ 37 ≤ 38 by omega) (show ((h 0 17) + 1) < 2000 by omega) ?_
                    intro g36
                    replace g36 : mo_G Zz (ja_up (ja_up (ja_up (ja_up (ja_up (ja_up (ja_up (ja_up (ja_up (ja_up (ja_up (ja_up h 0 113 ((h 0 113) - 1)) 0 7 ((h 0 7) + 1)) 6 ((h 0 17).toNat) 19) 7 ((h 0 17).toNat) 0) 8 ((h 0 17).toNat) (h 75 ((h 0 113) - 1).toNat)) 9 ((h 0 17).toNat) 0) 0 17 ((h 0 17) + 1)) 6 (((h 0 17) + 1).toNat) 37) 7 (((h 0 17) + 1).toNat) 59) 8 (((h 0 17) + 1).toNat) 0) 9 (((h 0 17) + 1).toNat) 0) 0 17 (((h 0 17) + 1) + 1)) := g36
                    show mJ l D cA ad 3 cX12_evaluated 3 (some .boolean) 209 [(2, (0, (h 75 ((h 0 113) - 1).toNat))), (1, (0, 0)), (0, (2, ((0 : Nat) : Int)))] [(0, 1)] (ja_up (ja_up (ja_up (ja_up (ja_up (ja_up (ja_up (ja_up (ja_up (ja_up (ja_up (ja_up h 0 113 ((h 0 113) - 1)) 0 7 ((h 0 7) + 1)) 6 ((h 0 17).toNat) 19) 7 ((h 0 17).toNat) 0) 8 ((h 0 17).toNat) (h 75 ((h 0 113) - 1).toNat)) 9 ((h 0 17).toNat) 0) 0 17 ((h 0 17) + 1)) 6 (((h 0 17) + 1).toNat) 37) 7 (((h 0 17) + 1).toNat) 59) 8 (((h 0 17) + 1).toNat) 0) 9 (((h 0 17) + 1).toNat) 0) 0 17 (((h 0 17) + 1) + 1)) Q
                    refine ja_if_eq 227 devaluated_209 rfl ⟨by decide, by decide⟩ (fun c209 => absurd c209 (by omega)) (fun c209 => ?_)
                    refine ja_aload_n devaluated_212 rfl rfl ?_
                    refine ja_iconst devaluated_213 ?_
                    refine ja_iconst devaluated_214 ?_
                    refine ja_iconst devaluated_215 ?_
                    refine ja_iconst devaluated_216 ?_
                    refine t_later (by decide) (show (0 : Nat) ≤ 8 by decide) devaluated_217 g36 ⟨by decide, by decide⟩ ⟨by decide, by decide⟩ ⟨by decide, by decide⟩ ⟨by decide, by decide⟩ (show 0 ≤ 1 ∧ 1 ≤ 38 by omega) (show (((h 0 17) + 1) + 1) < 2000 by omega) ?_
                    intro g37
                    replace g37 : mo_G Zz (ja_up (ja_up (ja_up (ja_up (ja_up (ja_up (ja_up (ja_up (ja_up (ja_up (ja_up (ja_up (ja_up (ja_up (ja_up (ja_up (ja_up h 0 113 ((h 0 113) - 1)) 0 7 ((h 0 7) + 1)) 6 ((h 0 17).toNat) 19) 7 ((h 0 17).toNat) 0) 8 ((h 0 17).toNat) (h 75 ((h 0 113) - 1).toNat)) 9 ((h 0 17).toNat) 0) 0 17 ((h 0 17) + 1)) 6 (((h 0 17) + 1).toNat) 37) 7 (((h 0 17) + 1).toNat) 59) 8 (((h 0 17) + 1).toNat) 0) 9 (((h 0 17) + 1).toNat) 0) 0 17 (((h 0 17) + 1) + 1)) 6 ((((h 0 17) + 1) + 1).toNat) 1) 7 ((((h 0 17) + 1) + 1).toNat) 0) 8 ((((h 0 17) + 1) + 1).toNat) 0) 9 ((((h 0 17) + 1) + 1).toNat) 0) 0 17 ((((h 0 17) + 1) + 1) + 1)) := g37
                    show mJ l D cA ad 3 cX12_evaluated 3 (some .boolean) 220 [(2, (0, (h 75 ((h 0 113) - 1).toNat))), (1, (0, 0)), (0, (2, ((0 : Nat) : Int)))] [(0, 1)] (ja_up (ja_up (ja_up (ja_up (ja_up (ja_up (ja_up (ja_up (ja_up (ja_up (ja_up (ja_up (ja_up (ja_up (ja_up (ja_up (ja_up h 0 113 ((h 0 113) - 1)) 0 7 ((h 0 7) + 1)) 6 ((h 0 17).toNat) 19) 7 ((h 0 17).toNat) 0) 8 ((h 0 17).toNat) (h 75 ((h 0 113) - 1).toNat)) 9 ((h 0 17).toNat) 0) 0 17 ((h 0 17) + 1)) 6 (((h 0 17) + 1).toNat) 37) 7 (((h 0 17) + 1).toNat) 59) 8 (((h 0 17) + 1).toNat) 0) 9 (((h 0 17) + 1).toNat) 0) 0 17 (((h 0 17) + 1) + 1)) 6 ((((h 0 17) + 1) + 1).toNat) 1) 7 ((((h 0 17) + 1) + 1).toNat) 0) 8 ((((h 0 17) + 1) + 1).toNat) 0) 9 ((((h 0 17) + 1) + 1).toNat) 0) 0 17 ((((h 0 17) + 1) + 1) + 1)) Q
                    refine ja_if_eq 227 devaluated_220 rfl ⟨by decide, by decide⟩ (fun c220 => absurd c220 (by omega)) (fun c220 => ?_)
                    refine ja_iconst devaluated_223 ?_
                    refine ja_goto 228 devaluated_224 rfl ?_
                    refine ja_zreturn devaluated_228 rfl (by omega) ?_
                    exact mo_fin (by omega) rfl (k1 (ja_up (ja_up (ja_up (ja_up (ja_up (ja_up (ja_up (ja_up (ja_up (ja_up (ja_up (ja_up (ja_up (ja_up (ja_up (ja_up (ja_up h 0 113 ((h 0 113) - 1)) 0 7 ((h 0 7) + 1)) 6 ((h 0 17).toNat) 19) 7 ((h 0 17).toNat) 0) 8 ((h 0 17).toNat) (h 75 ((h 0 113) - 1).toNat)) 9 ((h 0 17).toNat) 0) 0 17 ((h 0 17) + 1)) 6 (((h 0 17) + 1).toNat) 37) 7 (((h 0 17) + 1).toNat) 59) 8 (((h 0 17) + 1).toNat) 0) 9 (((h 0 17) + 1).toNat) 0) 0 17 (((h 0 17) + 1) + 1)) 6 ((((h 0 17) + 1) + 1).toNat) 1) 7 ((((h 0 17) + 1) + 1).toNat) 0) 8 ((((h 0 17) + 1) + 1).toNat) 0) 9 ((((h 0 17) + 1) + 1).toNat) 0) 0 17 ((((h 0 17) + 1) + 1) + 1)) (ab_assign1 (k := 0) g p1 p2 p3 (by omega) (by omega)) g37)
                  · intro h38 k181_1 g39
                    replace k181_1 : 0 < (h38 0 8) ∧ (h38 0 1) = (h 0 1) ∧ (h38 0 118) = (h 0 118) ∧ (h38 0 127) = (h 0 127) := k181_1
                    refine ja_if_eq 227 devaluated_184 rfl ⟨by decide, by decide⟩ (fun c184 => ?_) (fun c184 => absurd c184 (by omega))
                    refine ja_iconst devaluated_227 ?_
                    refine ja_zreturn devaluated_228 rfl (by omega) ?_
                    exact mo_fin (by omega) rfl (k2 h38 (by omega) g39)
                · exfalso; omega
              · exfalso; omega
            · refine ja_iconst devaluated_121 ?_
              refine ja_goto 126 devaluated_122 rfl ?_
              refine ja_istore_n devaluated_126 rfl (by decide) (L2 := [(1, (0, 1)), (0, (2, ((0 : Nat) : Int)))]) rfl ?_
              refine ja_aload_n devaluated_127 rfl rfl ?_
              refine fg_form (v := h 0 19) rfl devaluated_128 ?_
              refine ja_iconst devaluated_131 ?_
              refine ja_icmp_ne 142 devaluated_132 rfl ⟨by omega, by omega⟩ ⟨by decide, by decide⟩ (fun c132 => ?_) (fun c132 => ?_)
              · refine ja_aload_n devaluated_142 rfl rfl ?_
                refine fa_opA devaluated_143 ?_
                refine ja_aload_n devaluated_146 rfl rfl ?_
                refine fg_words (v := (h 0 113) - 1) rfl devaluated_147 ?_
                refine il_opA (v := h 75 ((h 0 113) - 1).toNat) rfl ⟨by omega, by omega⟩ devaluated_150 ?_
                have f40 := gC_opA g ((h 0 113) - 1).toNat
                refine ja_istore_n devaluated_151 rfl (by decide) (L2 := [(2, (0, (h 75 ((h 0 113) - 1).toNat))), (1, (0, 1)), (0, (2, ((0 : Nat) : Int)))]) rfl ?_
                refine ja_aload_n devaluated_152 rfl rfl ?_
                refine fg_form (v := h 0 19) rfl devaluated_153 ?_
                refine ja_iconst devaluated_156 ?_
                refine ja_icmp_ne 180 devaluated_157 rfl ⟨by omega, by omega⟩ ⟨by decide, by decide⟩ (fun c157 => ?_) (fun c157 => ?_)
                · refine ja_aload_n devaluated_180 rfl rfl ?_
                  refine t_take (by decide) (show (0 : Nat) ≤ 8 by decide) devaluated_181 g31  ?_ ?_
                  · intro k181_0 g41
                    replace k181_0 : (h 0 7) < 900 := k181_0
                    replace g41 : mo_G Zz (ja_up (ja_up h 0 113 ((h 0 113) - 1)) 0 7 ((h 0 7) + 1)) := g41
                    show mJ l D cA ad 3 cX12_evaluated 3 (some .boolean) 184 [(2, (0, (h 75 ((h 0 113) - 1).toNat))), (1, (0, 1)), (0, (2, ((0 : Nat) : Int)))] [(0, 1)] (ja_up (ja_up h 0 113 ((h 0 113) - 1)) 0 7 ((h 0 7) + 1)) Q
                    refine ja_if_eq 227 devaluated_184 rfl ⟨by decide, by decide⟩ (fun c184 => absurd c184 (by omega)) (fun c184 => ?_)
                    refine ja_aload_n devaluated_187 rfl rfl ?_
                    refine ja_bipush 19 devaluated_188 rfl ?_
                    refine ja_iload_n devaluated_190 rfl rfl ?_
                    refine ja_iload_n devaluated_191 rfl rfl ?_
                    refine ja_iconst devaluated_192 ?_
                    refine t_later (by decide) (show (0 : Nat) ≤ 8 by decide) devaluated_193 g41 ⟨by decide, by decide⟩ ⟨by decide, by decide⟩ ⟨by omega, by omega⟩ ⟨by decide, by decide⟩ (show 0 ≤ 19 ∧ 19 ≤ 38 by omega) (show (h 0 17) < 2000 by omega) ?_
                    intro g42
                    replace g42 : mo_G Zz (ja_up (ja_up (ja_up (ja_up (ja_up (ja_up (ja_up h 0 113 ((h 0 113) - 1)) 0 7 ((h 0 7) + 1)) 6 ((h 0 17).toNat) 19) 7 ((h 0 17).toNat) 1) 8 ((h 0 17).toNat) (h 75 ((h 0 113) - 1).toNat)) 9 ((h 0 17).toNat) 0) 0 17 ((h 0 17) + 1)) := g42
                    show mJ l D cA ad 3 cX12_evaluated 3 (some .boolean) 196 [(2, (0, (h 75 ((h 0 113) - 1).toNat))), (1, (0, 1)), (0, (2, ((0 : Nat) : Int)))] [(0, 1)] (ja_up (ja_up (ja_up (ja_up (ja_up (ja_up (ja_up h 0 113 ((h 0 113) - 1)) 0 7 ((h 0 7) + 1)) 6 ((h 0 17).toNat) 19) 7 ((h 0 17).toNat) 1) 8 ((h 0 17).toNat) (h 75 ((h 0 113) - 1).toNat)) 9 ((h 0 17).toNat) 0) 0 17 ((h 0 17) + 1)) Q
                    refine ja_if_eq 227 devaluated_196 rfl ⟨by decide, by decide⟩ (fun c196 => absurd c196 (by omega)) (fun c196 => ?_)
                    refine ja_aload_n devaluated_199 rfl rfl ?_
                    refine ja_bipush 37 devaluated_200 rfl ?_
                    refine ja_bipush 59 devaluated_202 rfl ?_
                    refine ja_iconst devaluated_204 ?_
                    refine ja_iconst devaluated_205 ?_
                    refine t_later (by decide) (show (0 : Nat) ≤ 8 by decide) devaluated_206 g42 ⟨by decide, by decide⟩ ⟨by decide, by decide⟩ ⟨by decide, by decide⟩ ⟨by decide, by decide⟩ (show 0 ≤ 37 ∧ 37 ≤ 38 by omega) (show ((h 0 17) + 1) < 2000 by omega) ?_
                    intro g43
                    replace g43 : mo_G Zz (ja_up (ja_up (ja_up (ja_up (ja_up (ja_up (ja_up (ja_up (ja_up (ja_up (ja_up (ja_up h 0 113 ((h 0 113) - 1)) 0 7 ((h 0 7) + 1)) 6 ((h 0 17).toNat) 19) 7 ((h 0 17).toNat) 1) 8 ((h 0 17).toNat) (h 75 ((h 0 113) - 1).toNat)) 9 ((h 0 17).toNat) 0) 0 17 ((h 0 17) + 1)) 6 (((h 0 17) + 1).toNat) 37) 7 (((h 0 17) + 1).toNat) 59) 8 (((h 0 17) + 1).toNat) 0) 9 (((h 0 17) + 1).toNat) 0) 0 17 (((h 0 17) + 1) + 1)) := g43
                    show mJ l D cA ad 3 cX12_evaluated 3 (some .boolean) 209 [(2, (0, (h 75 ((h 0 113) - 1).toNat))), (1, (0, 1)), (0, (2, ((0 : Nat) : Int)))] [(0, 1)] (ja_up (ja_up (ja_up (ja_up (ja_up (ja_up (ja_up (ja_up (ja_up (ja_up (ja_up (ja_up h 0 113 ((h 0 113) - 1)) 0 7 ((h 0 7) + 1)) 6 ((h 0 17).toNat) 19) 7 ((h 0 17).toNat) 1) 8 ((h 0 17).toNat) (h 75 ((h 0 113) - 1).toNat)) 9 ((h 0 17).toNat) 0) 0 17 ((h 0 17) + 1)) 6 (((h 0 17) + 1).toNat) 37) 7 (((h 0 17) + 1).toNat) 59) 8 (((h 0 17) + 1).toNat) 0) 9 (((h 0 17) + 1).toNat) 0) 0 17 (((h 0 17) + 1) + 1)) Q
                    refine ja_if_eq 227 devaluated_209 rfl ⟨by decide, by decide⟩ (fun c209 => absurd c209 (by omega)) (fun c209 => ?_)
                    refine ja_aload_n devaluated_212 rfl rfl ?_
                    refine ja_iconst devaluated_213 ?_
                    refine ja_iconst devaluated_214 ?_
                    refine ja_iconst devaluated_215 ?_
                    refine ja_iconst devaluated_216 ?_
                    refine t_later (by decide) (show (0 : Nat) ≤ 8 by decide) devaluated_217 g43 ⟨by decide, by decide⟩ ⟨by decide, by decide⟩ ⟨by decide, by decide⟩ ⟨by decide, by decide⟩ (show 0 ≤ 1 ∧ 1 ≤ 38 by omega) (show (((h 0 17) + 1) + 1) < 2000 by omega) ?_
                    intro g44
                    replace g44 : mo_G Zz (ja_up (ja_up (ja_up (ja_up (ja_up (ja_up (ja_up (ja_up (ja_up (ja_up (ja_up (ja_up (ja_up (ja_up (ja_up (ja_up (ja_up h 0 113 ((h 0 113) - 1)) 0 7 ((h 0 7) + 1)) 6 ((h 0 17).toNat) 19) 7 ((h 0 17).toNat) 1) 8 ((h 0 17).toNat) (h 75 ((h 0 113) - 1).toNat)) 9 ((h 0 17).toNat) 0) 0 17 ((h 0 17) + 1)) 6 (((h 0 17) + 1).toNat) 37) 7 (((h 0 17) + 1).toNat) 59) 8 (((h 0 17) + 1).toNat) 0) 9 (((h 0 17) + 1).toNat) 0) 0 17 (((h 0 17) + 1) + 1)) 6 ((((h 0 17) + 1) + 1).toNat) 1) 7 ((((h 0 17) + 1) + 1).toNat) 0) 8 ((((h 0 17) + 1) + 1).toNat) 0) 9 ((((h 0 17) + 1) + 1).toNat) 0) 0 17 ((((h 0 17) + 1) + 1) + 1)) := g44
                    show mJ l D cA ad 3 cX12_evaluated 3 (some .boolean) 220 [(2, (0, (h 75 ((h 0 113) - 1).toNat))), (1, (0, 1)), (0, (2, ((0 : Nat) : Int)))] [(0, 1)] (ja_up (ja_up (ja_up (ja_up (ja_up (ja_up (ja_up (ja_up (ja_up (ja_up (ja_up (ja_up (ja_up (ja_up (ja_up (ja_up (ja_up h 0 113 ((h 0 113) - 1)) 0 7 ((h 0 7) + 1)) 6 ((h 0 17).toNat) 19) 7 ((h 0 17).toNat) 1) 8 ((h 0 17).toNat) (h 75 ((h 0 113) - 1).toNat)) 9 ((h 0 17).toNat) 0) 0 17 ((h 0 17) + 1)) 6 (((h 0 17) + 1).toNat) 37) 7 (((h 0 17) + 1).toNat) 59) 8 (((h 0 17) + 1).toNat) 0) 9 (((h 0 17) + 1).toNat) 0) 0 17 (((h 0 17) + 1) + 1)) 6 ((((h 0 17) + 1) + 1).toNat) 1) 7 ((((h 0 17) + 1) + 1).toNat) 0) 8 ((((h 0 17) + 1) + 1).toNat) 0) 9 ((((h 0 17) + 1) + 1).toNat) 0) 0 17 ((((h 0 17) + 1) + 1) + 1)) Q
                    refine ja_if_eq 227 devaluated_220 rfl ⟨by decide, by decide⟩ (fun c220 => absurd c220 (by omega)) (fun c220 => ?_)
                    refine ja_iconst devaluated_223 ?_
                    refine ja_goto 228 devaluated_224 rfl ?_
                    refine ja_zreturn devaluated_228 rfl (by omega) ?_
                    exact mo_fin (by omega) rfl (k1 (ja_up (ja_up (ja_up (ja_up (ja_up (ja_up (ja_up (ja_up (ja_up (ja_up (ja_up (ja_up (ja_up (ja_up (ja_up (ja_up (ja_up h 0 113 ((h 0 113) - 1)) 0 7 ((h 0 7) + 1)) 6 ((h 0 17).toNat) 19) 7 ((h 0 17).toNat) 1) 8 ((h 0 17).toNat) (h 75 ((h 0 113) - 1).toNat)) 9 ((h 0 17).toNat) 0) 0 17 ((h 0 17) + 1)) 6 (((h 0 17) + 1).toNat) 37) 7 (((h 0 17) + 1).toNat) 59) 8 (((h 0 17) + 1).toNat) 0) 9 (((h 0 17) + 1).toNat) 0) 0 17 (((h 0 17) + 1) + 1)) 6 ((((h 0 17) + 1) + 1).toNat) 1) 7 ((((h 0 17) + 1) + 1).toNat) 0) 8 ((((h 0 17) + 1) + 1).toNat) 0) 9 ((((h 0 17) + 1) + 1).toNat) 0) 0 17 ((((h 0 17) + 1) + 1) + 1)) (ab_assign1 (k := 1) g p1 p2 p3 (by omega) (by omega)) g44)
                  · intro h45 k181_1 g46
                    replace k181_1 : 0 < (h45 0 8) ∧ (h45 0 1) = (h 0 1) ∧ (h45 0 118) = (h 0 118) ∧ (h45 0 127) = (h 0 127) := k181_1
                    refine ja_if_eq 227 devaluated_184 rfl ⟨by decide, by decide⟩ (fun c184 => ?_) (fun c184 => absurd c184 (by omega))
                    refine ja_iconst devaluated_227 ?_
                    refine ja_zreturn devaluated_228 rfl (by omega) ?_
                    exact mo_fin (by omega) rfl (k2 h45 (by omega) g46)
                · exfalso; omega
              · exfalso; omega
          · refine ja_iconst devaluated_103 ?_
            refine ja_goto 126 devaluated_104 rfl ?_
            refine ja_istore_n devaluated_126 rfl (by decide) (L2 := [(1, (0, 2)), (0, (2, ((0 : Nat) : Int)))]) rfl ?_
            refine ja_aload_n devaluated_127 rfl rfl ?_
            refine fg_form (v := h 0 19) rfl devaluated_128 ?_
            refine ja_iconst devaluated_131 ?_
            refine ja_icmp_ne 142 devaluated_132 rfl ⟨by omega, by omega⟩ ⟨by decide, by decide⟩ (fun c132 => ?_) (fun c132 => ?_)
            · exfalso; omega
            · refine ja_aload_n devaluated_135 rfl rfl ?_
              refine fg_formA (v := h 0 20) rfl devaluated_136 ?_
              have f47 := gF_formA g
              refine ja_goto 151 devaluated_139 rfl ?_
              refine ja_istore_n devaluated_151 rfl (by decide) (L2 := [(2, (0, (h 0 20))), (1, (0, 2)), (0, (2, ((0 : Nat) : Int)))]) rfl ?_
              refine ja_aload_n devaluated_152 rfl rfl ?_
              refine fg_form (v := h 0 19) rfl devaluated_153 ?_
              refine ja_iconst devaluated_156 ?_
              refine ja_icmp_ne 180 devaluated_157 rfl ⟨by omega, by omega⟩ ⟨by decide, by decide⟩ (fun c157 => ?_) (fun c157 => ?_)
              · exfalso; omega
              · refine ja_aload_n devaluated_160 rfl rfl ?_
                refine fa_pointKind devaluated_161 ?_
                refine ja_aload_n devaluated_164 rfl rfl ?_
                refine fg_formA (v := h 0 20) rfl devaluated_165 ?_
                refine ja_iconst devaluated_168 ?_
                have g48 := gW_pointKind g31 (h 0 20).toNat (x := 4) ⟨by decide, by decide⟩
                refine is_pointKind ⟨by omega, by omega⟩ devaluated_169 ?_
                refine ja_aload_n devaluated_170 rfl rfl ?_
                refine fa_pointArgs devaluated_171 ?_
                refine ja_aload_n devaluated_174 rfl rfl ?_
                refine fg_formA (v := h 0 20) rfl devaluated_175 ?_
                refine ja_iconst devaluated_178 ?_
                have g49 := gW_pointArgs g48 (h 0 20).toNat (x := 1) ⟨by decide, by decide⟩
                refine is_pointArgs ⟨by omega, by omega⟩ devaluated_179 ?_
                refine ja_aload_n devaluated_180 rfl rfl ?_
                refine t_take (by decide) (show (0 : Nat) ≤ 8 by decide) devaluated_181 g49  ?_ ?_
                · intro k181_0 g50
                  replace k181_0 : (h 0 7) < 900 := k181_0
                  replace g50 : mo_G Zz (ja_up (ja_up (ja_up (ja_up h 0 113 ((h 0 113) - 1)) 52 ((h 0 20).toNat) 4) 55 ((h 0 20).toNat) 1) 0 7 ((h 0 7) + 1)) := g50
                  show mJ l D cA ad 3 cX12_evaluated 3 (some .boolean) 184 [(2, (0, (h 0 20))), (1, (0, 2)), (0, (2, ((0 : Nat) : Int)))] [(0, 1)] (ja_up (ja_up (ja_up (ja_up h 0 113 ((h 0 113) - 1)) 52 ((h 0 20).toNat) 4) 55 ((h 0 20).toNat) 1) 0 7 ((h 0 7) + 1)) Q
                  refine ja_if_eq 227 devaluated_184 rfl ⟨by decide, by decide⟩ (fun c184 => absurd c184 (by omega)) (fun c184 => ?_)
                  refine ja_aload_n devaluated_187 rfl rfl ?_
                  refine ja_bipush 19 devaluated_188 rfl ?_
                  refine ja_iload_n devaluated_190 rfl rfl ?_
                  refine ja_iload_n devaluated_191 rfl rfl ?_
                  refine ja_iconst devaluated_192 ?_
                  refine t_later (by decide) (show (0 : Nat) ≤ 8 by decide) devaluated_193 g50 ⟨by decide, by decide⟩ ⟨by decide, by decide⟩ ⟨by omega, by omega⟩ ⟨by decide, by decide⟩ (show 0 ≤ 19 ∧ 19 ≤ 38 by omega) (show (h 0 17) < 2000 by omega) ?_
                  intro g51
                  replace g51 : mo_G Zz (ja_up (ja_up (ja_up (ja_up (ja_up (ja_up (ja_up (ja_up (ja_up h 0 113 ((h 0 113) - 1)) 52 ((h 0 20).toNat) 4) 55 ((h 0 20).toNat) 1) 0 7 ((h 0 7) + 1)) 6 ((h 0 17).toNat) 19) 7 ((h 0 17).toNat) 2) 8 ((h 0 17).toNat) (h 0 20)) 9 ((h 0 17).toNat) 0) 0 17 ((h 0 17) + 1)) := g51
                  show mJ l D cA ad 3 cX12_evaluated 3 (some .boolean) 196 [(2, (0, (h 0 20))), (1, (0, 2)), (0, (2, ((0 : Nat) : Int)))] [(0, 1)] (ja_up (ja_up (ja_up (ja_up (ja_up (ja_up (ja_up (ja_up (ja_up h 0 113 ((h 0 113) - 1)) 52 ((h 0 20).toNat) 4) 55 ((h 0 20).toNat) 1) 0 7 ((h 0 7) + 1)) 6 ((h 0 17).toNat) 19) 7 ((h 0 17).toNat) 2) 8 ((h 0 17).toNat) (h 0 20)) 9 ((h 0 17).toNat) 0) 0 17 ((h 0 17) + 1)) Q
                  refine ja_if_eq 227 devaluated_196 rfl ⟨by decide, by decide⟩ (fun c196 => absurd c196 (by omega)) (fun c196 => ?_)
                  refine ja_aload_n devaluated_199 rfl rfl ?_
                  refine ja_bipush 37 devaluated_200 rfl ?_
                  refine ja_bipush 59 devaluated_202 rfl ?_
                  refine ja_iconst devaluated_204 ?_
                  refine ja_iconst devaluated_205 ?_
                  refine t_later (by decide) (show (0 : Nat) ≤ 8 by decide) devaluated_206 g51 ⟨by decide, by decide⟩ ⟨by decide, by decide⟩ ⟨by decide, by decide⟩ ⟨by decide, by decide⟩ (show 0 ≤ 37 ∧ 37 ≤ 38 by omega) (show ((h 0 17) + 1) < 2000 by omega) ?_
                  intro g52
                  replace g52 : mo_G Zz (ja_up (ja_up (ja_up (ja_up (ja_up (ja_up (ja_up (ja_up (ja_up (ja_up (ja_up (ja_up (ja_up (ja_up h 0 113 ((h 0 113) - 1)) 52 ((h 0 20).toNat) 4) 55 ((h 0 20).toNat) 1) 0 7 ((h 0 7) + 1)) 6 ((h 0 17).toNat) 19) 7 ((h 0 17).toNat) 2) 8 ((h 0 17).toNat) (h 0 20)) 9 ((h 0 17).toNat) 0) 0 17 ((h 0 17) + 1)) 6 (((h 0 17) + 1).toNat) 37) 7 (((h 0 17) + 1).toNat) 59) 8 (((h 0 17) + 1).toNat) 0) 9 (((h 0 17) + 1).toNat) 0) 0 17 (((h 0 17) + 1) + 1)) := g52
                  show mJ l D cA ad 3 cX12_evaluated 3 (some .boolean) 209 [(2, (0, (h 0 20))), (1, (0, 2)), (0, (2, ((0 : Nat) : Int)))] [(0, 1)] (ja_up (ja_up (ja_up (ja_up (ja_up (ja_up (ja_up (ja_up (ja_up (ja_up (ja_up (ja_up (ja_up (ja_up h 0 113 ((h 0 113) - 1)) 52 ((h 0 20).toNat) 4) 55 ((h 0 20).toNat) 1) 0 7 ((h 0 7) + 1)) 6 ((h 0 17).toNat) 19) 7 ((h 0 17).toNat) 2) 8 ((h 0 17).toNat) (h 0 20)) 9 ((h 0 17).toNat) 0) 0 17 ((h 0 17) + 1)) 6 (((h 0 17) + 1).toNat) 37) 7 (((h 0 17) + 1).toNat) 59) 8 (((h 0 17) + 1).toNat) 0) 9 (((h 0 17) + 1).toNat) 0) 0 17 (((h 0 17) + 1) + 1)) Q
                  refine ja_if_eq 227 devaluated_209 rfl ⟨by decide, by decide⟩ (fun c209 => absurd c209 (by omega)) (fun c209 => ?_)
                  refine ja_aload_n devaluated_212 rfl rfl ?_
                  refine ja_iconst devaluated_213 ?_
                  refine ja_iconst devaluated_214 ?_
                  refine ja_iconst devaluated_215 ?_
                  refine ja_iconst devaluated_216 ?_
                  refine t_later (by decide) (show (0 : Nat) ≤ 8 by decide) devaluated_217 g52 ⟨by decide, by decide⟩ ⟨by decide, by decide⟩ ⟨by decide, by decide⟩ ⟨by decide, by decide⟩ (show 0 ≤ 1 ∧ 1 ≤ 38 by omega) (show (((h 0 17) + 1) + 1) < 2000 by omega) ?_
                  intro g53
                  replace g53 : mo_G Zz (ja_up (ja_up (ja_up (ja_up (ja_up (ja_up (ja_up (ja_up (ja_up (ja_up (ja_up (ja_up (ja_up (ja_up (ja_up (ja_up (ja_up (ja_up (ja_up h 0 113 ((h 0 113) - 1)) 52 ((h 0 20).toNat) 4) 55 ((h 0 20).toNat) 1) 0 7 ((h 0 7) + 1)) 6 ((h 0 17).toNat) 19) 7 ((h 0 17).toNat) 2) 8 ((h 0 17).toNat) (h 0 20)) 9 ((h 0 17).toNat) 0) 0 17 ((h 0 17) + 1)) 6 (((h 0 17) + 1).toNat) 37) 7 (((h 0 17) + 1).toNat) 59) 8 (((h 0 17) + 1).toNat) 0) 9 (((h 0 17) + 1).toNat) 0) 0 17 (((h 0 17) + 1) + 1)) 6 ((((h 0 17) + 1) + 1).toNat) 1) 7 ((((h 0 17) + 1) + 1).toNat) 0) 8 ((((h 0 17) + 1) + 1).toNat) 0) 9 ((((h 0 17) + 1) + 1).toNat) 0) 0 17 ((((h 0 17) + 1) + 1) + 1)) := g53
                  show mJ l D cA ad 3 cX12_evaluated 3 (some .boolean) 220 [(2, (0, (h 0 20))), (1, (0, 2)), (0, (2, ((0 : Nat) : Int)))] [(0, 1)] (ja_up (ja_up (ja_up (ja_up (ja_up (ja_up (ja_up (ja_up (ja_up (ja_up (ja_up (ja_up (ja_up (ja_up (ja_up (ja_up (ja_up (ja_up (ja_up h 0 113 ((h 0 113) - 1)) 52 ((h 0 20).toNat) 4) 55 ((h 0 20).toNat) 1) 0 7 ((h 0 7) + 1)) 6 ((h 0 17).toNat) 19) 7 ((h 0 17).toNat) 2) 8 ((h 0 17).toNat) (h 0 20)) 9 ((h 0 17).toNat) 0) 0 17 ((h 0 17) + 1)) 6 (((h 0 17) + 1).toNat) 37) 7 (((h 0 17) + 1).toNat) 59) 8 (((h 0 17) + 1).toNat) 0) 9 (((h 0 17) + 1).toNat) 0) 0 17 (((h 0 17) + 1) + 1)) 6 ((((h 0 17) + 1) + 1).toNat) 1) 7 ((((h 0 17) + 1) + 1).toNat) 0) 8 ((((h 0 17) + 1) + 1).toNat) 0) 9 ((((h 0 17) + 1) + 1).toNat) 0) 0 17 ((((h 0 17) + 1) + 1) + 1)) Q
                  refine ja_if_eq 227 devaluated_220 rfl ⟨by decide, by decide⟩ (fun c220 => absurd c220 (by omega)) (fun c220 => ?_)
                  refine ja_iconst devaluated_223 ?_
                  refine ja_goto 228 devaluated_224 rfl ?_
                  refine ja_zreturn devaluated_228 rfl (by omega) ?_
                  exact mo_fin (by omega) rfl (k1 (ja_up (ja_up (ja_up (ja_up (ja_up (ja_up (ja_up (ja_up (ja_up (ja_up (ja_up (ja_up (ja_up (ja_up (ja_up (ja_up (ja_up (ja_up (ja_up h 0 113 ((h 0 113) - 1)) 52 ((h 0 20).toNat) 4) 55 ((h 0 20).toNat) 1) 0 7 ((h 0 7) + 1)) 6 ((h 0 17).toNat) 19) 7 ((h 0 17).toNat) 2) 8 ((h 0 17).toNat) (h 0 20)) 9 ((h 0 17).toNat) 0) 0 17 ((h 0 17) + 1)) 6 (((h 0 17) + 1).toNat) 37) 7 (((h 0 17) + 1).toNat) 59) 8 (((h 0 17) + 1).toNat) 0) 9 (((h 0 17) + 1).toNat) 0) 0 17 (((h 0 17) + 1) + 1)) 6 ((((h 0 17) + 1) + 1).toNat) 1) 7 ((((h 0 17) + 1) + 1).toNat) 0) 8 ((((h 0 17) + 1) + 1).toNat) 0) 9 ((((h 0 17) + 1) + 1).toNat) 0) 0 17 ((((h 0 17) + 1) + 1) + 1)) (ab_assign2 g p1 p2 p3 (by omega)) g53)
                · intro h54 k181_1 g55
                  replace k181_1 : 0 < (h54 0 8) ∧ (h54 0 1) = (h 0 1) ∧ (h54 0 118) = (h 0 118) ∧ (h54 0 127) = (h 0 127) := k181_1
                  refine ja_if_eq 227 devaluated_184 rfl ⟨by decide, by decide⟩ (fun c184 => ?_) (fun c184 => absurd c184 (by omega))
                  refine ja_iconst devaluated_227 ?_
                  refine ja_zreturn devaluated_228 rfl (by omega) ?_
                  exact mo_fin (by omega) rfl (k2 h54 (by omega) g55)
        · refine ja_aload_n devaluated_79 rfl rfl ?_
          refine ja_iconst devaluated_80 ?_
          refine t_halt (by decide) (show (0 : Nat) ≤ 8 by decide) devaluated_81 g ⟨by decide, by decide⟩ (show 1 ≤ 2 ∧ 2 ≤ 8 by omega) ?_
          intro h56 k81_0 g57
          refine ja_zreturn devaluated_84 rfl (by omega) ?_
          exact mo_fin (by omega) rfl (k2 h56 (by omega) g57)
    · replace k52_0 := is0 k52_0 c55
      refine ja_aload_n devaluated_58 rfl rfl ?_
      refine t_wrong (by decide) (show (0 : Nat) ≤ 8 by decide) devaluated_59 g  ?_
      intro h58 k59_0 g59
      refine ja_zreturn devaluated_62 rfl (by omega) ?_
      exact mo_fin (by omega) rfl (k2 h58 (by omega) g59)
  · have z6 := is1v k3_0 c6
    replace k3_0 := is1 k3_0 c6
    refine ja_aload_n devaluated_9 rfl rfl ?_
    refine fg_form (v := h 0 19) rfl devaluated_10 ?_
    have f60 := gF_form g
    refine ja_iconst devaluated_13 ?_
    refine ja_icmp_lt 43 devaluated_14 rfl ⟨by omega, by omega⟩ ⟨by decide, by decide⟩ (fun c14 => ?_) (fun c14 => ?_)
    · refine ja_aload_n devaluated_43 rfl rfl ?_
      refine ja_iconst devaluated_44 ?_
      refine t_halt (by decide) (show (0 : Nat) ≤ 8 by decide) devaluated_45 g ⟨by decide, by decide⟩ (show 1 ≤ 2 ∧ 2 ≤ 8 by omega) ?_
      intro h61 k45_0 g62
      refine ja_zreturn devaluated_48 rfl (by omega) ?_
      exact mo_fin (by omega) rfl (k2 h61 (by omega) g62)
    · refine ja_aload_n devaluated_17 rfl rfl ?_
      refine t_take (by decide) (show (0 : Nat) ≤ 8 by decide) devaluated_18 g  ?_ ?_
      · intro k18_0 g63
        replace k18_0 : (h 0 7) < 900 := k18_0
        replace g63 : mo_G Zz (ja_up h 0 7 ((h 0 7) + 1)) := g63
        show mJ l D cA ad 3 cX12_evaluated 3 (some .boolean) 21 [(0, (2, ((0 : Nat) : Int)))] [(0, 1)] (ja_up h 0 7 ((h 0 7) + 1)) Q
        refine ja_if_eq 39 devaluated_21 rfl ⟨by decide, by decide⟩ (fun c21 => absurd c21 (by omega)) (fun c21 => ?_)
        refine ja_aload_n devaluated_24 rfl rfl ?_
        refine ja_bipush 17 devaluated_25 rfl ?_
        refine ja_iconst devaluated_27 ?_
        refine ja_iconst devaluated_28 ?_
        refine t_emit (by decide) (show (0 : Nat) ≤ 8 by decide) devaluated_29 g63 ⟨by decide, by decide⟩ ⟨by decide, by decide⟩ ⟨by decide, by decide⟩ (show 0 ≤ 17 ∧ 17 ≤ 26 by omega) (show (h 0 113) < 5000 by omega) ?_
        intro g64
        replace g64 : mo_G Zz (ja_up (ja_up (ja_up (ja_up (ja_up h 0 7 ((h 0 7) + 1)) 74 ((h 0 113).toNat) 17) 75 ((h 0 113).toNat) 0) 76 ((h 0 113).toNat) 0) 0 113 ((h 0 113) + 1)) := g64
        show mJ l D cA ad 3 cX12_evaluated 3 (some .boolean) 32 [(0, (2, ((0 : Nat) : Int)))] [(0, (h 0 113))] (ja_up (ja_up (ja_up (ja_up (ja_up h 0 7 ((h 0 7) + 1)) 74 ((h 0 113).toNat) 17) 75 ((h 0 113).toNat) 0) 76 ((h 0 113).toNat) 0) 0 113 ((h 0 113) + 1)) Q
        refine ja_if_lt 39 devaluated_32 rfl ⟨by omega, by omega⟩ (fun c32 => ?_) (fun c32 => ?_)
        · refine ja_iconst devaluated_39 ?_
          refine ja_goto 48 devaluated_40 rfl ?_
          refine ja_zreturn devaluated_48 rfl (by omega) ?_
          exact mo_fin (by omega) rfl (k2 (ja_up (ja_up (ja_up (ja_up (ja_up h 0 7 ((h 0 7) + 1)) 74 ((h 0 113).toNat) 17) 75 ((h 0 113).toNat) 0) 76 ((h 0 113).toNat) 0) 0 113 ((h 0 113) + 1)) (show 0 < (h 0 8) ∧ (h 0 1) = (h 0 1) ∧ (h 0 118) = (h 0 118) ∧ (h 0 127) = (h 0 127) by omega) g64)
        · refine ja_iconst devaluated_35 ?_
          refine ja_goto 48 devaluated_36 rfl ?_
          refine ja_zreturn devaluated_48 rfl (by omega) ?_
          exact mo_fin (by omega) rfl (k1 (ja_up (ja_up (ja_up (ja_up (ja_up h 0 7 ((h 0 7) + 1)) 74 ((h 0 113).toNat) 17) 75 ((h 0 113).toNat) 0) 76 ((h 0 113).toNat) 0) 0 113 ((h 0 113) + 1)) (ab_ev_pop g p1 p2) g64)
      · intro h65 k18_1 g66
        refine ja_if_eq 39 devaluated_21 rfl ⟨by decide, by decide⟩ (fun c21 => ?_) (fun c21 => absurd c21 (by omega))
        refine ja_iconst devaluated_39 ?_
        refine ja_goto 48 devaluated_40 rfl ?_
        refine ja_zreturn devaluated_48 rfl (by omega) ?_
        exact mo_fin (by omega) rfl (k2 h65 (by omega) g66)
theorem t_evaluated {R r ph q0 a b : Int} {tf : mo_TF} {s : List mo_A} {ht st rg : Nat → Int} {tu : Int} {d nL pc : Nat} {cc : ByteArray} {rt : Option FieldType} {L : List (Nat × ja_V)} {S : List ja_V} {h : ja_H} {Q : Option ja_V → ja_H → Prop} (hdd : 3 < d) (hwd : ja_wd S ≤ 8) (hd : decode cc pc = .ok (.invokevirtual 823, 3)) (g : mo_G Zz h) (p1 : pk_S h (h 0 17).toNat s) (p2 : piB h R r ph tf q0 ((18, a, b) :: s) ht st rg tu) (p3 : tf_ok ph tf) (k1 : ∀ (h' : ja_H), (pi_done h h' R r ph tf q0 (pi_mu h ((18, a, b) :: s))) → mo_G Zz h' → mJ l D cA ad d cc nL rt (pc + 3) L ((0, 1) :: S) h' Q) (k2 : ∀ (h' : ja_H), (0 < (h' 0 8) ∧ (h' 0 1) = (h 0 1) ∧ (h' 0 118) = (h 0 118) ∧ (h' 0 127) = (h 0 127)) → mo_G Zz h' → mJ l D cA ad d cc nL rt (pc + 3) L ((0, 0) :: S) h' Q) : mJ l D cA ad d cc nL rt pc L ((2, ((0 : Nat) : Int)) :: S) h Q :=
  mc_evaluated hdd hwd hd (s_evaluated g p1 p2 p3 k1 k2)
end
