/-! the reference: an ITEM (written by a program) -/
variable {Zz : Zc}
theorem ditem_0 : decode cX12_item 0 = .ok (.aload_n 0, 1) := by decide +kernel
theorem ditem_1 : decode cX12_item 1 = .ok (.bipush 10, 2) := by decide +kernel
theorem ditem_3 : decode cX12_item 3 = .ok (.invokevirtual 596, 3) := by decide +kernel
theorem ditem_6 : decode cX12_item 6 = .ok (.ifCond .eq 23, 3) := by decide +kernel
theorem ditem_9 : decode cX12_item 9 = .ok (.aload_n 0, 1) := by decide +kernel
theorem ditem_10 : decode cX12_item 10 = .ok (.invokevirtual 589, 3) := by decide +kernel
theorem ditem_13 : decode cX12_item 13 = .ok (.ifCond .eq 14, 3) := by decide +kernel
theorem ditem_16 : decode cX12_item 16 = .ok (.aload_n 0, 1) := by decide +kernel
theorem ditem_17 : decode cX12_item 17 = .ok (.invokevirtual 723, 3) := by decide +kernel
theorem ditem_20 : decode cX12_item 20 = .ok (.ifCond .eq 7, 3) := by decide +kernel
theorem ditem_23 : decode cX12_item 23 = .ok (.iconst 1, 1) := by decide +kernel
theorem ditem_24 : decode cX12_item 24 = .ok (.goto 4, 3) := by decide +kernel
theorem ditem_27 : decode cX12_item 27 = .ok (.iconst 0, 1) := by decide +kernel
theorem ditem_28 : decode cX12_item 28 = .ok (.ireturn, 1) := by decide +kernel
theorem ditem_29 : decode cX12_item 29 = .ok (.aload_n 0, 1) := by decide +kernel
theorem ditem_30 : decode cX12_item 30 = .ok (.bipush 23, 2) := by decide +kernel
theorem ditem_32 : decode cX12_item 32 = .ok (.invokevirtual 596, 3) := by decide +kernel
theorem ditem_35 : decode cX12_item 35 = .ok (.ifCond .eq 87, 3) := by decide +kernel
theorem ditem_38 : decode cX12_item 38 = .ok (.aload_n 0, 1) := by decide +kernel
theorem ditem_39 : decode cX12_item 39 = .ok (.getfield 677, 3) := by decide +kernel
theorem ditem_42 : decode cX12_item 42 = .ok (.ifCond .le 12, 3) := by decide +kernel
theorem ditem_45 : decode cX12_item 45 = .ok (.aload_n 0, 1) := by decide +kernel
theorem ditem_46 : decode cX12_item 46 = .ok (.iconst 4, 1) := by decide +kernel
theorem ditem_47 : decode cX12_item 47 = .ok (.aload_n 0, 1) := by decide +kernel
theorem ditem_48 : decode cX12_item 48 = .ok (.getfield 574, 3) := by decide +kernel
theorem ditem_51 : decode cX12_item 51 = .ok (.invokevirtual 719, 3) := by decide +kernel
theorem ditem_54 : decode cX12_item 54 = .ok (.aload_n 0, 1) := by decide +kernel
theorem ditem_55 : decode cX12_item 55 = .ok (.dup, 1) := by decide +kernel
theorem ditem_56 : decode cX12_item 56 = .ok (.getfield 677, 3) := by decide +kernel
theorem ditem_59 : decode cX12_item 59 = .ok (.iconst 1, 1) := by decide +kernel
theorem ditem_60 : decode cX12_item 60 = .ok (.iadd, 1) := by decide +kernel
theorem ditem_61 : decode cX12_item 61 = .ok (.putfield 677, 3) := by decide +kernel
theorem ditem_64 : decode cX12_item 64 = .ok (.aload_n 0, 1) := by decide +kernel
theorem ditem_65 : decode cX12_item 65 = .ok (.iconst 0, 1) := by decide +kernel
theorem ditem_66 : decode cX12_item 66 = .ok (.iconst 0, 1) := by decide +kernel
theorem ditem_67 : decode cX12_item 67 = .ok (.invokevirtual 726, 3) := by decide +kernel
theorem ditem_70 : decode cX12_item 70 = .ok (.aload_n 0, 1) := by decide +kernel
theorem ditem_71 : decode cX12_item 71 = .ok (.getfield 611, 3) := by decide +kernel
theorem ditem_74 : decode cX12_item 74 = .ok (.istore_n 1, 1) := by decide +kernel
theorem ditem_75 : decode cX12_item 75 = .ok (.aload_n 0, 1) := by decide +kernel
theorem ditem_76 : decode cX12_item 76 = .ok (.invokevirtual 589, 3) := by decide +kernel
theorem ditem_79 : decode cX12_item 79 = .ok (.ifCond .eq 10, 3) := by decide +kernel
theorem ditem_82 : decode cX12_item 82 = .ok (.aload_n 0, 1) := by decide +kernel
theorem ditem_83 : decode cX12_item 83 = .ok (.invokevirtual 729, 3) := by decide +kernel
theorem ditem_86 : decode cX12_item 86 = .ok (.ifCond .ne 5, 3) := by decide +kernel
theorem ditem_89 : decode cX12_item 89 = .ok (.iconst 0, 1) := by decide +kernel
theorem ditem_90 : decode cX12_item 90 = .ok (.ireturn, 1) := by decide +kernel
theorem ditem_91 : decode cX12_item 91 = .ok (.aload_n 0, 1) := by decide +kernel
theorem ditem_92 : decode cX12_item 92 = .ok (.bipush 26, 2) := by decide +kernel
theorem ditem_94 : decode cX12_item 94 = .ok (.iconst 0, 1) := by decide +kernel
theorem ditem_95 : decode cX12_item 95 = .ok (.iconst 0, 1) := by decide +kernel
theorem ditem_96 : decode cX12_item 96 = .ok (.invokevirtual 732, 3) := by decide +kernel
theorem ditem_99 : decode cX12_item 99 = .ok (.istore_n 2, 1) := by decide +kernel
theorem ditem_100 : decode cX12_item 100 = .ok (.aload_n 0, 1) := by decide +kernel
theorem ditem_101 : decode cX12_item 101 = .ok (.aload_n 0, 1) := by decide +kernel
theorem ditem_102 : decode cX12_item 102 = .ok (.getfield 677, 3) := by decide +kernel
theorem ditem_105 : decode cX12_item 105 = .ok (.iconst 1, 1) := by decide +kernel
theorem ditem_106 : decode cX12_item 106 = .ok (.if_icmp .ne 7, 3) := by decide +kernel
theorem ditem_109 : decode cX12_item 109 = .ok (.iload_n 1, 1) := by decide +kernel
theorem ditem_110 : decode cX12_item 110 = .ok (.goto 7, 3) := by decide +kernel
theorem ditem_113 : decode cX12_item 113 = .ok (.aload_n 0, 1) := by decide +kernel
theorem ditem_114 : decode cX12_item 114 = .ok (.getfield 680, 3) := by decide +kernel
theorem ditem_117 : decode cX12_item 117 = .ok (.putfield 680, 3) := by decide +kernel
theorem ditem_120 : decode cX12_item 120 = .ok (.iconst 1, 1) := by decide +kernel
theorem ditem_121 : decode cX12_item 121 = .ok (.ireturn, 1) := by decide +kernel
theorem ditem_122 : decode cX12_item 122 = .ok (.aload_n 0, 1) := by decide +kernel
theorem ditem_123 : decode cX12_item 123 = .ok (.iconst 4, 1) := by decide +kernel
theorem ditem_124 : decode cX12_item 124 = .ok (.invokevirtual 596, 3) := by decide +kernel
theorem ditem_127 : decode cX12_item 127 = .ok (.ifCond .eq 23, 3) := by decide +kernel
theorem ditem_130 : decode cX12_item 130 = .ok (.aload_n 0, 1) := by decide +kernel
theorem ditem_131 : decode cX12_item 131 = .ok (.invokevirtual 589, 3) := by decide +kernel
theorem ditem_134 : decode cX12_item 134 = .ok (.ifCond .eq 14, 3) := by decide +kernel
theorem ditem_137 : decode cX12_item 137 = .ok (.aload_n 0, 1) := by decide +kernel
theorem ditem_138 : decode cX12_item 138 = .ok (.invokevirtual 736, 3) := by decide +kernel
theorem ditem_141 : decode cX12_item 141 = .ok (.ifCond .eq 7, 3) := by decide +kernel
theorem ditem_144 : decode cX12_item 144 = .ok (.iconst 1, 1) := by decide +kernel
theorem ditem_145 : decode cX12_item 145 = .ok (.goto 4, 3) := by decide +kernel
theorem ditem_148 : decode cX12_item 148 = .ok (.iconst 0, 1) := by decide +kernel
theorem ditem_149 : decode cX12_item 149 = .ok (.ireturn, 1) := by decide +kernel
theorem ditem_150 : decode cX12_item 150 = .ok (.aload_n 0, 1) := by decide +kernel
theorem ditem_151 : decode cX12_item 151 = .ok (.bipush 31, 2) := by decide +kernel
theorem ditem_153 : decode cX12_item 153 = .ok (.invokevirtual 596, 3) := by decide +kernel
theorem ditem_156 : decode cX12_item 156 = .ok (.ifCond .eq 107, 3) := by decide +kernel
theorem ditem_159 : decode cX12_item 159 = .ok (.aload_n 0, 1) := by decide +kernel
theorem ditem_160 : decode cX12_item 160 = .ok (.invokevirtual 589, 3) := by decide +kernel
theorem ditem_163 : decode cX12_item 163 = .ok (.istore_n 1, 1) := by decide +kernel
theorem ditem_164 : decode cX12_item 164 = .ok (.iload_n 1, 1) := by decide +kernel
theorem ditem_165 : decode cX12_item 165 = .ok (.istore_n 2, 1) := by decide +kernel
theorem ditem_166 : decode cX12_item 166 = .ok (.iload_n 2, 1) := by decide +kernel
theorem ditem_167 : decode cX12_item 167 = .ok (.ifCond .eq 77, 3) := by decide +kernel
theorem ditem_170 : decode cX12_item 170 = .ok (.aload_n 0, 1) := by decide +kernel
theorem ditem_171 : decode cX12_item 171 = .ok (.getfield 137, 3) := by decide +kernel
theorem ditem_174 : decode cX12_item 174 = .ok (.aload_n 0, 1) := by decide +kernel
theorem ditem_175 : decode cX12_item 175 = .ok (.getfield 674, 3) := by decide +kernel
theorem ditem_178 : decode cX12_item 178 = .ok (.aload_n 0, 1) := by decide +kernel
theorem ditem_179 : decode cX12_item 179 = .ok (.getfield 574, 3) := by decide +kernel
theorem ditem_182 : decode cX12_item 182 = .ok (.iastore, 1) := by decide +kernel
theorem ditem_183 : decode cX12_item 183 = .ok (.aload_n 0, 1) := by decide +kernel
theorem ditem_184 : decode cX12_item 184 = .ok (.dup, 1) := by decide +kernel
theorem ditem_185 : decode cX12_item 185 = .ok (.getfield 674, 3) := by decide +kernel
theorem ditem_188 : decode cX12_item 188 = .ok (.iconst 1, 1) := by decide +kernel
theorem ditem_189 : decode cX12_item 189 = .ok (.iadd, 1) := by decide +kernel
theorem ditem_190 : decode cX12_item 190 = .ok (.putfield 674, 3) := by decide +kernel
theorem ditem_193 : decode cX12_item 193 = .ok (.aload_n 0, 1) := by decide +kernel
theorem ditem_194 : decode cX12_item 194 = .ok (.invokevirtual 739, 3) := by decide +kernel
theorem ditem_197 : decode cX12_item 197 = .ok (.istore_n 1, 1) := by decide +kernel
theorem ditem_198 : decode cX12_item 198 = .ok (.iload_n 1, 1) := by decide +kernel
theorem ditem_199 : decode cX12_item 199 = .ok (.ifCond .eq 23, 3) := by decide +kernel
theorem ditem_202 : decode cX12_item 202 = .ok (.aload_n 0, 1) := by decide +kernel
theorem ditem_203 : decode cX12_item 203 = .ok (.bipush 44, 2) := by decide +kernel
theorem ditem_205 : decode cX12_item 205 = .ok (.invokevirtual 586, 3) := by decide +kernel
theorem ditem_208 : decode cX12_item 208 = .ok (.ifCond .eq 14, 3) := by decide +kernel
theorem ditem_211 : decode cX12_item 211 = .ok (.aload_n 0, 1) := by decide +kernel
theorem ditem_212 : decode cX12_item 212 = .ok (.invokevirtual 589, 3) := by decide +kernel
theorem ditem_215 : decode cX12_item 215 = .ok (.ifCond .eq 7, 3) := by decide +kernel
theorem ditem_218 : decode cX12_item 218 = .ok (.iconst 1, 1) := by decide +kernel
theorem ditem_219 : decode cX12_item 219 = .ok (.goto 4, 3) := by decide +kernel
theorem ditem_222 : decode cX12_item 222 = .ok (.iconst 0, 1) := by decide +kernel
theorem ditem_223 : decode cX12_item 223 = .ok (.istore_n 2, 1) := by decide +kernel
theorem ditem_224 : decode cX12_item 224 = .ok (.iload_n 1, 1) := by decide +kernel
theorem ditem_225 : decode cX12_item 225 = .ok (.ifCond .eq 14, 3) := by decide +kernel
theorem ditem_228 : decode cX12_item 228 = .ok (.aload_n 0, 1) := by decide +kernel
theorem ditem_229 : decode cX12_item 229 = .ok (.getfield 577, 3) := by decide +kernel
theorem ditem_232 : decode cX12_item 232 = .ok (.ifCond .ne 7, 3) := by decide +kernel
theorem ditem_235 : decode cX12_item 235 = .ok (.iconst 1, 1) := by decide +kernel
theorem ditem_236 : decode cX12_item 236 = .ok (.goto 4, 3) := by decide +kernel
theorem ditem_239 : decode cX12_item 239 = .ok (.iconst 0, 1) := by decide +kernel
theorem ditem_240 : decode cX12_item 240 = .ok (.istore_n 1, 1) := by decide +kernel
theorem ditem_241 : decode cX12_item 241 = .ok (.goto (-75), 3) := by decide +kernel
theorem ditem_244 : decode cX12_item 244 = .ok (.iload_n 1, 1) := by decide +kernel
theorem ditem_245 : decode cX12_item 245 = .ok (.ifCond .eq 16, 3) := by decide +kernel
theorem ditem_248 : decode cX12_item 248 = .ok (.aload_n 0, 1) := by decide +kernel
theorem ditem_249 : decode cX12_item 249 = .ok (.bipush 59, 2) := by decide +kernel
theorem ditem_251 : decode cX12_item 251 = .ok (.invokevirtual 742, 3) := by decide +kernel
theorem ditem_254 : decode cX12_item 254 = .ok (.ifCond .eq 7, 3) := by decide +kernel
theorem ditem_257 : decode cX12_item 257 = .ok (.iconst 1, 1) := by decide +kernel
theorem ditem_258 : decode cX12_item 258 = .ok (.goto 4, 3) := by decide +kernel
theorem ditem_261 : decode cX12_item 261 = .ok (.iconst 0, 1) := by decide +kernel
theorem ditem_262 : decode cX12_item 262 = .ok (.ireturn, 1) := by decide +kernel
theorem ditem_263 : decode cX12_item 263 = .ok (.aload_n 0, 1) := by decide +kernel
theorem ditem_264 : decode cX12_item 264 = .ok (.invokevirtual 593, 3) := by decide +kernel
theorem ditem_267 : decode cX12_item 267 = .ok (.ireturn, 1) := by decide +kernel
section
variable {l : Launch} {D : va_G} {cA : Nat → ClassId} {ad : Nat → Nat}
theorem s_item {ht st rg : Nat → Int} {h : ja_H} {Q : Option ja_V → ja_H → Prop} (g : mo_G Zz h) (p1 : it h ht st rg) (k1 : ∀ (h' : ja_H), ((∃ ht st rg : Nat → Int, it h' ht st rg) ∧ (h 0 7) < (h' 0 7) ∧ mo_ag FKQ h h') → mo_G Zz h' → Q (some (0, 1)) h') (k2 : ∀ (h' : ja_H), (0 < (h' 0 8) ∧ (h' 0 1) = (h 0 1) ∧ (h' 0 118) = (h 0 118) ∧ (h' 0 127) = (h 0 127)) → mo_G Zz h' → Q (some (0, 0)) h') : mM_item l D cA ad  h Q := by
  show mJ l D cA ad 14 cX12_item 3 (some .boolean) 0 [(0, (2, ((0 : Nat) : Int)))] [] h Q
  have kn_at := gF_at g
  have kn_mains := gF_mains g
  have kn_words := gF_words g
  have CUT : ∀ n : Nat, (∀ (x1 x2 : Int) (u : ja_H), mo_G Zz u → (-2147483648 ≤ x1 ∧ x1 ≤ 2147483647) → (-2147483648 ≤ x2 ∧ x2 ≤ 2147483647) → (lo_O h u x1 x2) → ((if x2 = 1 then ((1001 : Int) - (u 0 7)).toNat else 0)) = n → mJ l D cA ad 14 cX12_item 3 (some .boolean) 166 [(0, (2, ((0 : Nat) : Int))), (1, (0, x1)), (2, (0, x2))] [] u Q) := by
    intro n
    induction n using Nat.strongRecOn with
    | _ n ih =>
      skip
      · intro x1 x2 u gu qx1 qx2 iv hm
        subst hm
        have ku_at := gF_at gu
        have ku_mains := gF_mains gu
        have ku_words := gF_words gu
        have kua := gF_at gu
        have kub := gF_bad gu
        refine ja_iload_n ditem_166 rfl rfl ?_
        refine ja_if_eq 244 ditem_167 rfl ⟨by omega, by omega⟩ (fun c167 => ?_) (fun c167 => ?_)
        · refine ja_iload_n ditem_244 rfl rfl ?_
          refine ja_if_eq 261 ditem_245 rfl ⟨by omega, by omega⟩ (fun c245 => ?_) (fun c245 => ?_)
          · have iw := lo_O_0 iv (by omega)
            refine ja_iconst ditem_261 ?_
            refine ja_zreturn ditem_262 rfl (by omega) ?_
            exact mo_fin (by omega) rfl (k2 u (by omega) gu)
          · rcases iv with ⟨ex, ⟨ht1, st1, rg1, hit⟩, lat, lag, las⟩ | iv
            case inr => exact absurd iv.1 (by omega)
            obtain ⟨y1, y2, y3, y4, y5, y6, y7, y8, y9, y10, y11, y12, y13, y14⟩ := hit.2.2.1
            have l_size : (u 0 1) = (h 0 1) := lag 0 1 rfl
            have l_compiled : (u 0 118) = (h 0 118) := lag 0 118 rfl
            have l_started : (u 0 127) = (h 0 127) := lag 0 127 rfl
            refine ja_aload_n ditem_248 rfl rfl ?_
            refine ja_bipush 59 ditem_249 rfl ?_
            refine t_sign (by decide) (show (0 : Nat) ≤ 8 by decide) ditem_251 gu ⟨by decide, by decide⟩ ?_ ?_
            · intro k251_0 g1
              replace k251_0 : (u 0 7) < 900 ∧ (u 2 (u 0 7).toNat) = 5 ∧ (u 5 (u 0 7).toNat) = 59 := k251_0
              replace g1 : mo_G Zz (ja_up u 0 7 ((u 0 7) + 1)) := g1
              show mJ l D cA ad 14 cX12_item 3 (some .boolean) 254 [(0, (2, ((0 : Nat) : Int))), (1, (0, x1)), (2, (0, x2))] [(0, 1)] (ja_up u 0 7 ((u 0 7) + 1)) Q
              refine ja_if_eq 261 ditem_254 rfl ⟨by decide, by decide⟩ (fun c254 => absurd c254 (by omega)) (fun c254 => ?_)
              refine ja_iconst ditem_257 ?_
              refine ja_goto 262 ditem_258 rfl ?_
              refine ja_zreturn ditem_262 rfl (by omega) ?_
              exact mo_fin (by omega) rfl (k1 (ja_up u 0 7 ((u 0 7) + 1)) (⟨⟨_, _, _, it_keep hit (by (repeat (first | exact ag_refl | refine ag_up rfl ?_))) (show it_nn ((u 0 7) + 1) (u 0 113) (u 0 95) (u 0 68) (u 0 72) (u 0 31) (u 0 41) (u 0 64) (u 0 61) (u 0 18) (u 0 84) (u 0 87) (u 0 86) (u 0 85) (u 0 109) (u 0 66) from by unfold it_nn; omega) (it_F_eq (it_F_of hit) rfl rfl) (fun z => z) (fun _ _ _ z => z) (Int.le_refl _)⟩, (show (h 0 7) < ((u 0 7) + 1) by omega), ag_trans lag (by (repeat (first | exact ag_refl | refine ag_up rfl ?_)))⟩) g1)
            · intro h2 k251_1 g3
              refine ja_if_eq 261 ditem_254 rfl ⟨by decide, by decide⟩ (fun c254 => ?_) (fun c254 => absurd c254 (by omega))
              refine ja_iconst ditem_261 ?_
              refine ja_zreturn ditem_262 rfl (by omega) ?_
              exact mo_fin (by omega) rfl (k2 h2 (by omega) g3)
        · rcases iv with ⟨ex, ⟨ht1, st1, rg1, hit⟩, lat, lag, las⟩ | iv
          case inr => exact absurd iv.2.1 (by omega)
          obtain ⟨y1, y2, y3, y4, y5, y6, y7, y8, y9, y10, y11, y12, y13, y14⟩ := hit.2.2.1
          have l_size : (u 0 1) = (h 0 1) := lag 0 1 rfl
          have l_compiled : (u 0 118) = (h 0 118) := lag 0 118 rfl
          have l_started : (u 0 127) = (h 0 127) := lag 0 127 rfl
          refine ja_aload_n ditem_170 rfl rfl ?_
          refine fa_orderName ditem_171 ?_
          refine ja_aload_n ditem_174 rfl rfl ?_
          refine fg_orders (v := u 0 64) rfl ditem_175 ?_
          have f4 := gF_orders gu
          refine ja_aload_n ditem_178 rfl rfl ?_
          refine fg_at (v := u 0 7) rfl ditem_179 ?_
          have f5 := gF_at gu
          have g6 := gW_orderName gu (u 0 64).toNat (x := u 0 7) ⟨by omega, by omega⟩
          refine is_orderName ⟨by omega, by omega⟩ ditem_182 ?_
          refine ja_aload_n ditem_183 rfl rfl ?_
          refine ja_dup ditem_184 (by decide) ?_
          refine fg_orders (v := u 0 64) rfl ditem_185 ?_
          refine ja_iconst ditem_188 ?_
          refine ja_iadd ditem_189 ?_
          have g7 := gP_orders g6 (x := (u 0 64) + 1) ⟨by omega, by omega⟩
          refine fp_orders ditem_190 ?_
          refine ja_aload_n ditem_193 rfl rfl ?_
          refine t_name (by decide) (show (0 : Nat) ≤ 8 by decide) ditem_194 g7  ?_ ?_
          · intro k194_0 g8
            replace k194_0 : (u 0 7) < 900 ∧ (u 2 (u 0 7).toNat) = 2 := k194_0
            replace g8 : mo_G Zz (ja_up (ja_up (ja_up u 43 ((u 0 64).toNat) (u 0 7)) 0 64 ((u 0 64) + 1)) 0 7 ((u 0 7) + 1)) := g8
            show mJ l D cA ad 14 cX12_item 3 (some .boolean) 197 [(0, (2, ((0 : Nat) : Int))), (1, (0, x1)), (2, (0, x2))] [(0, 1)] (ja_up (ja_up (ja_up u 43 ((u 0 64).toNat) (u 0 7)) 0 64 ((u 0 64) + 1)) 0 7 ((u 0 7) + 1)) Q
            refine ja_istore_n ditem_197 rfl (by decide) (L2 := [(1, (0, 1)), (0, (2, ((0 : Nat) : Int))), (2, (0, x2))]) rfl ?_
            refine ja_iload_n ditem_198 rfl rfl ?_
            refine ja_if_eq 222 ditem_199 rfl ⟨by decide, by decide⟩ (fun c199 => absurd c199 (by omega)) (fun c199 => ?_)
            refine ja_aload_n ditem_202 rfl rfl ?_
            refine ja_bipush 44 ditem_203 rfl ?_
            refine t_isSign (by decide) (show (0 : Nat) ≤ 8 by decide) ditem_205 g8 ⟨by decide, by decide⟩ ?_
            intro w9 k205_0
            replace k205_0 : (w9 = 1 ∧ (u 2 ((u 0 7) + 1).toNat) = 5 ∧ (u 5 ((u 0 7) + 1).toNat) = 44) ∨ (w9 = 0 ∧ ¬ ((u 2 ((u 0 7) + 1).toNat) = 5 ∧ (u 5 ((u 0 7) + 1).toNat) = 44)) := k205_0
            refine ja_if_eq 222 ditem_208 rfl ⟨by omega, by omega⟩ (fun c208 => ?_) (fun c208 => ?_)
            · replace k205_0 := is0 k205_0 c208
              refine ja_iconst ditem_222 ?_
              refine ja_istore_n ditem_223 rfl (by decide) (L2 := [(2, (0, 0)), (1, (0, 1)), (0, (2, ((0 : Nat) : Int)))]) rfl ?_
              refine ja_iload_n ditem_224 rfl rfl ?_
              refine ja_if_eq 239 ditem_225 rfl ⟨by decide, by decide⟩ (fun c225 => absurd c225 (by omega)) (fun c225 => ?_)
              refine ja_aload_n ditem_228 rfl rfl ?_
              refine fg_bad (v := u 0 8) rfl ditem_229 ?_
              have f10 := gF_bad gu
              refine ja_if_ne 239 ditem_232 rfl ⟨by omega, by omega⟩ (fun c232 => ?_) (fun c232 => ?_)
              · refine ja_iconst ditem_239 ?_
                refine ja_istore_n ditem_240 rfl (by decide) (L2 := [(1, (0, 0)), (2, (0, 0)), (0, (2, ((0 : Nat) : Int)))]) rfl ?_
                refine ja_goto 166 ditem_241 rfl ?_
                exact ja_wk (fun q hq => by simp only [List.mem_cons, List.not_mem_nil, or_false] at hq; rcases hq with rfl | rfl | rfl <;> rfl) ((ih ((if 0 = 1 then ((1001 : Int) - ((u 0 7) + 1)).toNat else 0)) (by (repeat' split) <;> omega)) 0 0 (ja_up (ja_up (ja_up u 43 ((u 0 64).toNat) (u 0 7)) 0 64 ((u 0 64) + 1)) 0 7 ((u 0 7) + 1)) g8 ⟨by decide, by decide⟩ ⟨by decide, by decide⟩ ((Or.inl ⟨Or.inr ⟨rfl, (show 0 < ((u 0 8) : Int) by omega)⟩, ⟨_, _, _, it_keep hit (by (repeat (first | exact ag_refl | refine ag_up rfl ?_))) (show it_nn ((u 0 7) + 1) (u 0 113) (u 0 95) (u 0 68) (u 0 72) (u 0 31) (u 0 41) ((u 0 64) + 1) (u 0 61) (u 0 18) (u 0 84) (u 0 87) (u 0 86) (u 0 85) (u 0 109) (u 0 66) from by unfold it_nn; omega) (it_F_eq (it_F_of hit) rfl rfl) (fun z => z) (fun _ _ _ z => z) (Int.le_refl _)⟩, (show (h 0 7) < ((u 0 7) + 1) by omega), ag_trans lag (by (repeat (first | exact ag_refl | refine ag_up rfl ?_))), (Or.inl rfl)⟩)) rfl)
              · refine ja_iconst ditem_235 ?_
                refine ja_goto 240 ditem_236 rfl ?_
                refine ja_istore_n ditem_240 rfl (by decide) (L2 := [(1, (0, 1)), (2, (0, 0)), (0, (2, ((0 : Nat) : Int)))]) rfl ?_
                refine ja_goto 166 ditem_241 rfl ?_
                exact ja_wk (fun q hq => by simp only [List.mem_cons, List.not_mem_nil, or_false] at hq; rcases hq with rfl | rfl | rfl <;> rfl) ((ih ((if 0 = 1 then ((1001 : Int) - ((u 0 7) + 1)).toNat else 0)) (by (repeat' split) <;> omega)) 1 0 (ja_up (ja_up (ja_up u 43 ((u 0 64).toNat) (u 0 7)) 0 64 ((u 0 64) + 1)) 0 7 ((u 0 7) + 1)) g8 ⟨by decide, by decide⟩ ⟨by decide, by decide⟩ ((Or.inl ⟨Or.inl rfl, ⟨_, _, _, it_keep hit (by (repeat (first | exact ag_refl | refine ag_up rfl ?_))) (show it_nn ((u 0 7) + 1) (u 0 113) (u 0 95) (u 0 68) (u 0 72) (u 0 31) (u 0 41) ((u 0 64) + 1) (u 0 61) (u 0 18) (u 0 84) (u 0 87) (u 0 86) (u 0 85) (u 0 109) (u 0 66) from by unfold it_nn; omega) (it_F_eq (it_F_of hit) rfl rfl) (fun z => z) (fun _ _ _ z => z) (Int.le_refl _)⟩, (show (h 0 7) < ((u 0 7) + 1) by omega), ag_trans lag (by (repeat (first | exact ag_refl | refine ag_up rfl ?_))), (Or.inl rfl)⟩)) rfl)
            · have z208 := is1v k205_0 c208
              replace k205_0 := is1 k205_0 c208
              refine ja_aload_n ditem_211 rfl rfl ?_
              refine t_take (by decide) (show (0 : Nat) ≤ 8 by decide) ditem_212 g8  ?_ ?_
              · intro k212_0 g11
                replace k212_0 : ((u 0 7) + 1) < 900 := k212_0
                replace g11 : mo_G Zz (ja_up (ja_up (ja_up (ja_up u 43 ((u 0 64).toNat) (u 0 7)) 0 64 ((u 0 64) + 1)) 0 7 ((u 0 7) + 1)) 0 7 (((u 0 7) + 1) + 1)) := g11
                show mJ l D cA ad 14 cX12_item 3 (some .boolean) 215 [(1, (0, 1)), (0, (2, ((0 : Nat) : Int))), (2, (0, x2))] [(0, 1)] (ja_up (ja_up (ja_up (ja_up u 43 ((u 0 64).toNat) (u 0 7)) 0 64 ((u 0 64) + 1)) 0 7 ((u 0 7) + 1)) 0 7 (((u 0 7) + 1) + 1)) Q
                refine ja_if_eq 222 ditem_215 rfl ⟨by decide, by decide⟩ (fun c215 => absurd c215 (by omega)) (fun c215 => ?_)
                refine ja_iconst ditem_218 ?_
                refine ja_goto 223 ditem_219 rfl ?_
                refine ja_istore_n ditem_223 rfl (by decide) (L2 := [(2, (0, 1)), (1, (0, 1)), (0, (2, ((0 : Nat) : Int)))]) rfl ?_
                refine ja_iload_n ditem_224 rfl rfl ?_
                refine ja_if_eq 239 ditem_225 rfl ⟨by decide, by decide⟩ (fun c225 => absurd c225 (by omega)) (fun c225 => ?_)
                refine ja_aload_n ditem_228 rfl rfl ?_
                refine fg_bad (v := u 0 8) rfl ditem_229 ?_
                have f12 := gF_bad gu
                refine ja_if_ne 239 ditem_232 rfl ⟨by omega, by omega⟩ (fun c232 => ?_) (fun c232 => ?_)
                · refine ja_iconst ditem_239 ?_
                  refine ja_istore_n ditem_240 rfl (by decide) (L2 := [(1, (0, 0)), (2, (0, 1)), (0, (2, ((0 : Nat) : Int)))]) rfl ?_
                  refine ja_goto 166 ditem_241 rfl ?_
                  exact ja_wk (fun q hq => by simp only [List.mem_cons, List.not_mem_nil, or_false] at hq; rcases hq with rfl | rfl | rfl <;> rfl) ((ih ((if 1 = 1 then ((1001 : Int) - (((u 0 7) + 1) + 1)).toNat else 0)) (by (repeat' split) <;> omega)) 0 1 (ja_up (ja_up (ja_up (ja_up u 43 ((u 0 64).toNat) (u 0 7)) 0 64 ((u 0 64) + 1)) 0 7 ((u 0 7) + 1)) 0 7 (((u 0 7) + 1) + 1)) g11 ⟨by decide, by decide⟩ ⟨by decide, by decide⟩ ((Or.inl ⟨Or.inr ⟨rfl, (show 0 < ((u 0 8) : Int) by omega)⟩, ⟨_, _, _, it_keep hit (by (repeat (first | exact ag_refl | refine ag_up rfl ?_))) (show it_nn (((u 0 7) + 1) + 1) (u 0 113) (u 0 95) (u 0 68) (u 0 72) (u 0 31) (u 0 41) ((u 0 64) + 1) (u 0 61) (u 0 18) (u 0 84) (u 0 87) (u 0 86) (u 0 85) (u 0 109) (u 0 66) from by unfold it_nn; omega) (it_F_eq (it_F_of hit) rfl rfl) (fun z => z) (fun _ _ _ z => z) (Int.le_refl _)⟩, (show (h 0 7) < (((u 0 7) + 1) + 1) by omega), ag_trans lag (by (repeat (first | exact ag_refl | refine ag_up rfl ?_))), (Or.inr ⟨rfl, (show (((u 0 64) + 1) : Int) < (((u 0 7) + 1) + 1) by omega)⟩)⟩)) rfl)
                · refine ja_iconst ditem_235 ?_
                  refine ja_goto 240 ditem_236 rfl ?_
                  refine ja_istore_n ditem_240 rfl (by decide) (L2 := [(1, (0, 1)), (2, (0, 1)), (0, (2, ((0 : Nat) : Int)))]) rfl ?_
                  refine ja_goto 166 ditem_241 rfl ?_
                  exact ja_wk (fun q hq => by simp only [List.mem_cons, List.not_mem_nil, or_false] at hq; rcases hq with rfl | rfl | rfl <;> rfl) ((ih ((if 1 = 1 then ((1001 : Int) - (((u 0 7) + 1) + 1)).toNat else 0)) (by (repeat' split) <;> omega)) 1 1 (ja_up (ja_up (ja_up (ja_up u 43 ((u 0 64).toNat) (u 0 7)) 0 64 ((u 0 64) + 1)) 0 7 ((u 0 7) + 1)) 0 7 (((u 0 7) + 1) + 1)) g11 ⟨by decide, by decide⟩ ⟨by decide, by decide⟩ ((Or.inl ⟨Or.inl rfl, ⟨_, _, _, it_keep hit (by (repeat (first | exact ag_refl | refine ag_up rfl ?_))) (show it_nn (((u 0 7) + 1) + 1) (u 0 113) (u 0 95) (u 0 68) (u 0 72) (u 0 31) (u 0 41) ((u 0 64) + 1) (u 0 61) (u 0 18) (u 0 84) (u 0 87) (u 0 86) (u 0 85) (u 0 109) (u 0 66) from by unfold it_nn; omega) (it_F_eq (it_F_of hit) rfl rfl) (fun z => z) (fun _ _ _ z => z) (Int.le_refl _)⟩, (show (h 0 7) < (((u 0 7) + 1) + 1) by omega), ag_trans lag (by (repeat (first | exact ag_refl | refine ag_up rfl ?_))), (Or.inr ⟨rfl, (show (((u 0 64) + 1) : Int) < (((u 0 7) + 1) + 1) by omega)⟩)⟩)) rfl)
              · intro h13 k212_1 g14
                replace k212_1 : 0 < (h13 0 8) ∧ (h13 0 1) = (u 0 1) ∧ (h13 0 118) = (u 0 118) ∧ (h13 0 127) = (u 0 127) := k212_1
                refine ja_if_eq 222 ditem_215 rfl ⟨by decide, by decide⟩ (fun c215 => ?_) (fun c215 => absurd c215 (by omega))
                refine ja_iconst ditem_222 ?_
                refine ja_istore_n ditem_223 rfl (by decide) (L2 := [(2, (0, 0)), (1, (0, 1)), (0, (2, ((0 : Nat) : Int)))]) rfl ?_
                refine ja_iload_n ditem_224 rfl rfl ?_
                refine ja_if_eq 239 ditem_225 rfl ⟨by decide, by decide⟩ (fun c225 => absurd c225 (by omega)) (fun c225 => ?_)
                refine ja_aload_n ditem_228 rfl rfl ?_
                refine fg_bad (v := h13 0 8) rfl ditem_229 ?_
                have f15 := gF_bad g14
                refine ja_if_ne 239 ditem_232 rfl ⟨by omega, by omega⟩ (fun c232 => ?_) (fun c232 => ?_)
                · refine ja_iconst ditem_239 ?_
                  refine ja_istore_n ditem_240 rfl (by decide) (L2 := [(1, (0, 0)), (2, (0, 0)), (0, (2, ((0 : Nat) : Int)))]) rfl ?_
                  refine ja_goto 166 ditem_241 rfl ?_
                  exact ja_wk (fun q hq => by simp only [List.mem_cons, List.not_mem_nil, or_false] at hq; rcases hq with rfl | rfl | rfl <;> rfl) ((ih ((if 0 = 1 then ((1001 : Int) - (h13 0 7)).toNat else 0)) (by (repeat' split) <;> omega)) 0 0 h13 g14 ⟨by decide, by decide⟩ ⟨by decide, by decide⟩ ((Or.inr ⟨rfl, (by first | rfl | (exfalso; omega)), (show 0 < ((h13 0 8) : Int) by omega), (show ((h13 0 1) : Int) = (h 0 1) by omega), (show ((h13 0 118) : Int) = (h 0 118) by omega), (show ((h13 0 127) : Int) = (h 0 127) by omega)⟩)) rfl)
                · refine ja_iconst ditem_235 ?_
                  refine ja_goto 240 ditem_236 rfl ?_
                  refine ja_istore_n ditem_240 rfl (by decide) (L2 := [(1, (0, 1)), (2, (0, 0)), (0, (2, ((0 : Nat) : Int)))]) rfl ?_
                  refine ja_goto 166 ditem_241 rfl ?_
                  exact ja_wk (fun q hq => by simp only [List.mem_cons, List.not_mem_nil, or_false] at hq; rcases hq with rfl | rfl | rfl <;> rfl) ((ih ((if 0 = 1 then ((1001 : Int) - (h13 0 7)).toNat else 0)) (by (repeat' split) <;> omega)) 1 0 h13 g14 ⟨by decide, by decide⟩ ⟨by decide, by decide⟩ ((by exfalso; omega)) rfl)
          · intro h16 k194_1 g17
            replace k194_1 : 0 < (h16 0 8) ∧ (h16 0 1) = (u 0 1) ∧ (h16 0 118) = (u 0 118) ∧ (h16 0 127) = (u 0 127) := k194_1
            refine ja_istore_n ditem_197 rfl (by decide) (L2 := [(1, (0, 0)), (0, (2, ((0 : Nat) : Int))), (2, (0, x2))]) rfl ?_
            refine ja_iload_n ditem_198 rfl rfl ?_
            refine ja_if_eq 222 ditem_199 rfl ⟨by decide, by decide⟩ (fun c199 => ?_) (fun c199 => absurd c199 (by omega))
            refine ja_iconst ditem_222 ?_
            refine ja_istore_n ditem_223 rfl (by decide) (L2 := [(2, (0, 0)), (1, (0, 0)), (0, (2, ((0 : Nat) : Int)))]) rfl ?_
            refine ja_iload_n ditem_224 rfl rfl ?_
            refine ja_if_eq 239 ditem_225 rfl ⟨by decide, by decide⟩ (fun c225 => ?_) (fun c225 => absurd c225 (by omega))
            refine ja_iconst ditem_239 ?_
            refine ja_istore_n ditem_240 rfl (by decide) (L2 := [(1, (0, 0)), (2, (0, 0)), (0, (2, ((0 : Nat) : Int)))]) rfl ?_
            refine ja_goto 166 ditem_241 rfl ?_
            exact ja_wk (fun q hq => by simp only [List.mem_cons, List.not_mem_nil, or_false] at hq; rcases hq with rfl | rfl | rfl <;> rfl) ((ih ((if 0 = 1 then ((1001 : Int) - (h16 0 7)).toNat else 0)) (by (repeat' split) <;> omega)) 0 0 h16 g17 ⟨by decide, by decide⟩ ⟨by decide, by decide⟩ ((Or.inr ⟨rfl, (by first | rfl | (exfalso; omega)), (show 0 < ((h16 0 8) : Int) by omega), (show ((h16 0 1) : Int) = (h 0 1) by omega), (show ((h16 0 118) : Int) = (h 0 118) by omega), (show ((h16 0 127) : Int) = (h 0 127) by omega)⟩)) rfl)
  obtain ⟨z1, z2, z3, z4, z5, z6, z7, z8, z9, z10, z11, z12, z13, z14⟩ := p1.2.2.1
  refine ja_aload_n ditem_0 rfl rfl ?_
  refine ja_bipush 10 ditem_1 rfl ?_
  refine t_isWord (by decide) (show (0 : Nat) ≤ 8 by decide) ditem_3 g ⟨by decide, by decide⟩ ?_
  intro w18 k3_0
  refine ja_if_eq 29 ditem_6 rfl ⟨by omega, by omega⟩ (fun c6 => ?_) (fun c6 => ?_)
  · replace k3_0 := is0 k3_0 c6
    refine ja_aload_n ditem_29 rfl rfl ?_
    refine ja_bipush 23 ditem_30 rfl ?_
    refine t_isWord (by decide) (show (0 : Nat) ≤ 8 by decide) ditem_32 g ⟨by decide, by decide⟩ ?_
    intro w19 k32_0
    refine ja_if_eq 122 ditem_35 rfl ⟨by omega, by omega⟩ (fun c35 => ?_) (fun c35 => ?_)
    · replace k32_0 := is0 k32_0 c35
      refine ja_aload_n ditem_122 rfl rfl ?_
      refine ja_iconst ditem_123 ?_
      refine t_isWord (by decide) (show (0 : Nat) ≤ 8 by decide) ditem_124 g ⟨by decide, by decide⟩ ?_
      intro w20 k124_0
      refine ja_if_eq 150 ditem_127 rfl ⟨by omega, by omega⟩ (fun c127 => ?_) (fun c127 => ?_)
      · replace k124_0 := is0 k124_0 c127
        refine ja_aload_n ditem_150 rfl rfl ?_
        refine ja_bipush 31 ditem_151 rfl ?_
        refine t_isWord (by decide) (show (0 : Nat) ≤ 8 by decide) ditem_153 g ⟨by decide, by decide⟩ ?_
        intro w21 k153_0
        refine ja_if_eq 263 ditem_156 rfl ⟨by omega, by omega⟩ (fun c156 => ?_) (fun c156 => ?_)
        · replace k153_0 := is0 k153_0 c156
          refine ja_aload_n ditem_263 rfl rfl ?_
          refine t_wrong (by decide) (show (0 : Nat) ≤ 8 by decide) ditem_264 g  ?_
          intro h22 k264_0 g23
          refine ja_zreturn ditem_267 rfl (by omega) ?_
          exact mo_fin (by omega) rfl (k2 h22 (by omega) g23)
        · have z156 := is1v k153_0 c156
          replace k153_0 := is1 k153_0 c156
          refine ja_aload_n ditem_159 rfl rfl ?_
          refine t_take (by decide) (show (0 : Nat) ≤ 8 by decide) ditem_160 g  ?_ ?_
          · intro k160_0 g24
            replace k160_0 : (h 0 7) < 900 := k160_0
            replace g24 : mo_G Zz (ja_up h 0 7 ((h 0 7) + 1)) := g24
            show mJ l D cA ad 14 cX12_item 3 (some .boolean) 163 [(0, (2, ((0 : Nat) : Int)))] [(0, 1)] (ja_up h 0 7 ((h 0 7) + 1)) Q
            refine ja_istore_n ditem_163 rfl (by decide) (L2 := [(1, (0, 1)), (0, (2, ((0 : Nat) : Int)))]) rfl ?_
            refine ja_iload_n ditem_164 rfl rfl ?_
            refine ja_istore_n ditem_165 rfl (by decide) (L2 := [(2, (0, 1)), (1, (0, 1)), (0, (2, ((0 : Nat) : Int)))]) rfl ?_
            exact ja_wk (fun q hq => by simp only [List.mem_cons, List.not_mem_nil, or_false] at hq; rcases hq with rfl | rfl | rfl <;> rfl) ((CUT _) 1 1 (ja_up h 0 7 ((h 0 7) + 1)) g24 ⟨by decide, by decide⟩ ⟨by decide, by decide⟩ ((Or.inl ⟨Or.inl rfl, ⟨_, _, _, it_keep p1 (by (repeat (first | exact ag_refl | refine ag_up rfl ?_))) (show it_nn ((h 0 7) + 1) (h 0 113) (h 0 95) (h 0 68) (h 0 72) (h 0 31) (h 0 41) (h 0 64) (h 0 61) (h 0 18) (h 0 84) (h 0 87) (h 0 86) (h 0 85) (h 0 109) (h 0 66) from by unfold it_nn; omega) (it_F_eq (it_F_of p1) rfl rfl) (fun z => z) (fun _ _ _ z => z) (Int.le_refl _)⟩, (show (h 0 7) < ((h 0 7) + 1) by omega), (by (repeat (first | exact ag_refl | refine ag_up rfl ?_))), (Or.inr ⟨rfl, (show ((h 0 64) : Int) < ((h 0 7) + 1) by omega)⟩)⟩)) rfl)
          · intro h25 k160_1 g26
            refine ja_istore_n ditem_163 rfl (by decide) (L2 := [(1, (0, 0)), (0, (2, ((0 : Nat) : Int)))]) rfl ?_
            refine ja_iload_n ditem_164 rfl rfl ?_
            refine ja_istore_n ditem_165 rfl (by decide) (L2 := [(2, (0, 0)), (1, (0, 0)), (0, (2, ((0 : Nat) : Int)))]) rfl ?_
            exact ja_wk (fun q hq => by simp only [List.mem_cons, List.not_mem_nil, or_false] at hq; rcases hq with rfl | rfl | rfl <;> rfl) ((CUT _) 0 0 h25 g26 ⟨by decide, by decide⟩ ⟨by decide, by decide⟩ ((Or.inr ⟨rfl, (by first | rfl | (exfalso; omega)), (show 0 < ((h25 0 8) : Int) by omega), (show ((h25 0 1) : Int) = (h 0 1) by omega), (show ((h25 0 118) : Int) = (h 0 118) by omega), (show ((h25 0 127) : Int) = (h 0 127) by omega)⟩)) rfl)
      · have z127 := is1v k124_0 c127
        replace k124_0 := is1 k124_0 c127
        refine ja_aload_n ditem_130 rfl rfl ?_
        refine t_take (by decide) (show (0 : Nat) ≤ 8 by decide) ditem_131 g  ?_ ?_
        · intro k131_0 g27
          replace k131_0 : (h 0 7) < 900 := k131_0
          replace g27 : mo_G Zz (ja_up h 0 7 ((h 0 7) + 1)) := g27
          show mJ l D cA ad 14 cX12_item 3 (some .boolean) 134 [(0, (2, ((0 : Nat) : Int)))] [(0, 1)] (ja_up h 0 7 ((h 0 7) + 1)) Q
          refine ja_if_eq 148 ditem_134 rfl ⟨by decide, by decide⟩ (fun c134 => absurd c134 (by omega)) (fun c134 => ?_)
          refine ja_aload_n ditem_137 rfl rfl ?_
          refine t_aspectItem (by decide) (show (0 : Nat) ≤ 8 by decide) ditem_138 g27 (it_keep p1 (by (repeat (first | exact ag_refl | refine ag_up rfl ?_))) (show it_nn ((h 0 7) + 1) (h 0 113) (h 0 95) (h 0 68) (h 0 72) (h 0 31) (h 0 41) (h 0 64) (h 0 61) (h 0 18) (h 0 84) (h 0 87) (h 0 86) (h 0 85) (h 0 109) (h 0 66) from by unfold it_nn; omega) (it_F_eq (it_F_of p1) rfl rfl) (fun z => z) (fun _ _ _ z => z) (Int.le_refl _)) ?_ ?_
          · intro h28 k138_0 g29
            refine ja_if_eq 148 ditem_141 rfl ⟨by decide, by decide⟩ (fun c141 => absurd c141 (by omega)) (fun c141 => ?_)
            refine ja_iconst ditem_144 ?_
            refine ja_goto 149 ditem_145 rfl ?_
            refine ja_zreturn ditem_149 rfl (by omega) ?_
            exact mo_fin (by omega) rfl (k1 h28 (⟨k138_0.1, Int.lt_of_le_of_lt (show (h 0 7) ≤ (h 0 7) + 1 by omega) k138_0.2.1, ag_trans (by (repeat (first | exact ag_refl | refine ag_up rfl ?_))) k138_0.2.2⟩) g29)
          · intro h30 k138_1 g31
            replace k138_1 : 0 < (h30 0 8) ∧ (h30 0 1) = (h 0 1) ∧ (h30 0 118) = (h 0 118) ∧ (h30 0 127) = (h 0 127) := k138_1
            refine ja_if_eq 148 ditem_141 rfl ⟨by decide, by decide⟩ (fun c141 => ?_) (fun c141 => absurd c141 (by omega))
            refine ja_iconst ditem_148 ?_
            refine ja_zreturn ditem_149 rfl (by omega) ?_
            exact mo_fin (by omega) rfl (k2 h30 (by omega) g31)
        · intro h32 k131_1 g33
          refine ja_if_eq 148 ditem_134 rfl ⟨by decide, by decide⟩ (fun c134 => ?_) (fun c134 => absurd c134 (by omega))
          refine ja_iconst ditem_148 ?_
          refine ja_zreturn ditem_149 rfl (by omega) ?_
          exact mo_fin (by omega) rfl (k2 h32 (by omega) g33)
    · have z35 := is1v k32_0 c35
      replace k32_0 := is1 k32_0 c35
      refine ja_aload_n ditem_38 rfl rfl ?_
      refine fg_mains (v := h 0 66) rfl ditem_39 ?_
      have f34 := gF_mains g
      refine ja_if_le 54 ditem_42 rfl ⟨by omega, by omega⟩ (fun c42 => ?_) (fun c42 => ?_)
      · refine ja_aload_n ditem_54 rfl rfl ?_
        refine ja_dup ditem_55 (by decide) ?_
        refine fg_mains (v := h 0 66) rfl ditem_56 ?_
        refine ja_iconst ditem_59 ?_
        refine ja_iadd ditem_60 ?_
        have g35 := gP_mains g (x := (h 0 66) + 1) ⟨by omega, by omega⟩
        refine fp_mains ditem_61 ?_
        refine ja_aload_n ditem_64 rfl rfl ?_
        refine ja_iconst ditem_65 ?_
        refine ja_iconst ditem_66 ?_
        refine t_beginBody (by decide) (show (0 : Nat) ≤ 8 by decide) ditem_67 g35 ⟨by decide, by decide⟩ ⟨by decide, by decide⟩ (show 0 ≤ 0 ∧ 0 ≤ 3 by omega) (show 0 ≤ 0 ∧ 0 ≤ 60 by omega) ?_
        intro g36
        replace g36 : mo_G Zz (ja_up (ja_up (ja_up (ja_up (ja_up h 0 66 ((h 0 66) + 1)) 0 74 0) 0 75 0) 0 77 0) 0 79 0) := g36
        show mJ l D cA ad 14 cX12_item 3 (some .boolean) 70 [(0, (2, ((0 : Nat) : Int)))] [] (ja_up (ja_up (ja_up (ja_up (ja_up h 0 66 ((h 0 66) + 1)) 0 74 0) 0 75 0) 0 77 0) 0 79 0) Q
        refine ja_aload_n ditem_70 rfl rfl ?_
        refine fg_words (v := h 0 113) rfl ditem_71 ?_
        have f37 := gF_words g
        refine ja_istore_n ditem_74 rfl (by decide) (L2 := [(1, (0, (h 0 113))), (0, (2, ((0 : Nat) : Int)))]) rfl ?_
        refine ja_aload_n ditem_75 rfl rfl ?_
        refine t_take (by decide) (show (0 : Nat) ≤ 8 by decide) ditem_76 g36  ?_ ?_
        · intro k76_0 g38
          replace k76_0 : (h 0 7) < 900 := k76_0
          replace g38 : mo_G Zz (ja_up (ja_up (ja_up (ja_up (ja_up (ja_up h 0 66 ((h 0 66) + 1)) 0 74 0) 0 75 0) 0 77 0) 0 79 0) 0 7 ((h 0 7) + 1)) := g38
          show mJ l D cA ad 14 cX12_item 3 (some .boolean) 79 [(1, (0, (h 0 113))), (0, (2, ((0 : Nat) : Int)))] [(0, 1)] (ja_up (ja_up (ja_up (ja_up (ja_up (ja_up h 0 66 ((h 0 66) + 1)) 0 74 0) 0 75 0) 0 77 0) 0 79 0) 0 7 ((h 0 7) + 1)) Q
          refine ja_if_eq 89 ditem_79 rfl ⟨by decide, by decide⟩ (fun c79 => absurd c79 (by omega)) (fun c79 => ?_)
          obtain ⟨tf4, ht4, st4, rg4, hB4, hE4⟩ := mn_blk g g38 p1 (by (repeat (first | exact ag_refl | refine ag_up rfl ?_))) (show (h 0 7) < ((h 0 7) + 1) by omega) (fun z => by have z2 : (h 0 11) = 0 := z; omega) (show (0 : Int) = 0 by omega) (show (0 : Int) ≤ 0 by omega) (show (0 : Int) ≤ 10 by omega) (show (((h 0 66) + 1) : Int) = (h 0 66) + 1 by omega)
          refine ja_aload_n ditem_82 rfl rfl ?_
          refine t_block (by decide) (show (0 : Nat) ≤ 8 by decide) ditem_83 g38 (hB4.1) (show 0 ≤ 1 ∨ 0 ≤ 24 by omega) (hB4.2) ?_ ?_
          · intro h39 k83_0 g40
            obtain ⟨⟨ht5, st5, rg5, tu5, hp5⟩, agB, hatB⟩ := k83_0
            have nm := it_num hp5
            have gat5 := gF_at g40
            have b_mains : (h39 0 66) = (h 0 66) + 1 := agB 0 66 rfl
            refine ja_if_ne 91 ditem_86 rfl ⟨by decide, by decide⟩ (fun c86 => ?_) (fun c86 => absurd c86 (by omega))
            refine ja_aload_n ditem_91 rfl rfl ?_
            refine ja_bipush 26 ditem_92 rfl ?_
            refine ja_iconst ditem_94 ?_
            refine ja_iconst ditem_95 ?_
            refine t_emit (by decide) (show (0 : Nat) ≤ 8 by decide) ditem_96 g40 ⟨by decide, by decide⟩ ⟨by decide, by decide⟩ ⟨by decide, by decide⟩ (show 0 ≤ 26 ∧ 26 ≤ 26 by omega) (show (h39 0 113) < 5000 by omega) ?_
            intro g41
            replace g41 : mo_G Zz (ja_up (ja_up (ja_up (ja_up h39 74 ((h39 0 113).toNat) 26) 75 ((h39 0 113).toNat) 0) 76 ((h39 0 113).toNat) 0) 0 113 ((h39 0 113) + 1)) := g41
            show mJ l D cA ad 14 cX12_item 3 (some .boolean) 99 [(1, (0, (h 0 113))), (0, (2, ((0 : Nat) : Int)))] [(0, (h39 0 113))] (ja_up (ja_up (ja_up (ja_up h39 74 ((h39 0 113).toNat) 26) 75 ((h39 0 113).toNat) 0) 76 ((h39 0 113).toNat) 0) 0 113 ((h39 0 113) + 1)) Q
            refine ja_istore_n ditem_99 rfl (by decide) (L2 := [(2, (0, (h39 0 113))), (1, (0, (h 0 113))), (0, (2, ((0 : Nat) : Int)))]) rfl ?_
            refine ja_aload_n ditem_100 rfl rfl ?_
            refine ja_aload_n ditem_101 rfl rfl ?_
            refine fg_mains (v := h39 0 66) rfl ditem_102 ?_
            have f42 := gF_mains g40
            refine ja_iconst ditem_105 ?_
            refine ja_icmp_ne 113 ditem_106 rfl ⟨by omega, by omega⟩ ⟨by decide, by decide⟩ (fun c106 => ?_) (fun c106 => ?_)
            · refine ja_aload_n ditem_113 rfl rfl ?_
              refine fg_mainStart (v := h39 0 67) rfl ditem_114 ?_
              have f43 := gF_mainStart g40
              have g44 := gP_mainStart g41 (x := h39 0 67) ⟨by omega, by omega⟩
              refine fp_mainStart ditem_117 ?_
              refine ja_iconst ditem_120 ?_
              refine ja_zreturn ditem_121 rfl (by omega) ?_
              exact mo_fin (by omega) rfl (k1 (ja_up (ja_up (ja_up (ja_up (ja_up h39 74 ((h39 0 113).toNat) 26) 75 ((h39 0 113).toNat) 0) 76 ((h39 0 113).toNat) 0) 0 113 ((h39 0 113) + 1)) 0 67 (h39 0 67)) (⟨hE4 _ _ _ _ _ _ g40 hp5 agB hatB (by omega), Int.lt_of_lt_of_le (show (h 0 7) < (h 0 7) + 1 by omega) hatB, ag_trans (by (repeat (first | exact ag_refl | refine ag_up rfl ?_))) (ag_trans (kq_kp (kp_FK agB)) (by (repeat (first | exact ag_refl | refine ag_up rfl ?_))))⟩) g44)
            · refine ja_iload_n ditem_109 rfl rfl ?_
              refine ja_goto 117 ditem_110 rfl ?_
              have g45 := gP_mainStart g41 (x := h 0 113) ⟨by omega, by omega⟩
              refine fp_mainStart ditem_117 ?_
              refine ja_iconst ditem_120 ?_
              refine ja_zreturn ditem_121 rfl (by omega) ?_
              exact mo_fin (by omega) rfl (k1 (ja_up (ja_up (ja_up (ja_up (ja_up h39 74 ((h39 0 113).toNat) 26) 75 ((h39 0 113).toNat) 0) 76 ((h39 0 113).toNat) 0) 0 113 ((h39 0 113) + 1)) 0 67 (h 0 113)) (⟨hE4 _ _ _ _ _ _ g40 hp5 agB hatB (by omega), Int.lt_of_lt_of_le (show (h 0 7) < (h 0 7) + 1 by omega) hatB, ag_trans (by (repeat (first | exact ag_refl | refine ag_up rfl ?_))) (ag_trans (kq_kp (kp_FK agB)) (by (repeat (first | exact ag_refl | refine ag_up rfl ?_))))⟩) g45)
          · intro h46 k83_1 g47
            replace k83_1 : 0 < (h46 0 8) ∧ (h46 0 1) = (h 0 1) ∧ (h46 0 118) = (h 0 118) ∧ (h46 0 127) = (h 0 127) := k83_1
            refine ja_if_ne 91 ditem_86 rfl ⟨by decide, by decide⟩ (fun c86 => absurd c86 (by omega)) (fun c86 => ?_)
            refine ja_iconst ditem_89 ?_
            refine ja_zreturn ditem_90 rfl (by omega) ?_
            exact mo_fin (by omega) rfl (k2 h46 (by omega) g47)
        · intro h48 k76_1 g49
          replace k76_1 : 0 < (h48 0 8) ∧ (h48 0 1) = (h 0 1) ∧ (h48 0 118) = (h 0 118) ∧ (h48 0 127) = (h 0 127) := k76_1
          refine ja_if_eq 89 ditem_79 rfl ⟨by decide, by decide⟩ (fun c79 => ?_) (fun c79 => absurd c79 (by omega))
          refine ja_iconst ditem_89 ?_
          refine ja_zreturn ditem_90 rfl (by omega) ?_
          exact mo_fin (by omega) rfl (k2 h48 (by omega) g49)
      · refine ja_aload_n ditem_45 rfl rfl ?_
        refine ja_iconst ditem_46 ?_
        refine ja_aload_n ditem_47 rfl rfl ?_
        refine fg_at (v := h 0 7) rfl ditem_48 ?_
        have f50 := gF_at g
        refine t_judge (by decide) (show (0 : Nat) ≤ 8 by decide) ditem_51 g ⟨by decide, by decide⟩ ⟨by omega, by omega⟩ (show 1 ≤ 4 ∧ 4 ≤ 8 by omega) (show 0 ≤ (h 0 7) ∧ (h 0 7) ≤ 900 by omega) ?_
        intro w51 w52 k51_0 g53
        replace k51_0 : 1 ≤ w51 ∧ w51 ≤ 8 ∧ -2147483648 ≤ w52 ∧ w52 ≤ 2147483647 := k51_0
        replace g53 : mo_G Zz (ja_up (ja_up h 0 11 w51) 0 12 w52) := g53
        show mJ l D cA ad 14 cX12_item 3 (some .boolean) 54 [(0, (2, ((0 : Nat) : Int)))] [] (ja_up (ja_up h 0 11 w51) 0 12 w52) Q
        refine ja_aload_n ditem_54 rfl rfl ?_
        refine ja_dup ditem_55 (by decide) ?_
        refine fg_mains (v := h 0 66) rfl ditem_56 ?_
        refine ja_iconst ditem_59 ?_
        refine ja_iadd ditem_60 ?_
        have g54 := gP_mains g53 (x := (h 0 66) + 1) ⟨by omega, by omega⟩
        refine fp_mains ditem_61 ?_
        refine ja_aload_n ditem_64 rfl rfl ?_
        refine ja_iconst ditem_65 ?_
        refine ja_iconst ditem_66 ?_
        refine t_beginBody (by decide) (show (0 : Nat) ≤ 8 by decide) ditem_67 g54 ⟨by decide, by decide⟩ ⟨by decide, by decide⟩ (show 0 ≤ 0 ∧ 0 ≤ 3 by omega) (show 0 ≤ 0 ∧ 0 ≤ 60 by omega) ?_
        intro g55
        replace g55 : mo_G Zz (ja_up (ja_up (ja_up (ja_up (ja_up (ja_up (ja_up h 0 11 w51) 0 12 w52) 0 66 ((h 0 66) + 1)) 0 74 0) 0 75 0) 0 77 0) 0 79 0) := g55
        show mJ l D cA ad 14 cX12_item 3 (some .boolean) 70 [(0, (2, ((0 : Nat) : Int)))] [] (ja_up (ja_up (ja_up (ja_up (ja_up (ja_up (ja_up h 0 11 w51) 0 12 w52) 0 66 ((h 0 66) + 1)) 0 74 0) 0 75 0) 0 77 0) 0 79 0) Q
        refine ja_aload_n ditem_70 rfl rfl ?_
        refine fg_words (v := h 0 113) rfl ditem_71 ?_
        have f56 := gF_words g
        refine ja_istore_n ditem_74 rfl (by decide) (L2 := [(1, (0, (h 0 113))), (0, (2, ((0 : Nat) : Int)))]) rfl ?_
        refine ja_aload_n ditem_75 rfl rfl ?_
        refine t_take (by decide) (show (0 : Nat) ≤ 8 by decide) ditem_76 g55  ?_ ?_
        · intro k76_0 g57
          replace k76_0 : (h 0 7) < 900 := k76_0
          replace g57 : mo_G Zz (ja_up (ja_up (ja_up (ja_up (ja_up (ja_up (ja_up (ja_up h 0 11 w51) 0 12 w52) 0 66 ((h 0 66) + 1)) 0 74 0) 0 75 0) 0 77 0) 0 79 0) 0 7 ((h 0 7) + 1)) := g57
          show mJ l D cA ad 14 cX12_item 3 (some .boolean) 79 [(1, (0, (h 0 113))), (0, (2, ((0 : Nat) : Int)))] [(0, 1)] (ja_up (ja_up (ja_up (ja_up (ja_up (ja_up (ja_up (ja_up h 0 11 w51) 0 12 w52) 0 66 ((h 0 66) + 1)) 0 74 0) 0 75 0) 0 77 0) 0 79 0) 0 7 ((h 0 7) + 1)) Q
          refine ja_if_eq 89 ditem_79 rfl ⟨by decide, by decide⟩ (fun c79 => absurd c79 (by omega)) (fun c79 => ?_)
          obtain ⟨tf4, ht4, st4, rg4, hB4, hE4⟩ := mn_blk g g57 p1 (by (repeat (first | exact ag_refl | refine ag_up rfl ?_))) (show (h 0 7) < ((h 0 7) + 1) by omega) (fun z => by have z2 : w51 = 0 := z; omega) (show (0 : Int) = 0 by omega) (show (0 : Int) ≤ 0 by omega) (show (0 : Int) ≤ 10 by omega) (show (((h 0 66) + 1) : Int) = (h 0 66) + 1 by omega)
          refine ja_aload_n ditem_82 rfl rfl ?_
          refine t_block (by decide) (show (0 : Nat) ≤ 8 by decide) ditem_83 g57 (hB4.1) (show 0 ≤ 1 ∨ 0 ≤ 24 by omega) (hB4.2) ?_ ?_
          · intro h58 k83_0 g59
            obtain ⟨⟨ht5, st5, rg5, tu5, hp5⟩, agB, hatB⟩ := k83_0
            have nm := it_num hp5
            have gat5 := gF_at g59
            have b_mains : (h58 0 66) = (h 0 66) + 1 := agB 0 66 rfl
            refine ja_if_ne 91 ditem_86 rfl ⟨by decide, by decide⟩ (fun c86 => ?_) (fun c86 => absurd c86 (by omega))
            refine ja_aload_n ditem_91 rfl rfl ?_
            refine ja_bipush 26 ditem_92 rfl ?_
            refine ja_iconst ditem_94 ?_
            refine ja_iconst ditem_95 ?_
            refine t_emit (by decide) (show (0 : Nat) ≤ 8 by decide) ditem_96 g59 ⟨by decide, by decide⟩ ⟨by decide, by decide⟩ ⟨by decide, by decide⟩ (show 0 ≤ 26 ∧ 26 ≤ 26 by omega) (show (h58 0 113) < 5000 by omega) ?_
            intro g60
            replace g60 : mo_G Zz (ja_up (ja_up (ja_up (ja_up h58 74 ((h58 0 113).toNat) 26) 75 ((h58 0 113).toNat) 0) 76 ((h58 0 113).toNat) 0) 0 113 ((h58 0 113) + 1)) := g60
            show mJ l D cA ad 14 cX12_item 3 (some .boolean) 99 [(1, (0, (h 0 113))), (0, (2, ((0 : Nat) : Int)))] [(0, (h58 0 113))] (ja_up (ja_up (ja_up (ja_up h58 74 ((h58 0 113).toNat) 26) 75 ((h58 0 113).toNat) 0) 76 ((h58 0 113).toNat) 0) 0 113 ((h58 0 113) + 1)) Q
            refine ja_istore_n ditem_99 rfl (by decide) (L2 := [(2, (0, (h58 0 113))), (1, (0, (h 0 113))), (0, (2, ((0 : Nat) : Int)))]) rfl ?_
            refine ja_aload_n ditem_100 rfl rfl ?_
            refine ja_aload_n ditem_101 rfl rfl ?_
            refine fg_mains (v := h58 0 66) rfl ditem_102 ?_
            have f61 := gF_mains g59
            refine ja_iconst ditem_105 ?_
            refine ja_icmp_ne 113 ditem_106 rfl ⟨by omega, by omega⟩ ⟨by decide, by decide⟩ (fun c106 => ?_) (fun c106 => ?_)
            · refine ja_aload_n ditem_113 rfl rfl ?_
              refine fg_mainStart (v := h58 0 67) rfl ditem_114 ?_
              have f62 := gF_mainStart g59
              have g63 := gP_mainStart g60 (x := h58 0 67) ⟨by omega, by omega⟩
              refine fp_mainStart ditem_117 ?_
              refine ja_iconst ditem_120 ?_
              refine ja_zreturn ditem_121 rfl (by omega) ?_
              exact mo_fin (by omega) rfl (k1 (ja_up (ja_up (ja_up (ja_up (ja_up h58 74 ((h58 0 113).toNat) 26) 75 ((h58 0 113).toNat) 0) 76 ((h58 0 113).toNat) 0) 0 113 ((h58 0 113) + 1)) 0 67 (h58 0 67)) (⟨hE4 _ _ _ _ _ _ g59 hp5 agB hatB (by omega), Int.lt_of_lt_of_le (show (h 0 7) < (h 0 7) + 1 by omega) hatB, ag_trans (by (repeat (first | exact ag_refl | refine ag_up rfl ?_))) (ag_trans (kq_kp (kp_FK agB)) (by (repeat (first | exact ag_refl | refine ag_up rfl ?_))))⟩) g63)
            · refine ja_iload_n ditem_109 rfl rfl ?_
              refine ja_goto 117 ditem_110 rfl ?_
              have g64 := gP_mainStart g60 (x := h 0 113) ⟨by omega, by omega⟩
              refine fp_mainStart ditem_117 ?_
              refine ja_iconst ditem_120 ?_
              refine ja_zreturn ditem_121 rfl (by omega) ?_
              exact mo_fin (by omega) rfl (k1 (ja_up (ja_up (ja_up (ja_up (ja_up h58 74 ((h58 0 113).toNat) 26) 75 ((h58 0 113).toNat) 0) 76 ((h58 0 113).toNat) 0) 0 113 ((h58 0 113) + 1)) 0 67 (h 0 113)) (⟨hE4 _ _ _ _ _ _ g59 hp5 agB hatB (by omega), Int.lt_of_lt_of_le (show (h 0 7) < (h 0 7) + 1 by omega) hatB, ag_trans (by (repeat (first | exact ag_refl | refine ag_up rfl ?_))) (ag_trans (kq_kp (kp_FK agB)) (by (repeat (first | exact ag_refl | refine ag_up rfl ?_))))⟩) g64)
          · intro h65 k83_1 g66
            replace k83_1 : 0 < (h65 0 8) ∧ (h65 0 1) = (h 0 1) ∧ (h65 0 118) = (h 0 118) ∧ (h65 0 127) = (h 0 127) := k83_1
            refine ja_if_ne 91 ditem_86 rfl ⟨by decide, by decide⟩ (fun c86 => absurd c86 (by omega)) (fun c86 => ?_)
            refine ja_iconst ditem_89 ?_
            refine ja_zreturn ditem_90 rfl (by omega) ?_
            exact mo_fin (by omega) rfl (k2 h65 (by omega) g66)
        · intro h67 k76_1 g68
          replace k76_1 : 0 < (h67 0 8) ∧ (h67 0 1) = (h 0 1) ∧ (h67 0 118) = (h 0 118) ∧ (h67 0 127) = (h 0 127) := k76_1
          refine ja_if_eq 89 ditem_79 rfl ⟨by decide, by decide⟩ (fun c79 => ?_) (fun c79 => absurd c79 (by omega))
          refine ja_iconst ditem_89 ?_
          refine ja_zreturn ditem_90 rfl (by omega) ?_
          exact mo_fin (by omega) rfl (k2 h67 (by omega) g68)
  · have z6 := is1v k3_0 c6
    replace k3_0 := is1 k3_0 c6
    refine ja_aload_n ditem_9 rfl rfl ?_
    refine t_take (by decide) (show (0 : Nat) ≤ 8 by decide) ditem_10 g  ?_ ?_
    · intro k10_0 g69
      replace k10_0 : (h 0 7) < 900 := k10_0
      replace g69 : mo_G Zz (ja_up h 0 7 ((h 0 7) + 1)) := g69
      show mJ l D cA ad 14 cX12_item 3 (some .boolean) 13 [(0, (2, ((0 : Nat) : Int)))] [(0, 1)] (ja_up h 0 7 ((h 0 7) + 1)) Q
      refine ja_if_eq 27 ditem_13 rfl ⟨by decide, by decide⟩ (fun c13 => absurd c13 (by omega)) (fun c13 => ?_)
      refine ja_aload_n ditem_16 rfl rfl ?_
      refine t_classItem (by decide) (show (0 : Nat) ≤ 8 by decide) ditem_17 g69 (it_keep p1 (by (repeat (first | exact ag_refl | refine ag_up rfl ?_))) (show it_nn ((h 0 7) + 1) (h 0 113) (h 0 95) (h 0 68) (h 0 72) (h 0 31) (h 0 41) (h 0 64) (h 0 61) (h 0 18) (h 0 84) (h 0 87) (h 0 86) (h 0 85) (h 0 109) (h 0 66) from by unfold it_nn; omega) (it_F_eq (it_F_of p1) rfl rfl) (fun z => z) (fun _ _ _ z => z) (Int.le_refl _)) ?_ ?_
      · intro h70 k17_0 g71
        refine ja_if_eq 27 ditem_20 rfl ⟨by decide, by decide⟩ (fun c20 => absurd c20 (by omega)) (fun c20 => ?_)
        refine ja_iconst ditem_23 ?_
        refine ja_goto 28 ditem_24 rfl ?_
        refine ja_zreturn ditem_28 rfl (by omega) ?_
        exact mo_fin (by omega) rfl (k1 h70 (⟨k17_0.1, Int.lt_of_le_of_lt (show (h 0 7) ≤ (h 0 7) + 1 by omega) k17_0.2.1, ag_trans (by (repeat (first | exact ag_refl | refine ag_up rfl ?_))) (kq_kp k17_0.2.2)⟩) g71)
      · intro h72 k17_1 g73
        replace k17_1 : 0 < (h72 0 8) ∧ (h72 0 1) = (h 0 1) ∧ (h72 0 118) = (h 0 118) ∧ (h72 0 127) = (h 0 127) := k17_1
        refine ja_if_eq 27 ditem_20 rfl ⟨by decide, by decide⟩ (fun c20 => ?_) (fun c20 => absurd c20 (by omega))
        refine ja_iconst ditem_27 ?_
        refine ja_zreturn ditem_28 rfl (by omega) ?_
        exact mo_fin (by omega) rfl (k2 h72 (by omega) g73)
    · intro h74 k10_1 g75
      refine ja_if_eq 27 ditem_13 rfl ⟨by decide, by decide⟩ (fun c13 => ?_) (fun c13 => absurd c13 (by omega))
      refine ja_iconst ditem_27 ?_
      refine ja_zreturn ditem_28 rfl (by omega) ?_
      exact mo_fin (by omega) rfl (k2 h74 (by omega) g75)
theorem t_item {ht st rg : Nat → Int} {d nL pc : Nat} {cc : ByteArray} {rt : Option FieldType} {L : List (Nat × ja_V)} {S : List ja_V} {h : ja_H} {Q : Option ja_V → ja_H → Prop} (hdd : 14 < d) (hwd : ja_wd S ≤ 8) (hd : decode cc pc = .ok (.invokevirtual 635, 3)) (g : mo_G Zz h) (p1 : it h ht st rg) (k1 : ∀ (h' : ja_H), ((∃ ht st rg : Nat → Int, it h' ht st rg) ∧ (h 0 7) < (h' 0 7) ∧ mo_ag FKQ h h') → mo_G Zz h' → mJ l D cA ad d cc nL rt (pc + 3) L ((0, 1) :: S) h' Q) (k2 : ∀ (h' : ja_H), (0 < (h' 0 8) ∧ (h' 0 1) = (h 0 1) ∧ (h' 0 118) = (h 0 118) ∧ (h' 0 127) = (h 0 127)) → mo_G Zz h' → mJ l D cA ad d cc nL rt (pc + 3) L ((0, 0) :: S) h' Q) : mJ l D cA ad d cc nL rt pc L ((2, ((0 : Nat) : Int)) :: S) h Q :=
  mc_item hdd hwd hd (s_item g p1 k1 k2)
end
