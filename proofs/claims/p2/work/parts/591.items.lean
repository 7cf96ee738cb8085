/-! the reference: an aspect (written by a program) -/
variable {Zz : Zc}
theorem daspectItem_0 : decode cX12_aspectItem 0 = .ok (.aload_n 0, 1) := by decide +kernel
theorem daspectItem_1 : decode cX12_aspectItem 1 = .ok (.invokevirtual 599, 3) := by decide +kernel
theorem daspectItem_4 : decode cX12_aspectItem 4 = .ok (.ifCond .eq 18, 3) := by decide +kernel
theorem daspectItem_7 : decode cX12_aspectItem 7 = .ok (.aload_n 0, 1) := by decide +kernel
theorem daspectItem_8 : decode cX12_aspectItem 8 = .ok (.getfield 650, 3) := by decide +kernel
theorem daspectItem_11 : decode cX12_aspectItem 11 = .ok (.bipush 8, 2) := by decide +kernel
theorem daspectItem_13 : decode cX12_aspectItem 13 = .ok (.if_icmp .ne 9, 3) := by decide +kernel
theorem daspectItem_16 : decode cX12_aspectItem 16 = .ok (.aload_n 0, 1) := by decide +kernel
theorem daspectItem_17 : decode cX12_aspectItem 17 = .ok (.iconst 3, 1) := by decide +kernel
theorem daspectItem_18 : decode cX12_aspectItem 18 = .ok (.invokevirtual 583, 3) := by decide +kernel
theorem daspectItem_21 : decode cX12_aspectItem 21 = .ok (.ireturn, 1) := by decide +kernel
theorem daspectItem_22 : decode cX12_aspectItem 22 = .ok (.aload_n 0, 1) := by decide +kernel
theorem daspectItem_23 : decode cX12_aspectItem 23 = .ok (.getfield 650, 3) := by decide +kernel
theorem daspectItem_26 : decode cX12_aspectItem 26 = .ok (.istore_n 1, 1) := by decide +kernel
theorem daspectItem_27 : decode cX12_aspectItem 27 = .ok (.aload_n 0, 1) := by decide +kernel
theorem daspectItem_28 : decode cX12_aspectItem 28 = .ok (.getfield 46, 3) := by decide +kernel
theorem daspectItem_31 : decode cX12_aspectItem 31 = .ok (.iload_n 1, 1) := by decide +kernel
theorem daspectItem_32 : decode cX12_aspectItem 32 = .ok (.aload_n 0, 1) := by decide +kernel
theorem daspectItem_33 : decode cX12_aspectItem 33 = .ok (.getfield 574, 3) := by decide +kernel
theorem daspectItem_36 : decode cX12_aspectItem 36 = .ok (.iastore, 1) := by decide +kernel
theorem daspectItem_37 : decode cX12_aspectItem 37 = .ok (.aload_n 0, 1) := by decide +kernel
theorem daspectItem_38 : decode cX12_aspectItem 38 = .ok (.getfield 49, 3) := by decide +kernel
theorem daspectItem_41 : decode cX12_aspectItem 41 = .ok (.iload_n 1, 1) := by decide +kernel
theorem daspectItem_42 : decode cX12_aspectItem 42 = .ok (.iconst 0, 1) := by decide +kernel
theorem daspectItem_43 : decode cX12_aspectItem 43 = .ok (.bastore, 1) := by decide +kernel
theorem daspectItem_44 : decode cX12_aspectItem 44 = .ok (.aload_n 0, 1) := by decide +kernel
theorem daspectItem_45 : decode cX12_aspectItem 45 = .ok (.getfield 53, 3) := by decide +kernel
theorem daspectItem_48 : decode cX12_aspectItem 48 = .ok (.iload_n 1, 1) := by decide +kernel
theorem daspectItem_49 : decode cX12_aspectItem 49 = .ok (.iconst 0, 1) := by decide +kernel
theorem daspectItem_50 : decode cX12_aspectItem 50 = .ok (.iastore, 1) := by decide +kernel
theorem daspectItem_51 : decode cX12_aspectItem 51 = .ok (.aload_n 0, 1) := by decide +kernel
theorem daspectItem_52 : decode cX12_aspectItem 52 = .ok (.invokevirtual 739, 3) := by decide +kernel
theorem daspectItem_55 : decode cX12_aspectItem 55 = .ok (.ifCond .ne 5, 3) := by decide +kernel
theorem daspectItem_58 : decode cX12_aspectItem 58 = .ok (.iconst 0, 1) := by decide +kernel
theorem daspectItem_59 : decode cX12_aspectItem 59 = .ok (.ireturn, 1) := by decide +kernel
theorem daspectItem_60 : decode cX12_aspectItem 60 = .ok (.aload_n 0, 1) := by decide +kernel
theorem daspectItem_61 : decode cX12_aspectItem 61 = .ok (.dup, 1) := by decide +kernel
theorem daspectItem_62 : decode cX12_aspectItem 62 = .ok (.getfield 650, 3) := by decide +kernel
theorem daspectItem_65 : decode cX12_aspectItem 65 = .ok (.iconst 1, 1) := by decide +kernel
theorem daspectItem_66 : decode cX12_aspectItem 66 = .ok (.iadd, 1) := by decide +kernel
theorem daspectItem_67 : decode cX12_aspectItem 67 = .ok (.putfield 650, 3) := by decide +kernel
theorem daspectItem_70 : decode cX12_aspectItem 70 = .ok (.aload_n 0, 1) := by decide +kernel
theorem daspectItem_71 : decode cX12_aspectItem 71 = .ok (.iload_n 1, 1) := by decide +kernel
theorem daspectItem_72 : decode cX12_aspectItem 72 = .ok (.putfield 760, 3) := by decide +kernel
theorem daspectItem_75 : decode cX12_aspectItem 75 = .ok (.aload_n 0, 1) := by decide +kernel
theorem daspectItem_76 : decode cX12_aspectItem 76 = .ok (.bipush 11, 2) := by decide +kernel
theorem daspectItem_78 : decode cX12_aspectItem 78 = .ok (.invokevirtual 596, 3) := by decide +kernel
theorem daspectItem_81 : decode cX12_aspectItem 81 = .ok (.ifCond .eq 28, 3) := by decide +kernel
theorem daspectItem_84 : decode cX12_aspectItem 84 = .ok (.aload_n 0, 1) := by decide +kernel
theorem daspectItem_85 : decode cX12_aspectItem 85 = .ok (.getfield 49, 3) := by decide +kernel
theorem daspectItem_88 : decode cX12_aspectItem 88 = .ok (.iload_n 1, 1) := by decide +kernel
theorem daspectItem_89 : decode cX12_aspectItem 89 = .ok (.iconst 1, 1) := by decide +kernel
theorem daspectItem_90 : decode cX12_aspectItem 90 = .ok (.bastore, 1) := by decide +kernel
theorem daspectItem_91 : decode cX12_aspectItem 91 = .ok (.aload_n 0, 1) := by decide +kernel
theorem daspectItem_92 : decode cX12_aspectItem 92 = .ok (.invokevirtual 589, 3) := by decide +kernel
theorem daspectItem_95 : decode cX12_aspectItem 95 = .ok (.ifCond .eq 12, 3) := by decide +kernel
theorem daspectItem_98 : decode cX12_aspectItem 98 = .ok (.aload_n 0, 1) := by decide +kernel
theorem daspectItem_99 : decode cX12_aspectItem 99 = .ok (.bipush 29, 2) := by decide +kernel
theorem daspectItem_101 : decode cX12_aspectItem 101 = .ok (.invokevirtual 763, 3) := by decide +kernel
theorem daspectItem_104 : decode cX12_aspectItem 104 = .ok (.ifCond .ne 5, 3) := by decide +kernel
theorem daspectItem_107 : decode cX12_aspectItem 107 = .ok (.iconst 0, 1) := by decide +kernel
theorem daspectItem_108 : decode cX12_aspectItem 108 = .ok (.ireturn, 1) := by decide +kernel
theorem daspectItem_109 : decode cX12_aspectItem 109 = .ok (.aload_n 0, 1) := by decide +kernel
theorem daspectItem_110 : decode cX12_aspectItem 110 = .ok (.bipush 123, 2) := by decide +kernel
theorem daspectItem_112 : decode cX12_aspectItem 112 = .ok (.invokevirtual 742, 3) := by decide +kernel
theorem daspectItem_115 : decode cX12_aspectItem 115 = .ok (.istore_n 2, 1) := by decide +kernel
theorem daspectItem_116 : decode cX12_aspectItem 116 = .ok (.iload_n 2, 1) := by decide +kernel
theorem daspectItem_117 : decode cX12_aspectItem 117 = .ok (.ifCond .eq 20, 3) := by decide +kernel
theorem daspectItem_120 : decode cX12_aspectItem 120 = .ok (.aload_n 0, 1) := by decide +kernel
theorem daspectItem_121 : decode cX12_aspectItem 121 = .ok (.bipush 125, 2) := by decide +kernel
theorem daspectItem_123 : decode cX12_aspectItem 123 = .ok (.invokevirtual 586, 3) := by decide +kernel
theorem daspectItem_126 : decode cX12_aspectItem 126 = .ok (.ifCond .ne 11, 3) := by decide +kernel
theorem daspectItem_129 : decode cX12_aspectItem 129 = .ok (.aload_n 0, 1) := by decide +kernel
theorem daspectItem_130 : decode cX12_aspectItem 130 = .ok (.invokevirtual 766, 3) := by decide +kernel
theorem daspectItem_133 : decode cX12_aspectItem 133 = .ok (.istore_n 2, 1) := by decide +kernel
theorem daspectItem_134 : decode cX12_aspectItem 134 = .ok (.goto (-18), 3) := by decide +kernel
theorem daspectItem_137 : decode cX12_aspectItem 137 = .ok (.iload_n 2, 1) := by decide +kernel
theorem daspectItem_138 : decode cX12_aspectItem 138 = .ok (.ifCond .eq 14, 3) := by decide +kernel
theorem daspectItem_141 : decode cX12_aspectItem 141 = .ok (.aload_n 0, 1) := by decide +kernel
theorem daspectItem_142 : decode cX12_aspectItem 142 = .ok (.invokevirtual 589, 3) := by decide +kernel
theorem daspectItem_145 : decode cX12_aspectItem 145 = .ok (.ifCond .eq 7, 3) := by decide +kernel
theorem daspectItem_148 : decode cX12_aspectItem 148 = .ok (.iconst 1, 1) := by decide +kernel
theorem daspectItem_149 : decode cX12_aspectItem 149 = .ok (.goto 4, 3) := by decide +kernel
theorem daspectItem_152 : decode cX12_aspectItem 152 = .ok (.iconst 0, 1) := by decide +kernel
theorem daspectItem_153 : decode cX12_aspectItem 153 = .ok (.ireturn, 1) := by decide +kernel
section
variable {l : Launch} {D : va_G} {cA : Nat → ClassId} {ad : Nat → Nat}
theorem s_aspectItem {ht st rg : Nat → Int} {h : ja_H} {Q : Option ja_V → ja_H → Prop} (g : mo_G Zz h) (p1 : it h ht st rg) (k1 : ∀ (h' : ja_H), ((∃ ht st rg : Nat → Int, it h' ht st rg) ∧ (h 0 7) < (h' 0 7) ∧ mo_ag FKQ h h') → mo_G Zz h' → Q (some (0, 1)) h') (k2 : ∀ (h' : ja_H), (0 < (h' 0 8) ∧ (h' 0 1) = (h 0 1) ∧ (h' 0 118) = (h 0 118) ∧ (h' 0 127) = (h 0 127)) → mo_G Zz h' → Q (some (0, 0)) h') : mM_aspectItem l D cA ad  h Q := by
  show mJ l D cA ad 13 cX12_aspectItem 3 (some .boolean) 0 [(0, (2, ((0 : Nat) : Int)))] [] h Q
  have kn_at := gF_at g
  have kn_aspects := gF_aspects g
  have CUT : ∀ n : Nat, (∀ (x2 : Int) (u : ja_H), mo_G Zz u → (-2147483648 ≤ x2 ∧ x2 ≤ 2147483647) → (lo_A h u x2) → ((if x2 = 1 then ((1001 : Int) - (u 0 7)).toNat else 0)) = n → mJ l D cA ad 13 cX12_aspectItem 3 (some .boolean) 116 [(0, (2, ((0 : Nat) : Int))), (2, (0, x2))] [] u Q) := by
    intro n
    induction n using Nat.strongRecOn with
    | _ n ih =>
      skip
      · intro x2 u gu qx2 iv hm
        subst hm
        have ku_at := gF_at gu
        have ku_aspects := gF_aspects gu
        have kua := gF_at gu
        refine ja_iload_n daspectItem_116 rfl rfl ?_
        refine ja_if_eq 137 daspectItem_117 rfl ⟨by omega, by omega⟩ (fun c117 => ?_) (fun c117 => ?_)
        · rcases iv with iv | iv
          case inl => exact absurd iv.1 (by omega)
          refine ja_iload_n daspectItem_137 rfl rfl ?_
          refine ja_if_eq 152 daspectItem_138 rfl ⟨by omega, by omega⟩ (fun c138 => ?_) (fun c138 => ?_)
          · refine ja_iconst daspectItem_152 ?_
            refine ja_zreturn daspectItem_153 rfl (by omega) ?_
            exact mo_fin (by omega) rfl (k2 u (by omega) gu)
          · exfalso; omega
        · rcases iv with ⟨ex, ⟨ht1, st1, rg1, hit⟩, lat, lag, las⟩ | iv
          case inr => exact absurd iv.1 (by omega)
          have l_size : (u 0 1) = (h 0 1) := lag 0 1 rfl
          have l_compiled : (u 0 118) = (h 0 118) := lag 0 118 rfl
          have l_started : (u 0 127) = (h 0 127) := lag 0 127 rfl
          refine ja_aload_n daspectItem_120 rfl rfl ?_
          refine ja_bipush 125 daspectItem_121 rfl ?_
          refine t_isSign (by decide) (show (0 : Nat) ≤ 8 by decide) daspectItem_123 gu ⟨by decide, by decide⟩ ?_
          intro w1 k123_0
          refine ja_if_ne 137 daspectItem_126 rfl ⟨by omega, by omega⟩ (fun c126 => ?_) (fun c126 => ?_)
          · have z126 := is1v k123_0 c126
            replace k123_0 := is1 k123_0 c126
            refine ja_iload_n daspectItem_137 rfl rfl ?_
            refine ja_if_eq 152 daspectItem_138 rfl ⟨by omega, by omega⟩ (fun c138 => ?_) (fun c138 => ?_)
            · refine ja_iconst daspectItem_152 ?_
              refine ja_zreturn daspectItem_153 rfl (by omega) ?_
              exact mo_fin (by omega) rfl (k2 u (by omega) gu)
            · obtain ⟨y1, y2, y3, y4, y5, y6, y7, y8, y9, y10, y11, y12, y13, y14⟩ := hit.2.2.1
              refine ja_aload_n daspectItem_141 rfl rfl ?_
              refine t_take (by decide) (show (0 : Nat) ≤ 8 by decide) daspectItem_142 gu  ?_ ?_
              · intro k142_0 g2
                replace k142_0 : (u 0 7) < 900 := k142_0
                replace g2 : mo_G Zz (ja_up u 0 7 ((u 0 7) + 1)) := g2
                show mJ l D cA ad 13 cX12_aspectItem 3 (some .boolean) 145 [(0, (2, ((0 : Nat) : Int))), (2, (0, x2))] [(0, 1)] (ja_up u 0 7 ((u 0 7) + 1)) Q
                refine ja_if_eq 152 daspectItem_145 rfl ⟨by decide, by decide⟩ (fun c145 => absurd c145 (by omega)) (fun c145 => ?_)
                refine ja_iconst daspectItem_148 ?_
                refine ja_goto 153 daspectItem_149 rfl ?_
                refine ja_zreturn daspectItem_153 rfl (by omega) ?_
                exact mo_fin (by omega) rfl (k1 (ja_up u 0 7 ((u 0 7) + 1)) (⟨⟨_, _, _, it_keep hit (by (repeat (first | exact ag_refl | refine ag_up rfl ?_))) (show it_nn ((u 0 7) + 1) (u 0 113) (u 0 95) (u 0 68) (u 0 72) (u 0 31) (u 0 41) (u 0 64) (u 0 61) (u 0 18) (u 0 84) (u 0 87) (u 0 86) (u 0 85) (u 0 109) (u 0 66) from by unfold it_nn; omega) (it_F_eq (it_F_of hit) rfl rfl) (fun z => z) (fun _ _ _ z => z) (Int.le_refl _)⟩, (show (h 0 7) < ((u 0 7) + 1) by omega), ag_trans lag (by (repeat (first | exact ag_refl | refine ag_up rfl ?_)))⟩) g2)
              · intro h3 k142_1 g4
                refine ja_if_eq 152 daspectItem_145 rfl ⟨by decide, by decide⟩ (fun c145 => ?_) (fun c145 => absurd c145 (by omega))
                refine ja_iconst daspectItem_152 ?_
                refine ja_zreturn daspectItem_153 rfl (by omega) ?_
                exact mo_fin (by omega) rfl (k2 h3 (by omega) g4)
          · replace k123_0 := is0 k123_0 c126
            refine ja_aload_n daspectItem_129 rfl rfl ?_
            refine t_part (by decide) (show (0 : Nat) ≤ 8 by decide) daspectItem_130 gu (hit) (las) ?_ ?_
            · intro h5 k130_0 g6
              refine ja_istore_n daspectItem_133 rfl (by decide) (L2 := [(2, (0, 1)), (0, (2, ((0 : Nat) : Int)))]) rfl ?_
              refine ja_goto 116 daspectItem_134 rfl ?_
              exact ja_wk (fun q hq => by simp only [List.mem_cons, List.not_mem_nil, or_false] at hq; rcases hq with rfl | rfl <;> rfl) ((ih ((if 1 = 1 then ((1001 : Int) - (h5 0 7)).toNat else 0)) (by (repeat' split) <;> omega)) 1 h5 g6 ⟨by decide, by decide⟩ ((lo_A_next lat lag las k130_0)) rfl)
            · intro h7 k130_1 g8
              refine ja_istore_n daspectItem_133 rfl (by decide) (L2 := [(2, (0, 0)), (0, (2, ((0 : Nat) : Int)))]) rfl ?_
              refine ja_goto 116 daspectItem_134 rfl ?_
              exact ja_wk (fun q hq => by simp only [List.mem_cons, List.not_mem_nil, or_false] at hq; rcases hq with rfl | rfl <;> rfl) ((ih ((if 0 = 1 then ((1001 : Int) - (h7 0 7)).toNat else 0)) (by (repeat' split) <;> omega)) 0 h7 g8 ⟨by decide, by decide⟩ ((Or.inr (by refine ⟨rfl, ?_, ?_, ?_, ?_⟩ <;> omega))) rfl)
  obtain ⟨z1, z2, z3, z4, z5, z6, z7, z8, z9, z10, z11, z12, z13, z14⟩ := p1.2.2.1
  refine ja_aload_n daspectItem_0 rfl rfl ?_
  refine t_isName (by decide) (show (0 : Nat) ≤ 8 by decide) daspectItem_1 g  ?_
  intro w9 k1_0
  refine ja_if_eq 22 daspectItem_4 rfl ⟨by omega, by omega⟩ (fun c4 => ?_) (fun c4 => ?_)
  · replace k1_0 := is0 k1_0 c4
    refine ja_aload_n daspectItem_22 rfl rfl ?_
    refine fg_aspects (v := h 0 26) rfl daspectItem_23 ?_
    have f10 := gF_aspects g
    refine ja_istore_n daspectItem_26 rfl (by decide) (L2 := [(1, (0, (h 0 26))), (0, (2, ((0 : Nat) : Int)))]) rfl ?_
    refine ja_aload_n daspectItem_27 rfl rfl ?_
    refine fa_aspectName daspectItem_28 ?_
    refine ja_iload_n daspectItem_31 rfl rfl ?_
    refine ja_aload_n daspectItem_32 rfl rfl ?_
    refine fg_at (v := h 0 7) rfl daspectItem_33 ?_
    have f11 := gF_at g
    have g12 := gW_aspectName g (h 0 26).toNat (x := h 0 7) ⟨by omega, by omega⟩
    refine is_aspectName ⟨by omega, by omega⟩ daspectItem_36 ?_
    refine ja_aload_n daspectItem_37 rfl rfl ?_
    refine fa_aspectEach daspectItem_38 ?_
    refine ja_iload_n daspectItem_41 rfl rfl ?_
    refine ja_iconst daspectItem_42 ?_
    have g13 := gW_aspectEach g12 (h 0 26).toNat (x := 0) ⟨by decide, by decide⟩
    refine is_aspectEach ⟨by omega, by omega⟩ (by omega) daspectItem_43 ?_
    refine ja_aload_n daspectItem_44 rfl rfl ?_
    refine fa_aspectFields daspectItem_45 ?_
    refine ja_iload_n daspectItem_48 rfl rfl ?_
    refine ja_iconst daspectItem_49 ?_
    have g14 := gW_aspectFields g13 (h 0 26).toNat (x := 0) ⟨by decide, by decide⟩
    refine is_aspectFields ⟨by omega, by omega⟩ daspectItem_50 ?_
    refine ja_aload_n daspectItem_51 rfl rfl ?_
    refine t_name (by decide) (show (0 : Nat) ≤ 8 by decide) daspectItem_52 g14  ?_ ?_
    · intro k52_0 g15
      replace k52_0 : (h 0 7) < 900 ∧ (h 2 (h 0 7).toNat) = 2 := k52_0
      replace g15 : mo_G Zz (ja_up (ja_up (ja_up (ja_up h 13 ((h 0 26).toNat) (h 0 7)) 14 ((h 0 26).toNat) 0) 15 ((h 0 26).toNat) 0) 0 7 ((h 0 7) + 1)) := g15
      show mJ l D cA ad 13 cX12_aspectItem 3 (some .boolean) 55 [(1, (0, (h 0 26))), (0, (2, ((0 : Nat) : Int)))] [(0, 1)] (ja_up (ja_up (ja_up (ja_up h 13 ((h 0 26).toNat) (h 0 7)) 14 ((h 0 26).toNat) 0) 15 ((h 0 26).toNat) 0) 0 7 ((h 0 7) + 1)) Q
      refine ja_if_ne 60 daspectItem_55 rfl ⟨by decide, by decide⟩ (fun c55 => ?_) (fun c55 => absurd c55 (by omega))
      refine ja_aload_n daspectItem_60 rfl rfl ?_
      refine ja_dup daspectItem_61 (by decide) ?_
      refine fg_aspects (v := h 0 26) rfl daspectItem_62 ?_
      refine ja_iconst daspectItem_65 ?_
      refine ja_iadd daspectItem_66 ?_
      have g16 := gP_aspects g15 (x := (h 0 26) + 1) ⟨by omega, by omega⟩
      refine fp_aspects daspectItem_67 ?_
      refine ja_aload_n daspectItem_70 rfl rfl ?_
      refine ja_iload_n daspectItem_71 rfl rfl ?_
      have g17 := gP_inAspect g16 (x := h 0 26) ⟨by omega, by omega⟩
      refine fp_inAspect daspectItem_72 ?_
      refine ja_aload_n daspectItem_75 rfl rfl ?_
      refine ja_bipush 11 daspectItem_76 rfl ?_
      refine t_isWord (by decide) (show (0 : Nat) ≤ 8 by decide) daspectItem_78 g17 ⟨by decide, by decide⟩ ?_
      intro w18 k78_0
      replace k78_0 : (w18 = 1 ∧ (h 2 ((h 0 7) + 1).toNat) = 1 ∧ (h 5 ((h 0 7) + 1).toNat) = 11) ∨ (w18 = 0 ∧ ¬ ((h 2 ((h 0 7) + 1).toNat) = 1 ∧ (h 5 ((h 0 7) + 1).toNat) = 11)) := k78_0
      refine ja_if_eq 109 daspectItem_81 rfl ⟨by omega, by omega⟩ (fun c81 => ?_) (fun c81 => ?_)
      · replace k78_0 := is0 k78_0 c81
        refine ja_aload_n daspectItem_109 rfl rfl ?_
        refine ja_bipush 123 daspectItem_110 rfl ?_
        refine t_sign (by decide) (show (0 : Nat) ≤ 8 by decide) daspectItem_112 g17 ⟨by decide, by decide⟩ ?_ ?_
        · intro k112_0 g19
          replace k112_0 : ((h 0 7) + 1) < 900 ∧ (h 2 ((h 0 7) + 1).toNat) = 5 ∧ (h 5 ((h 0 7) + 1).toNat) = 123 := k112_0
          replace g19 : mo_G Zz (ja_up (ja_up (ja_up (ja_up (ja_up (ja_up (ja_up h 13 ((h 0 26).toNat) (h 0 7)) 14 ((h 0 26).toNat) 0) 15 ((h 0 26).toNat) 0) 0 7 ((h 0 7) + 1)) 0 26 ((h 0 26) + 1)) 0 76 (h 0 26)) 0 7 (((h 0 7) + 1) + 1)) := g19
          show mJ l D cA ad 13 cX12_aspectItem 3 (some .boolean) 115 [(1, (0, (h 0 26))), (0, (2, ((0 : Nat) : Int)))] [(0, 1)] (ja_up (ja_up (ja_up (ja_up (ja_up (ja_up (ja_up h 13 ((h 0 26).toNat) (h 0 7)) 14 ((h 0 26).toNat) 0) 15 ((h 0 26).toNat) 0) 0 7 ((h 0 7) + 1)) 0 26 ((h 0 26) + 1)) 0 76 (h 0 26)) 0 7 (((h 0 7) + 1) + 1)) Q
          refine ja_istore_n daspectItem_115 rfl (by decide) (L2 := [(2, (0, 1)), (1, (0, (h 0 26))), (0, (2, ((0 : Nat) : Int)))]) rfl ?_
          exact ja_wk (fun q hq => by simp only [List.mem_cons, List.not_mem_nil, or_false] at hq; rcases hq with rfl | rfl <;> rfl) ((CUT _) 1 (ja_up (ja_up (ja_up (ja_up (ja_up (ja_up (ja_up h 13 ((h 0 26).toNat) (h 0 7)) 14 ((h 0 26).toNat) 0) 15 ((h 0 26).toNat) 0) 0 7 ((h 0 7) + 1)) 0 26 ((h 0 26) + 1)) 0 76 (h 0 26)) 0 7 (((h 0 7) + 1) + 1)) g19 ⟨by decide, by decide⟩ ((Or.inl ⟨rfl, ⟨_, _, _, it_keep p1 (by (repeat (first | exact ag_refl | refine ag_up rfl ?_))) (show it_nn (((h 0 7) + 1) + 1) (h 0 113) (h 0 95) (h 0 68) (h 0 72) (h 0 31) (h 0 41) (h 0 64) (h 0 61) (h 0 18) (h 0 84) (h 0 87) (h 0 86) (h 0 85) (h 0 109) (h 0 66) from by unfold it_nn; omega) (it_F_eq (it_F_of p1) rfl rfl) (fun z => z) (fun _ _ _ z => z) (show (h 0 26) ≤ ((h 0 26) + 1) by omega)⟩, (show (h 0 7) < (((h 0 7) + 1) + 1) by omega), (by (repeat (first | exact ag_refl | refine ag_up rfl ?_))), (show ((h 0 26) : Int) < ((h 0 26) + 1) by omega)⟩)) rfl)
        · intro h20 k112_1 g21
          replace k112_1 : 0 < (h20 0 8) ∧ (h20 0 1) = (h 0 1) ∧ (h20 0 118) = (h 0 118) ∧ (h20 0 127) = (h 0 127) := k112_1
          refine ja_istore_n daspectItem_115 rfl (by decide) (L2 := [(2, (0, 0)), (1, (0, (h 0 26))), (0, (2, ((0 : Nat) : Int)))]) rfl ?_
          exact ja_wk (fun q hq => by simp only [List.mem_cons, List.not_mem_nil, or_false] at hq; rcases hq with rfl | rfl <;> rfl) ((CUT _) 0 h20 g21 ⟨by decide, by decide⟩ ((Or.inr (by refine ⟨rfl, ?_, ?_, ?_, ?_⟩ <;> omega))) rfl)
      · have z81 := is1v k78_0 c81
        replace k78_0 := is1 k78_0 c81
        refine ja_aload_n daspectItem_84 rfl rfl ?_
        refine fa_aspectEach daspectItem_85 ?_
        refine ja_iload_n daspectItem_88 rfl rfl ?_
        refine ja_iconst daspectItem_89 ?_
        have g22 := gW_aspectEach g17 (h 0 26).toNat (x := 1) ⟨by decide, by decide⟩
        refine is_aspectEach ⟨by omega, by omega⟩ (by omega) daspectItem_90 ?_
        refine ja_aload_n daspectItem_91 rfl rfl ?_
        refine t_take (by decide) (show (0 : Nat) ≤ 8 by decide) daspectItem_92 g22  ?_ ?_
        · intro k92_0 g23
          replace k92_0 : ((h 0 7) + 1) < 900 := k92_0
          replace g23 : mo_G Zz (ja_up (ja_up (ja_up (ja_up (ja_up (ja_up (ja_up (ja_up h 13 ((h 0 26).toNat) (h 0 7)) 14 ((h 0 26).toNat) 0) 15 ((h 0 26).toNat) 0) 0 7 ((h 0 7) + 1)) 0 26 ((h 0 26) + 1)) 0 76 (h 0 26)) 14 ((h 0 26).toNat) 1) 0 7 (((h 0 7) + 1) + 1)) := g23
          show mJ l D cA ad 13 cX12_aspectItem 3 (some .boolean) 95 [(1, (0, (h 0 26))), (0, (2, ((0 : Nat) : Int)))] [(0, 1)] (ja_up (ja_up (ja_up (ja_up (ja_up (ja_up (ja_up (ja_up h 13 ((h 0 26).toNat) (h 0 7)) 14 ((h 0 26).toNat) 0) 15 ((h 0 26).toNat) 0) 0 7 ((h 0 7) + 1)) 0 26 ((h 0 26) + 1)) 0 76 (h 0 26)) 14 ((h 0 26).toNat) 1) 0 7 (((h 0 7) + 1) + 1)) Q
          refine ja_if_eq 107 daspectItem_95 rfl ⟨by decide, by decide⟩ (fun c95 => absurd c95 (by omega)) (fun c95 => ?_)
          refine ja_aload_n daspectItem_98 rfl rfl ?_
          refine ja_bipush 29 daspectItem_99 rfl ?_
          refine t_word (by decide) (show (0 : Nat) ≤ 8 by decide) daspectItem_101 g23 ⟨by decide, by decide⟩ ?_ ?_
          · intro k101_0 g24
            replace k101_0 : (((h 0 7) + 1) + 1) < 900 ∧ (h 2 (((h 0 7) + 1) + 1).toNat) = 1 ∧ (h 5 (((h 0 7) + 1) + 1).toNat) = 29 := k101_0
            replace g24 : mo_G Zz (ja_up (ja_up (ja_up (ja_up (ja_up (ja_up (ja_up (ja_up (ja_up h 13 ((h 0 26).toNat) (h 0 7)) 14 ((h 0 26).toNat) 0) 15 ((h 0 26).toNat) 0) 0 7 ((h 0 7) + 1)) 0 26 ((h 0 26) + 1)) 0 76 (h 0 26)) 14 ((h 0 26).toNat) 1) 0 7 (((h 0 7) + 1) + 1)) 0 7 ((((h 0 7) + 1) + 1) + 1)) := g24
            show mJ l D cA ad 13 cX12_aspectItem 3 (some .boolean) 104 [(1, (0, (h 0 26))), (0, (2, ((0 : Nat) : Int)))] [(0, 1)] (ja_up (ja_up (ja_up (ja_up (ja_up (ja_up (ja_up (ja_up (ja_up h 13 ((h 0 26).toNat) (h 0 7)) 14 ((h 0 26).toNat) 0) 15 ((h 0 26).toNat) 0) 0 7 ((h 0 7) + 1)) 0 26 ((h 0 26) + 1)) 0 76 (h 0 26)) 14 ((h 0 26).toNat) 1) 0 7 (((h 0 7) + 1) + 1)) 0 7 ((((h 0 7) + 1) + 1) + 1)) Q
            refine ja_if_ne 109 daspectItem_104 rfl ⟨by decide, by decide⟩ (fun c104 => ?_) (fun c104 => absurd c104 (by omega))
            refine ja_aload_n daspectItem_109 rfl rfl ?_
            refine ja_bipush 123 daspectItem_110 rfl ?_
            refine t_sign (by decide) (show (0 : Nat) ≤ 8 by decide) daspectItem_112 g24 ⟨by decide, by decide⟩ ?_ ?_
            · intro k112_0 g25
              replace k112_0 : ((((h 0 7) + 1) + 1) + 1) < 900 ∧ (h 2 ((((h 0 7) + 1) + 1) + 1).toNat) = 5 ∧ (h 5 ((((h 0 7) + 1) + 1) + 1).toNat) = 123 := k112_0
              replace g25 : mo_G Zz (ja_up (ja_up (ja_up (ja_up (ja_up (ja_up (ja_up (ja_up (ja_up (ja_up h 13 ((h 0 26).toNat) (h 0 7)) 14 ((h 0 26).toNat) 0) 15 ((h 0 26).toNat) 0) 0 7 ((h 0 7) + 1)) 0 26 ((h 0 26) + 1)) 0 76 (h 0 26)) 14 ((h 0 26).toNat) 1) 0 7 (((h 0 7) + 1) + 1)) 0 7 ((((h 0 7) + 1) + 1) + 1)) 0 7 (((((h 0 7) + 1) + 1) + 1) + 1)) := g25
              show mJ l D cA ad 13 cX12_aspectItem 3 (some .boolean) 115 [(1, (0, (h 0 26))), (0, (2, ((0 : Nat) : Int)))] [(0, 1)] (ja_up (ja_up (ja_up (ja_up (ja_up (ja_up (ja_up (ja_up (ja_up (ja_up h 13 ((h 0 26).toNat) (h 0 7)) 14 ((h 0 26).toNat) 0) 15 ((h 0 26).toNat) 0) 0 7 ((h 0 7) + 1)) 0 26 ((h 0 26) + 1)) 0 76 (h 0 26)) 14 ((h 0 26).toNat) 1) 0 7 (((h 0 7) + 1) + 1)) 0 7 ((((h 0 7) + 1) + 1) + 1)) 0 7 (((((h 0 7) + 1) + 1) + 1) + 1)) Q
              refine ja_istore_n daspectItem_115 rfl (by decide) (L2 := [(2, (0, 1)), (1, (0, (h 0 26))), (0, (2, ((0 : Nat) : Int)))]) rfl ?_
              exact ja_wk (fun q hq => by simp only [List.mem_cons, List.not_mem_nil, or_false] at hq; rcases hq with rfl | rfl <;> rfl) ((CUT _) 1 (ja_up (ja_up (ja_up (ja_up (ja_up (ja_up (ja_up (ja_up (ja_up (ja_up h 13 ((h 0 26).toNat) (h 0 7)) 14 ((h 0 26).toNat) 0) 15 ((h 0 26).toNat) 0) 0 7 ((h 0 7) + 1)) 0 26 ((h 0 26) + 1)) 0 76 (h 0 26)) 14 ((h 0 26).toNat) 1) 0 7 (((h 0 7) + 1) + 1)) 0 7 ((((h 0 7) + 1) + 1) + 1)) 0 7 (((((h 0 7) + 1) + 1) + 1) + 1)) g25 ⟨by decide, by decide⟩ ((Or.inl ⟨rfl, ⟨_, _, _, it_keep p1 (by (repeat (first | exact ag_refl | refine ag_up rfl ?_))) (show it_nn (((((h 0 7) + 1) + 1) + 1) + 1) (h 0 113) (h 0 95) (h 0 68) (h 0 72) (h 0 31) (h 0 41) (h 0 64) (h 0 61) (h 0 18) (h 0 84) (h 0 87) (h 0 86) (h 0 85) (h 0 109) (h 0 66) from by unfold it_nn; omega) (it_F_eq (it_F_of p1) rfl rfl) (fun z => z) (fun _ _ _ z => z) (show (h 0 26) ≤ ((h 0 26) + 1) by omega)⟩, (show (h 0 7) < (((((h 0 7) + 1) + 1) + 1) + 1) by omega), (by (repeat (first | exact ag_refl | refine ag_up rfl ?_))), (show ((h 0 26) : Int) < ((h 0 26) + 1) by omega)⟩)) rfl)
            · intro h26 k112_1 g27
              replace k112_1 : 0 < (h26 0 8) ∧ (h26 0 1) = (h 0 1) ∧ (h26 0 118) = (h 0 118) ∧ (h26 0 127) = (h 0 127) := k112_1
              refine ja_istore_n daspectItem_115 rfl (by decide) (L2 := [(2, (0, 0)), (1, (0, (h 0 26))), (0, (2, ((0 : Nat) : Int)))]) rfl ?_
              exact ja_wk (fun q hq => by simp only [List.mem_cons, List.not_mem_nil, or_false] at hq; rcases hq with rfl | rfl <;> rfl) ((CUT _) 0 h26 g27 ⟨by decide, by decide⟩ ((Or.inr (by refine ⟨rfl, ?_, ?_, ?_, ?_⟩ <;> omega))) rfl)
          · intro h28 k101_1 g29
            replace k101_1 : 0 < (h28 0 8) ∧ (h28 0 1) = (h 0 1) ∧ (h28 0 118) = (h 0 118) ∧ (h28 0 127) = (h 0 127) := k101_1
            refine ja_if_ne 109 daspectItem_104 rfl ⟨by decide, by decide⟩ (fun c104 => absurd c104 (by omega)) (fun c104 => ?_)
            refine ja_iconst daspectItem_107 ?_
            refine ja_zreturn daspectItem_108 rfl (by omega) ?_
            exact mo_fin (by omega) rfl (k2 h28 (by omega) g29)
        · intro h30 k92_1 g31
          replace k92_1 : 0 < (h30 0 8) ∧ (h30 0 1) = (h 0 1) ∧ (h30 0 118) = (h 0 118) ∧ (h30 0 127) = (h 0 127) := k92_1
          refine ja_if_eq 107 daspectItem_95 rfl ⟨by decide, by decide⟩ (fun c95 => ?_) (fun c95 => absurd c95 (by omega))
          refine ja_iconst daspectItem_107 ?_
          refine ja_zreturn daspectItem_108 rfl (by omega) ?_
          exact mo_fin (by omega) rfl (k2 h30 (by omega) g31)
    · intro h32 k52_1 g33
      replace k52_1 : 0 < (h32 0 8) ∧ (h32 0 1) = (h 0 1) ∧ (h32 0 118) = (h 0 118) ∧ (h32 0 127) = (h 0 127) := k52_1
      refine ja_if_ne 60 daspectItem_55 rfl ⟨by decide, by decide⟩ (fun c55 => absurd c55 (by omega)) (fun c55 => ?_)
      refine ja_iconst daspectItem_58 ?_
      refine ja_zreturn daspectItem_59 rfl (by omega) ?_
      exact mo_fin (by omega) rfl (k2 h32 (by omega) g33)
  · have z4 := is1v k1_0 c4
    replace k1_0 := is1 k1_0 c4
    refine ja_aload_n daspectItem_7 rfl rfl ?_
    refine fg_aspects (v := h 0 26) rfl daspectItem_8 ?_
    have f34 := gF_aspects g
    refine ja_bipush 8 daspectItem_11 rfl ?_
    refine ja_icmp_ne 22 daspectItem_13 rfl ⟨by omega, by omega⟩ ⟨by decide, by decide⟩ (fun c13 => ?_) (fun c13 => ?_)
    · refine ja_aload_n daspectItem_22 rfl rfl ?_
      refine fg_aspects (v := h 0 26) rfl daspectItem_23 ?_
      refine ja_istore_n daspectItem_26 rfl (by decide) (L2 := [(1, (0, (h 0 26))), (0, (2, ((0 : Nat) : Int)))]) rfl ?_
      refine ja_aload_n daspectItem_27 rfl rfl ?_
      refine fa_aspectName daspectItem_28 ?_
      refine ja_iload_n daspectItem_31 rfl rfl ?_
      refine ja_aload_n daspectItem_32 rfl rfl ?_
      refine fg_at (v := h 0 7) rfl daspectItem_33 ?_
      have f35 := gF_at g
      have g36 := gW_aspectName g (h 0 26).toNat (x := h 0 7) ⟨by omega, by omega⟩
      refine is_aspectName ⟨by omega, by omega⟩ daspectItem_36 ?_
      refine ja_aload_n daspectItem_37 rfl rfl ?_
      refine fa_aspectEach daspectItem_38 ?_
      refine ja_iload_n daspectItem_41 rfl rfl ?_
      refine ja_iconst daspectItem_42 ?_
      have g37 := gW_aspectEach g36 (h 0 26).toNat (x := 0) ⟨by decide, by decide⟩
      refine is_aspectEach ⟨by omega, by omega⟩ (by omega) daspectItem_43 ?_
      refine ja_aload_n daspectItem_44 rfl rfl ?_
      refine fa_aspectFields daspectItem_45 ?_
      refine ja_iload_n daspectItem_48 rfl rfl ?_
      refine ja_iconst daspectItem_49 ?_
      have g38 := gW_aspectFields g37 (h 0 26).toNat (x := 0) ⟨by decide, by decide⟩
      refine is_aspectFields ⟨by omega, by omega⟩ daspectItem_50 ?_
      refine ja_aload_n daspectItem_51 rfl rfl ?_
      refine t_name (by decide) (show (0 : Nat) ≤ 8 by decide) daspectItem_52 g38  ?_ ?_
      · intro k52_0 g39
        replace k52_0 : (h 0 7) < 900 ∧ (h 2 (h 0 7).toNat) = 2 := k52_0
        replace g39 : mo_G Zz (ja_up (ja_up (ja_up (ja_up h 13 ((h 0 26).toNat) (h 0 7)) 14 ((h 0 26).toNat) 0) 15 ((h 0 26).toNat) 0) 0 7 ((h 0 7) + 1)) := g39
        show mJ l D cA ad 13 cX12_aspectItem 3 (some .boolean) 55 [(1, (0, (h 0 26))), (0, (2, ((0 : Nat) : Int)))] [(0, 1)] (ja_up (ja_up (ja_up (ja_up h 13 ((h 0 26).toNat) (h 0 7)) 14 ((h 0 26).toNat) 0) 15 ((h 0 26).toNat) 0) 0 7 ((h 0 7) + 1)) Q
        refine ja_if_ne 60 daspectItem_55 rfl ⟨by decide, by decide⟩ (fun c55 => ?_) (fun c55 => absurd c55 (by omega))
        refine ja_aload_n daspectItem_60 rfl rfl ?_
        refine ja_dup daspectItem_61 (by decide) ?_
        refine fg_aspects (v := h 0 26) rfl daspectItem_62 ?_
        refine ja_iconst daspectItem_65 ?_
        refine ja_iadd daspectItem_66 ?_
        have g40 := gP_aspects g39 (x := (h 0 26) + 1) ⟨by omega, by omega⟩
        refine fp_aspects daspectItem_67 ?_
        refine ja_aload_n daspectItem_70 rfl rfl ?_
        refine ja_iload_n daspectItem_71 rfl rfl ?_
        have g41 := gP_inAspect g40 (x := h 0 26) ⟨by omega, by omega⟩
        refine fp_inAspect daspectItem_72 ?_
        refine ja_aload_n daspectItem_75 rfl rfl ?_
        refine ja_bipush 11 daspectItem_76 rfl ?_
        refine t_isWord (by decide) (show (0 : Nat) ≤ 8 by decide) daspectItem_78 g41 ⟨by decide, by decide⟩ ?_
        intro w42 k78_0
        replace k78_0 : (w42 = 1 ∧ (h 2 ((h 0 7) + 1).toNat) = 1 ∧ (h 5 ((h 0 7) + 1).toNat) = 11) ∨ (w42 = 0 ∧ ¬ ((h 2 ((h 0 7) + 1).toNat) = 1 ∧ (h 5 ((h 0 7) + 1).toNat) = 11)) := k78_0
        refine ja_if_eq 109 daspectItem_81 rfl ⟨by omega, by omega⟩ (fun c81 => ?_) (fun c81 => ?_)
        · replace k78_0 := is0 k78_0 c81
          refine ja_aload_n daspectItem_109 rfl rfl ?_
          refine ja_bipush 123 daspectItem_110 rfl ?_
          refine t_sign (by decide) (show (0 : Nat) ≤ 8 by decide) daspectItem_112 g41 ⟨by decide, by decide⟩ ?_ ?_
          · intro k112_0 g43
            replace k112_0 : ((h 0 7) + 1) < 900 ∧ (h 2 ((h 0 7) + 1).toNat) = 5 ∧ (h 5 ((h 0 7) + 1).toNat) = 123 := k112_0
            replace g43 : mo_G Zz (ja_up (ja_up (ja_up (ja_up (ja_up (ja_up (ja_up h 13 ((h 0 26).toNat) (h 0 7)) 14 ((h 0 26).toNat) 0) 15 ((h 0 26).toNat) 0) 0 7 ((h 0 7) + 1)) 0 26 ((h 0 26) + 1)) 0 76 (h 0 26)) 0 7 (((h 0 7) + 1) + 1)) := g43
            show mJ l D cA ad 13 cX12_aspectItem 3 (some .boolean) 115 [(1, (0, (h 0 26))), (0, (2, ((0 : Nat) : Int)))] [(0, 1)] (ja_up (ja_up (ja_up (ja_up (ja_up (ja_up (ja_up h 13 ((h 0 26).toNat) (h 0 7)) 14 ((h 0 26).toNat) 0) 15 ((h 0 26).toNat) 0) 0 7 ((h 0 7) + 1)) 0 26 ((h 0 26) + 1)) 0 76 (h 0 26)) 0 7 (((h 0 7) + 1) + 1)) Q
            refine ja_istore_n daspectItem_115 rfl (by decide) (L2 := [(2, (0, 1)), (1, (0, (h 0 26))), (0, (2, ((0 : Nat) : Int)))]) rfl ?_
            exact ja_wk (fun q hq => by simp only [List.mem_cons, List.not_mem_nil, or_false] at hq; rcases hq with rfl | rfl <;> rfl) ((CUT _) 1 (ja_up (ja_up (ja_up (ja_up (ja_up (ja_up (ja_up h 13 ((h 0 26).toNat) (h 0 7)) 14 ((h 0 26).toNat) 0) 15 ((h 0 26).toNat) 0) 0 7 ((h 0 7) + 1)) 0 26 ((h 0 26) + 1)) 0 76 (h 0 26)) 0 7 (((h 0 7) + 1) + 1)) g43 ⟨by decide, by decide⟩ ((Or.inl ⟨rfl, ⟨_, _, _, it_keep p1 (by (repeat (first | exact ag_refl | refine ag_up rfl ?_))) (show it_nn (((h 0 7) + 1) + 1) (h 0 113) (h 0 95) (h 0 68) (h 0 72) (h 0 31) (h 0 41) (h 0 64) (h 0 61) (h 0 18) (h 0 84) (h 0 87) (h 0 86) (h 0 85) (h 0 109) (h 0 66) from by unfold it_nn; omega) (it_F_eq (it_F_of p1) rfl rfl) (fun z => z) (fun _ _ _ z => z) (show (h 0 26) ≤ ((h 0 26) + 1) by omega)⟩, (show (h 0 7) < (((h 0 7) + 1) + 1) by omega), (by (repeat (first | exact ag_refl | refine ag_up rfl ?_))), (show ((h 0 26) : Int) < ((h 0 26) + 1) by omega)⟩)) rfl)
          · intro h44 k112_1 g45
            replace k112_1 : 0 < (h44 0 8) ∧ (h44 0 1) = (h 0 1) ∧ (h44 0 118) = (h 0 118) ∧ (h44 0 127) = (h 0 127) := k112_1
            refine ja_istore_n daspectItem_115 rfl (by decide) (L2 := [(2, (0, 0)), (1, (0, (h 0 26))), (0, (2, ((0 : Nat) : Int)))]) rfl ?_
            exact ja_wk (fun q hq => by simp only [List.mem_cons, List.not_mem_nil, or_false] at hq; rcases hq with rfl | rfl <;> rfl) ((CUT _) 0 h44 g45 ⟨by decide, by decide⟩ ((Or.inr (by refine ⟨rfl, ?_, ?_, ?_, ?_⟩ <;> omega))) rfl)
        · have z81 := is1v k78_0 c81
          replace k78_0 := is1 k78_0 c81
          refine ja_aload_n daspectItem_84 rfl rfl ?_
          refine fa_aspectEach daspectItem_85 ?_
          refine ja_iload_n daspectItem_88 rfl rfl ?_
          refine ja_iconst daspectItem_89 ?_
          have g46 := gW_aspectEach g41 (h 0 26).toNat (x := 1) ⟨by decide, by decide⟩
          refine is_aspectEach ⟨by omega, by omega⟩ (by omega) daspectItem_90 ?_
          refine ja_aload_n daspectItem_91 rfl rfl ?_
          refine t_take (by decide) (show (0 : Nat) ≤ 8 by decide) daspectItem_92 g46  ?_ ?_
          · intro k92_0 g47
            replace k92_0 : ((h 0 7) + 1) < 900 := k92_0
            replace g47 : mo_G Zz (ja_up (ja_up (ja_up (ja_up (ja_up (ja_up (ja_up (ja_up h 13 ((h 0 26).toNat) (h 0 7)) 14 ((h 0 26).toNat) 0) 15 ((h 0 26).toNat) 0) 0 7 ((h 0 7) + 1)) 0 26 ((h 0 26) + 1)) 0 76 (h 0 26)) 14 ((h 0 26).toNat) 1) 0 7 (((h 0 7) + 1) + 1)) := g47
            show mJ l D cA ad 13 cX12_aspectItem 3 (some .boolean) 95 [(1, (0, (h 0 26))), (0, (2, ((0 : Nat) : Int)))] [(0, 1)] (ja_up (ja_up (ja_up (ja_up (ja_up (ja_up (ja_up (ja_up h 13 ((h 0 26).toNat) (h 0 7)) 14 ((h 0 26).toNat) 0) 15 ((h 0 26).toNat) 0) 0 7 ((h 0 7) + 1)) 0 26 ((h 0 26) + 1)) 0 76 (h 0 26)) 14 ((h 0 26).toNat) 1) 0 7 (((h 0 7) + 1) + 1)) Q
            refine ja_if_eq 107 daspectItem_95 rfl ⟨by decide, by decide⟩ (fun c95 => absurd c95 (by omega)) (fun c95 => ?_)
            refine ja_aload_n daspectItem_98 rfl rfl ?_
            refine ja_bipush 29 daspectItem_99 rfl ?_
            refine t_word (by decide) (show (0 : Nat) ≤ 8 by decide) daspectItem_101 g47 ⟨by decide, by decide⟩ ?_ ?_
            · intro k101_0 g48
              replace k101_0 : (((h 0 7) + 1) + 1) < 900 ∧ (h 2 (((h 0 7) + 1) + 1).toNat) = 1 ∧ (h 5 (((h 0 7) + 1) + 1).toNat) = 29 := k101_0
              replace g48 : mo_G Zz (ja_up (ja_up (ja_up (ja_up (ja_up (ja_up (ja_up (ja_up (ja_up h 13 ((h 0 26).toNat) (h 0 7)) 14 ((h 0 26).toNat) 0) 15 ((h 0 26).toNat) 0) 0 7 ((h 0 7) + 1)) 0 26 ((h 0 26) + 1)) 0 76 (h 0 26)) 14 ((h 0 26).toNat) 1) 0 7 (((h 0 7) + 1) + 1)) 0 7 ((((h 0 7) + 1) + 1) + 1)) := g48
              show mJ l D cA ad 13 cX12_aspectItem 3 (some .boolean) 104 [(1, (0, (h 0 26))), (0, (2, ((0 : Nat) : Int)))] [(0, 1)] (ja_up (ja_up (ja_up (ja_up (ja_up (ja_up (ja_up (ja_up (ja_up h 13 ((h 0 26).toNat) (h 0 7)) 14 ((h 0 26).toNat) 0) 15 ((h 0 26).toNat) 0) 0 7 ((h 0 7) + 1)) 0 26 ((h 0 26) + 1)) 0 76 (h 0 26)) 14 ((h 0 26).toNat) 1) 0 7 (((h 0 7) + 1) + 1)) 0 7 ((((h 0 7) + 1) + 1) + 1)) Q
              refine ja_if_ne 109 daspectItem_104 rfl ⟨by decide, by decide⟩ (fun c104 => ?_) (fun c104 => absurd c104 (by omega))
              refine ja_aload_n daspectItem_109 rfl rfl ?_
              refine ja_bipush 123 daspectItem_110 rfl ?_
              refine t_sign (by decide) (show (0 : Nat) ≤ 8 by decide) daspectItem_112 g48 ⟨by decide, by decide⟩ ?_ ?_
              · intro k112_0 g49
                replace k112_0 : ((((h 0 7) + 1) + 1) + 1) < 900 ∧ (h 2 ((((h 0 7) + 1) + 1) + 1).toNat) = 5 ∧ (h 5 ((((h 0 7) + 1) + 1) + 1).toNat) = 123 := k112_0
                replace g49 : mo_G Zz (ja_up (ja_up (ja_up (ja_up (ja_up (ja_up (ja_up (ja_up (ja_up (ja_up h 13 ((h 0 26).toNat) (h 0 7)) 14 ((h 0 26).toNat) 0) 15 ((h 0 26).toNat) 0) 0 7 ((h 0 7) + 1)) 0 26 ((h 0 26) + 1)) 0 76 (h 0 26)) 14 ((h 0 26).toNat) 1) 0 7 (((h 0 7) + 1) + 1)) 0 7 ((((h 0 7) + 1) + 1) + 1)) 0 7 (((((h 0 7) + 1) + 1) + 1) + 1)) := g49
                show mJ l D cA ad 13 cX12_aspectItem 3 (some .boolean) 115 [(1, (0, (h 0 26))), (0, (2, ((0 : Nat) : Int)))] [(0, 1)] (ja_up (ja_up (ja_up (ja_up (ja_up (ja_up (ja_up (ja_up (ja_up (ja_up h 13 ((h 0 26).toNat) (h 0 7)) 14 ((h 0 26).toNat) 0) 15 ((h 0 26).toNat) 0) 0 7 ((h 0 7) + 1)) 0 26 ((h 0 26) + 1)) 0 76 (h 0 26)) 14 ((h 0 26).toNat) 1) 0 7 (((h 0 7) + 1) + 1)) 0 7 ((((h 0 7) + 1) + 1) + 1)) 0 7 (((((h 0 7) + 1) + 1) + 1) + 1)) Q
                refine ja_istore_n daspectItem_115 rfl (by decide) (L2 := [(2, (0, 1)), (1, (0, (h 0 26))), (0, (2, ((0 : Nat) : Int)))]) rfl ?_
                exact ja_wk (fun q hq => by simp only [List.mem_cons, List.not_mem_nil, or_false] at hq; rcases hq with rfl | rfl <;> rfl) ((CUT _) 1 (ja_up (ja_up (ja_up (ja_up (ja_up (ja_up (ja_up (ja_up (ja_up (ja_up h 13 ((h 0 26).toNat) (h 0 7)) 14 ((h 0 26).toNat) 0) 15 ((h 0 26).toNat) 0) 0 7 ((h 0 7) + 1)) 0 26 ((h 0 26) + 1)) 0 76 (h 0 26)) 14 ((h 0 26).toNat) 1) 0 7 (((h 0 7) + 1) + 1)) 0 7 ((((h 0 7) + 1) + 1) + 1)) 0 7 (((((h 0 7) + 1) + 1) + 1) + 1)) g49 ⟨by decide, by decide⟩ ((Or.inl ⟨rfl, ⟨_, _, _, it_keep p1 (by (repeat (first | exact ag_refl | refine ag_up rfl ?_))) (show it_nn (((((h 0 7) + 1) + 1) + 1) + 1) (h 0 113) (h 0 95) (h 0 68) (h 0 72) (h 0 31) (h 0 41) (h 0 64) (h 0 61) (h 0 18) (h 0 84) (h 0 87) (h 0 86) (h 0 85) (h 0 109) (h 0 66) from by unfold it_nn; omega) (it_F_eq (it_F_of p1) rfl rfl) (fun z => z) (fun _ _ _ z => z) (show (h 0 26) ≤ ((h 0 26) + 1) by omega)⟩, (show (h 0 7) < (((((h 0 7) + 1) + 1) + 1) + 1) by omega), (by (repeat (first | exact ag_refl | refine ag_up rfl ?_))), (show ((h 0 26) : Int) < ((h 0 26) + 1) by omega)⟩)) rfl)
              · intro h50 k112_1 g51
                replace k112_1 : 0 < (h50 0 8) ∧ (h50 0 1) = (h 0 1) ∧ (h50 0 118) = (h 0 118) ∧ (h50 0 127) = (h 0 127) := k112_1
                refine ja_istore_n daspectItem_115 rfl (by decide) (L2 := [(2, (0, 0)), (1, (0, (h 0 26))), (0, (2, ((0 : Nat) : Int)))]) rfl ?_
                exact ja_wk (fun q hq => by simp only [List.mem_cons, List.not_mem_nil, or_false] at hq; rcases hq with rfl | rfl <;> rfl) ((CUT _) 0 h50 g51 ⟨by decide, by decide⟩ ((Or.inr (by refine ⟨rfl, ?_, ?_, ?_, ?_⟩ <;> omega))) rfl)
            · intro h52 k101_1 g53
              replace k101_1 : 0 < (h52 0 8) ∧ (h52 0 1) = (h 0 1) ∧ (h52 0 118) = (h 0 118) ∧ (h52 0 127) = (h 0 127) := k101_1
              refine ja_if_ne 109 daspectItem_104 rfl ⟨by decide, by decide⟩ (fun c104 => absurd c104 (by omega)) (fun c104 => ?_)
              refine ja_iconst daspectItem_107 ?_
              refine ja_zreturn daspectItem_108 rfl (by omega) ?_
              exact mo_fin (by omega) rfl (k2 h52 (by omega) g53)
          · intro h54 k92_1 g55
            replace k92_1 : 0 < (h54 0 8) ∧ (h54 0 1) = (h 0 1) ∧ (h54 0 118) = (h 0 118) ∧ (h54 0 127) = (h 0 127) := k92_1
            refine ja_if_eq 107 daspectItem_95 rfl ⟨by decide, by decide⟩ (fun c95 => ?_) (fun c95 => absurd c95 (by omega))
            refine ja_iconst daspectItem_107 ?_
            refine ja_zreturn daspectItem_108 rfl (by omega) ?_
            exact mo_fin (by omega) rfl (k2 h54 (by omega) g55)
      · intro h56 k52_1 g57
        replace k52_1 : 0 < (h56 0 8) ∧ (h56 0 1) = (h 0 1) ∧ (h56 0 118) = (h 0 118) ∧ (h56 0 127) = (h 0 127) := k52_1
        refine ja_if_ne 60 daspectItem_55 rfl ⟨by decide, by decide⟩ (fun c55 => absurd c55 (by omega)) (fun c55 => ?_)
        refine ja_iconst daspectItem_58 ?_
        refine ja_zreturn daspectItem_59 rfl (by omega) ?_
        exact mo_fin (by omega) rfl (k2 h56 (by omega) g57)
    · refine ja_aload_n daspectItem_16 rfl rfl ?_
      refine ja_iconst daspectItem_17 ?_
      refine t_halt (by decide) (show (0 : Nat) ≤ 8 by decide) daspectItem_18 g ⟨by decide, by decide⟩ (show 1 ≤ 3 ∧ 3 ≤ 8 by omega) ?_
      intro h58 k18_0 g59
      refine ja_zreturn daspectItem_21 rfl (by omega) ?_
      exact mo_fin (by omega) rfl (k2 h58 (by omega) g59)
theorem t_aspectItem {ht st rg : Nat → Int} {d nL pc : Nat} {cc : ByteArray} {rt : Option FieldType} {L : List (Nat × ja_V)} {S : List ja_V} {h : ja_H} {Q : Option ja_V → ja_H → Prop} (hdd : 13 < d) (hwd : ja_wd S ≤ 8) (hd : decode cc pc = .ok (.invokevirtual 736, 3)) (g : mo_G Zz h) (p1 : it h ht st rg) (k1 : ∀ (h' : ja_H), ((∃ ht st rg : Nat → Int, it h' ht st rg) ∧ (h 0 7) < (h' 0 7) ∧ mo_ag FKQ h h') → mo_G Zz h' → mJ l D cA ad d cc nL rt (pc + 3) L ((0, 1) :: S) h' Q) (k2 : ∀ (h' : ja_H), (0 < (h' 0 8) ∧ (h' 0 1) = (h 0 1) ∧ (h' 0 118) = (h 0 118) ∧ (h' 0 127) = (h 0 127)) → mo_G Zz h' → mJ l D cA ad d cc nL rt (pc + 3) L ((0, 0) :: S) h' Q) : mJ l D cA ad d cc nL rt pc L ((2, ((0 : Nat) : Int)) :: S) h Q :=
  mc_aspectItem hdd hwd hd (s_aspectItem g p1 k1 k2)
end
