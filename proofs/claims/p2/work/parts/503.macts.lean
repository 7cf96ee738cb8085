/-! the reference: its acts, tail (written by a program) -/
variable {Zz : Zc}
theorem dtail_0 : decode cX12_tail 0 = .ok (.aload_n 0, 1) := by decide +kernel
theorem dtail_1 : decode cX12_tail 1 = .ok (.getfield 698, 3) := by decide +kernel
theorem dtail_4 : decode cX12_tail 4 = .ok (.ifCond .ne 137, 3) := by decide +kernel
theorem dtail_7 : decode cX12_tail 7 = .ok (.aload_n 0, 1) := by decide +kernel
theorem dtail_8 : decode cX12_tail 8 = .ok (.bipush 46, 2) := by decide +kernel
theorem dtail_10 : decode cX12_tail 10 = .ok (.invokevirtual 586, 3) := by decide +kernel
theorem dtail_13 : decode cX12_tail 13 = .ok (.ifCond .eq 128, 3) := by decide +kernel
theorem dtail_16 : decode cX12_tail 16 = .ok (.aload_n 0, 1) := by decide +kernel
theorem dtail_17 : decode cX12_tail 17 = .ok (.iconst 3, 1) := by decide +kernel
theorem dtail_18 : decode cX12_tail 18 = .ok (.invokevirtual 751, 3) := by decide +kernel
theorem dtail_21 : decode cX12_tail 21 = .ok (.istore_n 1, 1) := by decide +kernel
theorem dtail_22 : decode cX12_tail 22 = .ok (.iload_n 1, 1) := by decide +kernel
theorem dtail_23 : decode cX12_tail 23 = .ok (.ifCond .lt 10, 3) := by decide +kernel
theorem dtail_26 : decode cX12_tail 26 = .ok (.aload_n 0, 1) := by decide +kernel
theorem dtail_27 : decode cX12_tail 27 = .ok (.invokevirtual 589, 3) := by decide +kernel
theorem dtail_30 : decode cX12_tail 30 = .ok (.ifCond .ne 5, 3) := by decide +kernel
theorem dtail_33 : decode cX12_tail 33 = .ok (.iconst 0, 1) := by decide +kernel
theorem dtail_34 : decode cX12_tail 34 = .ok (.ireturn, 1) := by decide +kernel
theorem dtail_35 : decode cX12_tail 35 = .ok (.aload_n 0, 1) := by decide +kernel
theorem dtail_36 : decode cX12_tail 36 = .ok (.getfield 170, 3) := by decide +kernel
theorem dtail_39 : decode cX12_tail 39 = .ok (.iload_n 1, 1) := by decide +kernel
theorem dtail_40 : decode cX12_tail 40 = .ok (.aload_n 0, 1) := by decide +kernel
theorem dtail_41 : decode cX12_tail 41 = .ok (.getfield 574, 3) := by decide +kernel
theorem dtail_44 : decode cX12_tail 44 = .ok (.iastore, 1) := by decide +kernel
theorem dtail_45 : decode cX12_tail 45 = .ok (.aload_n 0, 1) := by decide +kernel
theorem dtail_46 : decode cX12_tail 46 = .ok (.invokevirtual 739, 3) := by decide +kernel
theorem dtail_49 : decode cX12_tail 49 = .ok (.ifCond .ne 5, 3) := by decide +kernel
theorem dtail_52 : decode cX12_tail 52 = .ok (.iconst 0, 1) := by decide +kernel
theorem dtail_53 : decode cX12_tail 53 = .ok (.ireturn, 1) := by decide +kernel
theorem dtail_54 : decode cX12_tail 54 = .ok (.aload_n 0, 1) := by decide +kernel
theorem dtail_55 : decode cX12_tail 55 = .ok (.bipush 40, 2) := by decide +kernel
theorem dtail_57 : decode cX12_tail 57 = .ok (.invokevirtual 586, 3) := by decide +kernel
theorem dtail_60 : decode cX12_tail 60 = .ok (.ifCond .eq 52, 3) := by decide +kernel
theorem dtail_63 : decode cX12_tail 63 = .ok (.aload_n 0, 1) := by decide +kernel
theorem dtail_64 : decode cX12_tail 64 = .ok (.getfield 164, 3) := by decide +kernel
theorem dtail_67 : decode cX12_tail 67 = .ok (.iload_n 1, 1) := by decide +kernel
theorem dtail_68 : decode cX12_tail 68 = .ok (.iconst 0, 1) := by decide +kernel
theorem dtail_69 : decode cX12_tail 69 = .ok (.iastore, 1) := by decide +kernel
theorem dtail_70 : decode cX12_tail 70 = .ok (.aload_n 0, 1) := by decide +kernel
theorem dtail_71 : decode cX12_tail 71 = .ok (.bipush 7, 2) := by decide +kernel
theorem dtail_73 : decode cX12_tail 73 = .ok (.iconst 0, 1) := by decide +kernel
theorem dtail_74 : decode cX12_tail 74 = .ok (.iconst 0, 1) := by decide +kernel
theorem dtail_75 : decode cX12_tail 75 = .ok (.iconst 0, 1) := by decide +kernel
theorem dtail_76 : decode cX12_tail 76 = .ok (.invokevirtual 790, 3) := by decide +kernel
theorem dtail_79 : decode cX12_tail 79 = .ok (.ifCond .eq 31, 3) := by decide +kernel
theorem dtail_82 : decode cX12_tail 82 = .ok (.aload_n 0, 1) := by decide +kernel
theorem dtail_83 : decode cX12_tail 83 = .ok (.bipush 10, 2) := by decide +kernel
theorem dtail_85 : decode cX12_tail 85 = .ok (.iload_n 1, 1) := by decide +kernel
theorem dtail_86 : decode cX12_tail 86 = .ok (.iconst 0, 1) := by decide +kernel
theorem dtail_87 : decode cX12_tail 87 = .ok (.iconst 0, 1) := by decide +kernel
theorem dtail_88 : decode cX12_tail 88 = .ok (.invokevirtual 790, 3) := by decide +kernel
theorem dtail_91 : decode cX12_tail 91 = .ok (.ifCond .eq 19, 3) := by decide +kernel
theorem dtail_94 : decode cX12_tail 94 = .ok (.aload_n 0, 1) := by decide +kernel
theorem dtail_95 : decode cX12_tail 95 = .ok (.bipush 8, 2) := by decide +kernel
theorem dtail_97 : decode cX12_tail 97 = .ok (.iconst 0, 1) := by decide +kernel
theorem dtail_98 : decode cX12_tail 98 = .ok (.iconst 0, 1) := by decide +kernel
theorem dtail_99 : decode cX12_tail 99 = .ok (.iconst 0, 1) := by decide +kernel
theorem dtail_100 : decode cX12_tail 100 = .ok (.invokevirtual 790, 3) := by decide +kernel
theorem dtail_103 : decode cX12_tail 103 = .ok (.ifCond .eq 7, 3) := by decide +kernel
theorem dtail_106 : decode cX12_tail 106 = .ok (.iconst 1, 1) := by decide +kernel
theorem dtail_107 : decode cX12_tail 107 = .ok (.goto 4, 3) := by decide +kernel
theorem dtail_110 : decode cX12_tail 110 = .ok (.iconst 0, 1) := by decide +kernel
theorem dtail_111 : decode cX12_tail 111 = .ok (.ireturn, 1) := by decide +kernel
theorem dtail_112 : decode cX12_tail 112 = .ok (.aload_n 0, 1) := by decide +kernel
theorem dtail_113 : decode cX12_tail 113 = .ok (.iconst 2, 1) := by decide +kernel
theorem dtail_114 : decode cX12_tail 114 = .ok (.putfield 838, 3) := by decide +kernel
theorem dtail_117 : decode cX12_tail 117 = .ok (.aload_n 0, 1) := by decide +kernel
theorem dtail_118 : decode cX12_tail 118 = .ok (.iload_n 1, 1) := by decide +kernel
theorem dtail_119 : decode cX12_tail 119 = .ok (.putfield 841, 3) := by decide +kernel
theorem dtail_122 : decode cX12_tail 122 = .ok (.aload_n 0, 1) := by decide +kernel
theorem dtail_123 : decode cX12_tail 123 = .ok (.bipush 15, 2) := by decide +kernel
theorem dtail_125 : decode cX12_tail 125 = .ok (.iload_n 1, 1) := by decide +kernel
theorem dtail_126 : decode cX12_tail 126 = .ok (.iconst 0, 1) := by decide +kernel
theorem dtail_127 : decode cX12_tail 127 = .ok (.invokevirtual 732, 3) := by decide +kernel
theorem dtail_130 : decode cX12_tail 130 = .ok (.istore_n 2, 1) := by decide +kernel
theorem dtail_131 : decode cX12_tail 131 = .ok (.aload_n 0, 1) := by decide +kernel
theorem dtail_132 : decode cX12_tail 132 = .ok (.bipush 7, 2) := by decide +kernel
theorem dtail_134 : decode cX12_tail 134 = .ok (.iconst 0, 1) := by decide +kernel
theorem dtail_135 : decode cX12_tail 135 = .ok (.iconst 0, 1) := by decide +kernel
theorem dtail_136 : decode cX12_tail 136 = .ok (.iconst 0, 1) := by decide +kernel
theorem dtail_137 : decode cX12_tail 137 = .ok (.invokevirtual 790, 3) := by decide +kernel
theorem dtail_140 : decode cX12_tail 140 = .ok (.ireturn, 1) := by decide +kernel
theorem dtail_141 : decode cX12_tail 141 = .ok (.aload_n 0, 1) := by decide +kernel
theorem dtail_142 : decode cX12_tail 142 = .ok (.bipush 21, 2) := by decide +kernel
theorem dtail_144 : decode cX12_tail 144 = .ok (.invokevirtual 596, 3) := by decide +kernel
theorem dtail_147 : decode cX12_tail 147 = .ok (.ifCond .eq 47, 3) := by decide +kernel
theorem dtail_150 : decode cX12_tail 150 = .ok (.aload_n 0, 1) := by decide +kernel
theorem dtail_151 : decode cX12_tail 151 = .ok (.invokevirtual 589, 3) := by decide +kernel
theorem dtail_154 : decode cX12_tail 154 = .ok (.ifCond .ne 5, 3) := by decide +kernel
theorem dtail_157 : decode cX12_tail 157 = .ok (.iconst 0, 1) := by decide +kernel
theorem dtail_158 : decode cX12_tail 158 = .ok (.ireturn, 1) := by decide +kernel
theorem dtail_159 : decode cX12_tail 159 = .ok (.aload_n 0, 1) := by decide +kernel
theorem dtail_160 : decode cX12_tail 160 = .ok (.getfield 574, 3) := by decide +kernel
theorem dtail_163 : decode cX12_tail 163 = .ok (.istore_n 1, 1) := by decide +kernel
theorem dtail_164 : decode cX12_tail 164 = .ok (.aload_n 0, 1) := by decide +kernel
theorem dtail_165 : decode cX12_tail 165 = .ok (.invokevirtual 739, 3) := by decide +kernel
theorem dtail_168 : decode cX12_tail 168 = .ok (.ifCond .ne 5, 3) := by decide +kernel
theorem dtail_171 : decode cX12_tail 171 = .ok (.iconst 0, 1) := by decide +kernel
theorem dtail_172 : decode cX12_tail 172 = .ok (.ireturn, 1) := by decide +kernel
theorem dtail_173 : decode cX12_tail 173 = .ok (.aload_n 0, 1) := by decide +kernel
theorem dtail_174 : decode cX12_tail 174 = .ok (.iconst 0, 1) := by decide +kernel
theorem dtail_175 : decode cX12_tail 175 = .ok (.iload_n 1, 1) := by decide +kernel
theorem dtail_176 : decode cX12_tail 176 = .ok (.iconst 0, 1) := by decide +kernel
theorem dtail_177 : decode cX12_tail 177 = .ok (.invokevirtual 783, 3) := by decide +kernel
theorem dtail_180 : decode cX12_tail 180 = .ok (.aload_n 0, 1) := by decide +kernel
theorem dtail_181 : decode cX12_tail 181 = .ok (.iconst 0, 1) := by decide +kernel
theorem dtail_182 : decode cX12_tail 182 = .ok (.putfield 838, 3) := by decide +kernel
theorem dtail_185 : decode cX12_tail 185 = .ok (.aload_n 0, 1) := by decide +kernel
theorem dtail_186 : decode cX12_tail 186 = .ok (.bipush 8, 2) := by decide +kernel
theorem dtail_188 : decode cX12_tail 188 = .ok (.iload_n 1, 1) := by decide +kernel
theorem dtail_189 : decode cX12_tail 189 = .ok (.iconst 0, 1) := by decide +kernel
theorem dtail_190 : decode cX12_tail 190 = .ok (.invokevirtual 732, 3) := by decide +kernel
theorem dtail_193 : decode cX12_tail 193 = .ok (.istore_n 2, 1) := by decide +kernel
theorem dtail_194 : decode cX12_tail 194 = .ok (.iconst 1, 1) := by decide +kernel
theorem dtail_195 : decode cX12_tail 195 = .ok (.ireturn, 1) := by decide +kernel
section
variable {l : Launch} {D : va_G} {cA : Nat → ClassId} {ad : Nat → Nat}
theorem s_tail {R r ph q0 a b : Int} {tf : mo_TF} {s : List mo_A} {ht st rg : Nat → Int} {tu : Int} {h : ja_H} {Q : Option ja_V → ja_H → Prop} (g : mo_G Zz h) (p1 : pk_S h (h 0 17).toNat s) (p2 : piB h R r ph tf q0 ((7, a, b) :: s) ht st rg tu) (p3 : ph = 1 ∨ (h 0 74) ≤ 1 ∨ (h 0 75) ≤ 24) (k1 : ∀ (h' : ja_H), (pi_done h h' R r ph tf q0 (pi_mu h ((7, a, b) :: s))) → mo_G Zz h' → Q (some (0, 1)) h') (k2 : ∀ (h' : ja_H), (0 < (h' 0 8) ∧ (h' 0 1) = (h 0 1) ∧ (h' 0 118) = (h 0 118) ∧ (h' 0 127) = (h 0 127)) → mo_G Zz h' → Q (some (0, 0)) h') : mM_tail l D cA ad  h Q := by
  show mJ l D cA ad 4 cX12_tail 3 (some .boolean) 0 [(0, (2, ((0 : Nat) : Int)))] [] h Q
  have kn_at := gF_at g
  have kn_wTop := gF_wTop g
  have kn_words := gF_words g
  have kn_nest := gF_nest g
  have kn_inIf := gF_inIf g
  have kn_body := gF_body g
  have kn_bodyNumber := gF_bodyNumber g
  have kn_wants := gF_wants g
  have kn_points := gF_points g
  have hN := piB_num g p1 p2
  obtain ⟨N1, N2, N3, N4, N5, N6, N7, N8, N9, N10, N11, N12, N13, ⟨NK1, NK2⟩, ND1, ND2, ND3, NU1, NU2⟩ := hN
  have hn1 : (h 0 18) = 0 + pk_sum pk_c s := p2.1.1
  have hbw : (h 0 86) = 0 → (h 0 74) ≤ 1 ∨ (h 0 75) ≤ 24 := fun q => bw_ok g p2 p3 (Or.inl ⟨q, (by dsimp only; omega)⟩)
  clear p3
  refine ja_aload_n dtail_0 rfl rfl ?_
  refine fg_inIf (v := h 0 86) rfl dtail_1 ?_
  have f1 := gF_inIf g
  refine ja_if_ne 141 dtail_4 rfl ⟨by omega, by omega⟩ (fun c4 => ?_) (fun c4 => ?_)
  · refine ja_aload_n dtail_141 rfl rfl ?_
    refine ja_bipush 21 dtail_142 rfl ?_
    refine t_isWord (by decide) (show (0 : Nat) ≤ 8 by decide) dtail_144 g ⟨by decide, by decide⟩ ?_
    intro w2 k144_0
    refine ja_if_eq 194 dtail_147 rfl ⟨by omega, by omega⟩ (fun c147 => ?_) (fun c147 => ?_)
    · replace k144_0 := is0 k144_0 c147
      refine ja_iconst dtail_194 ?_
      refine ja_zreturn dtail_195 rfl (by omega) ?_
      exact mo_fin (by omega) rfl (k1 h (ab_tail_end g p1 p2) g)
    · have z147 := is1v k144_0 c147
      replace k144_0 := is1 k144_0 c147
      refine ja_aload_n dtail_150 rfl rfl ?_
      refine t_take (by decide) (show (0 : Nat) ≤ 8 by decide) dtail_151 g  ?_ ?_
      · intro k151_0 g3
        replace k151_0 : (h 0 7) < 900 := k151_0
        replace g3 : mo_G Zz (ja_up h 0 7 ((h 0 7) + 1)) := g3
        show mJ l D cA ad 4 cX12_tail 3 (some .boolean) 154 [(0, (2, ((0 : Nat) : Int)))] [(0, 1)] (ja_up h 0 7 ((h 0 7) + 1)) Q
        refine ja_if_ne 159 dtail_154 rfl ⟨by decide, by decide⟩ (fun c154 => ?_) (fun c154 => absurd c154 (by omega))
        refine ja_aload_n dtail_159 rfl rfl ?_
        refine fg_at (v := (h 0 7) + 1) rfl dtail_160 ?_
        refine ja_istore_n dtail_163 rfl (by decide) (L2 := [(1, (0, ((h 0 7) + 1))), (0, (2, ((0 : Nat) : Int)))]) rfl ?_
        refine ja_aload_n dtail_164 rfl rfl ?_
        refine t_name (by decide) (show (0 : Nat) ≤ 8 by decide) dtail_165 g3  ?_ ?_
        · intro k165_0 g4
          replace k165_0 : ((h 0 7) + 1) < 900 ∧ (h 2 ((h 0 7) + 1).toNat) = 2 := k165_0
          replace g4 : mo_G Zz (ja_up (ja_up h 0 7 ((h 0 7) + 1)) 0 7 (((h 0 7) + 1) + 1)) := g4
          show mJ l D cA ad 4 cX12_tail 3 (some .boolean) 168 [(1, (0, ((h 0 7) + 1))), (0, (2, ((0 : Nat) : Int)))] [(0, 1)] (ja_up (ja_up h 0 7 ((h 0 7) + 1)) 0 7 (((h 0 7) + 1) + 1)) Q
          refine ja_if_ne 173 dtail_168 rfl ⟨by decide, by decide⟩ (fun c168 => ?_) (fun c168 => absurd c168 (by omega))
          refine ja_aload_n dtail_173 rfl rfl ?_
          refine ja_iconst dtail_174 ?_
          refine ja_iload_n dtail_175 rfl rfl ?_
          refine ja_iconst dtail_176 ?_
          refine t_want (by decide) (show (0 : Nat) ≤ 8 by decide) dtail_177 g4 ⟨by decide, by decide⟩ ⟨by omega, by omega⟩ ⟨by decide, by decide⟩ (show 0 ≤ 0 ∧ 0 ≤ 1 by omega) (show 0 ≤ ((h 0 7) + 1) ∧ ((h 0 7) + 1) ≤ 900 by omega) (show 0 ≤ 0 ∧ 0 ≤ 7 by omega) (show (h 0 68) < 900 by omega) ?_
          intro g5
          replace g5 : mo_G Zz (ja_up (ja_up (ja_up (ja_up (ja_up (ja_up h 0 7 ((h 0 7) + 1)) 0 7 (((h 0 7) + 1) + 1)) 45 ((h 0 68).toNat) 0) 44 ((h 0 68).toNat) ((h 0 7) + 1)) 46 ((h 0 68).toNat) 0) 0 68 ((h 0 68) + 1)) := g5
          show mJ l D cA ad 4 cX12_tail 3 (some .boolean) 180 [(1, (0, ((h 0 7) + 1))), (0, (2, ((0 : Nat) : Int)))] [] (ja_up (ja_up (ja_up (ja_up (ja_up (ja_up h 0 7 ((h 0 7) + 1)) 0 7 (((h 0 7) + 1) + 1)) 45 ((h 0 68).toNat) 0) 44 ((h 0 68).toNat) ((h 0 7) + 1)) 46 ((h 0 68).toNat) 0) 0 68 ((h 0 68) + 1)) Q
          refine ja_aload_n dtail_180 rfl rfl ?_
          refine ja_iconst dtail_181 ?_
          have g6 := gP_form g5 (x := 0) ⟨by decide, by decide⟩
          refine fp_form dtail_182 ?_
          refine ja_aload_n dtail_185 rfl rfl ?_
          refine ja_bipush 8 dtail_186 rfl ?_
          refine ja_iload_n dtail_188 rfl rfl ?_
          refine ja_iconst dtail_189 ?_
          refine t_emit (by decide) (show (0 : Nat) ≤ 8 by decide) dtail_190 g6 ⟨by decide, by decide⟩ ⟨by omega, by omega⟩ ⟨by decide, by decide⟩ (show 0 ≤ 8 ∧ 8 ≤ 26 by omega) (show (h 0 113) < 5000 by omega) ?_
          intro g7
          replace g7 : mo_G Zz (ja_up (ja_up (ja_up (ja_up (ja_up (ja_up (ja_up (ja_up (ja_up (ja_up (ja_up h 0 7 ((h 0 7) + 1)) 0 7 (((h 0 7) + 1) + 1)) 45 ((h 0 68).toNat) 0) 44 ((h 0 68).toNat) ((h 0 7) + 1)) 46 ((h 0 68).toNat) 0) 0 68 ((h 0 68) + 1)) 0 19 0) 74 ((h 0 113).toNat) 8) 75 ((h 0 113).toNat) ((h 0 7) + 1)) 76 ((h 0 113).toNat) 0) 0 113 ((h 0 113) + 1)) := g7
          show mJ l D cA ad 4 cX12_tail 3 (some .boolean) 193 [(1, (0, ((h 0 7) + 1))), (0, (2, ((0 : Nat) : Int)))] [(0, (h 0 113))] (ja_up (ja_up (ja_up (ja_up (ja_up (ja_up (ja_up (ja_up (ja_up (ja_up (ja_up h 0 7 ((h 0 7) + 1)) 0 7 (((h 0 7) + 1) + 1)) 45 ((h 0 68).toNat) 0) 44 ((h 0 68).toNat) ((h 0 7) + 1)) 46 ((h 0 68).toNat) 0) 0 68 ((h 0 68) + 1)) 0 19 0) 74 ((h 0 113).toNat) 8) 75 ((h 0 113).toNat) ((h 0 7) + 1)) 76 ((h 0 113).toNat) 0) 0 113 ((h 0 113) + 1)) Q
          refine ja_istore_n dtail_193 rfl (by decide) (L2 := [(2, (0, (h 0 113))), (1, (0, ((h 0 7) + 1))), (0, (2, ((0 : Nat) : Int)))]) rfl ?_
          refine ja_iconst dtail_194 ?_
          refine ja_zreturn dtail_195 rfl (by omega) ?_
          exact mo_fin (by omega) rfl (k1 (ja_up (ja_up (ja_up (ja_up (ja_up (ja_up (ja_up (ja_up (ja_up (ja_up (ja_up h 0 7 ((h 0 7) + 1)) 0 7 (((h 0 7) + 1) + 1)) 45 ((h 0 68).toNat) 0) 44 ((h 0 68).toNat) ((h 0 7) + 1)) 46 ((h 0 68).toNat) 0) 0 68 ((h 0 68) + 1)) 0 19 0) 74 ((h 0 113).toNat) 8) 75 ((h 0 113).toNat) ((h 0 7) + 1)) 76 ((h 0 113).toNat) 0) 0 113 ((h 0 113) + 1)) (ab_tail_is g p1 p2 (by omega)) g7)
        · intro h8 k165_1 g9
          replace k165_1 : 0 < (h8 0 8) ∧ (h8 0 1) = (h 0 1) ∧ (h8 0 118) = (h 0 118) ∧ (h8 0 127) = (h 0 127) := k165_1
          refine ja_if_ne 173 dtail_168 rfl ⟨by decide, by decide⟩ (fun c168 => absurd c168 (by omega)) (fun c168 => ?_)
          refine ja_iconst dtail_171 ?_
          refine ja_zreturn dtail_172 rfl (by omega) ?_
          exact mo_fin (by omega) rfl (k2 h8 (by omega) g9)
      · intro h10 k151_1 g11
        refine ja_if_ne 159 dtail_154 rfl ⟨by decide, by decide⟩ (fun c154 => absurd c154 (by omega)) (fun c154 => ?_)
        refine ja_iconst dtail_157 ?_
        refine ja_zreturn dtail_158 rfl (by omega) ?_
        exact mo_fin (by omega) rfl (k2 h10 (by omega) g11)
  · refine ja_aload_n dtail_7 rfl rfl ?_
    refine ja_bipush 46 dtail_8 rfl ?_
    refine t_isSign (by decide) (show (0 : Nat) ≤ 8 by decide) dtail_10 g ⟨by decide, by decide⟩ ?_
    intro w12 k10_0
    refine ja_if_eq 141 dtail_13 rfl ⟨by omega, by omega⟩ (fun c13 => ?_) (fun c13 => ?_)
    · replace k10_0 := is0 k10_0 c13
      refine ja_aload_n dtail_141 rfl rfl ?_
      refine ja_bipush 21 dtail_142 rfl ?_
      refine t_isWord (by decide) (show (0 : Nat) ≤ 8 by decide) dtail_144 g ⟨by decide, by decide⟩ ?_
      intro w13 k144_0
      refine ja_if_eq 194 dtail_147 rfl ⟨by omega, by omega⟩ (fun c147 => ?_) (fun c147 => ?_)
      · replace k144_0 := is0 k144_0 c147
        refine ja_iconst dtail_194 ?_
        refine ja_zreturn dtail_195 rfl (by omega) ?_
        exact mo_fin (by omega) rfl (k1 h (ab_tail_end g p1 p2) g)
      · have z147 := is1v k144_0 c147
        replace k144_0 := is1 k144_0 c147
        refine ja_aload_n dtail_150 rfl rfl ?_
        refine t_take (by decide) (show (0 : Nat) ≤ 8 by decide) dtail_151 g  ?_ ?_
        · intro k151_0 g14
          replace k151_0 : (h 0 7) < 900 := k151_0
          replace g14 : mo_G Zz (ja_up h 0 7 ((h 0 7) + 1)) := g14
          show mJ l D cA ad 4 cX12_tail 3 (some .boolean) 154 [(0, (2, ((0 : Nat) : Int)))] [(0, 1)] (ja_up h 0 7 ((h 0 7) + 1)) Q
          refine ja_if_ne 159 dtail_154 rfl ⟨by decide, by decide⟩ (fun c154 => ?_) (fun c154 => absurd c154 (by omega))
          refine ja_aload_n dtail_159 rfl rfl ?_
          refine fg_at (v := (h 0 7) + 1) rfl dtail_160 ?_
          refine ja_istore_n dtail_163 rfl (by decide) (L2 := [(1, (0, ((h 0 7) + 1))), (0, (2, ((0 : Nat) : Int)))]) rfl ?_
          refine ja_aload_n dtail_164 rfl rfl ?_
          refine t_name (by decide) (show (0 : Nat) ≤ 8 by decide) dtail_165 g14  ?_ ?_
          · intro k165_0 g15
            replace k165_0 : ((h 0 7) + 1) < 900 ∧ (h 2 ((h 0 7) + 1).toNat) = 2 := k165_0
            replace g15 : mo_G Zz (ja_up (ja_up h 0 7 ((h 0 7) + 1)) 0 7 (((h 0 7) + 1) + 1)) := g15
            show mJ l D cA ad 4 cX12_tail 3 (some .boolean) 168 [(1, (0, ((h 0 7) + 1))), (0, (2, ((0 : Nat) : Int)))] [(0, 1)] (ja_up (ja_up h 0 7 ((h 0 7) + 1)) 0 7 (((h 0 7) + 1) + 1)) Q
            refine ja_if_ne 173 dtail_168 rfl ⟨by decide, by decide⟩ (fun c168 => ?_) (fun c168 => absurd c168 (by omega))
            refine ja_aload_n dtail_173 rfl rfl ?_
            refine ja_iconst dtail_174 ?_
            refine ja_iload_n dtail_175 rfl rfl ?_
            refine ja_iconst dtail_176 ?_
            refine t_want (by decide) (show (0 : Nat) ≤ 8 by decide) dtail_177 g15 ⟨by decide, by decide⟩ ⟨by omega, by omega⟩ ⟨by decide, by decide⟩ (show 0 ≤ 0 ∧ 0 ≤ 1 by omega) (show 0 ≤ ((h 0 7) + 1) ∧ ((h 0 7) + 1) ≤ 900 by omega) (show 0 ≤ 0 ∧ 0 ≤ 7 by omega) (show (h 0 68) < 900 by omega) ?_
            intro g16
            replace g16 : mo_G Zz (ja_up (ja_up (ja_up (ja_up (ja_up (ja_up h 0 7 ((h 0 7) + 1)) 0 7 (((h 0 7) + 1) + 1)) 45 ((h 0 68).toNat) 0) 44 ((h 0 68).toNat) ((h 0 7) + 1)) 46 ((h 0 68).toNat) 0) 0 68 ((h 0 68) + 1)) := g16
            show mJ l D cA ad 4 cX12_tail 3 (some .boolean) 180 [(1, (0, ((h 0 7) + 1))), (0, (2, ((0 : Nat) : Int)))] [] (ja_up (ja_up (ja_up (ja_up (ja_up (ja_up h 0 7 ((h 0 7) + 1)) 0 7 (((h 0 7) + 1) + 1)) 45 ((h 0 68).toNat) 0) 44 ((h 0 68).toNat) ((h 0 7) + 1)) 46 ((h 0 68).toNat) 0) 0 68 ((h 0 68) + 1)) Q
            refine ja_aload_n dtail_180 rfl rfl ?_
            refine ja_iconst dtail_181 ?_
            have g17 := gP_form g16 (x := 0) ⟨by decide, by decide⟩
            refine fp_form dtail_182 ?_
            refine ja_aload_n dtail_185 rfl rfl ?_
            refine ja_bipush 8 dtail_186 rfl ?_
            refine ja_iload_n dtail_188 rfl rfl ?_
            refine ja_iconst dtail_189 ?_
            refine t_emit (by decide) (show (0 : Nat) ≤ 8 by decide) dtail_190 g17 ⟨by decide, by decide⟩ ⟨by omega, by omega⟩ ⟨by decide, by decide⟩ (show 0 ≤ 8 ∧ 8 ≤ 26 by omega) (show (h 0 113) < 5000 by omega) ?_
            intro g18
            replace g18 : mo_G Zz (ja_up (ja_up (ja_up (ja_up (ja_up (ja_up (ja_up (ja_up (ja_up (ja_up (ja_up h 0 7 ((h 0 7) + 1)) 0 7 (((h 0 7) + 1) + 1)) 45 ((h 0 68).toNat) 0) 44 ((h 0 68).toNat) ((h 0 7) + 1)) 46 ((h 0 68).toNat) 0) 0 68 ((h 0 68) + 1)) 0 19 0) 74 ((h 0 113).toNat) 8) 75 ((h 0 113).toNat) ((h 0 7) + 1)) 76 ((h 0 113).toNat) 0) 0 113 ((h 0 113) + 1)) := g18
            show mJ l D cA ad 4 cX12_tail 3 (some .boolean) 193 [(1, (0, ((h 0 7) + 1))), (0, (2, ((0 : Nat) : Int)))] [(0, (h 0 113))] (ja_up (ja_up (ja_up (ja_up (ja_up (ja_up (ja_up (ja_up (ja_up (ja_up (ja_up h 0 7 ((h 0 7) + 1)) 0 7 (((h 0 7) + 1) + 1)) 45 ((h 0 68).toNat) 0) 44 ((h 0 68).toNat) ((h 0 7) + 1)) 46 ((h 0 68).toNat) 0) 0 68 ((h 0 68) + 1)) 0 19 0) 74 ((h 0 113).toNat) 8) 75 ((h 0 113).toNat) ((h 0 7) + 1)) 76 ((h 0 113).toNat) 0) 0 113 ((h 0 113) + 1)) Q
            refine ja_istore_n dtail_193 rfl (by decide) (L2 := [(2, (0, (h 0 113))), (1, (0, ((h 0 7) + 1))), (0, (2, ((0 : Nat) : Int)))]) rfl ?_
            refine ja_iconst dtail_194 ?_
            refine ja_zreturn dtail_195 rfl (by omega) ?_
            exact mo_fin (by omega) rfl (k1 (ja_up (ja_up (ja_up (ja_up (ja_up (ja_up (ja_up (ja_up (ja_up (ja_up (ja_up h 0 7 ((h 0 7) + 1)) 0 7 (((h 0 7) + 1) + 1)) 45 ((h 0 68).toNat) 0) 44 ((h 0 68).toNat) ((h 0 7) + 1)) 46 ((h 0 68).toNat) 0) 0 68 ((h 0 68) + 1)) 0 19 0) 74 ((h 0 113).toNat) 8) 75 ((h 0 113).toNat) ((h 0 7) + 1)) 76 ((h 0 113).toNat) 0) 0 113 ((h 0 113) + 1)) (ab_tail_is g p1 p2 (by omega)) g18)
          · intro h19 k165_1 g20
            replace k165_1 : 0 < (h19 0 8) ∧ (h19 0 1) = (h 0 1) ∧ (h19 0 118) = (h 0 118) ∧ (h19 0 127) = (h 0 127) := k165_1
            refine ja_if_ne 173 dtail_168 rfl ⟨by decide, by decide⟩ (fun c168 => absurd c168 (by omega)) (fun c168 => ?_)
            refine ja_iconst dtail_171 ?_
            refine ja_zreturn dtail_172 rfl (by omega) ?_
            exact mo_fin (by omega) rfl (k2 h19 (by omega) g20)
        · intro h21 k151_1 g22
          refine ja_if_ne 159 dtail_154 rfl ⟨by decide, by decide⟩ (fun c154 => absurd c154 (by omega)) (fun c154 => ?_)
          refine ja_iconst dtail_157 ?_
          refine ja_zreturn dtail_158 rfl (by omega) ?_
          exact mo_fin (by omega) rfl (k2 h21 (by omega) g22)
    · have z13 := is1v k10_0 c13
      replace k10_0 := is1 k10_0 c13
      refine ja_aload_n dtail_16 rfl rfl ?_
      refine ja_iconst dtail_17 ?_
      refine t_newPoint (by decide) (show (0 : Nat) ≤ 8 by decide) dtail_18 g ⟨by decide, by decide⟩ (show 0 ≤ 3 ∧ 3 ≤ 5 by omega) ?_ ?_
      · intro w23 w24 k18_0 g25
        replace k18_0 : (h 0 88) < 400 ∧ (((h 0 74) = 3 ∧ w23 = 2) ∨ (¬ (h 0 74) = 3 ∧ w23 = (h 0 74))) ∧ (((h 0 74) = 0 ∧ w24 = 0) ∨ (¬ (h 0 74) = 0 ∧ w24 = (h 0 75))) := k18_0
        replace g25 : mo_G Zz (ja_up (ja_up (ja_up (ja_up (ja_up (ja_up (ja_up h 52 ((h 0 88).toNat) 3) 53 ((h 0 88).toNat) (h 0 7)) 54 ((h 0 88).toNat) (-1)) 55 ((h 0 88).toNat) 0) 56 ((h 0 88).toNat) w23) 57 ((h 0 88).toNat) w24) 0 88 ((h 0 88) + 1)) := g25
        show mJ l D cA ad 4 cX12_tail 3 (some .boolean) 21 [(0, (2, ((0 : Nat) : Int)))] [(0, (h 0 88))] (ja_up (ja_up (ja_up (ja_up (ja_up (ja_up (ja_up h 52 ((h 0 88).toNat) 3) 53 ((h 0 88).toNat) (h 0 7)) 54 ((h 0 88).toNat) (-1)) 55 ((h 0 88).toNat) 0) 56 ((h 0 88).toNat) w23) 57 ((h 0 88).toNat) w24) 0 88 ((h 0 88) + 1)) Q
        refine ja_istore_n dtail_21 rfl (by decide) (L2 := [(1, (0, (h 0 88))), (0, (2, ((0 : Nat) : Int)))]) rfl ?_
        refine ja_iload_n dtail_22 rfl rfl ?_
        refine ja_if_lt 33 dtail_23 rfl ⟨by omega, by omega⟩ (fun c23 => ?_) (fun c23 => ?_)
        · refine ja_iconst dtail_33 ?_
          refine ja_zreturn dtail_34 rfl (by omega) ?_
          exact mo_fin (by omega) rfl (k2 (ja_up (ja_up (ja_up (ja_up (ja_up (ja_up (ja_up h 52 ((h 0 88).toNat) 3) 53 ((h 0 88).toNat) (h 0 7)) 54 ((h 0 88).toNat) (-1)) 55 ((h 0 88).toNat) 0) 56 ((h 0 88).toNat) w23) 57 ((h 0 88).toNat) w24) 0 88 ((h 0 88) + 1)) (show 0 < (h 0 8) ∧ (h 0 1) = (h 0 1) ∧ (h 0 118) = (h 0 118) ∧ (h 0 127) = (h 0 127) by omega) g25)
        · refine ja_aload_n dtail_26 rfl rfl ?_
          refine t_take (by decide) (show (0 : Nat) ≤ 8 by decide) dtail_27 g25  ?_ ?_
          · intro k27_0 g26
            replace k27_0 : (h 0 7) < 900 := k27_0
            replace g26 : mo_G Zz (ja_up (ja_up (ja_up (ja_up (ja_up (ja_up (ja_up (ja_up h 52 ((h 0 88).toNat) 3) 53 ((h 0 88).toNat) (h 0 7)) 54 ((h 0 88).toNat) (-1)) 55 ((h 0 88).toNat) 0) 56 ((h 0 88).toNat) w23) 57 ((h 0 88).toNat) w24) 0 88 ((h 0 88) + 1)) 0 7 ((h 0 7) + 1)) := g26
            show mJ l D cA ad 4 cX12_tail 3 (some .boolean) 30 [(1, (0, (h 0 88))), (0, (2, ((0 : Nat) : Int)))] [(0, 1)] (ja_up (ja_up (ja_up (ja_up (ja_up (ja_up (ja_up (ja_up h 52 ((h 0 88).toNat) 3) 53 ((h 0 88).toNat) (h 0 7)) 54 ((h 0 88).toNat) (-1)) 55 ((h 0 88).toNat) 0) 56 ((h 0 88).toNat) w23) 57 ((h 0 88).toNat) w24) 0 88 ((h 0 88) + 1)) 0 7 ((h 0 7) + 1)) Q
            refine ja_if_ne 35 dtail_30 rfl ⟨by decide, by decide⟩ (fun c30 => ?_) (fun c30 => absurd c30 (by omega))
            refine ja_aload_n dtail_35 rfl rfl ?_
            refine fa_pointName dtail_36 ?_
            refine ja_iload_n dtail_39 rfl rfl ?_
            refine ja_aload_n dtail_40 rfl rfl ?_
            refine fg_at (v := (h 0 7) + 1) rfl dtail_41 ?_
            have g27 := gW_pointName g26 (h 0 88).toNat (x := (h 0 7) + 1) ⟨by omega, by omega⟩
            refine is_pointName ⟨by omega, by omega⟩ dtail_44 ?_
            refine ja_aload_n dtail_45 rfl rfl ?_
            refine t_name (by decide) (show (0 : Nat) ≤ 8 by decide) dtail_46 g27  ?_ ?_
            · intro k46_0 g28
              replace k46_0 : ((h 0 7) + 1) < 900 ∧ (h 2 ((h 0 7) + 1).toNat) = 2 := k46_0
              replace g28 : mo_G Zz (ja_up (ja_up (ja_up (ja_up (ja_up (ja_up (ja_up (ja_up (ja_up (ja_up h 52 ((h 0 88).toNat) 3) 53 ((h 0 88).toNat) (h 0 7)) 54 ((h 0 88).toNat) (-1)) 55 ((h 0 88).toNat) 0) 56 ((h 0 88).toNat) w23) 57 ((h 0 88).toNat) w24) 0 88 ((h 0 88) + 1)) 0 7 ((h 0 7) + 1)) 54 ((h 0 88).toNat) ((h 0 7) + 1)) 0 7 (((h 0 7) + 1) + 1)) := g28
              show mJ l D cA ad 4 cX12_tail 3 (some .boolean) 49 [(1, (0, (h 0 88))), (0, (2, ((0 : Nat) : Int)))] [(0, 1)] (ja_up (ja_up (ja_up (ja_up (ja_up (ja_up (ja_up (ja_up (ja_up (ja_up h 52 ((h 0 88).toNat) 3) 53 ((h 0 88).toNat) (h 0 7)) 54 ((h 0 88).toNat) (-1)) 55 ((h 0 88).toNat) 0) 56 ((h 0 88).toNat) w23) 57 ((h 0 88).toNat) w24) 0 88 ((h 0 88) + 1)) 0 7 ((h 0 7) + 1)) 54 ((h 0 88).toNat) ((h 0 7) + 1)) 0 7 (((h 0 7) + 1) + 1)) Q
              refine ja_if_ne 54 dtail_49 rfl ⟨by decide, by decide⟩ (fun c49 => ?_) (fun c49 => absurd c49 (by omega))
              refine ja_aload_n dtail_54 rfl rfl ?_
              refine ja_bipush 40 dtail_55 rfl ?_
              refine t_isSign (by decide) (show (0 : Nat) ≤ 8 by decide) dtail_57 g28 ⟨by decide, by decide⟩ ?_
              intro w29 k57_0
              replace k57_0 : (w29 = 1 ∧ (h 2 (((h 0 7) + 1) + 1).toNat) = 5 ∧ (h 5 (((h 0 7) + 1) + 1).toNat) = 40) ∨ (w29 = 0 ∧ ¬ ((h 2 (((h 0 7) + 1) + 1).toNat) = 5 ∧ (h 5 (((h 0 7) + 1) + 1).toNat) = 40)) := k57_0
              refine ja_if_eq 112 dtail_60 rfl ⟨by omega, by omega⟩ (fun c60 => ?_) (fun c60 => ?_)
              · replace k57_0 := is0 k57_0 c60
                refine ja_aload_n dtail_112 rfl rfl ?_
                refine ja_iconst dtail_113 ?_
                have g30 := gP_form g28 (x := 2) ⟨by decide, by decide⟩
                refine fp_form dtail_114 ?_
                refine ja_aload_n dtail_117 rfl rfl ?_
                refine ja_iload_n dtail_118 rfl rfl ?_
                have g31 := gP_formA g30 (x := h 0 88) ⟨by omega, by omega⟩
                refine fp_formA dtail_119 ?_
                refine ja_aload_n dtail_122 rfl rfl ?_
                refine ja_bipush 15 dtail_123 rfl ?_
                refine ja_iload_n dtail_125 rfl rfl ?_
                refine ja_iconst dtail_126 ?_
                refine t_emit (by decide) (show (0 : Nat) ≤ 8 by decide) dtail_127 g31 ⟨by decide, by decide⟩ ⟨by omega, by omega⟩ ⟨by decide, by decide⟩ (show 0 ≤ 15 ∧ 15 ≤ 26 by omega) (show (h 0 113) < 5000 by omega) ?_
                intro g32
                replace g32 : mo_G Zz (ja_up (ja_up (ja_up (ja_up (ja_up (ja_up (ja_up (ja_up (ja_up (ja_up (ja_up (ja_up (ja_up (ja_up (ja_up (ja_up h 52 ((h 0 88).toNat) 3) 53 ((h 0 88).toNat) (h 0 7)) 54 ((h 0 88).toNat) (-1)) 55 ((h 0 88).toNat) 0) 56 ((h 0 88).toNat) w23) 57 ((h 0 88).toNat) w24) 0 88 ((h 0 88) + 1)) 0 7 ((h 0 7) + 1)) 54 ((h 0 88).toNat) ((h 0 7) + 1)) 0 7 (((h 0 7) + 1) + 1)) 0 19 2) 0 20 (h 0 88)) 74 ((h 0 113).toNat) 15) 75 ((h 0 113).toNat) (h 0 88)) 76 ((h 0 113).toNat) 0) 0 113 ((h 0 113) + 1)) := g32
                show mJ l D cA ad 4 cX12_tail 3 (some .boolean) 130 [(1, (0, (h 0 88))), (0, (2, ((0 : Nat) : Int)))] [(0, (h 0 113))] (ja_up (ja_up (ja_up (ja_up (ja_up (ja_up (ja_up (ja_up (ja_up (ja_up (ja_up (ja_up (ja_up (ja_up (ja_up (ja_up h 52 ((h 0 88).toNat) 3) 53 ((h 0 88).toNat) (h 0 7)) 54 ((h 0 88).toNat) (-1)) 55 ((h 0 88).toNat) 0) 56 ((h 0 88).toNat) w23) 57 ((h 0 88).toNat) w24) 0 88 ((h 0 88) + 1)) 0 7 ((h 0 7) + 1)) 54 ((h 0 88).toNat) ((h 0 7) + 1)) 0 7 (((h 0 7) + 1) + 1)) 0 19 2) 0 20 (h 0 88)) 74 ((h 0 113).toNat) 15) 75 ((h 0 113).toNat) (h 0 88)) 76 ((h 0 113).toNat) 0) 0 113 ((h 0 113) + 1)) Q
                refine ja_istore_n dtail_130 rfl (by decide) (L2 := [(2, (0, (h 0 113))), (1, (0, (h 0 88))), (0, (2, ((0 : Nat) : Int)))]) rfl ?_
                refine ja_aload_n dtail_131 rfl rfl ?_
                refine ja_bipush 7 dtail_132 rfl ?_
                refine ja_iconst dtail_134 ?_
                refine ja_iconst dtail_135 ?_
                refine ja_iconst dtail_136 ?_
                refine t_later (by decide) (show (0 : Nat) ≤ 8 by decide) dtail_137 g32 ⟨by decide, by decide⟩ ⟨by decide, by decide⟩ ⟨by decide, by decide⟩ ⟨by decide, by decide⟩ (show 0 ≤ 7 ∧ 7 ≤ 38 by omega) (show (h 0 17) < 2000 by omega) ?_
                intro g33
                replace g33 : mo_G Zz (ja_up (ja_up (ja_up (ja_up (ja_up (ja_up (ja_up (ja_up (ja_up (ja_up (ja_up (ja_up (ja_up (ja_up (ja_up (ja_up (ja_up (ja_up (ja_up (ja_up (ja_up h 52 ((h 0 88).toNat) 3) 53 ((h 0 88).toNat) (h 0 7)) 54 ((h 0 88).toNat) (-1)) 55 ((h 0 88).toNat) 0) 56 ((h 0 88).toNat) w23) 57 ((h 0 88).toNat) w24) 0 88 ((h 0 88) + 1)) 0 7 ((h 0 7) + 1)) 54 ((h 0 88).toNat) ((h 0 7) + 1)) 0 7 (((h 0 7) + 1) + 1)) 0 19 2) 0 20 (h 0 88)) 74 ((h 0 113).toNat) 15) 75 ((h 0 113).toNat) (h 0 88)) 76 ((h 0 113).toNat) 0) 0 113 ((h 0 113) + 1)) 6 ((h 0 17).toNat) 7) 7 ((h 0 17).toNat) 0) 8 ((h 0 17).toNat) 0) 9 ((h 0 17).toNat) 0) 0 17 ((h 0 17) + 1)) := g33
                show mJ l D cA ad 4 cX12_tail 3 (some .boolean) 140 [(2, (0, (h 0 113))), (1, (0, (h 0 88))), (0, (2, ((0 : Nat) : Int)))] [(0, 1)] (ja_up (ja_up (ja_up (ja_up (ja_up (ja_up (ja_up (ja_up (ja_up (ja_up (ja_up (ja_up (ja_up (ja_up (ja_up (ja_up (ja_up (ja_up (ja_up (ja_up (ja_up h 52 ((h 0 88).toNat) 3) 53 ((h 0 88).toNat) (h 0 7)) 54 ((h 0 88).toNat) (-1)) 55 ((h 0 88).toNat) 0) 56 ((h 0 88).toNat) w23) 57 ((h 0 88).toNat) w24) 0 88 ((h 0 88) + 1)) 0 7 ((h 0 7) + 1)) 54 ((h 0 88).toNat) ((h 0 7) + 1)) 0 7 (((h 0 7) + 1) + 1)) 0 19 2) 0 20 (h 0 88)) 74 ((h 0 113).toNat) 15) 75 ((h 0 113).toNat) (h 0 88)) 76 ((h 0 113).toNat) 0) 0 113 ((h 0 113) + 1)) 6 ((h 0 17).toNat) 7) 7 ((h 0 17).toNat) 0) 8 ((h 0 17).toNat) 0) 9 ((h 0 17).toNat) 0) 0 17 ((h 0 17) + 1)) Q
                refine ja_zreturn dtail_140 rfl (by omega) ?_
                exact mo_fin (by omega) rfl (k1 (ja_up (ja_up (ja_up (ja_up (ja_up (ja_up (ja_up (ja_up (ja_up (ja_up (ja_up (ja_up (ja_up (ja_up (ja_up (ja_up (ja_up (ja_up (ja_up (ja_up (ja_up h 52 ((h 0 88).toNat) 3) 53 ((h 0 88).toNat) (h 0 7)) 54 ((h 0 88).toNat) (-1)) 55 ((h 0 88).toNat) 0) 56 ((h 0 88).toNat) w23) 57 ((h 0 88).toNat) w24) 0 88 ((h 0 88) + 1)) 0 7 ((h 0 7) + 1)) 54 ((h 0 88).toNat) ((h 0 7) + 1)) 0 7 (((h 0 7) + 1) + 1)) 0 19 2) 0 20 (h 0 88)) 74 ((h 0 113).toNat) 15) 75 ((h 0 113).toNat) (h 0 88)) 76 ((h 0 113).toNat) 0) 0 113 ((h 0 113) + 1)) 6 ((h 0 17).toNat) 7) 7 ((h 0 17).toNat) 0) 8 ((h 0 17).toNat) 0) 9 ((h 0 17).toNat) 0) 0 17 ((h 0 17) + 1)) (ab_field (sd := w23) (wh := w24) g p1 p2 (by omega) (by omega) (by omega) (by omega) (by omega) (by omega) (by omega)) g33)
              · have z60 := is1v k57_0 c60
                replace k57_0 := is1 k57_0 c60
                refine ja_aload_n dtail_63 rfl rfl ?_
                refine fa_pointKind dtail_64 ?_
                refine ja_iload_n dtail_67 rfl rfl ?_
                refine ja_iconst dtail_68 ?_
                have g34 := gW_pointKind g28 (h 0 88).toNat (x := 0) ⟨by decide, by decide⟩
                refine is_pointKind ⟨by omega, by omega⟩ dtail_69 ?_
                refine ja_aload_n dtail_70 rfl rfl ?_
                refine ja_bipush 7 dtail_71 rfl ?_
                refine ja_iconst dtail_73 ?_
                refine ja_iconst dtail_74 ?_
                refine ja_iconst dtail_75 ?_
                refine t_later (by decide) (show (0 : Nat) ≤ 8 by decide) dtail_76 g34 ⟨by decide, by decide⟩ ⟨by decide, by decide⟩ ⟨by decide, by decide⟩ ⟨by decide, by decide⟩ (show 0 ≤ 7 ∧ 7 ≤ 38 by omega) (show (h 0 17) < 2000 by omega) ?_
                intro g35
                replace g35 : mo_G Zz (ja_up (ja_up (ja_up (ja_up (ja_up (ja_up (ja_up (ja_up (ja_up (ja_up (ja_up (ja_up (ja_up (ja_up (ja_up (ja_up h 52 ((h 0 88).toNat) 3) 53 ((h 0 88).toNat) (h 0 7)) 54 ((h 0 88).toNat) (-1)) 55 ((h 0 88).toNat) 0) 56 ((h 0 88).toNat) w23) 57 ((h 0 88).toNat) w24) 0 88 ((h 0 88) + 1)) 0 7 ((h 0 7) + 1)) 54 ((h 0 88).toNat) ((h 0 7) + 1)) 0 7 (((h 0 7) + 1) + 1)) 52 ((h 0 88).toNat) 0) 6 ((h 0 17).toNat) 7) 7 ((h 0 17).toNat) 0) 8 ((h 0 17).toNat) 0) 9 ((h 0 17).toNat) 0) 0 17 ((h 0 17) + 1)) := g35
                show mJ l D cA ad 4 cX12_tail 3 (some .boolean) 79 [(1, (0, (h 0 88))), (0, (2, ((0 : Nat) : Int)))] [(0, 1)] (ja_up (ja_up (ja_up (ja_up (ja_up (ja_up (ja_up (ja_up (ja_up (ja_up (ja_up (ja_up (ja_up (ja_up (ja_up (ja_up h 52 ((h 0 88).toNat) 3) 53 ((h 0 88).toNat) (h 0 7)) 54 ((h 0 88).toNat) (-1)) 55 ((h 0 88).toNat) 0) 56 ((h 0 88).toNat) w23) 57 ((h 0 88).toNat) w24) 0 88 ((h 0 88) + 1)) 0 7 ((h 0 7) + 1)) 54 ((h 0 88).toNat) ((h 0 7) + 1)) 0 7 (((h 0 7) + 1) + 1)) 52 ((h 0 88).toNat) 0) 6 ((h 0 17).toNat) 7) 7 ((h 0 17).toNat) 0) 8 ((h 0 17).toNat) 0) 9 ((h 0 17).toNat) 0) 0 17 ((h 0 17) + 1)) Q
                refine ja_if_eq 110 dtail_79 rfl ⟨by decide, by decide⟩ (fun c79 => absurd c79 (by omega)) (fun c79 => ?_)
                refine ja_aload_n dtail_82 rfl rfl ?_
                refine ja_bipush 10 dtail_83 rfl ?_
                refine ja_iload_n dtail_85 rfl rfl ?_
                refine ja_iconst dtail_86 ?_
                refine ja_iconst dtail_87 ?_
                refine t_later (by decide) (show (0 : Nat) ≤ 8 by decide) dtail_88 g35 ⟨by decide, by decide⟩ ⟨by omega, by omega⟩ ⟨by decide, by decide⟩ ⟨by decide, by decide⟩ (show 0 ≤ 10 ∧ 10 ≤ 38 by omega) (show ((h 0 17) + 1) < 2000 by omega) ?_
                intro g36
                replace g36 : mo_G Zz (ja_up (ja_up (ja_up (ja_up (ja_up (ja_up (ja_up (ja_up (ja_up (ja_up (ja_up (ja_up (ja_up (ja_up (ja_up (ja_up (ja_up (ja_up (ja_up (ja_up (ja_up h 52 ((h 0 88).toNat) 3) 53 ((h 0 88).toNat) (h 0 7)) 54 ((h 0 88).toNat) (-1)) 55 ((h 0 88).toNat) 0) 56 ((h 0 88).toNat) w23) 57 ((h 0 88).toNat) w24) 0 88 ((h 0 88) + 1)) 0 7 ((h 0 7) + 1)) 54 ((h 0 88).toNat) ((h 0 7) + 1)) 0 7 (((h 0 7) + 1) + 1)) 52 ((h 0 88).toNat) 0) 6 ((h 0 17).toNat) 7) 7 ((h 0 17).toNat) 0) 8 ((h 0 17).toNat) 0) 9 ((h 0 17).toNat) 0) 0 17 ((h 0 17) + 1)) 6 (((h 0 17) + 1).toNat) 10) 7 (((h 0 17) + 1).toNat) (h 0 88)) 8 (((h 0 17) + 1).toNat) 0) 9 (((h 0 17) + 1).toNat) 0) 0 17 (((h 0 17) + 1) + 1)) := g36
                show mJ l D cA ad 4 cX12_tail 3 (some .boolean) 91 [(1, (0, (h 0 88))), (0, (2, ((0 : Nat) : Int)))] [(0, 1)] (ja_up (ja_up (ja_up (ja_up (ja_up (ja_up (ja_up (ja_up (ja_up (ja_up (ja_up (ja_up (ja_up (ja_up (ja_up (ja_up (ja_up (ja_up (ja_up (ja_up (ja_up h 52 ((h 0 88).toNat) 3) 53 ((h 0 88).toNat) (h 0 7)) 54 ((h 0 88).toNat) (-1)) 55 ((h 0 88).toNat) 0) 56 ((h 0 88).toNat) w23) 57 ((h 0 88).toNat) w24) 0 88 ((h 0 88) + 1)) 0 7 ((h 0 7) + 1)) 54 ((h 0 88).toNat) ((h 0 7) + 1)) 0 7 (((h 0 7) + 1) + 1)) 52 ((h 0 88).toNat) 0) 6 ((h 0 17).toNat) 7) 7 ((h 0 17).toNat) 0) 8 ((h 0 17).toNat) 0) 9 ((h 0 17).toNat) 0) 0 17 ((h 0 17) + 1)) 6 (((h 0 17) + 1).toNat) 10) 7 (((h 0 17) + 1).toNat) (h 0 88)) 8 (((h 0 17) + 1).toNat) 0) 9 (((h 0 17) + 1).toNat) 0) 0 17 (((h 0 17) + 1) + 1)) Q
                refine ja_if_eq 110 dtail_91 rfl ⟨by decide, by decide⟩ (fun c91 => absurd c91 (by omega)) (fun c91 => ?_)
                refine ja_aload_n dtail_94 rfl rfl ?_
                refine ja_bipush 8 dtail_95 rfl ?_
                refine ja_iconst dtail_97 ?_
                refine ja_iconst dtail_98 ?_
                refine ja_iconst dtail_99 ?_
                refine t_later (by decide) (show (0 : Nat) ≤ 8 by decide) dtail_100 g36 ⟨by decide, by decide⟩ ⟨by decide, by decide⟩ ⟨by decide, by decide⟩ ⟨by decide, by decide⟩ (show 0 ≤ 8 ∧ 8 ≤ 38 by omega) (show (((h 0 17) + 1) + 1) < 2000 by omega) ?_
                intro g37
                replace g37 : mo_G Zz (ja_up (ja_up (ja_up (ja_up (ja_up (ja_up (ja_up (ja_up (ja_up (ja_up (ja_up (ja_up (ja_up (ja_up (ja_up (ja_up (ja_up (ja_up (ja_up (ja_up (ja_up (ja_up (ja_up (ja_up (ja_up (ja_up h 52 ((h 0 88).toNat) 3) 53 ((h 0 88).toNat) (h 0 7)) 54 ((h 0 88).toNat) (-1)) 55 ((h 0 88).toNat) 0) 56 ((h 0 88).toNat) w23) 57 ((h 0 88).toNat) w24) 0 88 ((h 0 88) + 1)) 0 7 ((h 0 7) + 1)) 54 ((h 0 88).toNat) ((h 0 7) + 1)) 0 7 (((h 0 7) + 1) + 1)) 52 ((h 0 88).toNat) 0) 6 ((h 0 17).toNat) 7) 7 ((h 0 17).toNat) 0) 8 ((h 0 17).toNat) 0) 9 ((h 0 17).toNat) 0) 0 17 ((h 0 17) + 1)) 6 (((h 0 17) + 1).toNat) 10) 7 (((h 0 17) + 1).toNat) (h 0 88)) 8 (((h 0 17) + 1).toNat) 0) 9 (((h 0 17) + 1).toNat) 0) 0 17 (((h 0 17) + 1) + 1)) 6 ((((h 0 17) + 1) + 1).toNat) 8) 7 ((((h 0 17) + 1) + 1).toNat) 0) 8 ((((h 0 17) + 1) + 1).toNat) 0) 9 ((((h 0 17) + 1) + 1).toNat) 0) 0 17 ((((h 0 17) + 1) + 1) + 1)) := g37
                show mJ l D cA ad 4 cX12_tail 3 (some .boolean) 103 [(1, (0, (h 0 88))), (0, (2, ((0 : Nat) : Int)))] [(0, 1)] (ja_up (ja_up (ja_up (ja_up (ja_up (ja_up (ja_up (ja_up (ja_up (ja_up (ja_up (ja_up (ja_up (ja_up (ja_up (ja_up (ja_up (ja_up (ja_up (ja_up (ja_up (ja_up (ja_up (ja_up (ja_up (ja_up h 52 ((h 0 88).toNat) 3) 53 ((h 0 88).toNat) (h 0 7)) 54 ((h 0 88).toNat) (-1)) 55 ((h 0 88).toNat) 0) 56 ((h 0 88).toNat) w23) 57 ((h 0 88).toNat) w24) 0 88 ((h 0 88) + 1)) 0 7 ((h 0 7) + 1)) 54 ((h 0 88).toNat) ((h 0 7) + 1)) 0 7 (((h 0 7) + 1) + 1)) 52 ((h 0 88).toNat) 0) 6 ((h 0 17).toNat) 7) 7 ((h 0 17).toNat) 0) 8 ((h 0 17).toNat) 0) 9 ((h 0 17).toNat) 0) 0 17 ((h 0 17) + 1)) 6 (((h 0 17) + 1).toNat) 10) 7 (((h 0 17) + 1).toNat) (h 0 88)) 8 (((h 0 17) + 1).toNat) 0) 9 (((h 0 17) + 1).toNat) 0) 0 17 (((h 0 17) + 1) + 1)) 6 ((((h 0 17) + 1) + 1).toNat) 8) 7 ((((h 0 17) + 1) + 1).toNat) 0) 8 ((((h 0 17) + 1) + 1).toNat) 0) 9 ((((h 0 17) + 1) + 1).toNat) 0) 0 17 ((((h 0 17) + 1) + 1) + 1)) Q
                refine ja_if_eq 110 dtail_103 rfl ⟨by decide, by decide⟩ (fun c103 => absurd c103 (by omega)) (fun c103 => ?_)
                refine ja_iconst dtail_106 ?_
                refine ja_goto 111 dtail_107 rfl ?_
                refine ja_zreturn dtail_111 rfl (by omega) ?_
                exact mo_fin (by omega) rfl (k1 (ja_up (ja_up (ja_up (ja_up (ja_up (ja_up (ja_up (ja_up (ja_up (ja_up (ja_up (ja_up (ja_up (ja_up (ja_up (ja_up (ja_up (ja_up (ja_up (ja_up (ja_up (ja_up (ja_up (ja_up (ja_up (ja_up h 52 ((h 0 88).toNat) 3) 53 ((h 0 88).toNat) (h 0 7)) 54 ((h 0 88).toNat) (-1)) 55 ((h 0 88).toNat) 0) 56 ((h 0 88).toNat) w23) 57 ((h 0 88).toNat) w24) 0 88 ((h 0 88) + 1)) 0 7 ((h 0 7) + 1)) 54 ((h 0 88).toNat) ((h 0 7) + 1)) 0 7 (((h 0 7) + 1) + 1)) 52 ((h 0 88).toNat) 0) 6 ((h 0 17).toNat) 7) 7 ((h 0 17).toNat) 0) 8 ((h 0 17).toNat) 0) 9 ((h 0 17).toNat) 0) 0 17 ((h 0 17) + 1)) 6 (((h 0 17) + 1).toNat) 10) 7 (((h 0 17) + 1).toNat) (h 0 88)) 8 (((h 0 17) + 1).toNat) 0) 9 (((h 0 17) + 1).toNat) 0) 0 17 (((h 0 17) + 1) + 1)) 6 ((((h 0 17) + 1) + 1).toNat) 8) 7 ((((h 0 17) + 1) + 1).toNat) 0) 8 ((((h 0 17) + 1) + 1).toNat) 0) 9 ((((h 0 17) + 1) + 1).toNat) 0) 0 17 ((((h 0 17) + 1) + 1) + 1)) (ab_call (sd := w23) (wh := w24) g p1 p2 (by omega) (by omega)) g37)
            · intro h38 k46_1 g39
              replace k46_1 : 0 < (h38 0 8) ∧ (h38 0 1) = (h 0 1) ∧ (h38 0 118) = (h 0 118) ∧ (h38 0 127) = (h 0 127) := k46_1
              refine ja_if_ne 54 dtail_49 rfl ⟨by decide, by decide⟩ (fun c49 => absurd c49 (by omega)) (fun c49 => ?_)
              refine ja_iconst dtail_52 ?_
              refine ja_zreturn dtail_53 rfl (by omega) ?_
              exact mo_fin (by omega) rfl (k2 h38 (by omega) g39)
          · intro h40 k27_1 g41
            replace k27_1 : 0 < (h40 0 8) ∧ (h40 0 1) = (h 0 1) ∧ (h40 0 118) = (h 0 118) ∧ (h40 0 127) = (h 0 127) := k27_1
            refine ja_if_ne 35 dtail_30 rfl ⟨by decide, by decide⟩ (fun c30 => absurd c30 (by omega)) (fun c30 => ?_)
            refine ja_iconst dtail_33 ?_
            refine ja_zreturn dtail_34 rfl (by omega) ?_
            exact mo_fin (by omega) rfl (k2 h40 (by omega) g41)
      · intro h42 k18_1 g43
        refine ja_istore_n dtail_21 rfl (by decide) (L2 := [(1, (0, (-1))), (0, (2, ((0 : Nat) : Int)))]) rfl ?_
        refine ja_iload_n dtail_22 rfl rfl ?_
        refine ja_if_lt 33 dtail_23 rfl ⟨by decide, by decide⟩ (fun c23 => ?_) (fun c23 => absurd c23 (by omega))
        refine ja_iconst dtail_33 ?_
        refine ja_zreturn dtail_34 rfl (by omega) ?_
        exact mo_fin (by omega) rfl (k2 h42 (by omega) g43)
theorem t_tail {R r ph q0 a b : Int} {tf : mo_TF} {s : List mo_A} {ht st rg : Nat → Int} {tu : Int} {d nL pc : Nat} {cc : ByteArray} {rt : Option FieldType} {L : List (Nat × ja_V)} {S : List ja_V} {h : ja_H} {Q : Option ja_V → ja_H → Prop} (hdd : 4 < d) (hwd : ja_wd S ≤ 8) (hd : decode cc pc = .ok (.invokevirtual 853, 3)) (g : mo_G Zz h) (p1 : pk_S h (h 0 17).toNat s) (p2 : piB h R r ph tf q0 ((7, a, b) :: s) ht st rg tu) (p3 : ph = 1 ∨ (h 0 74) ≤ 1 ∨ (h 0 75) ≤ 24) (k1 : ∀ (h' : ja_H), (pi_done h h' R r ph tf q0 (pi_mu h ((7, a, b) :: s))) → mo_G Zz h' → mJ l D cA ad d cc nL rt (pc + 3) L ((0, 1) :: S) h' Q) (k2 : ∀ (h' : ja_H), (0 < (h' 0 8) ∧ (h' 0 1) = (h 0 1) ∧ (h' 0 118) = (h 0 118) ∧ (h' 0 127) = (h 0 127)) → mo_G Zz h' → mJ l D cA ad d cc nL rt (pc + 3) L ((0, 0) :: S) h' Q) : mJ l D cA ad d cc nL rt pc L ((2, ((0 : Nat) : Int)) :: S) h Q :=
  mc_tail hdd hwd hd (s_tail g p1 p2 p3 k1 k2)
end
