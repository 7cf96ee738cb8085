/-! the reference: its acts, otherwise, tried (written by a program) -/
variable {Zz : Zc}
theorem dotherwise_0 : decode cX12_otherwise 0 = .ok (.aload_n 0, 1) := by decide +kernel
theorem dotherwise_1 : decode cX12_otherwise 1 = .ok (.bipush 12, 2) := by decide +kernel
theorem dotherwise_3 : decode cX12_otherwise 3 = .ok (.invokevirtual 596, 3) := by decide +kernel
theorem dotherwise_6 : decode cX12_otherwise 6 = .ok (.ifCond .ne 15, 3) := by decide +kernel
theorem dotherwise_9 : decode cX12_otherwise 9 = .ok (.aload_n 0, 1) := by decide +kernel
theorem dotherwise_10 : decode cX12_otherwise 10 = .ok (.getfield 234, 3) := by decide +kernel
theorem dotherwise_13 : decode cX12_otherwise 13 = .ok (.iload_n 1, 1) := by decide +kernel
theorem dotherwise_14 : decode cX12_otherwise 14 = .ok (.aload_n 0, 1) := by decide +kernel
theorem dotherwise_15 : decode cX12_otherwise 15 = .ok (.getfield 611, 3) := by decide +kernel
theorem dotherwise_18 : decode cX12_otherwise 18 = .ok (.iastore, 1) := by decide +kernel
theorem dotherwise_19 : decode cX12_otherwise 19 = .ok (.iconst 1, 1) := by decide +kernel
theorem dotherwise_20 : decode cX12_otherwise 20 = .ok (.ireturn, 1) := by decide +kernel
theorem dotherwise_21 : decode cX12_otherwise 21 = .ok (.aload_n 0, 1) := by decide +kernel
theorem dotherwise_22 : decode cX12_otherwise 22 = .ok (.invokevirtual 589, 3) := by decide +kernel
theorem dotherwise_25 : decode cX12_otherwise 25 = .ok (.ifCond .ne 5, 3) := by decide +kernel
theorem dotherwise_28 : decode cX12_otherwise 28 = .ok (.iconst 0, 1) := by decide +kernel
theorem dotherwise_29 : decode cX12_otherwise 29 = .ok (.ireturn, 1) := by decide +kernel
theorem dotherwise_30 : decode cX12_otherwise 30 = .ok (.aload_n 0, 1) := by decide +kernel
theorem dotherwise_31 : decode cX12_otherwise 31 = .ok (.bipush 21, 2) := by decide +kernel
theorem dotherwise_33 : decode cX12_otherwise 33 = .ok (.iconst 0, 1) := by decide +kernel
theorem dotherwise_34 : decode cX12_otherwise 34 = .ok (.iconst 0, 1) := by decide +kernel
theorem dotherwise_35 : decode cX12_otherwise 35 = .ok (.invokevirtual 732, 3) := by decide +kernel
theorem dotherwise_38 : decode cX12_otherwise 38 = .ok (.istore_n 2, 1) := by decide +kernel
theorem dotherwise_39 : decode cX12_otherwise 39 = .ok (.aload_n 0, 1) := by decide +kernel
theorem dotherwise_40 : decode cX12_otherwise 40 = .ok (.getfield 234, 3) := by decide +kernel
theorem dotherwise_43 : decode cX12_otherwise 43 = .ok (.iload_n 1, 1) := by decide +kernel
theorem dotherwise_44 : decode cX12_otherwise 44 = .ok (.aload_n 0, 1) := by decide +kernel
theorem dotherwise_45 : decode cX12_otherwise 45 = .ok (.getfield 611, 3) := by decide +kernel
theorem dotherwise_48 : decode cX12_otherwise 48 = .ok (.iastore, 1) := by decide +kernel
theorem dotherwise_49 : decode cX12_otherwise 49 = .ok (.aload_n 0, 1) := by decide +kernel
theorem dotherwise_50 : decode cX12_otherwise 50 = .ok (.bipush 22, 2) := by decide +kernel
theorem dotherwise_52 : decode cX12_otherwise 52 = .ok (.iload_n 2, 1) := by decide +kernel
theorem dotherwise_53 : decode cX12_otherwise 53 = .ok (.iconst 0, 1) := by decide +kernel
theorem dotherwise_54 : decode cX12_otherwise 54 = .ok (.iconst 0, 1) := by decide +kernel
theorem dotherwise_55 : decode cX12_otherwise 55 = .ok (.invokevirtual 790, 3) := by decide +kernel
theorem dotherwise_58 : decode cX12_otherwise 58 = .ok (.istore_n 3, 1) := by decide +kernel
theorem dotherwise_59 : decode cX12_otherwise 59 = .ok (.aload_n 0, 1) := by decide +kernel
theorem dotherwise_60 : decode cX12_otherwise 60 = .ok (.bipush 19, 2) := by decide +kernel
theorem dotherwise_62 : decode cX12_otherwise 62 = .ok (.invokevirtual 596, 3) := by decide +kernel
theorem dotherwise_65 : decode cX12_otherwise 65 = .ok (.ifCond .ne 13, 3) := by decide +kernel
theorem dotherwise_68 : decode cX12_otherwise 68 = .ok (.aload_n 0, 1) := by decide +kernel
theorem dotherwise_69 : decode cX12_otherwise 69 = .ok (.bipush 14, 2) := by decide +kernel
theorem dotherwise_71 : decode cX12_otherwise 71 = .ok (.iconst 0, 1) := by decide +kernel
theorem dotherwise_72 : decode cX12_otherwise 72 = .ok (.iconst 0, 1) := by decide +kernel
theorem dotherwise_73 : decode cX12_otherwise 73 = .ok (.iconst 0, 1) := by decide +kernel
theorem dotherwise_74 : decode cX12_otherwise 74 = .ok (.invokevirtual 790, 3) := by decide +kernel
theorem dotherwise_77 : decode cX12_otherwise 77 = .ok (.ireturn, 1) := by decide +kernel
theorem dotherwise_78 : decode cX12_otherwise 78 = .ok (.aload_n 0, 1) := by decide +kernel
theorem dotherwise_79 : decode cX12_otherwise 79 = .ok (.invokevirtual 814, 3) := by decide +kernel
theorem dotherwise_82 : decode cX12_otherwise 82 = .ok (.ifCond .ne 5, 3) := by decide +kernel
theorem dotherwise_85 : decode cX12_otherwise 85 = .ok (.iconst 0, 1) := by decide +kernel
theorem dotherwise_86 : decode cX12_otherwise 86 = .ok (.ireturn, 1) := by decide +kernel
theorem dotherwise_87 : decode cX12_otherwise 87 = .ok (.aload_n 0, 1) := by decide +kernel
theorem dotherwise_88 : decode cX12_otherwise 88 = .ok (.bipush 25, 2) := by decide +kernel
theorem dotherwise_90 : decode cX12_otherwise 90 = .ok (.iconst 0, 1) := by decide +kernel
theorem dotherwise_91 : decode cX12_otherwise 91 = .ok (.iconst 0, 1) := by decide +kernel
theorem dotherwise_92 : decode cX12_otherwise 92 = .ok (.invokevirtual 732, 3) := by decide +kernel
theorem dotherwise_95 : decode cX12_otherwise 95 = .ok (.istore 4, 2) := by decide +kernel
theorem dotherwise_97 : decode cX12_otherwise 97 = .ok (.aload_n 0, 1) := by decide +kernel
theorem dotherwise_98 : decode cX12_otherwise 98 = .ok (.bipush 30, 2) := by decide +kernel
theorem dotherwise_100 : decode cX12_otherwise 100 = .ok (.iconst 0, 1) := by decide +kernel
theorem dotherwise_101 : decode cX12_otherwise 101 = .ok (.iconst 0, 1) := by decide +kernel
theorem dotherwise_102 : decode cX12_otherwise 102 = .ok (.iconst 0, 1) := by decide +kernel
theorem dotherwise_103 : decode cX12_otherwise 103 = .ok (.invokevirtual 790, 3) := by decide +kernel
theorem dotherwise_106 : decode cX12_otherwise 106 = .ok (.ifCond .eq 37, 3) := by decide +kernel
theorem dotherwise_109 : decode cX12_otherwise 109 = .ok (.aload_n 0, 1) := by decide +kernel
theorem dotherwise_110 : decode cX12_otherwise 110 = .ok (.invokevirtual 589, 3) := by decide +kernel
theorem dotherwise_113 : decode cX12_otherwise 113 = .ok (.ifCond .eq 30, 3) := by decide +kernel
theorem dotherwise_116 : decode cX12_otherwise 116 = .ok (.aload_n 0, 1) := by decide +kernel
theorem dotherwise_117 : decode cX12_otherwise 117 = .ok (.bipush 20, 2) := by decide +kernel
theorem dotherwise_119 : decode cX12_otherwise 119 = .ok (.iconst 0, 1) := by decide +kernel
theorem dotherwise_120 : decode cX12_otherwise 120 = .ok (.iconst 0, 1) := by decide +kernel
theorem dotherwise_121 : decode cX12_otherwise 121 = .ok (.iconst 0, 1) := by decide +kernel
theorem dotherwise_122 : decode cX12_otherwise 122 = .ok (.invokevirtual 790, 3) := by decide +kernel
theorem dotherwise_125 : decode cX12_otherwise 125 = .ok (.ifCond .eq 18, 3) := by decide +kernel
theorem dotherwise_128 : decode cX12_otherwise 128 = .ok (.aload_n 0, 1) := by decide +kernel
theorem dotherwise_129 : decode cX12_otherwise 129 = .ok (.iconst 1, 1) := by decide +kernel
theorem dotherwise_130 : decode cX12_otherwise 130 = .ok (.iconst 0, 1) := by decide +kernel
theorem dotherwise_131 : decode cX12_otherwise 131 = .ok (.iconst 0, 1) := by decide +kernel
theorem dotherwise_132 : decode cX12_otherwise 132 = .ok (.iconst 0, 1) := by decide +kernel
theorem dotherwise_133 : decode cX12_otherwise 133 = .ok (.invokevirtual 790, 3) := by decide +kernel
theorem dotherwise_136 : decode cX12_otherwise 136 = .ok (.ifCond .eq 7, 3) := by decide +kernel
theorem dotherwise_139 : decode cX12_otherwise 139 = .ok (.iconst 1, 1) := by decide +kernel
theorem dotherwise_140 : decode cX12_otherwise 140 = .ok (.goto 4, 3) := by decide +kernel
theorem dotherwise_143 : decode cX12_otherwise 143 = .ok (.iconst 0, 1) := by decide +kernel
theorem dotherwise_144 : decode cX12_otherwise 144 = .ok (.ireturn, 1) := by decide +kernel
section
variable {l : Launch} {D : va_G} {cA : Nat → ClassId} {ad : Nat → Nat}
theorem s_otherwise {a1 : Int} {R r ph q0 b : Int} {tf : mo_TF} {s : List mo_A} {ht st rg : Nat → Int} {tu : Int} {h : ja_H} {Q : Option ja_V → ja_H → Prop} (g : mo_G Zz h) (r1 : -2147483648 ≤ a1 ∧ a1 ≤ 2147483647) (p1 : pk_S h (h 0 17).toNat s) (p2 : piB h R r ph tf q0 ((21, a1, b) :: s) ht st rg tu) (k1 : ∀ (h' : ja_H), (pi_done h h' R r ph tf q0 (pi_mu h ((21, a1, b) :: s))) → mo_G Zz h' → Q (some (0, 1)) h') (k2 : ∀ (h' : ja_H), (0 < (h' 0 8) ∧ (h' 0 1) = (h 0 1) ∧ (h' 0 118) = (h 0 118) ∧ (h' 0 127) = (h 0 127)) → mo_G Zz h' → Q (some (0, 0)) h') : mM_otherwise l D cA ad a1 h Q := by
  show mJ l D cA ad 3 cX12_otherwise 5 (some .boolean) 0 [(0, (2, ((0 : Nat) : Int))), (1, (0, a1))] [] h Q
  have kn_at := gF_at g
  have kn_wTop := gF_wTop g
  have kn_words := gF_words g
  have kn_nest := gF_nest g
  have hN := piB_num g p1 p2
  obtain ⟨N1, N2, N3, N4, N5, N6, N7, N8, N9, N10, N11, N12, N13, ⟨NK1, NK2⟩, ND1, ND2, ND3, NU1, NU2⟩ := hN
  have hn1 : (h 0 18) = 0 + pk_sum pk_c s := p2.1.1
  have ha1 := bs_21 p2
  refine ja_aload_n dotherwise_0 rfl rfl ?_
  refine ja_bipush 12 dotherwise_1 rfl ?_
  refine t_isWord (by decide) (show (0 : Nat) ≤ 8 by decide) dotherwise_3 g ⟨by decide, by decide⟩ ?_
  intro w1 k3_0
  refine ja_if_ne 21 dotherwise_6 rfl ⟨by omega, by omega⟩ (fun c6 => ?_) (fun c6 => ?_)
  · have z6 := is1v k3_0 c6
    replace k3_0 := is1 k3_0 c6
    refine ja_aload_n dotherwise_21 rfl rfl ?_
    refine t_take (by decide) (show (0 : Nat) ≤ 8 by decide) dotherwise_22 g  ?_ ?_
    · intro k22_0 g2
      replace k22_0 : (h 0 7) < 900 := k22_0
      replace g2 : mo_G Zz (ja_up h 0 7 ((h 0 7) + 1)) := g2
      show mJ l D cA ad 3 cX12_otherwise 5 (some .boolean) 25 [(0, (2, ((0 : Nat) : Int))), (1, (0, a1))] [(0, 1)] (ja_up h 0 7 ((h 0 7) + 1)) Q
      refine ja_if_ne 30 dotherwise_25 rfl ⟨by decide, by decide⟩ (fun c25 => ?_) (fun c25 => absurd c25 (by omega))
      refine ja_aload_n dotherwise_30 rfl rfl ?_
      refine ja_bipush 21 dotherwise_31 rfl ?_
      refine ja_iconst dotherwise_33 ?_
      refine ja_iconst dotherwise_34 ?_
      refine t_emit (by decide) (show (0 : Nat) ≤ 8 by decide) dotherwise_35 g2 ⟨by decide, by decide⟩ ⟨by decide, by decide⟩ ⟨by decide, by decide⟩ (show 0 ≤ 21 ∧ 21 ≤ 26 by omega) (show (h 0 113) < 5000 by omega) ?_
      intro g3
      replace g3 : mo_G Zz (ja_up (ja_up (ja_up (ja_up (ja_up h 0 7 ((h 0 7) + 1)) 74 ((h 0 113).toNat) 21) 75 ((h 0 113).toNat) 0) 76 ((h 0 113).toNat) 0) 0 113 ((h 0 113) + 1)) := g3
      show mJ l D cA ad 3 cX12_otherwise 5 (some .boolean) 38 [(0, (2, ((0 : Nat) : Int))), (1, (0, a1))] [(0, (h 0 113))] (ja_up (ja_up (ja_up (ja_up (ja_up h 0 7 ((h 0 7) + 1)) 74 ((h 0 113).toNat) 21) 75 ((h 0 113).toNat) 0) 76 ((h 0 113).toNat) 0) 0 113 ((h 0 113) + 1)) Q
      refine ja_istore_n dotherwise_38 rfl (by decide) (L2 := [(2, (0, (h 0 113))), (0, (2, ((0 : Nat) : Int))), (1, (0, a1))]) rfl ?_
      refine ja_aload_n dotherwise_39 rfl rfl ?_
      refine fa_opA dotherwise_40 ?_
      refine ja_iload_n dotherwise_43 rfl rfl ?_
      refine ja_aload_n dotherwise_44 rfl rfl ?_
      refine fg_words (v := (h 0 113) + 1) rfl dotherwise_45 ?_
      have g4 := gW_opA g3 (a1).toNat (x := (h 0 113) + 1) ⟨by omega, by omega⟩
      refine is_opA ⟨by omega, by omega⟩ dotherwise_48 ?_
      refine ja_aload_n dotherwise_49 rfl rfl ?_
      refine ja_bipush 22 dotherwise_50 rfl ?_
      refine ja_iload_n dotherwise_52 rfl rfl ?_
      refine ja_iconst dotherwise_53 ?_
      refine ja_iconst dotherwise_54 ?_
      refine t_later (by decide) (show (0 : Nat) ≤ 8 by decide) dotherwise_55 g4 ⟨by decide, by decide⟩ ⟨by omega, by omega⟩ ⟨by decide, by decide⟩ ⟨by decide, by decide⟩ (show 0 ≤ 22 ∧ 22 ≤ 38 by omega) (show (h 0 17) < 2000 by omega) ?_
      intro g5
      replace g5 : mo_G Zz (ja_up (ja_up (ja_up (ja_up (ja_up (ja_up (ja_up (ja_up (ja_up (ja_up (ja_up h 0 7 ((h 0 7) + 1)) 74 ((h 0 113).toNat) 21) 75 ((h 0 113).toNat) 0) 76 ((h 0 113).toNat) 0) 0 113 ((h 0 113) + 1)) 75 ((a1).toNat) ((h 0 113) + 1)) 6 ((h 0 17).toNat) 22) 7 ((h 0 17).toNat) (h 0 113)) 8 ((h 0 17).toNat) 0) 9 ((h 0 17).toNat) 0) 0 17 ((h 0 17) + 1)) := g5
      show mJ l D cA ad 3 cX12_otherwise 5 (some .boolean) 58 [(2, (0, (h 0 113))), (0, (2, ((0 : Nat) : Int))), (1, (0, a1))] [(0, 1)] (ja_up (ja_up (ja_up (ja_up (ja_up (ja_up (ja_up (ja_up (ja_up (ja_up (ja_up h 0 7 ((h 0 7) + 1)) 74 ((h 0 113).toNat) 21) 75 ((h 0 113).toNat) 0) 76 ((h 0 113).toNat) 0) 0 113 ((h 0 113) + 1)) 75 ((a1).toNat) ((h 0 113) + 1)) 6 ((h 0 17).toNat) 22) 7 ((h 0 17).toNat) (h 0 113)) 8 ((h 0 17).toNat) 0) 9 ((h 0 17).toNat) 0) 0 17 ((h 0 17) + 1)) Q
      refine ja_istore_n dotherwise_58 rfl (by decide) (L2 := [(3, (0, 1)), (2, (0, (h 0 113))), (0, (2, ((0 : Nat) : Int))), (1, (0, a1))]) rfl ?_
      refine ja_aload_n dotherwise_59 rfl rfl ?_
      refine ja_bipush 19 dotherwise_60 rfl ?_
      refine t_isWord (by decide) (show (0 : Nat) ≤ 8 by decide) dotherwise_62 g5 ⟨by decide, by decide⟩ ?_
      intro w6 k62_0
      replace k62_0 : (w6 = 1 ∧ (h 2 ((h 0 7) + 1).toNat) = 1 ∧ (h 5 ((h 0 7) + 1).toNat) = 19) ∨ (w6 = 0 ∧ ¬ ((h 2 ((h 0 7) + 1).toNat) = 1 ∧ (h 5 ((h 0 7) + 1).toNat) = 19)) := k62_0
      refine ja_if_ne 78 dotherwise_65 rfl ⟨by omega, by omega⟩ (fun c65 => ?_) (fun c65 => ?_)
      · have z65 := is1v k62_0 c65
        replace k62_0 := is1 k62_0 c65
        refine ja_aload_n dotherwise_78 rfl rfl ?_
        refine t_enter (by decide) (show (0 : Nat) ≤ 8 by decide) dotherwise_79 g5  ?_ ?_
        · intro k79_0 g7
          replace k79_0 : (h 0 18) < 16 := k79_0
          replace g7 : mo_G Zz (ja_up (ja_up (ja_up (ja_up (ja_up (ja_up (ja_up (ja_up (ja_up (ja_up (ja_up (ja_up h 0 7 ((h 0 7) + 1)) 74 ((h 0 113).toNat) 21) 75 ((h 0 113).toNat) 0) 76 ((h 0 113).toNat) 0) 0 113 ((h 0 113) + 1)) 75 ((a1).toNat) ((h 0 113) + 1)) 6 ((h 0 17).toNat) 22) 7 ((h 0 17).toNat) (h 0 113)) 8 ((h 0 17).toNat) 0) 9 ((h 0 17).toNat) 0) 0 17 ((h 0 17) + 1)) 0 18 ((h 0 18) + 1)) := g7
          show mJ l D cA ad 3 cX12_otherwise 5 (some .boolean) 82 [(3, (0, 1)), (2, (0, (h 0 113))), (0, (2, ((0 : Nat) : Int))), (1, (0, a1))] [(0, 1)] (ja_up (ja_up (ja_up (ja_up (ja_up (ja_up (ja_up (ja_up (ja_up (ja_up (ja_up (ja_up h 0 7 ((h 0 7) + 1)) 74 ((h 0 113).toNat) 21) 75 ((h 0 113).toNat) 0) 76 ((h 0 113).toNat) 0) 0 113 ((h 0 113) + 1)) 75 ((a1).toNat) ((h 0 113) + 1)) 6 ((h 0 17).toNat) 22) 7 ((h 0 17).toNat) (h 0 113)) 8 ((h 0 17).toNat) 0) 9 ((h 0 17).toNat) 0) 0 17 ((h 0 17) + 1)) 0 18 ((h 0 18) + 1)) Q
          refine ja_if_ne 87 dotherwise_82 rfl ⟨by decide, by decide⟩ (fun c82 => ?_) (fun c82 => absurd c82 (by omega))
          refine ja_aload_n dotherwise_87 rfl rfl ?_
          refine ja_bipush 25 dotherwise_88 rfl ?_
          refine ja_iconst dotherwise_90 ?_
          refine ja_iconst dotherwise_91 ?_
          refine t_emit (by decide) (show (0 : Nat) ≤ 8 by decide) dotherwise_92 g7 ⟨by decide, by decide⟩ ⟨by decide, by decide⟩ ⟨by decide, by decide⟩ (show 0 ≤ 25 ∧ 25 ≤ 26 by omega) (show ((h 0 113) + 1) < 5000 by omega) ?_
          intro g8
          replace g8 : mo_G Zz (ja_up (ja_up (ja_up (ja_up (ja_up (ja_up (ja_up (ja_up (ja_up (ja_up (ja_up (ja_up (ja_up (ja_up (ja_up (ja_up h 0 7 ((h 0 7) + 1)) 74 ((h 0 113).toNat) 21) 75 ((h 0 113).toNat) 0) 76 ((h 0 113).toNat) 0) 0 113 ((h 0 113) + 1)) 75 ((a1).toNat) ((h 0 113) + 1)) 6 ((h 0 17).toNat) 22) 7 ((h 0 17).toNat) (h 0 113)) 8 ((h 0 17).toNat) 0) 9 ((h 0 17).toNat) 0) 0 17 ((h 0 17) + 1)) 0 18 ((h 0 18) + 1)) 74 (((h 0 113) + 1).toNat) 25) 75 (((h 0 113) + 1).toNat) 0) 76 (((h 0 113) + 1).toNat) 0) 0 113 (((h 0 113) + 1) + 1)) := g8
          show mJ l D cA ad 3 cX12_otherwise 5 (some .boolean) 95 [(3, (0, 1)), (2, (0, (h 0 113))), (0, (2, ((0 : Nat) : Int))), (1, (0, a1))] [(0, ((h 0 113) + 1))] (ja_up (ja_up (ja_up (ja_up (ja_up (ja_up (ja_up (ja_up (ja_up (ja_up (ja_up (ja_up (ja_up (ja_up (ja_up (ja_up h 0 7 ((h 0 7) + 1)) 74 ((h 0 113).toNat) 21) 75 ((h 0 113).toNat) 0) 76 ((h 0 113).toNat) 0) 0 113 ((h 0 113) + 1)) 75 ((a1).toNat) ((h 0 113) + 1)) 6 ((h 0 17).toNat) 22) 7 ((h 0 17).toNat) (h 0 113)) 8 ((h 0 17).toNat) 0) 9 ((h 0 17).toNat) 0) 0 17 ((h 0 17) + 1)) 0 18 ((h 0 18) + 1)) 74 (((h 0 113) + 1).toNat) 25) 75 (((h 0 113) + 1).toNat) 0) 76 (((h 0 113) + 1).toNat) 0) 0 113 (((h 0 113) + 1) + 1)) Q
          refine ja_istore dotherwise_95 (by decide) (L2 := [(4, (0, ((h 0 113) + 1))), (3, (0, 1)), (2, (0, (h 0 113))), (0, (2, ((0 : Nat) : Int))), (1, (0, a1))]) rfl ?_
          refine ja_aload_n dotherwise_97 rfl rfl ?_
          refine ja_bipush 30 dotherwise_98 rfl ?_
          refine ja_iconst dotherwise_100 ?_
          refine ja_iconst dotherwise_101 ?_
          refine ja_iconst dotherwise_102 ?_
          refine t_later (by decide) (show (0 : Nat) ≤ 8 by decide) dotherwise_103 g8 ⟨by decide, by decide⟩ ⟨by decide, by decide⟩ ⟨by decide, by decide⟩ ⟨by decide, by decide⟩ (show 0 ≤ 30 ∧ 30 ≤ 38 by omega) (show ((h 0 17) + 1) < 2000 by omega) ?_
          intro g9
          replace g9 : mo_G Zz (ja_up (ja_up (ja_up (ja_up (ja_up (ja_up (ja_up (ja_up (ja_up (ja_up (ja_up (ja_up (ja_up (ja_up (ja_up (ja_up (ja_up (ja_up (ja_up (ja_up (ja_up h 0 7 ((h 0 7) + 1)) 74 ((h 0 113).toNat) 21) 75 ((h 0 113).toNat) 0) 76 ((h 0 113).toNat) 0) 0 113 ((h 0 113) + 1)) 75 ((a1).toNat) ((h 0 113) + 1)) 6 ((h 0 17).toNat) 22) 7 ((h 0 17).toNat) (h 0 113)) 8 ((h 0 17).toNat) 0) 9 ((h 0 17).toNat) 0) 0 17 ((h 0 17) + 1)) 0 18 ((h 0 18) + 1)) 74 (((h 0 113) + 1).toNat) 25) 75 (((h 0 113) + 1).toNat) 0) 76 (((h 0 113) + 1).toNat) 0) 0 113 (((h 0 113) + 1) + 1)) 6 (((h 0 17) + 1).toNat) 30) 7 (((h 0 17) + 1).toNat) 0) 8 (((h 0 17) + 1).toNat) 0) 9 (((h 0 17) + 1).toNat) 0) 0 17 (((h 0 17) + 1) + 1)) := g9
          show mJ l D cA ad 3 cX12_otherwise 5 (some .boolean) 106 [(4, (0, ((h 0 113) + 1))), (3, (0, 1)), (2, (0, (h 0 113))), (0, (2, ((0 : Nat) : Int))), (1, (0, a1))] [(0, 1)] (ja_up (ja_up (ja_up (ja_up (ja_up (ja_up (ja_up (ja_up (ja_up (ja_up (ja_up (ja_up (ja_up (ja_up (ja_up (ja_up (ja_up (ja_up (ja_up (ja_up (ja_up h 0 7 ((h 0 7) + 1)) 74 ((h 0 113).toNat) 21) 75 ((h 0 113).toNat) 0) 76 ((h 0 113).toNat) 0) 0 113 ((h 0 113) + 1)) 75 ((a1).toNat) ((h 0 113) + 1)) 6 ((h 0 17).toNat) 22) 7 ((h 0 17).toNat) (h 0 113)) 8 ((h 0 17).toNat) 0) 9 ((h 0 17).toNat) 0) 0 17 ((h 0 17) + 1)) 0 18 ((h 0 18) + 1)) 74 (((h 0 113) + 1).toNat) 25) 75 (((h 0 113) + 1).toNat) 0) 76 (((h 0 113) + 1).toNat) 0) 0 113 (((h 0 113) + 1) + 1)) 6 (((h 0 17) + 1).toNat) 30) 7 (((h 0 17) + 1).toNat) 0) 8 (((h 0 17) + 1).toNat) 0) 9 (((h 0 17) + 1).toNat) 0) 0 17 (((h 0 17) + 1) + 1)) Q
          refine ja_if_eq 143 dotherwise_106 rfl ⟨by decide, by decide⟩ (fun c106 => absurd c106 (by omega)) (fun c106 => ?_)
          refine ja_aload_n dotherwise_109 rfl rfl ?_
          refine t_take (by decide) (show (0 : Nat) ≤ 8 by decide) dotherwise_110 g9  ?_ ?_
          · intro k110_0 g10
            replace k110_0 : ((h 0 7) + 1) < 900 := k110_0
            replace g10 : mo_G Zz (ja_up (ja_up (ja_up (ja_up (ja_up (ja_up (ja_up (ja_up (ja_up (ja_up (ja_up (ja_up (ja_up (ja_up (ja_up (ja_up (ja_up (ja_up (ja_up (ja_up (ja_up (ja_up h 0 7 ((h 0 7) + 1)) 74 ((h 0 113).toNat) 21) 75 ((h 0 113).toNat) 0) 76 ((h 0 113).toNat) 0) 0 113 ((h 0 113) + 1)) 75 ((a1).toNat) ((h 0 113) + 1)) 6 ((h 0 17).toNat) 22) 7 ((h 0 17).toNat) (h 0 113)) 8 ((h 0 17).toNat) 0) 9 ((h 0 17).toNat) 0) 0 17 ((h 0 17) + 1)) 0 18 ((h 0 18) + 1)) 74 (((h 0 113) + 1).toNat) 25) 75 (((h 0 113) + 1).toNat) 0) 76 (((h 0 113) + 1).toNat) 0) 0 113 (((h 0 113) + 1) + 1)) 6 (((h 0 17) + 1).toNat) 30) 7 (((h 0 17) + 1).toNat) 0) 8 (((h 0 17) + 1).toNat) 0) 9 (((h 0 17) + 1).toNat) 0) 0 17 (((h 0 17) + 1) + 1)) 0 7 (((h 0 7) + 1) + 1)) := g10
            show mJ l D cA ad 3 cX12_otherwise 5 (some .boolean) 113 [(4, (0, ((h 0 113) + 1))), (3, (0, 1)), (2, (0, (h 0 113))), (0, (2, ((0 : Nat) : Int))), (1, (0, a1))] [(0, 1)] (ja_up (ja_up (ja_up (ja_up (ja_up (ja_up (ja_up (ja_up (ja_up (ja_up (ja_up (ja_up (ja_up (ja_up (ja_up (ja_up (ja_up (ja_up (ja_up (ja_up (ja_up (ja_up h 0 7 ((h 0 7) + 1)) 74 ((h 0 113).toNat) 21) 75 ((h 0 113).toNat) 0) 76 ((h 0 113).toNat) 0) 0 113 ((h 0 113) + 1)) 75 ((a1).toNat) ((h 0 113) + 1)) 6 ((h 0 17).toNat) 22) 7 ((h 0 17).toNat) (h 0 113)) 8 ((h 0 17).toNat) 0) 9 ((h 0 17).toNat) 0) 0 17 ((h 0 17) + 1)) 0 18 ((h 0 18) + 1)) 74 (((h 0 113) + 1).toNat) 25) 75 (((h 0 113) + 1).toNat) 0) 76 (((h 0 113) + 1).toNat) 0) 0 113 (((h 0 113) + 1) + 1)) 6 (((h 0 17) + 1).toNat) 30) 7 (((h 0 17) + 1).toNat) 0) 8 (((h 0 17) + 1).toNat) 0) 9 (((h 0 17) + 1).toNat) 0) 0 17 (((h 0 17) + 1) + 1)) 0 7 (((h 0 7) + 1) + 1)) Q
            refine ja_if_eq 143 dotherwise_113 rfl ⟨by decide, by decide⟩ (fun c113 => absurd c113 (by omega)) (fun c113 => ?_)
            refine ja_aload_n dotherwise_116 rfl rfl ?_
            refine ja_bipush 20 dotherwise_117 rfl ?_
            refine ja_iconst dotherwise_119 ?_
            refine ja_iconst dotherwise_120 ?_
            refine ja_iconst dotherwise_121 ?_
            refine t_later (by decide) (show (0 : Nat) ≤ 8 by decide) dotherwise_122 g10 ⟨by decide, by decide⟩ ⟨by decide, by decide⟩ ⟨by decide, by decide⟩ ⟨by decide, by decide⟩ (show 0 ≤ 20 ∧ 20 ≤ 38 by omega) (show (((h 0 17) + 1) + 1) < 2000 by omega) ?_
            intro g11
            replace g11 : mo_G Zz (ja_up (ja_up (ja_up (ja_up (ja_up (ja_up (ja_up (ja_up (ja_up (ja_up (ja_up (ja_up (ja_up (ja_up (ja_up (ja_up (ja_up (ja_up (ja_up (ja_up (ja_up (ja_up (ja_up (ja_up (ja_up (ja_up (ja_up h 0 7 ((h 0 7) + 1)) 74 ((h 0 113).toNat) 21) 75 ((h 0 113).toNat) 0) 76 ((h 0 113).toNat) 0) 0 113 ((h 0 113) + 1)) 75 ((a1).toNat) ((h 0 113) + 1)) 6 ((h 0 17).toNat) 22) 7 ((h 0 17).toNat) (h 0 113)) 8 ((h 0 17).toNat) 0) 9 ((h 0 17).toNat) 0) 0 17 ((h 0 17) + 1)) 0 18 ((h 0 18) + 1)) 74 (((h 0 113) + 1).toNat) 25) 75 (((h 0 113) + 1).toNat) 0) 76 (((h 0 113) + 1).toNat) 0) 0 113 (((h 0 113) + 1) + 1)) 6 (((h 0 17) + 1).toNat) 30) 7 (((h 0 17) + 1).toNat) 0) 8 (((h 0 17) + 1).toNat) 0) 9 (((h 0 17) + 1).toNat) 0) 0 17 (((h 0 17) + 1) + 1)) 0 7 (((h 0 7) + 1) + 1)) 6 ((((h 0 17) + 1) + 1).toNat) 20) 7 ((((h 0 17) + 1) + 1).toNat) 0) 8 ((((h 0 17) + 1) + 1).toNat) 0) 9 ((((h 0 17) + 1) + 1).toNat) 0) 0 17 ((((h 0 17) + 1) + 1) + 1)) := g11
            show mJ l D cA ad 3 cX12_otherwise 5 (some .boolean) 125 [(4, (0, ((h 0 113) + 1))), (3, (0, 1)), (2, (0, (h 0 113))), (0, (2, ((0 : Nat) : Int))), (1, (0, a1))] [(0, 1)] (ja_up (ja_up (ja_up (ja_up (ja_up (ja_up (ja_up (ja_up (ja_up (ja_up (ja_up (ja_up (ja_up (ja_up (ja_up (ja_up (ja_up (ja_up (ja_up (ja_up (ja_up (ja_up (ja_up (ja_up (ja_up (ja_up (ja_up h 0 7 ((h 0 7) + 1)) 74 ((h 0 113).toNat) 21) 75 ((h 0 113).toNat) 0) 76 ((h 0 113).toNat) 0) 0 113 ((h 0 113) + 1)) 75 ((a1).toNat) ((h 0 113) + 1)) 6 ((h 0 17).toNat) 22) 7 ((h 0 17).toNat) (h 0 113)) 8 ((h 0 17).toNat) 0) 9 ((h 0 17).toNat) 0) 0 17 ((h 0 17) + 1)) 0 18 ((h 0 18) + 1)) 74 (((h 0 113) + 1).toNat) 25) 75 (((h 0 113) + 1).toNat) 0) 76 (((h 0 113) + 1).toNat) 0) 0 113 (((h 0 113) + 1) + 1)) 6 (((h 0 17) + 1).toNat) 30) 7 (((h 0 17) + 1).toNat) 0) 8 (((h 0 17) + 1).toNat) 0) 9 (((h 0 17) + 1).toNat) 0) 0 17 (((h 0 17) + 1) + 1)) 0 7 (((h 0 7) + 1) + 1)) 6 ((((h 0 17) + 1) + 1).toNat) 20) 7 ((((h 0 17) + 1) + 1).toNat) 0) 8 ((((h 0 17) + 1) + 1).toNat) 0) 9 ((((h 0 17) + 1) + 1).toNat) 0) 0 17 ((((h 0 17) + 1) + 1) + 1)) Q
            refine ja_if_eq 143 dotherwise_125 rfl ⟨by decide, by decide⟩ (fun c125 => absurd c125 (by omega)) (fun c125 => ?_)
            refine ja_aload_n dotherwise_128 rfl rfl ?_
            refine ja_iconst dotherwise_129 ?_
            refine ja_iconst dotherwise_130 ?_
            refine ja_iconst dotherwise_131 ?_
            refine ja_iconst dotherwise_132 ?_
            refine t_later (by decide) (show (0 : Nat) ≤ 8 by decide) dotherwise_133 g11 ⟨by decide, by decide⟩ ⟨by decide, by decide⟩ ⟨by decide, by decide⟩ ⟨by decide, by decide⟩ (show 0 ≤ 1 ∧ 1 ≤ 38 by omega) (show ((((h 0 17) + 1) + 1) + 1) < 2000 by omega) ?_
            intro g12
            replace g12 : mo_G Zz (ja_up (ja_up (ja_up (ja_up (ja_up (ja_up (ja_up (ja_up (ja_up (ja_up (ja_up (ja_up (ja_up (ja_up (ja_up (ja_up (ja_up (ja_up (ja_up (ja_up (ja_up (ja_up (ja_up (ja_up (ja_up (ja_up (ja_up (ja_up (ja_up (ja_up (ja_up (ja_up h 0 7 ((h 0 7) + 1)) 74 ((h 0 113).toNat) 21) 75 ((h 0 113).toNat) 0) 76 ((h 0 113).toNat) 0) 0 113 ((h 0 113) + 1)) 75 ((a1).toNat) ((h 0 113) + 1)) 6 ((h 0 17).toNat) 22) 7 ((h 0 17).toNat) (h 0 113)) 8 ((h 0 17).toNat) 0) 9 ((h 0 17).toNat) 0) 0 17 ((h 0 17) + 1)) 0 18 ((h 0 18) + 1)) 74 (((h 0 113) + 1).toNat) 25) 75 (((h 0 113) + 1).toNat) 0) 76 (((h 0 113) + 1).toNat) 0) 0 113 (((h 0 113) + 1) + 1)) 6 (((h 0 17) + 1).toNat) 30) 7 (((h 0 17) + 1).toNat) 0) 8 (((h 0 17) + 1).toNat) 0) 9 (((h 0 17) + 1).toNat) 0) 0 17 (((h 0 17) + 1) + 1)) 0 7 (((h 0 7) + 1) + 1)) 6 ((((h 0 17) + 1) + 1).toNat) 20) 7 ((((h 0 17) + 1) + 1).toNat) 0) 8 ((((h 0 17) + 1) + 1).toNat) 0) 9 ((((h 0 17) + 1) + 1).toNat) 0) 0 17 ((((h 0 17) + 1) + 1) + 1)) 6 (((((h 0 17) + 1) + 1) + 1).toNat) 1) 7 (((((h 0 17) + 1) + 1) + 1).toNat) 0) 8 (((((h 0 17) + 1) + 1) + 1).toNat) 0) 9 (((((h 0 17) + 1) + 1) + 1).toNat) 0) 0 17 (((((h 0 17) + 1) + 1) + 1) + 1)) := g12
            show mJ l D cA ad 3 cX12_otherwise 5 (some .boolean) 136 [(4, (0, ((h 0 113) + 1))), (3, (0, 1)), (2, (0, (h 0 113))), (0, (2, ((0 : Nat) : Int))), (1, (0, a1))] [(0, 1)] (ja_up (ja_up (ja_up (ja_up (ja_up (ja_up (ja_up (ja_up (ja_up (ja_up (ja_up (ja_up (ja_up (ja_up (ja_up (ja_up (ja_up (ja_up (ja_up (ja_up (ja_up (ja_up (ja_up (ja_up (ja_up (ja_up (ja_up (ja_up (ja_up (ja_up (ja_up (ja_up h 0 7 ((h 0 7) + 1)) 74 ((h 0 113).toNat) 21) 75 ((h 0 113).toNat) 0) 76 ((h 0 113).toNat) 0) 0 113 ((h 0 113) + 1)) 75 ((a1).toNat) ((h 0 113) + 1)) 6 ((h 0 17).toNat) 22) 7 ((h 0 17).toNat) (h 0 113)) 8 ((h 0 17).toNat) 0) 9 ((h 0 17).toNat) 0) 0 17 ((h 0 17) + 1)) 0 18 ((h 0 18) + 1)) 74 (((h 0 113) + 1).toNat) 25) 75 (((h 0 113) + 1).toNat) 0) 76 (((h 0 113) + 1).toNat) 0) 0 113 (((h 0 113) + 1) + 1)) 6 (((h 0 17) + 1).toNat) 30) 7 (((h 0 17) + 1).toNat) 0) 8 (((h 0 17) + 1).toNat) 0) 9 (((h 0 17) + 1).toNat) 0) 0 17 (((h 0 17) + 1) + 1)) 0 7 (((h 0 7) + 1) + 1)) 6 ((((h 0 17) + 1) + 1).toNat) 20) 7 ((((h 0 17) + 1) + 1).toNat) 0) 8 ((((h 0 17) + 1) + 1).toNat) 0) 9 ((((h 0 17) + 1) + 1).toNat) 0) 0 17 ((((h 0 17) + 1) + 1) + 1)) 6 (((((h 0 17) + 1) + 1) + 1).toNat) 1) 7 (((((h 0 17) + 1) + 1) + 1).toNat) 0) 8 (((((h 0 17) + 1) + 1) + 1).toNat) 0) 9 (((((h 0 17) + 1) + 1) + 1).toNat) 0) 0 17 (((((h 0 17) + 1) + 1) + 1) + 1)) Q
            refine ja_if_eq 143 dotherwise_136 rfl ⟨by decide, by decide⟩ (fun c136 => absurd c136 (by omega)) (fun c136 => ?_)
            refine ja_iconst dotherwise_139 ?_
            refine ja_goto 144 dotherwise_140 rfl ?_
            refine ja_zreturn dotherwise_144 rfl (by omega) ?_
            exact mo_fin (by omega) rfl (k1 (ja_up (ja_up (ja_up (ja_up (ja_up (ja_up (ja_up (ja_up (ja_up (ja_up (ja_up (ja_up (ja_up (ja_up (ja_up (ja_up (ja_up (ja_up (ja_up (ja_up (ja_up (ja_up (ja_up (ja_up (ja_up (ja_up (ja_up (ja_up (ja_up (ja_up (ja_up (ja_up h 0 7 ((h 0 7) + 1)) 74 ((h 0 113).toNat) 21) 75 ((h 0 113).toNat) 0) 76 ((h 0 113).toNat) 0) 0 113 ((h 0 113) + 1)) 75 ((a1).toNat) ((h 0 113) + 1)) 6 ((h 0 17).toNat) 22) 7 ((h 0 17).toNat) (h 0 113)) 8 ((h 0 17).toNat) 0) 9 ((h 0 17).toNat) 0) 0 17 ((h 0 17) + 1)) 0 18 ((h 0 18) + 1)) 74 (((h 0 113) + 1).toNat) 25) 75 (((h 0 113) + 1).toNat) 0) 76 (((h 0 113) + 1).toNat) 0) 0 113 (((h 0 113) + 1) + 1)) 6 (((h 0 17) + 1).toNat) 30) 7 (((h 0 17) + 1).toNat) 0) 8 (((h 0 17) + 1).toNat) 0) 9 (((h 0 17) + 1).toNat) 0) 0 17 (((h 0 17) + 1) + 1)) 0 7 (((h 0 7) + 1) + 1)) 6 ((((h 0 17) + 1) + 1).toNat) 20) 7 ((((h 0 17) + 1) + 1).toNat) 0) 8 ((((h 0 17) + 1) + 1).toNat) 0) 9 ((((h 0 17) + 1) + 1).toNat) 0) 0 17 ((((h 0 17) + 1) + 1) + 1)) 6 (((((h 0 17) + 1) + 1) + 1).toNat) 1) 7 (((((h 0 17) + 1) + 1) + 1).toNat) 0) 8 (((((h 0 17) + 1) + 1) + 1).toNat) 0) 9 (((((h 0 17) + 1) + 1) + 1).toNat) 0) 0 17 (((((h 0 17) + 1) + 1) + 1) + 1)) (ab_else_if g p1 p2) g12)
          · intro h13 k110_1 g14
            replace k110_1 : 0 < (h13 0 8) ∧ (h13 0 1) = (h 0 1) ∧ (h13 0 118) = (h 0 118) ∧ (h13 0 127) = (h 0 127) := k110_1
            refine ja_if_eq 143 dotherwise_113 rfl ⟨by decide, by decide⟩ (fun c113 => ?_) (fun c113 => absurd c113 (by omega))
            refine ja_iconst dotherwise_143 ?_
            refine ja_zreturn dotherwise_144 rfl (by omega) ?_
            exact mo_fin (by omega) rfl (k2 h13 (by omega) g14)
        · intro h15 k79_1 g16
          replace k79_1 : 0 < (h15 0 8) ∧ (h15 0 1) = (h 0 1) ∧ (h15 0 118) = (h 0 118) ∧ (h15 0 127) = (h 0 127) := k79_1
          refine ja_if_ne 87 dotherwise_82 rfl ⟨by decide, by decide⟩ (fun c82 => absurd c82 (by omega)) (fun c82 => ?_)
          refine ja_iconst dotherwise_85 ?_
          refine ja_zreturn dotherwise_86 rfl (by omega) ?_
          exact mo_fin (by omega) rfl (k2 h15 (by omega) g16)
      · replace k62_0 := is0 k62_0 c65
        refine ja_aload_n dotherwise_68 rfl rfl ?_
        refine ja_bipush 14 dotherwise_69 rfl ?_
        refine ja_iconst dotherwise_71 ?_
        refine ja_iconst dotherwise_72 ?_
        refine ja_iconst dotherwise_73 ?_
        refine t_later (by decide) (show (0 : Nat) ≤ 8 by decide) dotherwise_74 g5 ⟨by decide, by decide⟩ ⟨by decide, by decide⟩ ⟨by decide, by decide⟩ ⟨by decide, by decide⟩ (show 0 ≤ 14 ∧ 14 ≤ 38 by omega) (show ((h 0 17) + 1) < 2000 by omega) ?_
        intro g17
        replace g17 : mo_G Zz (ja_up (ja_up (ja_up (ja_up (ja_up (ja_up (ja_up (ja_up (ja_up (ja_up (ja_up (ja_up (ja_up (ja_up (ja_up (ja_up h 0 7 ((h 0 7) + 1)) 74 ((h 0 113).toNat) 21) 75 ((h 0 113).toNat) 0) 76 ((h 0 113).toNat) 0) 0 113 ((h 0 113) + 1)) 75 ((a1).toNat) ((h 0 113) + 1)) 6 ((h 0 17).toNat) 22) 7 ((h 0 17).toNat) (h 0 113)) 8 ((h 0 17).toNat) 0) 9 ((h 0 17).toNat) 0) 0 17 ((h 0 17) + 1)) 6 (((h 0 17) + 1).toNat) 14) 7 (((h 0 17) + 1).toNat) 0) 8 (((h 0 17) + 1).toNat) 0) 9 (((h 0 17) + 1).toNat) 0) 0 17 (((h 0 17) + 1) + 1)) := g17
        show mJ l D cA ad 3 cX12_otherwise 5 (some .boolean) 77 [(3, (0, 1)), (2, (0, (h 0 113))), (0, (2, ((0 : Nat) : Int))), (1, (0, a1))] [(0, 1)] (ja_up (ja_up (ja_up (ja_up (ja_up (ja_up (ja_up (ja_up (ja_up (ja_up (ja_up (ja_up (ja_up (ja_up (ja_up (ja_up h 0 7 ((h 0 7) + 1)) 74 ((h 0 113).toNat) 21) 75 ((h 0 113).toNat) 0) 76 ((h 0 113).toNat) 0) 0 113 ((h 0 113) + 1)) 75 ((a1).toNat) ((h 0 113) + 1)) 6 ((h 0 17).toNat) 22) 7 ((h 0 17).toNat) (h 0 113)) 8 ((h 0 17).toNat) 0) 9 ((h 0 17).toNat) 0) 0 17 ((h 0 17) + 1)) 6 (((h 0 17) + 1).toNat) 14) 7 (((h 0 17) + 1).toNat) 0) 8 (((h 0 17) + 1).toNat) 0) 9 (((h 0 17) + 1).toNat) 0) 0 17 (((h 0 17) + 1) + 1)) Q
        refine ja_zreturn dotherwise_77 rfl (by omega) ?_
        exact mo_fin (by omega) rfl (k1 (ja_up (ja_up (ja_up (ja_up (ja_up (ja_up (ja_up (ja_up (ja_up (ja_up (ja_up (ja_up (ja_up (ja_up (ja_up (ja_up h 0 7 ((h 0 7) + 1)) 74 ((h 0 113).toNat) 21) 75 ((h 0 113).toNat) 0) 76 ((h 0 113).toNat) 0) 0 113 ((h 0 113) + 1)) 75 ((a1).toNat) ((h 0 113) + 1)) 6 ((h 0 17).toNat) 22) 7 ((h 0 17).toNat) (h 0 113)) 8 ((h 0 17).toNat) 0) 9 ((h 0 17).toNat) 0) 0 17 ((h 0 17) + 1)) 6 (((h 0 17) + 1).toNat) 14) 7 (((h 0 17) + 1).toNat) 0) 8 (((h 0 17) + 1).toNat) 0) 9 (((h 0 17) + 1).toNat) 0) 0 17 (((h 0 17) + 1) + 1)) (ab_else_bl g p1 p2) g17)
    · intro h18 k22_1 g19
      refine ja_if_ne 30 dotherwise_25 rfl ⟨by decide, by decide⟩ (fun c25 => absurd c25 (by omega)) (fun c25 => ?_)
      refine ja_iconst dotherwise_28 ?_
      refine ja_zreturn dotherwise_29 rfl (by omega) ?_
      exact mo_fin (by omega) rfl (k2 h18 (by omega) g19)
  · replace k3_0 := is0 k3_0 c6
    refine ja_aload_n dotherwise_9 rfl rfl ?_
    refine fa_opA dotherwise_10 ?_
    refine ja_iload_n dotherwise_13 rfl rfl ?_
    refine ja_aload_n dotherwise_14 rfl rfl ?_
    refine fg_words (v := h 0 113) rfl dotherwise_15 ?_
    have f20 := gF_words g
    have g21 := gW_opA g (a1).toNat (x := h 0 113) ⟨by omega, by omega⟩
    refine is_opA ⟨by omega, by omega⟩ dotherwise_18 ?_
    refine ja_iconst dotherwise_19 ?_
    refine ja_zreturn dotherwise_20 rfl (by omega) ?_
    exact mo_fin (by omega) rfl (k1 (ja_up h 75 ((a1).toNat) (h 0 113)) (ab_else_end g p1 p2) g21)
theorem t_otherwise {a1 : Int} {R r ph q0 b : Int} {tf : mo_TF} {s : List mo_A} {ht st rg : Nat → Int} {tu : Int} {d nL pc : Nat} {cc : ByteArray} {rt : Option FieldType} {L : List (Nat × ja_V)} {S : List ja_V} {h : ja_H} {Q : Option ja_V → ja_H → Prop} (hdd : 3 < d) (hwd : ja_wd S ≤ 8) (hd : decode cc pc = .ok (.invokevirtual 829, 3)) (g : mo_G Zz h) (r1 : -2147483648 ≤ a1 ∧ a1 ≤ 2147483647) (p1 : pk_S h (h 0 17).toNat s) (p2 : piB h R r ph tf q0 ((21, a1, b) :: s) ht st rg tu) (k1 : ∀ (h' : ja_H), (pi_done h h' R r ph tf q0 (pi_mu h ((21, a1, b) :: s))) → mo_G Zz h' → mJ l D cA ad d cc nL rt (pc + 3) L ((0, 1) :: S) h' Q) (k2 : ∀ (h' : ja_H), (0 < (h' 0 8) ∧ (h' 0 1) = (h 0 1) ∧ (h' 0 118) = (h 0 118) ∧ (h' 0 127) = (h 0 127)) → mo_G Zz h' → mJ l D cA ad d cc nL rt (pc + 3) L ((0, 0) :: S) h' Q) : mJ l D cA ad d cc nL rt pc L ((0, a1) :: (2, ((0 : Nat) : Int)) :: S) h Q :=
  mc_otherwise hdd hwd hd (s_otherwise g r1 p1 p2 k1 k2)
end
theorem dtried_0 : decode cX12_tried 0 = .ok (.aload_n 0, 1) := by decide +kernel
theorem dtried_1 : decode cX12_tried 1 = .ok (.bipush 9, 2) := by decide +kernel
theorem dtried_3 : decode cX12_tried 3 = .ok (.invokevirtual 596, 3) := by decide +kernel
theorem dtried_6 : decode cX12_tried 6 = .ok (.ifCond .ne 8, 3) := by decide +kernel
theorem dtried_9 : decode cX12_tried 9 = .ok (.aload_n 0, 1) := by decide +kernel
theorem dtried_10 : decode cX12_tried 10 = .ok (.invokevirtual 593, 3) := by decide +kernel
theorem dtried_13 : decode cX12_tried 13 = .ok (.ireturn, 1) := by decide +kernel
theorem dtried_14 : decode cX12_tried 14 = .ok (.aload_n 0, 1) := by decide +kernel
theorem dtried_15 : decode cX12_tried 15 = .ok (.iconst 5, 1) := by decide +kernel
theorem dtried_16 : decode cX12_tried 16 = .ok (.invokevirtual 751, 3) := by decide +kernel
theorem dtried_19 : decode cX12_tried 19 = .ok (.istore_n 2, 1) := by decide +kernel
theorem dtried_20 : decode cX12_tried 20 = .ok (.iload_n 2, 1) := by decide +kernel
theorem dtried_21 : decode cX12_tried 21 = .ok (.ifCond .ge 5, 3) := by decide +kernel
theorem dtried_24 : decode cX12_tried 24 = .ok (.iconst 0, 1) := by decide +kernel
theorem dtried_25 : decode cX12_tried 25 = .ok (.ireturn, 1) := by decide +kernel
theorem dtried_26 : decode cX12_tried 26 = .ok (.aload_n 0, 1) := by decide +kernel
theorem dtried_27 : decode cX12_tried 27 = .ok (.getfield 173, 3) := by decide +kernel
theorem dtried_30 : decode cX12_tried 30 = .ok (.iload_n 2, 1) := by decide +kernel
theorem dtried_31 : decode cX12_tried 31 = .ok (.iconst 1, 1) := by decide +kernel
theorem dtried_32 : decode cX12_tried 32 = .ok (.iastore, 1) := by decide +kernel
theorem dtried_33 : decode cX12_tried 33 = .ok (.aload_n 0, 1) := by decide +kernel
theorem dtried_34 : decode cX12_tried 34 = .ok (.bipush 24, 2) := by decide +kernel
theorem dtried_36 : decode cX12_tried 36 = .ok (.iconst 0, 1) := by decide +kernel
theorem dtried_37 : decode cX12_tried 37 = .ok (.iconst 0, 1) := by decide +kernel
theorem dtried_38 : decode cX12_tried 38 = .ok (.invokevirtual 732, 3) := by decide +kernel
theorem dtried_41 : decode cX12_tried 41 = .ok (.istore_n 3, 1) := by decide +kernel
theorem dtried_42 : decode cX12_tried 42 = .ok (.aload_n 0, 1) := by decide +kernel
theorem dtried_43 : decode cX12_tried 43 = .ok (.getfield 234, 3) := by decide +kernel
theorem dtried_46 : decode cX12_tried 46 = .ok (.iload_n 1, 1) := by decide +kernel
theorem dtried_47 : decode cX12_tried 47 = .ok (.aload_n 0, 1) := by decide +kernel
theorem dtried_48 : decode cX12_tried 48 = .ok (.getfield 611, 3) := by decide +kernel
theorem dtried_51 : decode cX12_tried 51 = .ok (.iastore, 1) := by decide +kernel
theorem dtried_52 : decode cX12_tried 52 = .ok (.aload_n 0, 1) := by decide +kernel
theorem dtried_53 : decode cX12_tried 53 = .ok (.invokevirtual 589, 3) := by decide +kernel
theorem dtried_56 : decode cX12_tried 56 = .ok (.ifCond .ne 5, 3) := by decide +kernel
theorem dtried_59 : decode cX12_tried 59 = .ok (.iconst 0, 1) := by decide +kernel
theorem dtried_60 : decode cX12_tried 60 = .ok (.ireturn, 1) := by decide +kernel
theorem dtried_61 : decode cX12_tried 61 = .ok (.aload_n 0, 1) := by decide +kernel
theorem dtried_62 : decode cX12_tried 62 = .ok (.invokevirtual 599, 3) := by decide +kernel
theorem dtried_65 : decode cX12_tried 65 = .ok (.ifCond .eq 18, 3) := by decide +kernel
theorem dtried_68 : decode cX12_tried 68 = .ok (.aload_n 0, 1) := by decide +kernel
theorem dtried_69 : decode cX12_tried 69 = .ok (.getfield 710, 3) := by decide +kernel
theorem dtried_72 : decode cX12_tried 72 = .ok (.bipush 10, 2) := by decide +kernel
theorem dtried_74 : decode cX12_tried 74 = .ok (.if_icmp .ne 9, 3) := by decide +kernel
theorem dtried_77 : decode cX12_tried 77 = .ok (.aload_n 0, 1) := by decide +kernel
theorem dtried_78 : decode cX12_tried 78 = .ok (.iconst 3, 1) := by decide +kernel
theorem dtried_79 : decode cX12_tried 79 = .ok (.invokevirtual 583, 3) := by decide +kernel
theorem dtried_82 : decode cX12_tried 82 = .ok (.ireturn, 1) := by decide +kernel
theorem dtried_83 : decode cX12_tried 83 = .ok (.aload_n 0, 1) := by decide +kernel
theorem dtried_84 : decode cX12_tried 84 = .ok (.getfield 574, 3) := by decide +kernel
theorem dtried_87 : decode cX12_tried 87 = .ok (.istore 4, 2) := by decide +kernel
theorem dtried_89 : decode cX12_tried 89 = .ok (.aload_n 0, 1) := by decide +kernel
theorem dtried_90 : decode cX12_tried 90 = .ok (.invokevirtual 739, 3) := by decide +kernel
theorem dtried_93 : decode cX12_tried 93 = .ok (.ifCond .ne 5, 3) := by decide +kernel
theorem dtried_96 : decode cX12_tried 96 = .ok (.iconst 0, 1) := by decide +kernel
theorem dtried_97 : decode cX12_tried 97 = .ok (.ireturn, 1) := by decide +kernel
theorem dtried_98 : decode cX12_tried 98 = .ok (.aload_n 0, 1) := by decide +kernel
theorem dtried_99 : decode cX12_tried 99 = .ok (.getfield 713, 3) := by decide +kernel
theorem dtried_102 : decode cX12_tried 102 = .ok (.istore 5, 2) := by decide +kernel
theorem dtried_104 : decode cX12_tried 104 = .ok (.aload_n 0, 1) := by decide +kernel
theorem dtried_105 : decode cX12_tried 105 = .ok (.iload 4, 2) := by decide +kernel
theorem dtried_107 : decode cX12_tried 107 = .ok (.invokevirtual 820, 3) := by decide +kernel
theorem dtried_110 : decode cX12_tried 110 = .ok (.aload_n 0, 1) := by decide +kernel
theorem dtried_111 : decode cX12_tried 111 = .ok (.bipush 15, 2) := by decide +kernel
theorem dtried_113 : decode cX12_tried 113 = .ok (.iload_n 2, 1) := by decide +kernel
theorem dtried_114 : decode cX12_tried 114 = .ok (.iconst 0, 1) := by decide +kernel
theorem dtried_115 : decode cX12_tried 115 = .ok (.invokevirtual 732, 3) := by decide +kernel
theorem dtried_118 : decode cX12_tried 118 = .ok (.istore 6, 2) := by decide +kernel
theorem dtried_120 : decode cX12_tried 120 = .ok (.aload_n 0, 1) := by decide +kernel
theorem dtried_121 : decode cX12_tried 121 = .ok (.iconst 5, 1) := by decide +kernel
theorem dtried_122 : decode cX12_tried 122 = .ok (.aload_n 0, 1) := by decide +kernel
theorem dtried_123 : decode cX12_tried 123 = .ok (.getfield 710, 3) := by decide +kernel
theorem dtried_126 : decode cX12_tried 126 = .ok (.iconst 1, 1) := by decide +kernel
theorem dtried_127 : decode cX12_tried 127 = .ok (.isub, 1) := by decide +kernel
theorem dtried_128 : decode cX12_tried 128 = .ok (.iconst 0, 1) := by decide +kernel
theorem dtried_129 : decode cX12_tried 129 = .ok (.invokevirtual 732, 3) := by decide +kernel
theorem dtried_132 : decode cX12_tried 132 = .ok (.istore 7, 2) := by decide +kernel
theorem dtried_134 : decode cX12_tried 134 = .ok (.aload_n 0, 1) := by decide +kernel
theorem dtried_135 : decode cX12_tried 135 = .ok (.bipush 22, 2) := by decide +kernel
theorem dtried_137 : decode cX12_tried 137 = .ok (.iload_n 3, 1) := by decide +kernel
theorem dtried_138 : decode cX12_tried 138 = .ok (.iconst 0, 1) := by decide +kernel
theorem dtried_139 : decode cX12_tried 139 = .ok (.iconst 0, 1) := by decide +kernel
theorem dtried_140 : decode cX12_tried 140 = .ok (.invokevirtual 790, 3) := by decide +kernel
theorem dtried_143 : decode cX12_tried 143 = .ok (.ifCond .eq 32, 3) := by decide +kernel
theorem dtried_146 : decode cX12_tried 146 = .ok (.aload_n 0, 1) := by decide +kernel
theorem dtried_147 : decode cX12_tried 147 = .ok (.bipush 16, 2) := by decide +kernel
theorem dtried_149 : decode cX12_tried 149 = .ok (.iload 5, 2) := by decide +kernel
theorem dtried_151 : decode cX12_tried 151 = .ok (.iconst 0, 1) := by decide +kernel
theorem dtried_152 : decode cX12_tried 152 = .ok (.iconst 0, 1) := by decide +kernel
theorem dtried_153 : decode cX12_tried 153 = .ok (.invokevirtual 790, 3) := by decide +kernel
theorem dtried_156 : decode cX12_tried 156 = .ok (.ifCond .eq 19, 3) := by decide +kernel
theorem dtried_159 : decode cX12_tried 159 = .ok (.aload_n 0, 1) := by decide +kernel
theorem dtried_160 : decode cX12_tried 160 = .ok (.bipush 14, 2) := by decide +kernel
theorem dtried_162 : decode cX12_tried 162 = .ok (.iconst 0, 1) := by decide +kernel
theorem dtried_163 : decode cX12_tried 163 = .ok (.iconst 0, 1) := by decide +kernel
theorem dtried_164 : decode cX12_tried 164 = .ok (.iconst 0, 1) := by decide +kernel
theorem dtried_165 : decode cX12_tried 165 = .ok (.invokevirtual 790, 3) := by decide +kernel
theorem dtried_168 : decode cX12_tried 168 = .ok (.ifCond .eq 7, 3) := by decide +kernel
theorem dtried_171 : decode cX12_tried 171 = .ok (.iconst 1, 1) := by decide +kernel
theorem dtried_172 : decode cX12_tried 172 = .ok (.goto 4, 3) := by decide +kernel
theorem dtried_175 : decode cX12_tried 175 = .ok (.iconst 0, 1) := by decide +kernel
theorem dtried_176 : decode cX12_tried 176 = .ok (.ireturn, 1) := by decide +kernel
section
variable {l : Launch} {D : va_G} {cA : Nat → ClassId} {ad : Nat → Nat}
theorem s_tried {a1 : Int} {R r ph q0 b : Int} {tf : mo_TF} {s : List mo_A} {ht st rg : Nat → Int} {tu : Int} {h : ja_H} {Q : Option ja_V → ja_H → Prop} (g : mo_G Zz h) (r1 : -2147483648 ≤ a1 ∧ a1 ≤ 2147483647) (p1 : pk_S h (h 0 17).toNat s) (p2 : piB h R r ph tf q0 ((28, a1, b) :: s) ht st rg tu) (p3 : ph = 1 ∨ (h 0 74) ≤ 1 ∨ (h 0 75) ≤ 24) (k1 : ∀ (h' : ja_H), (pi_done h h' R r ph tf q0 (pi_mu h ((28, a1, b) :: s))) → mo_G Zz h' → Q (some (0, 1)) h') (k2 : ∀ (h' : ja_H), (0 < (h' 0 8) ∧ (h' 0 1) = (h 0 1) ∧ (h' 0 118) = (h 0 118) ∧ (h' 0 127) = (h 0 127)) → mo_G Zz h' → Q (some (0, 0)) h') : mM_tried l D cA ad a1 h Q := by
  show mJ l D cA ad 4 cX12_tried 8 (some .boolean) 0 [(0, (2, ((0 : Nat) : Int))), (1, (0, a1))] [] h Q
  have kn_at := gF_at g
  have kn_wTop := gF_wTop g
  have kn_words := gF_words g
  have kn_nest := gF_nest g
  have kn_body := gF_body g
  have kn_bodyNumber := gF_bodyNumber g
  have kn_points := gF_points g
  have kn_locals := gF_locals g
  have kn_known := gF_known g
  have kn_false1 := gF_false1 g
  have hN := piB_num g p1 p2
  obtain ⟨N1, N2, N3, N4, N5, N6, N7, N8, N9, N10, N11, N12, N13, ⟨NK1, NK2⟩, ND1, ND2, ND3, NU1, NU2⟩ := hN
  have hn1 : (h 0 18) = 0 + pk_sum pk_c s := p2.1.1
  replace p3 := bw_ok g p2 p3 (Or.inr ⟨by dsimp only; decide, by dsimp only; decide⟩)
  have ha1 := bs_28 p2
  have hll := bs_hl (by dsimp only; decide) p2
  refine ja_aload_n dtried_0 rfl rfl ?_
  refine ja_bipush 9 dtried_1 rfl ?_
  refine t_isWord (by decide) (show (0 : Nat) ≤ 8 by decide) dtried_3 g ⟨by decide, by decide⟩ ?_
  intro w1 k3_0
  refine ja_if_ne 14 dtried_6 rfl ⟨by omega, by omega⟩ (fun c6 => ?_) (fun c6 => ?_)
  · have z6 := is1v k3_0 c6
    replace k3_0 := is1 k3_0 c6
    refine ja_aload_n dtried_14 rfl rfl ?_
    refine ja_iconst dtried_15 ?_
    refine t_newPoint (by decide) (show (0 : Nat) ≤ 8 by decide) dtried_16 g ⟨by decide, by decide⟩ (show 0 ≤ 5 ∧ 5 ≤ 5 by omega) ?_ ?_
    · intro w2 w3 k16_0 g4
      replace k16_0 : (h 0 88) < 400 ∧ (((h 0 74) = 3 ∧ w2 = 2) ∨ (¬ (h 0 74) = 3 ∧ w2 = (h 0 74))) ∧ (((h 0 74) = 0 ∧ w3 = 0) ∨ (¬ (h 0 74) = 0 ∧ w3 = (h 0 75))) := k16_0
      replace g4 : mo_G Zz (ja_up (ja_up (ja_up (ja_up (ja_up (ja_up (ja_up h 52 ((h 0 88).toNat) 5) 53 ((h 0 88).toNat) (h 0 7)) 54 ((h 0 88).toNat) (-1)) 55 ((h 0 88).toNat) 0) 56 ((h 0 88).toNat) w2) 57 ((h 0 88).toNat) w3) 0 88 ((h 0 88) + 1)) := g4
      show mJ l D cA ad 4 cX12_tried 8 (some .boolean) 19 [(0, (2, ((0 : Nat) : Int))), (1, (0, a1))] [(0, (h 0 88))] (ja_up (ja_up (ja_up (ja_up (ja_up (ja_up (ja_up h 52 ((h 0 88).toNat) 5) 53 ((h 0 88).toNat) (h 0 7)) 54 ((h 0 88).toNat) (-1)) 55 ((h 0 88).toNat) 0) 56 ((h 0 88).toNat) w2) 57 ((h 0 88).toNat) w3) 0 88 ((h 0 88) + 1)) Q
      refine ja_istore_n dtried_19 rfl (by decide) (L2 := [(2, (0, (h 0 88))), (0, (2, ((0 : Nat) : Int))), (1, (0, a1))]) rfl ?_
      refine ja_iload_n dtried_20 rfl rfl ?_
      refine ja_if_ge 26 dtried_21 rfl ⟨by omega, by omega⟩ (fun c21 => ?_) (fun c21 => ?_)
      · refine ja_aload_n dtried_26 rfl rfl ?_
        refine fa_pointArgs dtried_27 ?_
        refine ja_iload_n dtried_30 rfl rfl ?_
        refine ja_iconst dtried_31 ?_
        have g5 := gW_pointArgs g4 (h 0 88).toNat (x := 1) ⟨by decide, by decide⟩
        refine is_pointArgs ⟨by omega, by omega⟩ dtried_32 ?_
        refine ja_aload_n dtried_33 rfl rfl ?_
        refine ja_bipush 24 dtried_34 rfl ?_
        refine ja_iconst dtried_36 ?_
        refine ja_iconst dtried_37 ?_
        refine t_emit (by decide) (show (0 : Nat) ≤ 8 by decide) dtried_38 g5 ⟨by decide, by decide⟩ ⟨by decide, by decide⟩ ⟨by decide, by decide⟩ (show 0 ≤ 24 ∧ 24 ≤ 26 by omega) (show (h 0 113) < 5000 by omega) ?_
        intro g6
        replace g6 : mo_G Zz (ja_up (ja_up (ja_up (ja_up (ja_up (ja_up (ja_up (ja_up (ja_up (ja_up (ja_up (ja_up h 52 ((h 0 88).toNat) 5) 53 ((h 0 88).toNat) (h 0 7)) 54 ((h 0 88).toNat) (-1)) 55 ((h 0 88).toNat) 0) 56 ((h 0 88).toNat) w2) 57 ((h 0 88).toNat) w3) 0 88 ((h 0 88) + 1)) 55 ((h 0 88).toNat) 1) 74 ((h 0 113).toNat) 24) 75 ((h 0 113).toNat) 0) 76 ((h 0 113).toNat) 0) 0 113 ((h 0 113) + 1)) := g6
        show mJ l D cA ad 4 cX12_tried 8 (some .boolean) 41 [(2, (0, (h 0 88))), (0, (2, ((0 : Nat) : Int))), (1, (0, a1))] [(0, (h 0 113))] (ja_up (ja_up (ja_up (ja_up (ja_up (ja_up (ja_up (ja_up (ja_up (ja_up (ja_up (ja_up h 52 ((h 0 88).toNat) 5) 53 ((h 0 88).toNat) (h 0 7)) 54 ((h 0 88).toNat) (-1)) 55 ((h 0 88).toNat) 0) 56 ((h 0 88).toNat) w2) 57 ((h 0 88).toNat) w3) 0 88 ((h 0 88) + 1)) 55 ((h 0 88).toNat) 1) 74 ((h 0 113).toNat) 24) 75 ((h 0 113).toNat) 0) 76 ((h 0 113).toNat) 0) 0 113 ((h 0 113) + 1)) Q
        refine ja_istore_n dtried_41 rfl (by decide) (L2 := [(3, (0, (h 0 113))), (2, (0, (h 0 88))), (0, (2, ((0 : Nat) : Int))), (1, (0, a1))]) rfl ?_
        refine ja_aload_n dtried_42 rfl rfl ?_
        refine fa_opA dtried_43 ?_
        refine ja_iload_n dtried_46 rfl rfl ?_
        refine ja_aload_n dtried_47 rfl rfl ?_
        refine fg_words (v := (h 0 113) + 1) rfl dtried_48 ?_
        have g7 := gW_opA g6 (a1).toNat (x := (h 0 113) + 1) ⟨by omega, by omega⟩
        refine is_opA ⟨by omega, by omega⟩ dtried_51 ?_
        refine ja_aload_n dtried_52 rfl rfl ?_
        refine t_take (by decide) (show (0 : Nat) ≤ 8 by decide) dtried_53 g7  ?_ ?_
        · intro k53_0 g8
          replace k53_0 : (h 0 7) < 900 := k53_0
          replace g8 : mo_G Zz (ja_up (ja_up (ja_up (ja_up (ja_up (ja_up (ja_up (ja_up (ja_up (ja_up (ja_up (ja_up (ja_up (ja_up h 52 ((h 0 88).toNat) 5) 53 ((h 0 88).toNat) (h 0 7)) 54 ((h 0 88).toNat) (-1)) 55 ((h 0 88).toNat) 0) 56 ((h 0 88).toNat) w2) 57 ((h 0 88).toNat) w3) 0 88 ((h 0 88) + 1)) 55 ((h 0 88).toNat) 1) 74 ((h 0 113).toNat) 24) 75 ((h 0 113).toNat) 0) 76 ((h 0 113).toNat) 0) 0 113 ((h 0 113) + 1)) 75 ((a1).toNat) ((h 0 113) + 1)) 0 7 ((h 0 7) + 1)) := g8
          show mJ l D cA ad 4 cX12_tried 8 (some .boolean) 56 [(3, (0, (h 0 113))), (2, (0, (h 0 88))), (0, (2, ((0 : Nat) : Int))), (1, (0, a1))] [(0, 1)] (ja_up (ja_up (ja_up (ja_up (ja_up (ja_up (ja_up (ja_up (ja_up (ja_up (ja_up (ja_up (ja_up (ja_up h 52 ((h 0 88).toNat) 5) 53 ((h 0 88).toNat) (h 0 7)) 54 ((h 0 88).toNat) (-1)) 55 ((h 0 88).toNat) 0) 56 ((h 0 88).toNat) w2) 57 ((h 0 88).toNat) w3) 0 88 ((h 0 88) + 1)) 55 ((h 0 88).toNat) 1) 74 ((h 0 113).toNat) 24) 75 ((h 0 113).toNat) 0) 76 ((h 0 113).toNat) 0) 0 113 ((h 0 113) + 1)) 75 ((a1).toNat) ((h 0 113) + 1)) 0 7 ((h 0 7) + 1)) Q
          refine ja_if_ne 61 dtried_56 rfl ⟨by decide, by decide⟩ (fun c56 => ?_) (fun c56 => absurd c56 (by omega))
          refine ja_aload_n dtried_61 rfl rfl ?_
          refine t_isName (by decide) (show (0 : Nat) ≤ 8 by decide) dtried_62 g8  ?_
          intro w9 k62_0
          replace k62_0 : (w9 = 1 ∧ (h 2 ((h 0 7) + 1).toNat) = 2) ∨ (w9 = 0 ∧ ¬ (h 2 ((h 0 7) + 1).toNat) = 2) := k62_0
          refine ja_if_eq 83 dtried_65 rfl ⟨by omega, by omega⟩ (fun c65 => ?_) (fun c65 => ?_)
          · replace k62_0 := is0 k62_0 c65
            refine ja_aload_n dtried_83 rfl rfl ?_
            refine fg_at (v := (h 0 7) + 1) rfl dtried_84 ?_
            refine ja_istore dtried_87 (by decide) (L2 := [(4, (0, ((h 0 7) + 1))), (3, (0, (h 0 113))), (2, (0, (h 0 88))), (0, (2, ((0 : Nat) : Int))), (1, (0, a1))]) rfl ?_
            refine ja_aload_n dtried_89 rfl rfl ?_
            refine t_name (by decide) (show (0 : Nat) ≤ 8 by decide) dtried_90 g8  ?_ ?_
            · intro k90_0 g10
              replace k90_0 : ((h 0 7) + 1) < 900 ∧ (h 2 ((h 0 7) + 1).toNat) = 2 := k90_0
              replace g10 : mo_G Zz (ja_up (ja_up (ja_up (ja_up (ja_up (ja_up (ja_up (ja_up (ja_up (ja_up (ja_up (ja_up (ja_up (ja_up (ja_up h 52 ((h 0 88).toNat) 5) 53 ((h 0 88).toNat) (h 0 7)) 54 ((h 0 88).toNat) (-1)) 55 ((h 0 88).toNat) 0) 56 ((h 0 88).toNat) w2) 57 ((h 0 88).toNat) w3) 0 88 ((h 0 88) + 1)) 55 ((h 0 88).toNat) 1) 74 ((h 0 113).toNat) 24) 75 ((h 0 113).toNat) 0) 76 ((h 0 113).toNat) 0) 0 113 ((h 0 113) + 1)) 75 ((a1).toNat) ((h 0 113) + 1)) 0 7 ((h 0 7) + 1)) 0 7 (((h 0 7) + 1) + 1)) := g10
              show mJ l D cA ad 4 cX12_tried 8 (some .boolean) 93 [(4, (0, ((h 0 7) + 1))), (3, (0, (h 0 113))), (2, (0, (h 0 88))), (0, (2, ((0 : Nat) : Int))), (1, (0, a1))] [(0, 1)] (ja_up (ja_up (ja_up (ja_up (ja_up (ja_up (ja_up (ja_up (ja_up (ja_up (ja_up (ja_up (ja_up (ja_up (ja_up h 52 ((h 0 88).toNat) 5) 53 ((h 0 88).toNat) (h 0 7)) 54 ((h 0 88).toNat) (-1)) 55 ((h 0 88).toNat) 0) 56 ((h 0 88).toNat) w2) 57 ((h 0 88).toNat) w3) 0 88 ((h 0 88) + 1)) 55 ((h 0 88).toNat) 1) 74 ((h 0 113).toNat) 24) 75 ((h 0 113).toNat) 0) 76 ((h 0 113).toNat) 0) 0 113 ((h 0 113) + 1)) 75 ((a1).toNat) ((h 0 113) + 1)) 0 7 ((h 0 7) + 1)) 0 7 (((h 0 7) + 1) + 1)) Q
              refine ja_if_ne 98 dtried_93 rfl ⟨by decide, by decide⟩ (fun c93 => ?_) (fun c93 => absurd c93 (by omega))
              refine ja_aload_n dtried_98 rfl rfl ?_
              refine fg_known (v := h 0 79) rfl dtried_99 ?_
              have f11 := gF_known g
              refine ja_istore dtried_102 (by decide) (L2 := [(5, (0, (h 0 79))), (4, (0, ((h 0 7) + 1))), (3, (0, (h 0 113))), (2, (0, (h 0 88))), (0, (2, ((0 : Nat) : Int))), (1, (0, a1))]) rfl ?_
              refine ja_aload_n dtried_104 rfl rfl ?_
              refine ja_iload dtried_105 rfl ?_
              refine t_know (by decide) (show (0 : Nat) ≤ 8 by decide) dtried_107 g10 ⟨by omega, by omega⟩ (show 0 ≤ ((h 0 7) + 1) ∧ ((h 0 7) + 1) ≤ 900 by omega) (show (h 0 79) ≤ 15 by omega) (show (h 0 77) ≤ 14 by omega) ?_
              intro w12 w13 k107_0 g14
              replace k107_0 : 0 ≤ w12 ∧ w12 ≤ 8 ∧ (1 ≤ w12 ∨ w12 = (h 0 11)) ∧ -2147483648 ≤ w13 ∧ w13 ≤ 2147483647 := k107_0
              replace g14 : mo_G Zz (ja_up (ja_up (ja_up (ja_up (ja_up (ja_up (ja_up (ja_up (ja_up (ja_up (ja_up (ja_up (ja_up (ja_up (ja_up (ja_up (ja_up (ja_up (ja_up (ja_up (ja_up h 52 ((h 0 88).toNat) 5) 53 ((h 0 88).toNat) (h 0 7)) 54 ((h 0 88).toNat) (-1)) 55 ((h 0 88).toNat) 0) 56 ((h 0 88).toNat) w2) 57 ((h 0 88).toNat) w3) 0 88 ((h 0 88) + 1)) 55 ((h 0 88).toNat) 1) 74 ((h 0 113).toNat) 24) 75 ((h 0 113).toNat) 0) 76 ((h 0 113).toNat) 0) 0 113 ((h 0 113) + 1)) 75 ((a1).toNat) ((h 0 113) + 1)) 0 7 ((h 0 7) + 1)) 0 7 (((h 0 7) + 1) + 1)) 0 11 w12) 0 12 w13) 49 ((h 0 79).toNat) (h 5 ((h 0 7) + 1).toNat)) 50 ((h 0 79).toNat) (h 0 77)) 0 79 ((h 0 79) + 1)) 0 77 ((h 0 77) + 1)) := g14
              show mJ l D cA ad 4 cX12_tried 8 (some .boolean) 110 [(5, (0, (h 0 79))), (4, (0, ((h 0 7) + 1))), (3, (0, (h 0 113))), (2, (0, (h 0 88))), (0, (2, ((0 : Nat) : Int))), (1, (0, a1))] [] (ja_up (ja_up (ja_up (ja_up (ja_up (ja_up (ja_up (ja_up (ja_up (ja_up (ja_up (ja_up (ja_up (ja_up (ja_up (ja_up (ja_up (ja_up (ja_up (ja_up (ja_up h 52 ((h 0 88).toNat) 5) 53 ((h 0 88).toNat) (h 0 7)) 54 ((h 0 88).toNat) (-1)) 55 ((h 0 88).toNat) 0) 56 ((h 0 88).toNat) w2) 57 ((h 0 88).toNat) w3) 0 88 ((h 0 88) + 1)) 55 ((h 0 88).toNat) 1) 74 ((h 0 113).toNat) 24) 75 ((h 0 113).toNat) 0) 76 ((h 0 113).toNat) 0) 0 113 ((h 0 113) + 1)) 75 ((a1).toNat) ((h 0 113) + 1)) 0 7 ((h 0 7) + 1)) 0 7 (((h 0 7) + 1) + 1)) 0 11 w12) 0 12 w13) 49 ((h 0 79).toNat) (h 5 ((h 0 7) + 1).toNat)) 50 ((h 0 79).toNat) (h 0 77)) 0 79 ((h 0 79) + 1)) 0 77 ((h 0 77) + 1)) Q
              refine ja_aload_n dtried_110 rfl rfl ?_
              refine ja_bipush 15 dtried_111 rfl ?_
              refine ja_iload_n dtried_113 rfl rfl ?_
              refine ja_iconst dtried_114 ?_
              refine t_emit (by decide) (show (0 : Nat) ≤ 8 by decide) dtried_115 g14 ⟨by decide, by decide⟩ ⟨by omega, by omega⟩ ⟨by decide, by decide⟩ (show 0 ≤ 15 ∧ 15 ≤ 26 by omega) (show ((h 0 113) + 1) < 5000 by omega) ?_
              intro g15
              replace g15 : mo_G Zz (ja_up (ja_up (ja_up (ja_up (ja_up (ja_up (ja_up (ja_up (ja_up (ja_up (ja_up (ja_up (ja_up (ja_up (ja_up (ja_up (ja_up (ja_up (ja_up (ja_up (ja_up (ja_up (ja_up (ja_up (ja_up h 52 ((h 0 88).toNat) 5) 53 ((h 0 88).toNat) (h 0 7)) 54 ((h 0 88).toNat) (-1)) 55 ((h 0 88).toNat) 0) 56 ((h 0 88).toNat) w2) 57 ((h 0 88).toNat) w3) 0 88 ((h 0 88) + 1)) 55 ((h 0 88).toNat) 1) 74 ((h 0 113).toNat) 24) 75 ((h 0 113).toNat) 0) 76 ((h 0 113).toNat) 0) 0 113 ((h 0 113) + 1)) 75 ((a1).toNat) ((h 0 113) + 1)) 0 7 ((h 0 7) + 1)) 0 7 (((h 0 7) + 1) + 1)) 0 11 w12) 0 12 w13) 49 ((h 0 79).toNat) (h 5 ((h 0 7) + 1).toNat)) 50 ((h 0 79).toNat) (h 0 77)) 0 79 ((h 0 79) + 1)) 0 77 ((h 0 77) + 1)) 74 (((h 0 113) + 1).toNat) 15) 75 (((h 0 113) + 1).toNat) (h 0 88)) 76 (((h 0 113) + 1).toNat) 0) 0 113 (((h 0 113) + 1) + 1)) := g15
              show mJ l D cA ad 4 cX12_tried 8 (some .boolean) 118 [(5, (0, (h 0 79))), (4, (0, ((h 0 7) + 1))), (3, (0, (h 0 113))), (2, (0, (h 0 88))), (0, (2, ((0 : Nat) : Int))), (1, (0, a1))] [(0, ((h 0 113) + 1))] (ja_up (ja_up (ja_up (ja_up (ja_up (ja_up (ja_up (ja_up (ja_up (ja_up (ja_up (ja_up (ja_up (ja_up (ja_up (ja_up (ja_up (ja_up (ja_up (ja_up (ja_up (ja_up (ja_up (ja_up (ja_up h 52 ((h 0 88).toNat) 5) 53 ((h 0 88).toNat) (h 0 7)) 54 ((h 0 88).toNat) (-1)) 55 ((h 0 88).toNat) 0) 56 ((h 0 88).toNat) w2) 57 ((h 0 88).toNat) w3) 0 88 ((h 0 88) + 1)) 55 ((h 0 88).toNat) 1) 74 ((h 0 113).toNat) 24) 75 ((h 0 113).toNat) 0) 76 ((h 0 113).toNat) 0) 0 113 ((h 0 113) + 1)) 75 ((a1).toNat) ((h 0 113) + 1)) 0 7 ((h 0 7) + 1)) 0 7 (((h 0 7) + 1) + 1)) 0 11 w12) 0 12 w13) 49 ((h 0 79).toNat) (h 5 ((h 0 7) + 1).toNat)) 50 ((h 0 79).toNat) (h 0 77)) 0 79 ((h 0 79) + 1)) 0 77 ((h 0 77) + 1)) 74 (((h 0 113) + 1).toNat) 15) 75 (((h 0 113) + 1).toNat) (h 0 88)) 76 (((h 0 113) + 1).toNat) 0) 0 113 (((h 0 113) + 1) + 1)) Q
              refine ja_istore dtried_118 (by decide) (L2 := [(6, (0, ((h 0 113) + 1))), (5, (0, (h 0 79))), (4, (0, ((h 0 7) + 1))), (3, (0, (h 0 113))), (2, (0, (h 0 88))), (0, (2, ((0 : Nat) : Int))), (1, (0, a1))]) rfl ?_
              refine ja_aload_n dtried_120 rfl rfl ?_
              refine ja_iconst dtried_121 ?_
              refine ja_aload_n dtried_122 rfl rfl ?_
              refine fg_locals (v := (h 0 77) + 1) rfl dtried_123 ?_
              refine ja_iconst dtried_126 ?_
              refine ja_isub dtried_127 ?_
              refine ja_iconst dtried_128 ?_
              refine t_emit (by decide) (show (0 : Nat) ≤ 8 by decide) dtried_129 g15 ⟨by decide, by decide⟩ ⟨by omega, by omega⟩ ⟨by decide, by decide⟩ (show 0 ≤ 5 ∧ 5 ≤ 26 by omega) (show (((h 0 113) + 1) + 1) < 5000 by omega) ?_
              intro g16
              replace g16 : mo_G Zz (ja_up (ja_up (ja_up (ja_up (ja_up (ja_up (ja_up (ja_up (ja_up (ja_up (ja_up (ja_up (ja_up (ja_up (ja_up (ja_up (ja_up (ja_up (ja_up (ja_up (ja_up (ja_up (ja_up (ja_up (ja_up (ja_up (ja_up (ja_up (ja_up h 52 ((h 0 88).toNat) 5) 53 ((h 0 88).toNat) (h 0 7)) 54 ((h 0 88).toNat) (-1)) 55 ((h 0 88).toNat) 0) 56 ((h 0 88).toNat) w2) 57 ((h 0 88).toNat) w3) 0 88 ((h 0 88) + 1)) 55 ((h 0 88).toNat) 1) 74 ((h 0 113).toNat) 24) 75 ((h 0 113).toNat) 0) 76 ((h 0 113).toNat) 0) 0 113 ((h 0 113) + 1)) 75 ((a1).toNat) ((h 0 113) + 1)) 0 7 ((h 0 7) + 1)) 0 7 (((h 0 7) + 1) + 1)) 0 11 w12) 0 12 w13) 49 ((h 0 79).toNat) (h 5 ((h 0 7) + 1).toNat)) 50 ((h 0 79).toNat) (h 0 77)) 0 79 ((h 0 79) + 1)) 0 77 ((h 0 77) + 1)) 74 (((h 0 113) + 1).toNat) 15) 75 (((h 0 113) + 1).toNat) (h 0 88)) 76 (((h 0 113) + 1).toNat) 0) 0 113 (((h 0 113) + 1) + 1)) 74 ((((h 0 113) + 1) + 1).toNat) 5) 75 ((((h 0 113) + 1) + 1).toNat) (((h 0 77) + 1) - 1)) 76 ((((h 0 113) + 1) + 1).toNat) 0) 0 113 ((((h 0 113) + 1) + 1) + 1)) := g16
              show mJ l D cA ad 4 cX12_tried 8 (some .boolean) 132 [(6, (0, ((h 0 113) + 1))), (5, (0, (h 0 79))), (4, (0, ((h 0 7) + 1))), (3, (0, (h 0 113))), (2, (0, (h 0 88))), (0, (2, ((0 : Nat) : Int))), (1, (0, a1))] [(0, (((h 0 113) + 1) + 1))] (ja_up (ja_up (ja_up (ja_up (ja_up (ja_up (ja_up (ja_up (ja_up (ja_up (ja_up (ja_up (ja_up (ja_up (ja_up (ja_up (ja_up (ja_up (ja_up (ja_up (ja_up (ja_up (ja_up (ja_up (ja_up (ja_up (ja_up (ja_up (ja_up h 52 ((h 0 88).toNat) 5) 53 ((h 0 88).toNat) (h 0 7)) 54 ((h 0 88).toNat) (-1)) 55 ((h 0 88).toNat) 0) 56 ((h 0 88).toNat) w2) 57 ((h 0 88).toNat) w3) 0 88 ((h 0 88) + 1)) 55 ((h 0 88).toNat) 1) 74 ((h 0 113).toNat) 24) 75 ((h 0 113).toNat) 0) 76 ((h 0 113).toNat) 0) 0 113 ((h 0 113) + 1)) 75 ((a1).toNat) ((h 0 113) + 1)) 0 7 ((h 0 7) + 1)) 0 7 (((h 0 7) + 1) + 1)) 0 11 w12) 0 12 w13) 49 ((h 0 79).toNat) (h 5 ((h 0 7) + 1).toNat)) 50 ((h 0 79).toNat) (h 0 77)) 0 79 ((h 0 79) + 1)) 0 77 ((h 0 77) + 1)) 74 (((h 0 113) + 1).toNat) 15) 75 (((h 0 113) + 1).toNat) (h 0 88)) 76 (((h 0 113) + 1).toNat) 0) 0 113 (((h 0 113) + 1) + 1)) 74 ((((h 0 113) + 1) + 1).toNat) 5) 75 ((((h 0 113) + 1) + 1).toNat) (((h 0 77) + 1) - 1)) 76 ((((h 0 113) + 1) + 1).toNat) 0) 0 113 ((((h 0 113) + 1) + 1) + 1)) Q
              refine ja_istore dtried_132 (by decide) (L2 := [(7, (0, (((h 0 113) + 1) + 1))), (6, (0, ((h 0 113) + 1))), (5, (0, (h 0 79))), (4, (0, ((h 0 7) + 1))), (3, (0, (h 0 113))), (2, (0, (h 0 88))), (0, (2, ((0 : Nat) : Int))), (1, (0, a1))]) rfl ?_
              refine ja_aload_n dtried_134 rfl rfl ?_
              refine ja_bipush 22 dtried_135 rfl ?_
              refine ja_iload_n dtried_137 rfl rfl ?_
              refine ja_iconst dtried_138 ?_
              refine ja_iconst dtried_139 ?_
              refine t_later (by decide) (show (0 : Nat) ≤ 8 by decide) dtried_140 g16 ⟨by decide, by decide⟩ ⟨by omega, by omega⟩ ⟨by decide, by decide⟩ ⟨by decide, by decide⟩ (show 0 ≤ 22 ∧ 22 ≤ 38 by omega) (show (h 0 17) < 2000 by omega) ?_
              intro g17
              replace g17 : mo_G Zz (ja_up (ja_up (ja_up (ja_up (ja_up (ja_up (ja_up (ja_up (ja_up (ja_up (ja_up (ja_up (ja_up (ja_up (ja_up (ja_up (ja_up (ja_up (ja_up (ja_up (ja_up (ja_up (ja_up (ja_up (ja_up (ja_up (ja_up (ja_up (ja_up (ja_up (ja_up (ja_up (ja_up (ja_up h 52 ((h 0 88).toNat) 5) 53 ((h 0 88).toNat) (h 0 7)) 54 ((h 0 88).toNat) (-1)) 55 ((h 0 88).toNat) 0) 56 ((h 0 88).toNat) w2) 57 ((h 0 88).toNat) w3) 0 88 ((h 0 88) + 1)) 55 ((h 0 88).toNat) 1) 74 ((h 0 113).toNat) 24) 75 ((h 0 113).toNat) 0) 76 ((h 0 113).toNat) 0) 0 113 ((h 0 113) + 1)) 75 ((a1).toNat) ((h 0 113) + 1)) 0 7 ((h 0 7) + 1)) 0 7 (((h 0 7) + 1) + 1)) 0 11 w12) 0 12 w13) 49 ((h 0 79).toNat) (h 5 ((h 0 7) + 1).toNat)) 50 ((h 0 79).toNat) (h 0 77)) 0 79 ((h 0 79) + 1)) 0 77 ((h 0 77) + 1)) 74 (((h 0 113) + 1).toNat) 15) 75 (((h 0 113) + 1).toNat) (h 0 88)) 76 (((h 0 113) + 1).toNat) 0) 0 113 (((h 0 113) + 1) + 1)) 74 ((((h 0 113) + 1) + 1).toNat) 5) 75 ((((h 0 113) + 1) + 1).toNat) (((h 0 77) + 1) - 1)) 76 ((((h 0 113) + 1) + 1).toNat) 0) 0 113 ((((h 0 113) + 1) + 1) + 1)) 6 ((h 0 17).toNat) 22) 7 ((h 0 17).toNat) (h 0 113)) 8 ((h 0 17).toNat) 0) 9 ((h 0 17).toNat) 0) 0 17 ((h 0 17) + 1)) := g17
              show mJ l D cA ad 4 cX12_tried 8 (some .boolean) 143 [(7, (0, (((h 0 113) + 1) + 1))), (6, (0, ((h 0 113) + 1))), (5, (0, (h 0 79))), (4, (0, ((h 0 7) + 1))), (3, (0, (h 0 113))), (2, (0, (h 0 88))), (0, (2, ((0 : Nat) : Int))), (1, (0, a1))] [(0, 1)] (ja_up (ja_up (ja_up (ja_up (ja_up (ja_up (ja_up (ja_up (ja_up (ja_up (ja_up (ja_up (ja_up (ja_up (ja_up (ja_up (ja_up (ja_up (ja_up (ja_up (ja_up (ja_up (ja_up (ja_up (ja_up (ja_up (ja_up (ja_up (ja_up (ja_up (ja_up (ja_up (ja_up (ja_up h 52 ((h 0 88).toNat) 5) 53 ((h 0 88).toNat) (h 0 7)) 54 ((h 0 88).toNat) (-1)) 55 ((h 0 88).toNat) 0) 56 ((h 0 88).toNat) w2) 57 ((h 0 88).toNat) w3) 0 88 ((h 0 88) + 1)) 55 ((h 0 88).toNat) 1) 74 ((h 0 113).toNat) 24) 75 ((h 0 113).toNat) 0) 76 ((h 0 113).toNat) 0) 0 113 ((h 0 113) + 1)) 75 ((a1).toNat) ((h 0 113) + 1)) 0 7 ((h 0 7) + 1)) 0 7 (((h 0 7) + 1) + 1)) 0 11 w12) 0 12 w13) 49 ((h 0 79).toNat) (h 5 ((h 0 7) + 1).toNat)) 50 ((h 0 79).toNat) (h 0 77)) 0 79 ((h 0 79) + 1)) 0 77 ((h 0 77) + 1)) 74 (((h 0 113) + 1).toNat) 15) 75 (((h 0 113) + 1).toNat) (h 0 88)) 76 (((h 0 113) + 1).toNat) 0) 0 113 (((h 0 113) + 1) + 1)) 74 ((((h 0 113) + 1) + 1).toNat) 5) 75 ((((h 0 113) + 1) + 1).toNat) (((h 0 77) + 1) - 1)) 76 ((((h 0 113) + 1) + 1).toNat) 0) 0 113 ((((h 0 113) + 1) + 1) + 1)) 6 ((h 0 17).toNat) 22) 7 ((h 0 17).toNat) (h 0 113)) 8 ((h 0 17).toNat) 0) 9 ((h 0 17).toNat) 0) 0 17 ((h 0 17) + 1)) Q
              refine ja_if_eq 175 dtried_143 rfl ⟨by decide, by decide⟩ (fun c143 => absurd c143 (by omega)) (fun c143 => ?_)
              refine ja_aload_n dtried_146 rfl rfl ?_
              refine ja_bipush 16 dtried_147 rfl ?_
              refine ja_iload dtried_149 rfl ?_
              refine ja_iconst dtried_151 ?_
              refine ja_iconst dtried_152 ?_
              refine t_later (by decide) (show (0 : Nat) ≤ 8 by decide) dtried_153 g17 ⟨by decide, by decide⟩ ⟨by omega, by omega⟩ ⟨by decide, by decide⟩ ⟨by decide, by decide⟩ (show 0 ≤ 16 ∧ 16 ≤ 38 by omega) (show ((h 0 17) + 1) < 2000 by omega) ?_
              intro g18
              replace g18 : mo_G Zz (ja_up (ja_up (ja_up (ja_up (ja_up (ja_up (ja_up (ja_up (ja_up (ja_up (ja_up (ja_up (ja_up (ja_up (ja_up (ja_up (ja_up (ja_up (ja_up (ja_up (ja_up (ja_up (ja_up (ja_up (ja_up (ja_up (ja_up (ja_up (ja_up (ja_up (ja_up (ja_up (ja_up (ja_up (ja_up (ja_up (ja_up (ja_up (ja_up h 52 ((h 0 88).toNat) 5) 53 ((h 0 88).toNat) (h 0 7)) 54 ((h 0 88).toNat) (-1)) 55 ((h 0 88).toNat) 0) 56 ((h 0 88).toNat) w2) 57 ((h 0 88).toNat) w3) 0 88 ((h 0 88) + 1)) 55 ((h 0 88).toNat) 1) 74 ((h 0 113).toNat) 24) 75 ((h 0 113).toNat) 0) 76 ((h 0 113).toNat) 0) 0 113 ((h 0 113) + 1)) 75 ((a1).toNat) ((h 0 113) + 1)) 0 7 ((h 0 7) + 1)) 0 7 (((h 0 7) + 1) + 1)) 0 11 w12) 0 12 w13) 49 ((h 0 79).toNat) (h 5 ((h 0 7) + 1).toNat)) 50 ((h 0 79).toNat) (h 0 77)) 0 79 ((h 0 79) + 1)) 0 77 ((h 0 77) + 1)) 74 (((h 0 113) + 1).toNat) 15) 75 (((h 0 113) + 1).toNat) (h 0 88)) 76 (((h 0 113) + 1).toNat) 0) 0 113 (((h 0 113) + 1) + 1)) 74 ((((h 0 113) + 1) + 1).toNat) 5) 75 ((((h 0 113) + 1) + 1).toNat) (((h 0 77) + 1) - 1)) 76 ((((h 0 113) + 1) + 1).toNat) 0) 0 113 ((((h 0 113) + 1) + 1) + 1)) 6 ((h 0 17).toNat) 22) 7 ((h 0 17).toNat) (h 0 113)) 8 ((h 0 17).toNat) 0) 9 ((h 0 17).toNat) 0) 0 17 ((h 0 17) + 1)) 6 (((h 0 17) + 1).toNat) 16) 7 (((h 0 17) + 1).toNat) (h 0 79)) 8 (((h 0 17) + 1).toNat) 0) 9 (((h 0 17) + 1).toNat) 0) 0 17 (((h 0 17) + 1) + 1)) := g18
              show mJ l D cA ad 4 cX12_tried 8 (some .boolean) 156 [(7, (0, (((h 0 113) + 1) + 1))), (6, (0, ((h 0 113) + 1))), (5, (0, (h 0 79))), (4, (0, ((h 0 7) + 1))), (3, (0, (h 0 113))), (2, (0, (h 0 88))), (0, (2, ((0 : Nat) : Int))), (1, (0, a1))] [(0, 1)] (ja_up (ja_up (ja_up (ja_up (ja_up (ja_up (ja_up (ja_up (ja_up (ja_up (ja_up (ja_up (ja_up (ja_up (ja_up (ja_up (ja_up (ja_up (ja_up (ja_up (ja_up (ja_up (ja_up (ja_up (ja_up (ja_up (ja_up (ja_up (ja_up (ja_up (ja_up (ja_up (ja_up (ja_up (ja_up (ja_up (ja_up (ja_up (ja_up h 52 ((h 0 88).toNat) 5) 53 ((h 0 88).toNat) (h 0 7)) 54 ((h 0 88).toNat) (-1)) 55 ((h 0 88).toNat) 0) 56 ((h 0 88).toNat) w2) 57 ((h 0 88).toNat) w3) 0 88 ((h 0 88) + 1)) 55 ((h 0 88).toNat) 1) 74 ((h 0 113).toNat) 24) 75 ((h 0 113).toNat) 0) 76 ((h 0 113).toNat) 0) 0 113 ((h 0 113) + 1)) 75 ((a1).toNat) ((h 0 113) + 1)) 0 7 ((h 0 7) + 1)) 0 7 (((h 0 7) + 1) + 1)) 0 11 w12) 0 12 w13) 49 ((h 0 79).toNat) (h 5 ((h 0 7) + 1).toNat)) 50 ((h 0 79).toNat) (h 0 77)) 0 79 ((h 0 79) + 1)) 0 77 ((h 0 77) + 1)) 74 (((h 0 113) + 1).toNat) 15) 75 (((h 0 113) + 1).toNat) (h 0 88)) 76 (((h 0 113) + 1).toNat) 0) 0 113 (((h 0 113) + 1) + 1)) 74 ((((h 0 113) + 1) + 1).toNat) 5) 75 ((((h 0 113) + 1) + 1).toNat) (((h 0 77) + 1) - 1)) 76 ((((h 0 113) + 1) + 1).toNat) 0) 0 113 ((((h 0 113) + 1) + 1) + 1)) 6 ((h 0 17).toNat) 22) 7 ((h 0 17).toNat) (h 0 113)) 8 ((h 0 17).toNat) 0) 9 ((h 0 17).toNat) 0) 0 17 ((h 0 17) + 1)) 6 (((h 0 17) + 1).toNat) 16) 7 (((h 0 17) + 1).toNat) (h 0 79)) 8 (((h 0 17) + 1).toNat) 0) 9 (((h 0 17) + 1).toNat) 0) 0 17 (((h 0 17) + 1) + 1)) Q
              refine ja_if_eq 175 dtried_156 rfl ⟨by decide, by decide⟩ (fun c156 => absurd c156 (by omega)) (fun c156 => ?_)
              refine ja_aload_n dtried_159 rfl rfl ?_
              refine ja_bipush 14 dtried_160 rfl ?_
              refine ja_iconst dtried_162 ?_
              refine ja_iconst dtried_163 ?_
              refine ja_iconst dtried_164 ?_
              refine t_later (by decide) (show (0 : Nat) ≤ 8 by decide) dtried_165 g18 ⟨by decide, by decide⟩ ⟨by decide, by decide⟩ ⟨by decide, by decide⟩ ⟨by decide, by decide⟩ (show 0 ≤ 14 ∧ 14 ≤ 38 by omega) (show (((h 0 17) + 1) + 1) < 2000 by omega) ?_
              intro g19
              replace g19 : mo_G Zz (ja_up (ja_up (ja_up (ja_up (ja_up (ja_up (ja_up (ja_up (ja_up (ja_up (ja_up (ja_up (ja_up (ja_up (ja_up (ja_up (ja_up (ja_up (ja_up (ja_up (ja_up (ja_up (ja_up (ja_up (ja_up (ja_up (ja_up (ja_up (ja_up (ja_up (ja_up (ja_up (ja_up (ja_up (ja_up (ja_up (ja_up (ja_up (ja_up (ja_up (ja_up (ja_up (ja_up (ja_up h 52 ((h 0 88).toNat) 5) 53 ((h 0 88).toNat) (h 0 7)) 54 ((h 0 88).toNat) (-1)) 55 ((h 0 88).toNat) 0) 56 ((h 0 88).toNat) w2) 57 ((h 0 88).toNat) w3) 0 88 ((h 0 88) + 1)) 55 ((h 0 88).toNat) 1) 74 ((h 0 113).toNat) 24) 75 ((h 0 113).toNat) 0) 76 ((h 0 113).toNat) 0) 0 113 ((h 0 113) + 1)) 75 ((a1).toNat) ((h 0 113) + 1)) 0 7 ((h 0 7) + 1)) 0 7 (((h 0 7) + 1) + 1)) 0 11 w12) 0 12 w13) 49 ((h 0 79).toNat) (h 5 ((h 0 7) + 1).toNat)) 50 ((h 0 79).toNat) (h 0 77)) 0 79 ((h 0 79) + 1)) 0 77 ((h 0 77) + 1)) 74 (((h 0 113) + 1).toNat) 15) 75 (((h 0 113) + 1).toNat) (h 0 88)) 76 (((h 0 113) + 1).toNat) 0) 0 113 (((h 0 113) + 1) + 1)) 74 ((((h 0 113) + 1) + 1).toNat) 5) 75 ((((h 0 113) + 1) + 1).toNat) (((h 0 77) + 1) - 1)) 76 ((((h 0 113) + 1) + 1).toNat) 0) 0 113 ((((h 0 113) + 1) + 1) + 1)) 6 ((h 0 17).toNat) 22) 7 ((h 0 17).toNat) (h 0 113)) 8 ((h 0 17).toNat) 0) 9 ((h 0 17).toNat) 0) 0 17 ((h 0 17) + 1)) 6 (((h 0 17) + 1).toNat) 16) 7 (((h 0 17) + 1).toNat) (h 0 79)) 8 (((h 0 17) + 1).toNat) 0) 9 (((h 0 17) + 1).toNat) 0) 0 17 (((h 0 17) + 1) + 1)) 6 ((((h 0 17) + 1) + 1).toNat) 14) 7 ((((h 0 17) + 1) + 1).toNat) 0) 8 ((((h 0 17) + 1) + 1).toNat) 0) 9 ((((h 0 17) + 1) + 1).toNat) 0) 0 17 ((((h 0 17) + 1) + 1) + 1)) := g19
              show mJ l D cA ad 4 cX12_tried 8 (some .boolean) 168 [(7, (0, (((h 0 113) + 1) + 1))), (6, (0, ((h 0 113) + 1))), (5, (0, (h 0 79))), (4, (0, ((h 0 7) + 1))), (3, (0, (h 0 113))), (2, (0, (h 0 88))), (0, (2, ((0 : Nat) : Int))), (1, (0, a1))] [(0, 1)] (ja_up (ja_up (ja_up (ja_up (ja_up (ja_up (ja_up (ja_up (ja_up (ja_up (ja_up (ja_up (ja_up (ja_up (ja_up (ja_up (ja_up (ja_up (ja_up (ja_up (ja_up (ja_up (ja_up (ja_up (ja_up (ja_up (ja_up (ja_up (ja_up (ja_up (ja_up (ja_up (ja_up (ja_up (ja_up (ja_up (ja_up (ja_up (ja_up (ja_up (ja_up (ja_up (ja_up (ja_up h 52 ((h 0 88).toNat) 5) 53 ((h 0 88).toNat) (h 0 7)) 54 ((h 0 88).toNat) (-1)) 55 ((h 0 88).toNat) 0) 56 ((h 0 88).toNat) w2) 57 ((h 0 88).toNat) w3) 0 88 ((h 0 88) + 1)) 55 ((h 0 88).toNat) 1) 74 ((h 0 113).toNat) 24) 75 ((h 0 113).toNat) 0) 76 ((h 0 113).toNat) 0) 0 113 ((h 0 113) + 1)) 75 ((a1).toNat) ((h 0 113) + 1)) 0 7 ((h 0 7) + 1)) 0 7 (((h 0 7) + 1) + 1)) 0 11 w12) 0 12 w13) 49 ((h 0 79).toNat) (h 5 ((h 0 7) + 1).toNat)) 50 ((h 0 79).toNat) (h 0 77)) 0 79 ((h 0 79) + 1)) 0 77 ((h 0 77) + 1)) 74 (((h 0 113) + 1).toNat) 15) 75 (((h 0 113) + 1).toNat) (h 0 88)) 76 (((h 0 113) + 1).toNat) 0) 0 113 (((h 0 113) + 1) + 1)) 74 ((((h 0 113) + 1) + 1).toNat) 5) 75 ((((h 0 113) + 1) + 1).toNat) (((h 0 77) + 1) - 1)) 76 ((((h 0 113) + 1) + 1).toNat) 0) 0 113 ((((h 0 113) + 1) + 1) + 1)) 6 ((h 0 17).toNat) 22) 7 ((h 0 17).toNat) (h 0 113)) 8 ((h 0 17).toNat) 0) 9 ((h 0 17).toNat) 0) 0 17 ((h 0 17) + 1)) 6 (((h 0 17) + 1).toNat) 16) 7 (((h 0 17) + 1).toNat) (h 0 79)) 8 (((h 0 17) + 1).toNat) 0) 9 (((h 0 17) + 1).toNat) 0) 0 17 (((h 0 17) + 1) + 1)) 6 ((((h 0 17) + 1) + 1).toNat) 14) 7 ((((h 0 17) + 1) + 1).toNat) 0) 8 ((((h 0 17) + 1) + 1).toNat) 0) 9 ((((h 0 17) + 1) + 1).toNat) 0) 0 17 ((((h 0 17) + 1) + 1) + 1)) Q
              refine ja_if_eq 175 dtried_168 rfl ⟨by decide, by decide⟩ (fun c168 => absurd c168 (by omega)) (fun c168 => ?_)
              refine ja_iconst dtried_171 ?_
              refine ja_goto 176 dtried_172 rfl ?_
              refine ja_zreturn dtried_176 rfl (by omega) ?_
              exact mo_fin (by omega) rfl (k1 (ja_up (ja_up (ja_up (ja_up (ja_up (ja_up (ja_up (ja_up (ja_up (ja_up (ja_up (ja_up (ja_up (ja_up (ja_up (ja_up (ja_up (ja_up (ja_up (ja_up (ja_up (ja_up (ja_up (ja_up (ja_up (ja_up (ja_up (ja_up (ja_up (ja_up (ja_up (ja_up (ja_up (ja_up (ja_up (ja_up (ja_up (ja_up (ja_up (ja_up (ja_up (ja_up (ja_up (ja_up h 52 ((h 0 88).toNat) 5) 53 ((h 0 88).toNat) (h 0 7)) 54 ((h 0 88).toNat) (-1)) 55 ((h 0 88).toNat) 0) 56 ((h 0 88).toNat) w2) 57 ((h 0 88).toNat) w3) 0 88 ((h 0 88) + 1)) 55 ((h 0 88).toNat) 1) 74 ((h 0 113).toNat) 24) 75 ((h 0 113).toNat) 0) 76 ((h 0 113).toNat) 0) 0 113 ((h 0 113) + 1)) 75 ((a1).toNat) ((h 0 113) + 1)) 0 7 ((h 0 7) + 1)) 0 7 (((h 0 7) + 1) + 1)) 0 11 w12) 0 12 w13) 49 ((h 0 79).toNat) (h 5 ((h 0 7) + 1).toNat)) 50 ((h 0 79).toNat) (h 0 77)) 0 79 ((h 0 79) + 1)) 0 77 ((h 0 77) + 1)) 74 (((h 0 113) + 1).toNat) 15) 75 (((h 0 113) + 1).toNat) (h 0 88)) 76 (((h 0 113) + 1).toNat) 0) 0 113 (((h 0 113) + 1) + 1)) 74 ((((h 0 113) + 1) + 1).toNat) 5) 75 ((((h 0 113) + 1) + 1).toNat) (((h 0 77) + 1) - 1)) 76 ((((h 0 113) + 1) + 1).toNat) 0) 0 113 ((((h 0 113) + 1) + 1) + 1)) 6 ((h 0 17).toNat) 22) 7 ((h 0 17).toNat) (h 0 113)) 8 ((h 0 17).toNat) 0) 9 ((h 0 17).toNat) 0) 0 17 ((h 0 17) + 1)) 6 (((h 0 17) + 1).toNat) 16) 7 (((h 0 17) + 1).toNat) (h 0 79)) 8 (((h 0 17) + 1).toNat) 0) 9 (((h 0 17) + 1).toNat) 0) 0 17 (((h 0 17) + 1) + 1)) 6 ((((h 0 17) + 1) + 1).toNat) 14) 7 ((((h 0 17) + 1) + 1).toNat) 0) 8 ((((h 0 17) + 1) + 1).toNat) 0) 9 ((((h 0 17) + 1) + 1).toNat) 0) 0 17 ((((h 0 17) + 1) + 1) + 1)) (ab_tried (sd := w2) (wh := w3) (f := w12) (fa := w13) (v := (h 5 ((h 0 7) + 1).toNat)) g p1 p2 (by omega) (by omega) (by omega) (by omega) (by omega) (by omega)) g19)
            · intro h20 k90_1 g21
              replace k90_1 : 0 < (h20 0 8) ∧ (h20 0 1) = (h 0 1) ∧ (h20 0 118) = (h 0 118) ∧ (h20 0 127) = (h 0 127) := k90_1
              refine ja_if_ne 98 dtried_93 rfl ⟨by decide, by decide⟩ (fun c93 => absurd c93 (by omega)) (fun c93 => ?_)
              refine ja_iconst dtried_96 ?_
              refine ja_zreturn dtried_97 rfl (by omega) ?_
              exact mo_fin (by omega) rfl (k2 h20 (by omega) g21)
          · have z65 := is1v k62_0 c65
            replace k62_0 := is1 k62_0 c65
            refine ja_aload_n dtried_68 rfl rfl ?_
            refine fg_locals (v := h 0 77) rfl dtried_69 ?_
            have f22 := gF_locals g
            refine ja_bipush 10 dtried_72 rfl ?_
            refine ja_icmp_ne 83 dtried_74 rfl ⟨by omega, by omega⟩ ⟨by decide, by decide⟩ (fun c74 => ?_) (fun c74 => ?_)
            · refine ja_aload_n dtried_83 rfl rfl ?_
              refine fg_at (v := (h 0 7) + 1) rfl dtried_84 ?_
              refine ja_istore dtried_87 (by decide) (L2 := [(4, (0, ((h 0 7) + 1))), (3, (0, (h 0 113))), (2, (0, (h 0 88))), (0, (2, ((0 : Nat) : Int))), (1, (0, a1))]) rfl ?_
              refine ja_aload_n dtried_89 rfl rfl ?_
              refine t_name (by decide) (show (0 : Nat) ≤ 8 by decide) dtried_90 g8  ?_ ?_
              · intro k90_0 g23
                replace k90_0 : ((h 0 7) + 1) < 900 ∧ (h 2 ((h 0 7) + 1).toNat) = 2 := k90_0
                replace g23 : mo_G Zz (ja_up (ja_up (ja_up (ja_up (ja_up (ja_up (ja_up (ja_up (ja_up (ja_up (ja_up (ja_up (ja_up (ja_up (ja_up h 52 ((h 0 88).toNat) 5) 53 ((h 0 88).toNat) (h 0 7)) 54 ((h 0 88).toNat) (-1)) 55 ((h 0 88).toNat) 0) 56 ((h 0 88).toNat) w2) 57 ((h 0 88).toNat) w3) 0 88 ((h 0 88) + 1)) 55 ((h 0 88).toNat) 1) 74 ((h 0 113).toNat) 24) 75 ((h 0 113).toNat) 0) 76 ((h 0 113).toNat) 0) 0 113 ((h 0 113) + 1)) 75 ((a1).toNat) ((h 0 113) + 1)) 0 7 ((h 0 7) + 1)) 0 7 (((h 0 7) + 1) + 1)) := g23
                show mJ l D cA ad 4 cX12_tried 8 (some .boolean) 93 [(4, (0, ((h 0 7) + 1))), (3, (0, (h 0 113))), (2, (0, (h 0 88))), (0, (2, ((0 : Nat) : Int))), (1, (0, a1))] [(0, 1)] (ja_up (ja_up (ja_up (ja_up (ja_up (ja_up (ja_up (ja_up (ja_up (ja_up (ja_up (ja_up (ja_up (ja_up (ja_up h 52 ((h 0 88).toNat) 5) 53 ((h 0 88).toNat) (h 0 7)) 54 ((h 0 88).toNat) (-1)) 55 ((h 0 88).toNat) 0) 56 ((h 0 88).toNat) w2) 57 ((h 0 88).toNat) w3) 0 88 ((h 0 88) + 1)) 55 ((h 0 88).toNat) 1) 74 ((h 0 113).toNat) 24) 75 ((h 0 113).toNat) 0) 76 ((h 0 113).toNat) 0) 0 113 ((h 0 113) + 1)) 75 ((a1).toNat) ((h 0 113) + 1)) 0 7 ((h 0 7) + 1)) 0 7 (((h 0 7) + 1) + 1)) Q
                refine ja_if_ne 98 dtried_93 rfl ⟨by decide, by decide⟩ (fun c93 => ?_) (fun c93 => absurd c93 (by omega))
                refine ja_aload_n dtried_98 rfl rfl ?_
                refine fg_known (v := h 0 79) rfl dtried_99 ?_
                have f24 := gF_known g
                refine ja_istore dtried_102 (by decide) (L2 := [(5, (0, (h 0 79))), (4, (0, ((h 0 7) + 1))), (3, (0, (h 0 113))), (2, (0, (h 0 88))), (0, (2, ((0 : Nat) : Int))), (1, (0, a1))]) rfl ?_
                refine ja_aload_n dtried_104 rfl rfl ?_
                refine ja_iload dtried_105 rfl ?_
                refine t_know (by decide) (show (0 : Nat) ≤ 8 by decide) dtried_107 g23 ⟨by omega, by omega⟩ (show 0 ≤ ((h 0 7) + 1) ∧ ((h 0 7) + 1) ≤ 900 by omega) (show (h 0 79) ≤ 15 by omega) (show (h 0 77) ≤ 14 by omega) ?_
                intro w25 w26 k107_0 g27
                replace k107_0 : 0 ≤ w25 ∧ w25 ≤ 8 ∧ (1 ≤ w25 ∨ w25 = (h 0 11)) ∧ -2147483648 ≤ w26 ∧ w26 ≤ 2147483647 := k107_0
                replace g27 : mo_G Zz (ja_up (ja_up (ja_up (ja_up (ja_up (ja_up (ja_up (ja_up (ja_up (ja_up (ja_up (ja_up (ja_up (ja_up (ja_up (ja_up (ja_up (ja_up (ja_up (ja_up (ja_up h 52 ((h 0 88).toNat) 5) 53 ((h 0 88).toNat) (h 0 7)) 54 ((h 0 88).toNat) (-1)) 55 ((h 0 88).toNat) 0) 56 ((h 0 88).toNat) w2) 57 ((h 0 88).toNat) w3) 0 88 ((h 0 88) + 1)) 55 ((h 0 88).toNat) 1) 74 ((h 0 113).toNat) 24) 75 ((h 0 113).toNat) 0) 76 ((h 0 113).toNat) 0) 0 113 ((h 0 113) + 1)) 75 ((a1).toNat) ((h 0 113) + 1)) 0 7 ((h 0 7) + 1)) 0 7 (((h 0 7) + 1) + 1)) 0 11 w25) 0 12 w26) 49 ((h 0 79).toNat) (h 5 ((h 0 7) + 1).toNat)) 50 ((h 0 79).toNat) (h 0 77)) 0 79 ((h 0 79) + 1)) 0 77 ((h 0 77) + 1)) := g27
                show mJ l D cA ad 4 cX12_tried 8 (some .boolean) 110 [(5, (0, (h 0 79))), (4, (0, ((h 0 7) + 1))), (3, (0, (h 0 113))), (2, (0, (h 0 88))), (0, (2, ((0 : Nat) : Int))), (1, (0, a1))] [] (ja_up (ja_up (ja_up (ja_up (ja_up (ja_up (ja_up (ja_up (ja_up (ja_up (ja_up (ja_up (ja_up (ja_up (ja_up (ja_up (ja_up (ja_up (ja_up (ja_up (ja_up h 52 ((h 0 88).toNat) 5) 53 ((h 0 88).toNat) (h 0 7)) 54 ((h 0 88).toNat) (-1)) 55 ((h 0 88).toNat) 0) 56 ((h 0 88).toNat) w2) 57 ((h 0 88).toNat) w3) 0 88 ((h 0 88) + 1)) 55 ((h 0 88).toNat) 1) 74 ((h 0 113).toNat) 24) 75 ((h 0 113).toNat) 0) 76 ((h 0 113).toNat) 0) 0 113 ((h 0 113) + 1)) 75 ((a1).toNat) ((h 0 113) + 1)) 0 7 ((h 0 7) + 1)) 0 7 (((h 0 7) + 1) + 1)) 0 11 w25) 0 12 w26) 49 ((h 0 79).toNat) (h 5 ((h 0 7) + 1).toNat)) 50 ((h 0 79).toNat) (h 0 77)) 0 79 ((h 0 79) + 1)) 0 77 ((h 0 77) + 1)) Q
                refine ja_aload_n dtried_110 rfl rfl ?_
                refine ja_bipush 15 dtried_111 rfl ?_
                refine ja_iload_n dtried_113 rfl rfl ?_
                refine ja_iconst dtried_114 ?_
                refine t_emit (by decide) (show (0 : Nat) ≤ 8 by decide) dtried_115 g27 ⟨by decide, by decide⟩ ⟨by omega, by omega⟩ ⟨by decide, by decide⟩ (show 0 ≤ 15 ∧ 15 ≤ 26 by omega) (show ((h 0 113) + 1) < 5000 by omega) ?_
                intro g28
                replace g28 : mo_G Zz (ja_up (ja_up (ja_up (ja_up (ja_up (ja_up (ja_up (ja_up (ja_up (ja_up (ja_up (ja_up (ja_up (ja_up (ja_up (ja_up (ja_up (ja_up (ja_up (ja_up (ja_up (ja_up (ja_up (ja_up (ja_up h 52 ((h 0 88).toNat) 5) 53 ((h 0 88).toNat) (h 0 7)) 54 ((h 0 88).toNat) (-1)) 55 ((h 0 88).toNat) 0) 56 ((h 0 88).toNat) w2) 57 ((h 0 88).toNat) w3) 0 88 ((h 0 88) + 1)) 55 ((h 0 88).toNat) 1) 74 ((h 0 113).toNat) 24) 75 ((h 0 113).toNat) 0) 76 ((h 0 113).toNat) 0) 0 113 ((h 0 113) + 1)) 75 ((a1).toNat) ((h 0 113) + 1)) 0 7 ((h 0 7) + 1)) 0 7 (((h 0 7) + 1) + 1)) 0 11 w25) 0 12 w26) 49 ((h 0 79).toNat) (h 5 ((h 0 7) + 1).toNat)) 50 ((h 0 79).toNat) (h 0 77)) 0 79 ((h 0 79) + 1)) 0 77 ((h 0 77) + 1)) 74 (((h 0 113) + 1).toNat) 15) 75 (((h 0 113) + 1).toNat) (h 0 88)) 76 (((h 0 113) + 1).toNat) 0) 0 113 (((h 0 113) + 1) + 1)) := g28
                show mJ l D cA ad 4 cX12_tried 8 (some .boolean) 118 [(5, (0, (h 0 79))), (4, (0, ((h 0 7) + 1))), (3, (0, (h 0 113))), (2, (0, (h 0 88))), (0, (2, ((0 : Nat) : Int))), (1, (0, a1))] [(0, ((h 0 113) + 1))] (ja_up (ja_up (ja_up (ja_up (ja_up (ja_up (ja_up (ja_up (ja_up (ja_up (ja_up (ja_up (ja_up (ja_up (ja_up (ja_up (ja_up (ja_up (ja_up (ja_up (ja_up (ja_up (ja_up (ja_up (ja_up h 52 ((h 0 88).toNat) 5) 53 ((h 0 88).toNat) (h 0 7)) 54 ((h 0 88).toNat) (-1)) 55 ((h 0 88).toNat) 0) 56 ((h 0 88).toNat) w2) 57 ((h 0 88).toNat) w3) 0 88 ((h 0 88) + 1)) 55 ((h 0 88).toNat) 1) 74 ((h 0 113).toNat) 24) 75 ((h 0 113).toNat) 0) 76 ((h 0 113).toNat) 0) 0 113 ((h 0 113) + 1)) 75 ((a1).toNat) ((h 0 113) + 1)) 0 7 ((h 0 7) + 1)) 0 7 (((h 0 7) + 1) + 1)) 0 11 w25) 0 12 w26) 49 ((h 0 79).toNat) (h 5 ((h 0 7) + 1).toNat)) 50 ((h 0 79).toNat) (h 0 77)) 0 79 ((h 0 79) + 1)) 0 77 ((h 0 77) + 1)) 74 (((h 0 113) + 1).toNat) 15) 75 (((h 0 113) + 1).toNat) (h 0 88)) 76 (((h 0 113) + 1).toNat) 0) 0 113 (((h 0 113) + 1) + 1)) Q
                refine ja_istore dtried_118 (by decide) (L2 := [(6, (0, ((h 0 113) + 1))), (5, (0, (h 0 79))), (4, (0, ((h 0 7) + 1))), (3, (0, (h 0 113))), (2, (0, (h 0 88))), (0, (2, ((0 : Nat) : Int))), (1, (0, a1))]) rfl ?_
                refine ja_aload_n dtried_120 rfl rfl ?_
                refine ja_iconst dtried_121 ?_
                refine ja_aload_n dtried_122 rfl rfl ?_
                refine fg_locals (v := (h 0 77) + 1) rfl dtried_123 ?_
                refine ja_iconst dtried_126 ?_
                refine ja_isub dtried_127 ?_
                refine ja_iconst dtried_128 ?_
                refine t_emit (by decide) (show (0 : Nat) ≤ 8 by decide) dtried_129 g28 ⟨by decide, by decide⟩ ⟨by omega, by omega⟩ ⟨by decide, by decide⟩ (show 0 ≤ 5 ∧ 5 ≤ 26 by omega) (show (((h 0 113) + 1) + 1) < 5000 by omega) ?_
                intro g29
                replace g29 : mo_G Zz (ja_up (ja_up (ja_up (ja_up (ja_up (ja_up (ja_up (ja_up (ja_up (ja_up (ja_up (ja_up (ja_up (ja_up (ja_up (ja_up (ja_up (ja_up (ja_up (ja_up (ja_up (ja_up (ja_up (ja_up (ja_up (ja_up (ja_up (ja_up (ja_up h 52 ((h 0 88).toNat) 5) 53 ((h 0 88).toNat) (h 0 7)) 54 ((h 0 88).toNat) (-1)) 55 ((h 0 88).toNat) 0) 56 ((h 0 88).toNat) w2) 57 ((h 0 88).toNat) w3) 0 88 ((h 0 88) + 1)) 55 ((h 0 88).toNat) 1) 74 ((h 0 113).toNat) 24) 75 ((h 0 113).toNat) 0) 76 ((h 0 113).toNat) 0) 0 113 ((h 0 113) + 1)) 75 ((a1).toNat) ((h 0 113) + 1)) 0 7 ((h 0 7) + 1)) 0 7 (((h 0 7) + 1) + 1)) 0 11 w25) 0 12 w26) 49 ((h 0 79).toNat) (h 5 ((h 0 7) + 1).toNat)) 50 ((h 0 79).toNat) (h 0 77)) 0 79 ((h 0 79) + 1)) 0 77 ((h 0 77) + 1)) 74 (((h 0 113) + 1).toNat) 15) 75 (((h 0 113) + 1).toNat) (h 0 88)) 76 (((h 0 113) + 1).toNat) 0) 0 113 (((h 0 113) + 1) + 1)) 74 ((((h 0 113) + 1) + 1).toNat) 5) 75 ((((h 0 113) + 1) + 1).toNat) (((h 0 77) + 1) - 1)) 76 ((((h 0 113) + 1) + 1).toNat) 0) 0 113 ((((h 0 113) + 1) + 1) + 1)) := g29
                show mJ l D cA ad 4 cX12_tried 8 (some .boolean) 132 [(6, (0, ((h 0 113) + 1))), (5, (0, (h 0 79))), (4, (0, ((h 0 7) + 1))), (3, (0, (h 0 113))), (2, (0, (h 0 88))), (0, (2, ((0 : Nat) : Int))), (1, (0, a1))] [(0, (((h 0 113) + 1) + 1))] (ja_up (ja_up (ja_up (ja_up (ja_up (ja_up (ja_up (ja_up (ja_up (ja_up (ja_up (ja_up (ja_up (ja_up (ja_up (ja_up (ja_up (ja_up (ja_up (ja_up (ja_up (ja_up (ja_up (ja_up (ja_up (ja_up (ja_up (ja_up (ja_up h 52 ((h 0 88).toNat) 5) 53 ((h 0 88).toNat) (h 0 7)) 54 ((h 0 88).toNat) (-1)) 55 ((h 0 88).toNat) 0) 56 ((h 0 88).toNat) w2) 57 ((h 0 88).toNat) w3) 0 88 ((h 0 88) + 1)) 55 ((h 0 88).toNat) 1) 74 ((h 0 113).toNat) 24) 75 ((h 0 113).toNat) 0) 76 ((h 0 113).toNat) 0) 0 113 ((h 0 113) + 1)) 75 ((a1).toNat) ((h 0 113) + 1)) 0 7 ((h 0 7) + 1)) 0 7 (((h 0 7) + 1) + 1)) 0 11 w25) 0 12 w26) 49 ((h 0 79).toNat) (h 5 ((h 0 7) + 1).toNat)) 50 ((h 0 79).toNat) (h 0 77)) 0 79 ((h 0 79) + 1)) 0 77 ((h 0 77) + 1)) 74 (((h 0 113) + 1).toNat) 15) 75 (((h 0 113) + 1).toNat) (h 0 88)) 76 (((h 0 113) + 1).toNat) 0) 0 113 (((h 0 113) + 1) + 1)) 74 ((((h 0 113) + 1) + 1).toNat) 5) 75 ((((h 0 113) + 1) + 1).toNat) (((h 0 77) + 1) - 1)) 76 ((((h 0 113) + 1) + 1).toNat) 0) 0 113 ((((h 0 113) + 1) + 1) + 1)) Q
                refine ja_istore dtried_132 (by decide) (L2 := [(7, (0, (((h 0 113) + 1) + 1))), (6, (0, ((h 0 113) + 1))), (5, (0, (h 0 79))), (4, (0, ((h 0 7) + 1))), (3, (0, (h 0 113))), (2, (0, (h 0 88))), (0, (2, ((0 : Nat) : Int))), (1, (0, a1))]) rfl ?_
                refine ja_aload_n dtried_134 rfl rfl ?_
                refine ja_bipush 22 dtried_135 rfl ?_
                refine ja_iload_n dtried_137 rfl rfl ?_
                refine ja_iconst dtried_138 ?_
                refine ja_iconst dtried_139 ?_
                refine t_later (by decide) (show (0 : Nat) ≤ 8 by decide) dtried_140 g29 ⟨by decide, by decide⟩ ⟨by omega, by omega⟩ ⟨by decide, by decide⟩ ⟨by decide, by decide⟩ (show 0 ≤ 22 ∧ 22 ≤ 38 by omega) (show (h 0 17) < 2000 by omega) ?_
                intro g30
                replace g30 : mo_G Zz (ja_up (ja_up (ja_up (ja_up (ja_up (ja_up (ja_up (ja_up (ja_up (ja_up (ja_up (ja_up (ja_up (ja_up (ja_up (ja_up (ja_up (ja_up (ja_up (ja_up (ja_up (ja_up (ja_up (ja_up (ja_up (ja_up (ja_up (ja_up (ja_up (ja_up (ja_up (ja_up (ja_up (ja_up h 52 ((h 0 88).toNat) 5) 53 ((h 0 88).toNat) (h 0 7)) 54 ((h 0 88).toNat) (-1)) 55 ((h 0 88).toNat) 0) 56 ((h 0 88).toNat) w2) 57 ((h 0 88).toNat) w3) 0 88 ((h 0 88) + 1)) 55 ((h 0 88).toNat) 1) 74 ((h 0 113).toNat) 24) 75 ((h 0 113).toNat) 0) 76 ((h 0 113).toNat) 0) 0 113 ((h 0 113) + 1)) 75 ((a1).toNat) ((h 0 113) + 1)) 0 7 ((h 0 7) + 1)) 0 7 (((h 0 7) + 1) + 1)) 0 11 w25) 0 12 w26) 49 ((h 0 79).toNat) (h 5 ((h 0 7) + 1).toNat)) 50 ((h 0 79).toNat) (h 0 77)) 0 79 ((h 0 79) + 1)) 0 77 ((h 0 77) + 1)) 74 (((h 0 113) + 1).toNat) 15) 75 (((h 0 113) + 1).toNat) (h 0 88)) 76 (((h 0 113) + 1).toNat) 0) 0 113 (((h 0 113) + 1) + 1)) 74 ((((h 0 113) + 1) + 1).toNat) 5) 75 ((((h 0 113) + 1) + 1).toNat) (((h 0 77) + 1) - 1)) 76 ((((h 0 113) + 1) + 1).toNat) 0) 0 113 ((((h 0 113) + 1) + 1) + 1)) 6 ((h 0 17).toNat) 22) 7 ((h 0 17).toNat) (h 0 113)) 8 ((h 0 17).toNat) 0) 9 ((h 0 17).toNat) 0) 0 17 ((h 0 17) + 1)) := g30
                show mJ l D cA ad 4 cX12_tried 8 (some .boolean) 143 [(7, (0, (((h 0 113) + 1) + 1))), (6, (0, ((h 0 113) + 1))), (5, (0, (h 0 79))), (4, (0, ((h 0 7) + 1))), (3, (0, (h 0 113))), (2, (0, (h 0 88))), (0, (2, ((0 : Nat) : Int))), (1, (0, a1))] [(0, 1)] (ja_up (ja_up (ja_up (ja_up (ja_up (ja_up (ja_up (ja_up (ja_up (ja_up (ja_up (ja_up (ja_up (ja_up (ja_up (ja_up (ja_up (ja_up (ja_up (ja_up (ja_up (ja_up (ja_up (ja_up (ja_up (ja_up (ja_up (ja_up (ja_up (ja_up (ja_up (ja_up (ja_up (ja_up h 52 ((h 0 88).toNat) 5) 53 ((h 0 88).toNat) (h 0 7)) 54 ((h 0 88).toNat) (-1)) 55 ((h 0 88).toNat) 0) 56 ((h 0 88).toNat) w2) 57 ((h 0 88).toNat) w3) 0 88 ((h 0 88) + 1)) 55 ((h 0 88).toNat) 1) 74 ((h 0 113).toNat) 24) 75 ((h 0 113).toNat) 0) 76 ((h 0 113).toNat) 0) 0 113 ((h 0 113) + 1)) 75 ((a1).toNat) ((h 0 113) + 1)) 0 7 ((h 0 7) + 1)) 0 7 (((h 0 7) + 1) + 1)) 0 11 w25) 0 12 w26) 49 ((h 0 79).toNat) (h 5 ((h 0 7) + 1).toNat)) 50 ((h 0 79).toNat) (h 0 77)) 0 79 ((h 0 79) + 1)) 0 77 ((h 0 77) + 1)) 74 (((h 0 113) + 1).toNat) 15) 75 (((h 0 113) + 1).toNat) (h 0 88)) 76 (((h 0 113) + 1).toNat) 0) 0 113 (((h 0 113) + 1) + 1)) 74 ((((h 0 113) + 1) + 1).toNat) 5) 75 ((((h 0 113) + 1) + 1).toNat) (((h 0 77) + 1) - 1)) 76 ((((h 0 113) + 1) + 1).toNat) 0) 0 113 ((((h 0 113) + 1) + 1) + 1)) 6 ((h 0 17).toNat) 22) 7 ((h 0 17).toNat) (h 0 113)) 8 ((h 0 17).toNat) 0) 9 ((h 0 17).toNat) 0) 0 17 ((h 0 17) + 1)) Q
                refine ja_if_eq 175 dtried_143 rfl ⟨by decide, by decide⟩ (fun c143 => absurd c143 (by omega)) (fun c143 => ?_)
                refine ja_aload_n dtried_146 rfl rfl ?_
                refine ja_bipush 16 dtried_147 rfl ?_
                refine ja_iload dtried_149 rfl ?_
                refine ja_iconst dtried_151 ?_
                refine ja_iconst dtried_152 ?_
                refine t_later (by decide) (show (0 : Nat) ≤ 8 by decide) dtried_153 g30 ⟨by decide, by decide⟩ ⟨by omega, by omega⟩ ⟨by decide, by decide⟩ ⟨by decide, by decide⟩ (show 0 ≤ 16 ∧ 16 ≤ 38 by omega) (show ((h 0 17) + 1) < 2000 by omega) ?_
                intro g31
                replace g31 : mo_G Zz (ja_up (ja_up (ja_up (ja_up (ja_up (ja_up (ja_up (ja_up (ja_up (ja_up (ja_up (ja_up (ja_up (ja_up (ja_up (ja_up (ja_up (ja_up (ja_up (ja_up (ja_up (ja_up (ja_up (ja_up (ja_up (ja_up (ja_up (ja_up (ja_up (ja_up (ja_up (ja_up (ja_up (ja_up (ja_up (ja_up (ja_up (ja_up (ja_up h 52 ((h 0 88).toNat) 5) 53 ((h 0 88).toNat) (h 0 7)) 54 ((h 0 88).toNat) (-1)) 55 ((h 0 88).toNat) 0) 56 ((h 0 88).toNat) w2) 57 ((h 0 88).toNat) w3) 0 88 ((h 0 88) + 1)) 55 ((h 0 88).toNat) 1) 74 ((h 0 113).toNat) 24) 75 ((h 0 113).toNat) 0) 76 ((h 0 113).toNat) 0) 0 113 ((h 0 113) + 1)) 75 ((a1).toNat) ((h 0 113) + 1)) 0 7 ((h 0 7) + 1)) 0 7 (((h 0 7) + 1) + 1)) 0 11 w25) 0 12 w26) 49 ((h 0 79).toNat) (h 5 ((h 0 7) + 1).toNat)) 50 ((h 0 79).toNat) (h 0 77)) 0 79 ((h 0 79) + 1)) 0 77 ((h 0 77) + 1)) 74 (((h 0 113) + 1).toNat) 15) 75 (((h 0 113) + 1).toNat) (h 0 88)) 76 (((h 0 113) + 1).toNat) 0) 0 113 (((h 0 113) + 1) + 1)) 74 ((((h 0 113) + 1) + 1).toNat) 5) 75 ((((h 0 113) + 1) + 1).toNat) (((h 0 77) + 1) - 1)) 76 ((((h 0 113) + 1) + 1).toNat) 0) 0 113 ((((h 0 113) + 1) + 1) + 1)) 6 ((h 0 17).toNat) 22) 7 ((h 0 17).toNat) (h 0 113)) 8 ((h 0 17).toNat) 0) 9 ((h 0 17).toNat) 0) 0 17 ((h 0 17) + 1)) 6 (((h 0 17) + 1).toNat) 16) 7 (((h 0 17) + 1).toNat) (h 0 79)) 8 (((h 0 17) + 1).toNat) 0) 9 (((h 0 17) + 1).toNat) 0) 0 17 (((h 0 17) + 1) + 1)) := g31
                show mJ l D cA ad 4 cX12_tried 8 (some .boolean) 156 [(7, (0, (((h 0 113) + 1) + 1))), (6, (0, ((h 0 113) + 1))), (5, (0, (h 0 79))), (4, (0, ((h 0 7) + 1))), (3, (0, (h 0 113))), (2, (0, (h 0 88))), (0, (2, ((0 : Nat) : Int))), (1, (0, a1))] [(0, 1)] (ja_up (ja_up (ja_up (ja_up (ja_up (ja_up (ja_up (ja_up (ja_up (ja_up (ja_up (ja_up (ja_up (ja_up (ja_up (ja_up (ja_up (ja_up (ja_up (ja_up (ja_up (ja_up (ja_up (ja_up (ja_up (ja_up (ja_up (ja_up (ja_up (ja_up (ja_up (ja_up (ja_up (ja_up (ja_up (ja_up (ja_up (ja_up (ja_up h 52 ((h 0 88).toNat) 5) 53 ((h 0 88).toNat) (h 0 7)) 54 ((h 0 88).toNat) (-1)) 55 ((h 0 88).toNat) 0) 56 ((h 0 88).toNat) w2) 57 ((h 0 88).toNat) w3) 0 88 ((h 0 88) + 1)) 55 ((h 0 88).toNat) 1) 74 ((h 0 113).toNat) 24) 75 ((h 0 113).toNat) 0) 76 ((h 0 113).toNat) 0) 0 113 ((h 0 113) + 1)) 75 ((a1).toNat) ((h 0 113) + 1)) 0 7 ((h 0 7) + 1)) 0 7 (((h 0 7) + 1) + 1)) 0 11 w25) 0 12 w26) 49 ((h 0 79).toNat) (h 5 ((h 0 7) + 1).toNat)) 50 ((h 0 79).toNat) (h 0 77)) 0 79 ((h 0 79) + 1)) 0 77 ((h 0 77) + 1)) 74 (((h 0 113) + 1).toNat) 15) 75 (((h 0 113) + 1).toNat) (h 0 88)) 76 (((h 0 113) + 1).toNat) 0) 0 113 (((h 0 113) + 1) + 1)) 74 ((((h 0 113) + 1) + 1).toNat) 5) 75 ((((h 0 113) + 1) + 1).toNat) (((h 0 77) + 1) - 1)) 76 ((((h 0 113) + 1) + 1).toNat) 0) 0 113 ((((h 0 113) + 1) + 1) + 1)) 6 ((h 0 17).toNat) 22) 7 ((h 0 17).toNat) (h 0 113)) 8 ((h 0 17).toNat) 0) 9 ((h 0 17).toNat) 0) 0 17 ((h 0 17) + 1)) 6 (((h 0 17) + 1).toNat) 16) 7 (((h 0 17) + 1).toNat) (h 0 79)) 8 (((h 0 17) + 1).toNat) 0) 9 (((h 0 17) + 1).toNat) 0) 0 17 (((h 0 17) + 1) + 1)) Q
                refine ja_if_eq 175 dtried_156 rfl ⟨by decide, by decide⟩ (fun c156 => absurd c156 (by omega)) (fun c156 => ?_)
                refine ja_aload_n dtried_159 rfl rfl ?_
                refine ja_bipush 14 dtried_160 rfl ?_
                refine ja_iconst dtried_162 ?_
                refine ja_iconst dtried_163 ?_
                refine ja_iconst dtried_164 ?_
                refine t_later (by decide) (show (0 : Nat) ≤ 8 by decide) dtried_165 g31 ⟨by decide, by decide⟩ ⟨by decide, by decide⟩ ⟨by decide, by decide⟩ ⟨by decide, by decide⟩ (show 0 ≤ 14 ∧ 14 ≤ 38 by omega) (show (((h 0 17) + 1) + 1) < 2000 by omega) ?_
                intro g32
                replace g32 : mo_G Zz (ja_up (ja_up (ja_up (ja_up (ja_up (ja_up (ja_up (ja_up (ja_up (ja_up (ja_up (ja_up (ja_up (ja_up (ja_up (ja_up (ja_up (ja_up (ja_up (ja_up (ja_up (ja_up (ja_up (ja_up (ja_up (ja_up (ja_up (ja_up (ja_up (ja_up (ja_up (ja_up (ja_up (ja_up (ja_up (ja_up (ja_up (ja_up (ja_up (ja_up (ja_up (ja_up (ja_up (ja_up h 52 ((h 0 88).toNat) 5) 53 ((h 0 88).toNat) (h 0 7)) 54 ((h 0 88).toNat) (-1)) 55 ((h 0 88).toNat) 0) 56 ((h 0 88).toNat) w2) 57 ((h 0 88).toNat) w3) 0 88 ((h 0 88) + 1)) 55 ((h 0 88).toNat) 1) 74 ((h 0 113).toNat) 24) 75 ((h 0 113).toNat) 0) 76 ((h 0 113).toNat) 0) 0 113 ((h 0 113) + 1)) 75 ((a1).toNat) ((h 0 113) + 1)) 0 7 ((h 0 7) + 1)) 0 7 (((h 0 7) + 1) + 1)) 0 11 w25) 0 12 w26) 49 ((h 0 79).toNat) (h 5 ((h 0 7) + 1).toNat)) 50 ((h 0 79).toNat) (h 0 77)) 0 79 ((h 0 79) + 1)) 0 77 ((h 0 77) + 1)) 74 (((h 0 113) + 1).toNat) 15) 75 (((h 0 113) + 1).toNat) (h 0 88)) 76 (((h 0 113) + 1).toNat) 0) 0 113 (((h 0 113) + 1) + 1)) 74 ((((h 0 113) + 1) + 1).toNat) 5) 75 ((((h 0 113) + 1) + 1).toNat) (((h 0 77) + 1) - 1)) 76 ((((h 0 113) + 1) + 1).toNat) 0) 0 113 ((((h 0 113) + 1) + 1) + 1)) 6 ((h 0 17).toNat) 22) 7 ((h 0 17).toNat) (h 0 113)) 8 ((h 0 17).toNat) 0) 9 ((h 0 17).toNat) 0) 0 17 ((h 0 17) + 1)) 6 (((h 0 17) + 1).toNat) 16) 7 (((h 0 17) + 1).toNat) (h 0 79)) 8 (((h 0 17) + 1).toNat) 0) 9 (((h 0 17) + 1).toNat) 0) 0 17 (((h 0 17) + 1) + 1)) 6 ((((h 0 17) + 1) + 1).toNat) 14) 7 ((((h 0 17) + 1) + 1).toNat) 0) 8 ((((h 0 17) + 1) + 1).toNat) 0) 9 ((((h 0 17) + 1) + 1).toNat) 0) 0 17 ((((h 0 17) + 1) + 1) + 1)) := g32
                show mJ l D cA ad 4 cX12_tried 8 (some .boolean) 168 [(7, (0, (((h 0 113) + 1) + 1))), (6, (0, ((h 0 113) + 1))), (5, (0, (h 0 79))), (4, (0, ((h 0 7) + 1))), (3, (0, (h 0 113))), (2, (0, (h 0 88))), (0, (2, ((0 : Nat) : Int))), (1, (0, a1))] [(0, 1)] (ja_up (ja_up (ja_up (ja_up (ja_up (ja_up (ja_up (ja_up (ja_up (ja_up (ja_up (ja_up (ja_up (ja_up (ja_up (ja_up (ja_up (ja_up (ja_up (ja_up (ja_up (ja_up (ja_up (ja_up (ja_up (ja_up (ja_up (ja_up (ja_up (ja_up (ja_up (ja_up (ja_up (ja_up (ja_up (ja_up (ja_up (ja_up (ja_up (ja_up (ja_up (ja_up (ja_up (ja_up h 52 ((h 0 88).toNat) 5) 53 ((h 0 88).toNat) (h 0 7)) 54 ((h 0 88).toNat) (-1)) 55 ((h 0 88).toNat) 0) 56 ((h 0 88).toNat) w2) 57 ((h 0 88).toNat) w3) 0 88 ((h 0 88) + 1)) 55 ((h 0 88).toNat) 1) 74 ((h 0 113).toNat) 24) 75 ((h 0 113).toNat) 0) 76 ((h 0 113).toNat) 0) 0 113 ((h 0 113) + 1)) 75 ((a1).toNat) ((h 0 113) + 1)) 0 7 ((h 0 7) + 1)) 0 7 (((h 0 7) + 1) + 1)) 0 11 w25) 0 12 w26) 49 ((h 0 79).toNat) (h 5 ((h 0 7) + 1).toNat)) 50 ((h 0 79).toNat) (h 0 77)) 0 79 ((h 0 79) + 1)) 0 77 ((h 0 77) + 1)) 74 (((h 0 113) + 1).toNat) 15) 75 (((h 0 113) + 1).toNat) (h 0 88)) 76 (((h 0 113) + 1).toNat) 0) 0 113 (((h 0 113) + 1) + 1)) 74 ((((h 0 113) + 1) + 1).toNat) 5) 75 ((((h 0 113) + 1) + 1).toNat) (((h 0 77) + 1) - 1)) 76 ((((h 0 113) + 1) + 1).toNat) 0) 0 113 ((((h 0 113) + 1) + 1) + 1)) 6 ((h 0 17).toNat) 22) 7 ((h 0 17).toNat) (h 0 113)) 8 ((h 0 17).toNat) 0) 9 ((h 0 17).toNat) 0) 0 17 ((h 0 17) + 1)) 6 (((h 0 17) + 1).toNat) 16) 7 (((h 0 17) + 1).toNat) (h 0 79)) 8 (((h 0 17) + 1).toNat) 0) 9 (((h 0 17) + 1).toNat) 0) 0 17 (((h 0 17) + 1) + 1)) 6 ((((h 0 17) + 1) + 1).toNat) 14) 7 ((((h 0 17) + 1) + 1).toNat) 0) 8 ((((h 0 17) + 1) + 1).toNat) 0) 9 ((((h 0 17) + 1) + 1).toNat) 0) 0 17 ((((h 0 17) + 1) + 1) + 1)) Q
                refine ja_if_eq 175 dtried_168 rfl ⟨by decide, by decide⟩ (fun c168 => absurd c168 (by omega)) (fun c168 => ?_)
                refine ja_iconst dtried_171 ?_
                refine ja_goto 176 dtried_172 rfl ?_
                refine ja_zreturn dtried_176 rfl (by omega) ?_
                exact mo_fin (by omega) rfl (k1 (ja_up (ja_up (ja_up (ja_up (ja_up (ja_up (ja_up (ja_up (ja_up (ja_up (ja_up (ja_up (ja_up (ja_up (ja_up (ja_up (ja_up (ja_up (ja_up (ja_up (ja_up (ja_up (ja_up (ja_up (ja_up (ja_up (ja_up (ja_up (ja_up (ja_up (ja_up (ja_up (ja_up (ja_up (ja_up (ja_up (ja_up (ja_up (ja_up (ja_up (ja_up (ja_up (ja_up (ja_up h 52 ((h 0 88).toNat) 5) 53 ((h 0 88).toNat) (h 0 7)) 54 ((h 0 88).toNat) (-1)) 55 ((h 0 88).toNat) 0) 56 ((h 0 88).toNat) w2) 57 ((h 0 88).toNat) w3) 0 88 ((h 0 88) + 1)) 55 ((h 0 88).toNat) 1) 74 ((h 0 113).toNat) 24) 75 ((h 0 113).toNat) 0) 76 ((h 0 113).toNat) 0) 0 113 ((h 0 113) + 1)) 75 ((a1).toNat) ((h 0 113) + 1)) 0 7 ((h 0 7) + 1)) 0 7 (((h 0 7) + 1) + 1)) 0 11 w25) 0 12 w26) 49 ((h 0 79).toNat) (h 5 ((h 0 7) + 1).toNat)) 50 ((h 0 79).toNat) (h 0 77)) 0 79 ((h 0 79) + 1)) 0 77 ((h 0 77) + 1)) 74 (((h 0 113) + 1).toNat) 15) 75 (((h 0 113) + 1).toNat) (h 0 88)) 76 (((h 0 113) + 1).toNat) 0) 0 113 (((h 0 113) + 1) + 1)) 74 ((((h 0 113) + 1) + 1).toNat) 5) 75 ((((h 0 113) + 1) + 1).toNat) (((h 0 77) + 1) - 1)) 76 ((((h 0 113) + 1) + 1).toNat) 0) 0 113 ((((h 0 113) + 1) + 1) + 1)) 6 ((h 0 17).toNat) 22) 7 ((h 0 17).toNat) (h 0 113)) 8 ((h 0 17).toNat) 0) 9 ((h 0 17).toNat) 0) 0 17 ((h 0 17) + 1)) 6 (((h 0 17) + 1).toNat) 16) 7 (((h 0 17) + 1).toNat) (h 0 79)) 8 (((h 0 17) + 1).toNat) 0) 9 (((h 0 17) + 1).toNat) 0) 0 17 (((h 0 17) + 1) + 1)) 6 ((((h 0 17) + 1) + 1).toNat) 14) 7 ((((h 0 17) + 1) + 1).toNat) 0) 8 ((((h 0 17) + 1) + 1).toNat) 0) 9 ((((h 0 17) + 1) + 1).toNat) 0) 0 17 ((((h 0 17) + 1) + 1) + 1)) (ab_tried (sd := w2) (wh := w3) (f := w25) (fa := w26) (v := (h 5 ((h 0 7) + 1).toNat)) g p1 p2 (by omega) (by omega) (by omega) (by omega) (by omega) (by omega)) g32)
              · intro h33 k90_1 g34
                replace k90_1 : 0 < (h33 0 8) ∧ (h33 0 1) = (h 0 1) ∧ (h33 0 118) = (h 0 118) ∧ (h33 0 127) = (h 0 127) := k90_1
                refine ja_if_ne 98 dtried_93 rfl ⟨by decide, by decide⟩ (fun c93 => absurd c93 (by omega)) (fun c93 => ?_)
                refine ja_iconst dtried_96 ?_
                refine ja_zreturn dtried_97 rfl (by omega) ?_
                exact mo_fin (by omega) rfl (k2 h33 (by omega) g34)
            · refine ja_aload_n dtried_77 rfl rfl ?_
              refine ja_iconst dtried_78 ?_
              refine t_halt (by decide) (show (0 : Nat) ≤ 8 by decide) dtried_79 g8 ⟨by decide, by decide⟩ (show 1 ≤ 3 ∧ 3 ≤ 8 by omega) ?_
              intro h35 k79_0 g36
              replace k79_0 : 0 < (h35 0 8) ∧ (h35 0 1) = (h 0 1) ∧ (h35 0 118) = (h 0 118) ∧ (h35 0 127) = (h 0 127) ∧ (h35 0 41) = (h 0 41) := k79_0
              refine ja_zreturn dtried_82 rfl (by omega) ?_
              exact mo_fin (by omega) rfl (k2 h35 (by omega) g36)
        · intro h37 k53_1 g38
          replace k53_1 : 0 < (h37 0 8) ∧ (h37 0 1) = (h 0 1) ∧ (h37 0 118) = (h 0 118) ∧ (h37 0 127) = (h 0 127) := k53_1
          refine ja_if_ne 61 dtried_56 rfl ⟨by decide, by decide⟩ (fun c56 => absurd c56 (by omega)) (fun c56 => ?_)
          refine ja_iconst dtried_59 ?_
          refine ja_zreturn dtried_60 rfl (by omega) ?_
          exact mo_fin (by omega) rfl (k2 h37 (by omega) g38)
      · refine ja_iconst dtried_24 ?_
        refine ja_zreturn dtried_25 rfl (by omega) ?_
        exact mo_fin (by omega) rfl (k2 (ja_up (ja_up (ja_up (ja_up (ja_up (ja_up (ja_up h 52 ((h 0 88).toNat) 5) 53 ((h 0 88).toNat) (h 0 7)) 54 ((h 0 88).toNat) (-1)) 55 ((h 0 88).toNat) 0) 56 ((h 0 88).toNat) w2) 57 ((h 0 88).toNat) w3) 0 88 ((h 0 88) + 1)) (show 0 < (h 0 8) ∧ (h 0 1) = (h 0 1) ∧ (h 0 118) = (h 0 118) ∧ (h 0 127) = (h 0 127) by omega) g4)
    · intro h39 k16_1 g40
      refine ja_istore_n dtried_19 rfl (by decide) (L2 := [(2, (0, (-1))), (0, (2, ((0 : Nat) : Int))), (1, (0, a1))]) rfl ?_
      refine ja_iload_n dtried_20 rfl rfl ?_
      refine ja_if_ge 26 dtried_21 rfl ⟨by decide, by decide⟩ (fun c21 => absurd c21 (by omega)) (fun c21 => ?_)
      refine ja_iconst dtried_24 ?_
      refine ja_zreturn dtried_25 rfl (by omega) ?_
      exact mo_fin (by omega) rfl (k2 h39 (by omega) g40)
  · replace k3_0 := is0 k3_0 c6
    refine ja_aload_n dtried_9 rfl rfl ?_
    refine t_wrong (by decide) (show (0 : Nat) ≤ 8 by decide) dtried_10 g  ?_
    intro h41 k10_0 g42
    refine ja_zreturn dtried_13 rfl (by omega) ?_
    exact mo_fin (by omega) rfl (k2 h41 (by omega) g42)
theorem t_tried {a1 : Int} {R r ph q0 b : Int} {tf : mo_TF} {s : List mo_A} {ht st rg : Nat → Int} {tu : Int} {d nL pc : Nat} {cc : ByteArray} {rt : Option FieldType} {L : List (Nat × ja_V)} {S : List ja_V} {h : ja_H} {Q : Option ja_V → ja_H → Prop} (hdd : 4 < d) (hwd : ja_wd S ≤ 8) (hd : decode cc pc = .ok (.invokevirtual 832, 3)) (g : mo_G Zz h) (r1 : -2147483648 ≤ a1 ∧ a1 ≤ 2147483647) (p1 : pk_S h (h 0 17).toNat s) (p2 : piB h R r ph tf q0 ((28, a1, b) :: s) ht st rg tu) (p3 : ph = 1 ∨ (h 0 74) ≤ 1 ∨ (h 0 75) ≤ 24) (k1 : ∀ (h' : ja_H), (pi_done h h' R r ph tf q0 (pi_mu h ((28, a1, b) :: s))) → mo_G Zz h' → mJ l D cA ad d cc nL rt (pc + 3) L ((0, 1) :: S) h' Q) (k2 : ∀ (h' : ja_H), (0 < (h' 0 8) ∧ (h' 0 1) = (h 0 1) ∧ (h' 0 118) = (h 0 118) ∧ (h' 0 127) = (h 0 127)) → mo_G Zz h' → mJ l D cA ad d cc nL rt (pc + 3) L ((0, 0) :: S) h' Q) : mJ l D cA ad d cc nL rt pc L ((0, a1) :: (2, ((0 : Nat) : Int)) :: S) h Q :=
  mc_tried hdd hwd hd (s_tried g r1 p1 p2 p3 k1 k2)
end
