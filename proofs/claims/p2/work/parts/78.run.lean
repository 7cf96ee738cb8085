/-! the reference: two values become one (written by a program) -/
theorem dbinary_0 : decode cX12_binary 0 = .ok (.aload_n 0, 1) := by decide +kernel
theorem dbinary_1 : decode cX12_binary 1 = .ok (.aload_n 0, 1) := by decide +kernel
theorem dbinary_2 : decode cX12_binary 2 = .ok (.getfield 993, 3) := by decide +kernel
theorem dbinary_5 : decode cX12_binary 5 = .ok (.iconst 2, 1) := by decide +kernel
theorem dbinary_6 : decode cX12_binary 6 = .ok (.isub, 1) := by decide +kernel
theorem dbinary_7 : decode cX12_binary 7 = .ok (.putfield 993, 3) := by decide +kernel
theorem dbinary_10 : decode cX12_binary 10 = .ok (.aload_n 0, 1) := by decide +kernel
theorem dbinary_11 : decode cX12_binary 11 = .ok (.getfield 291, 3) := by decide +kernel
theorem dbinary_14 : decode cX12_binary 14 = .ok (.aload_n 0, 1) := by decide +kernel
theorem dbinary_15 : decode cX12_binary 15 = .ok (.getfield 993, 3) := by decide +kernel
theorem dbinary_18 : decode cX12_binary 18 = .ok (.iaload, 1) := by decide +kernel
theorem dbinary_19 : decode cX12_binary 19 = .ok (.istore_n 2, 1) := by decide +kernel
theorem dbinary_20 : decode cX12_binary 20 = .ok (.aload_n 0, 1) := by decide +kernel
theorem dbinary_21 : decode cX12_binary 21 = .ok (.getfield 291, 3) := by decide +kernel
theorem dbinary_24 : decode cX12_binary 24 = .ok (.aload_n 0, 1) := by decide +kernel
theorem dbinary_25 : decode cX12_binary 25 = .ok (.getfield 993, 3) := by decide +kernel
theorem dbinary_28 : decode cX12_binary 28 = .ok (.iconst 1, 1) := by decide +kernel
theorem dbinary_29 : decode cX12_binary 29 = .ok (.iadd, 1) := by decide +kernel
theorem dbinary_30 : decode cX12_binary 30 = .ok (.iaload, 1) := by decide +kernel
theorem dbinary_31 : decode cX12_binary 31 = .ok (.istore_n 3, 1) := by decide +kernel
theorem dbinary_32 : decode cX12_binary 32 = .ok (.aload_n 0, 1) := by decide +kernel
theorem dbinary_33 : decode cX12_binary 33 = .ok (.getfield 294, 3) := by decide +kernel
theorem dbinary_36 : decode cX12_binary 36 = .ok (.aload_n 0, 1) := by decide +kernel
theorem dbinary_37 : decode cX12_binary 37 = .ok (.getfield 993, 3) := by decide +kernel
theorem dbinary_40 : decode cX12_binary 40 = .ok (.iaload, 1) := by decide +kernel
theorem dbinary_41 : decode cX12_binary 41 = .ok (.istore 4, 2) := by decide +kernel
theorem dbinary_43 : decode cX12_binary 43 = .ok (.aload_n 0, 1) := by decide +kernel
theorem dbinary_44 : decode cX12_binary 44 = .ok (.getfield 294, 3) := by decide +kernel
theorem dbinary_47 : decode cX12_binary 47 = .ok (.aload_n 0, 1) := by decide +kernel
theorem dbinary_48 : decode cX12_binary 48 = .ok (.getfield 993, 3) := by decide +kernel
theorem dbinary_51 : decode cX12_binary 51 = .ok (.iconst 1, 1) := by decide +kernel
theorem dbinary_52 : decode cX12_binary 52 = .ok (.iadd, 1) := by decide +kernel
theorem dbinary_53 : decode cX12_binary 53 = .ok (.iaload, 1) := by decide +kernel
theorem dbinary_54 : decode cX12_binary 54 = .ok (.istore 5, 2) := by decide +kernel
theorem dbinary_56 : decode cX12_binary 56 = .ok (.iload_n 1, 1) := by decide +kernel
theorem dbinary_57 : decode cX12_binary 57 = .ok (.sipush 300, 3) := by decide +kernel
theorem dbinary_60 : decode cX12_binary 60 = .ok (.if_icmp .eq 10, 3) := by decide +kernel
theorem dbinary_63 : decode cX12_binary 63 = .ok (.iload_n 1, 1) := by decide +kernel
theorem dbinary_64 : decode cX12_binary 64 = .ok (.sipush 301, 3) := by decide +kernel
theorem dbinary_67 : decode cX12_binary 67 = .ok (.if_icmp .ne 51, 3) := by decide +kernel
theorem dbinary_70 : decode cX12_binary 70 = .ok (.aload_n 0, 1) := by decide +kernel
theorem dbinary_71 : decode cX12_binary 71 = .ok (.iconst 1, 1) := by decide +kernel
theorem dbinary_72 : decode cX12_binary 72 = .ok (.iload_n 2, 1) := by decide +kernel
theorem dbinary_73 : decode cX12_binary 73 = .ok (.iload_n 3, 1) := by decide +kernel
theorem dbinary_74 : decode cX12_binary 74 = .ok (.if_icmp .ne 14, 3) := by decide +kernel
theorem dbinary_77 : decode cX12_binary 77 = .ok (.iload 4, 2) := by decide +kernel
theorem dbinary_79 : decode cX12_binary 79 = .ok (.iload 5, 2) := by decide +kernel
theorem dbinary_81 : decode cX12_binary 81 = .ok (.if_icmp .ne 7, 3) := by decide +kernel
theorem dbinary_84 : decode cX12_binary 84 = .ok (.iconst 1, 1) := by decide +kernel
theorem dbinary_85 : decode cX12_binary 85 = .ok (.goto 4, 3) := by decide +kernel
theorem dbinary_88 : decode cX12_binary 88 = .ok (.iconst 0, 1) := by decide +kernel
theorem dbinary_89 : decode cX12_binary 89 = .ok (.iload_n 1, 1) := by decide +kernel
theorem dbinary_90 : decode cX12_binary 90 = .ok (.sipush 300, 3) := by decide +kernel
theorem dbinary_93 : decode cX12_binary 93 = .ok (.if_icmp .ne 7, 3) := by decide +kernel
theorem dbinary_96 : decode cX12_binary 96 = .ok (.iconst 1, 1) := by decide +kernel
theorem dbinary_97 : decode cX12_binary 97 = .ok (.goto 4, 3) := by decide +kernel
theorem dbinary_100 : decode cX12_binary 100 = .ok (.iconst 0, 1) := by decide +kernel
theorem dbinary_101 : decode cX12_binary 101 = .ok (.if_icmp .ne 7, 3) := by decide +kernel
theorem dbinary_104 : decode cX12_binary 104 = .ok (.iconst 1, 1) := by decide +kernel
theorem dbinary_105 : decode cX12_binary 105 = .ok (.goto 4, 3) := by decide +kernel
theorem dbinary_108 : decode cX12_binary 108 = .ok (.iconst 0, 1) := by decide +kernel
theorem dbinary_109 : decode cX12_binary 109 = .ok (.invokestatic 1098, 3) := by decide +kernel
theorem dbinary_112 : decode cX12_binary 112 = .ok (.invokevirtual 1045, 3) := by decide +kernel
theorem dbinary_115 : decode cX12_binary 115 = .ok (.goto 61, 3) := by decide +kernel
theorem dbinary_118 : decode cX12_binary 118 = .ok (.iload_n 2, 1) := by decide +kernel
theorem dbinary_119 : decode cX12_binary 119 = .ok (.iconst 1, 1) := by decide +kernel
theorem dbinary_120 : decode cX12_binary 120 = .ok (.if_icmp .ne 8, 3) := by decide +kernel
theorem dbinary_123 : decode cX12_binary 123 = .ok (.iload_n 3, 1) := by decide +kernel
theorem dbinary_124 : decode cX12_binary 124 = .ok (.iconst 1, 1) := by decide +kernel
theorem dbinary_125 : decode cX12_binary 125 = .ok (.if_icmp .eq 12, 3) := by decide +kernel
theorem dbinary_128 : decode cX12_binary 128 = .ok (.aload_n 0, 1) := by decide +kernel
theorem dbinary_129 : decode cX12_binary 129 = .ok (.bipush (-5), 2) := by decide +kernel
theorem dbinary_131 : decode cX12_binary 131 = .ok (.invokevirtual 1072, 3) := by decide +kernel
theorem dbinary_134 : decode cX12_binary 134 = .ok (.goto 42, 3) := by decide +kernel
theorem dbinary_137 : decode cX12_binary 137 = .ok (.iload 5, 2) := by decide +kernel
theorem dbinary_139 : decode cX12_binary 139 = .ok (.ifCond .ne 24, 3) := by decide +kernel
theorem dbinary_142 : decode cX12_binary 142 = .ok (.iload_n 1, 1) := by decide +kernel
theorem dbinary_143 : decode cX12_binary 143 = .ok (.bipush 47, 2) := by decide +kernel
theorem dbinary_145 : decode cX12_binary 145 = .ok (.if_icmp .eq 9, 3) := by decide +kernel
theorem dbinary_148 : decode cX12_binary 148 = .ok (.iload_n 1, 1) := by decide +kernel
theorem dbinary_149 : decode cX12_binary 149 = .ok (.bipush 37, 2) := by decide +kernel
theorem dbinary_151 : decode cX12_binary 151 = .ok (.if_icmp .ne 12, 3) := by decide +kernel
theorem dbinary_154 : decode cX12_binary 154 = .ok (.aload_n 0, 1) := by decide +kernel
theorem dbinary_155 : decode cX12_binary 155 = .ok (.bipush (-6), 2) := by decide +kernel
theorem dbinary_157 : decode cX12_binary 157 = .ok (.invokevirtual 1072, 3) := by decide +kernel
theorem dbinary_160 : decode cX12_binary 160 = .ok (.goto 16, 3) := by decide +kernel
theorem dbinary_163 : decode cX12_binary 163 = .ok (.aload_n 0, 1) := by decide +kernel
theorem dbinary_164 : decode cX12_binary 164 = .ok (.iconst 1, 1) := by decide +kernel
theorem dbinary_165 : decode cX12_binary 165 = .ok (.iload_n 1, 1) := by decide +kernel
theorem dbinary_166 : decode cX12_binary 166 = .ok (.iload 4, 2) := by decide +kernel
theorem dbinary_168 : decode cX12_binary 168 = .ok (.iload 5, 2) := by decide +kernel
theorem dbinary_170 : decode cX12_binary 170 = .ok (.invokestatic 1123, 3) := by decide +kernel
theorem dbinary_173 : decode cX12_binary 173 = .ok (.invokevirtual 1045, 3) := by decide +kernel
theorem dbinary_176 : decode cX12_binary 176 = .ok (.return_, 1) := by decide +kernel
section
variable {l : Launch} {D : va_G} {cA : Nat → ClassId} {ad : Nat → Nat}
theorem s_binary {a1 : Int} {h : ja_H} {Q : Option ja_V → ja_H → Prop} (g : mo_G mo_zr h) (r1 : -2147483648 ≤ a1 ∧ a1 ≤ 2147483647) (p1 : 2 ≤ (h 0 149)) (p2 : VI h) (k1 : ∀ (v : Int), (-2147483648 ≤ v ∧ v ≤ 2147483647) → mo_G mo_zr (ja_up (ja_up (ja_up (ja_up h 0 149 ((h 0 149) - 2)) 94 (((h 0 149) - 2).toNat) 1) 95 (((h 0 149) - 2).toNat) v) 0 149 (((h 0 149) - 2) + 1)) → Q none (ja_up (ja_up (ja_up (ja_up h 0 149 ((h 0 149) - 2)) 94 (((h 0 149) - 2).toNat) 1) 95 (((h 0 149) - 2).toNat) v) 0 149 (((h 0 149) - 2) + 1))) (k2 : ∀ (c : Int), (-2147483648 ≤ c ∧ c ≤ 2147483647) → mo_G mo_zr (ja_up (ja_up (ja_up (ja_up (ja_up h 0 149 ((h 0 149) - 2)) 0 186 1) 0 187 1) 0 188 1) 0 189 c) → Q none (ja_up (ja_up (ja_up (ja_up (ja_up h 0 149 ((h 0 149) - 2)) 0 186 1) 0 187 1) 0 188 1) 0 189 c)) : mM_binary l D cA ad a1 h Q := by
  show mJ l D cA ad 3 cX12_binary 6 none 0 [(0, (2, ((0 : Nat) : Int))), (1, (0, a1))] [] h Q
  have kn_pile := gF_pile g
  refine ja_aload_n dbinary_0 rfl rfl ?_
  refine ja_aload_n dbinary_1 rfl rfl ?_
  refine fg_pile (v := h 0 149) rfl dbinary_2 ?_
  have f1 := gF_pile g
  refine ja_iconst dbinary_5 ?_
  refine ja_isub dbinary_6 ?_
  have g2 := gP_pile g (x := (h 0 149) - 2) ⟨by omega, by omega⟩
  refine fp_pile dbinary_7 ?_
  refine ja_aload_n dbinary_10 rfl rfl ?_
  refine fa_pileKind dbinary_11 ?_
  refine ja_aload_n dbinary_14 rfl rfl ?_
  refine fg_pile (v := (h 0 149) - 2) rfl dbinary_15 ?_
  refine il_pileKind (v := h 94 ((h 0 149) - 2).toNat) rfl ⟨by omega, by omega⟩ dbinary_18 ?_
  have f3 := gC_pileKind g ((h 0 149) - 2).toNat
  refine ja_istore_n dbinary_19 rfl (by decide) (L2 := [(2, (0, (h 94 ((h 0 149) - 2).toNat))), (0, (2, ((0 : Nat) : Int))), (1, (0, a1))]) rfl ?_
  refine ja_aload_n dbinary_20 rfl rfl ?_
  refine fa_pileKind dbinary_21 ?_
  refine ja_aload_n dbinary_24 rfl rfl ?_
  refine fg_pile (v := (h 0 149) - 2) rfl dbinary_25 ?_
  refine ja_iconst dbinary_28 ?_
  refine ja_iadd dbinary_29 ?_
  refine il_pileKind (v := h 94 (((h 0 149) - 2) + 1).toNat) rfl ⟨by omega, by omega⟩ dbinary_30 ?_
  have f4 := gC_pileKind g (((h 0 149) - 2) + 1).toNat
  refine ja_istore_n dbinary_31 rfl (by decide) (L2 := [(3, (0, (h 94 (((h 0 149) - 2) + 1).toNat))), (2, (0, (h 94 ((h 0 149) - 2).toNat))), (0, (2, ((0 : Nat) : Int))), (1, (0, a1))]) rfl ?_
  refine ja_aload_n dbinary_32 rfl rfl ?_
  refine fa_pileValue dbinary_33 ?_
  refine ja_aload_n dbinary_36 rfl rfl ?_
  refine fg_pile (v := (h 0 149) - 2) rfl dbinary_37 ?_
  refine il_pileValue (v := h 95 ((h 0 149) - 2).toNat) rfl ⟨by omega, by omega⟩ dbinary_40 ?_
  have f5 := gC_pileValue g ((h 0 149) - 2).toNat
  refine ja_istore dbinary_41 (by decide) (L2 := [(4, (0, (h 95 ((h 0 149) - 2).toNat))), (3, (0, (h 94 (((h 0 149) - 2) + 1).toNat))), (2, (0, (h 94 ((h 0 149) - 2).toNat))), (0, (2, ((0 : Nat) : Int))), (1, (0, a1))]) rfl ?_
  refine ja_aload_n dbinary_43 rfl rfl ?_
  refine fa_pileValue dbinary_44 ?_
  refine ja_aload_n dbinary_47 rfl rfl ?_
  refine fg_pile (v := (h 0 149) - 2) rfl dbinary_48 ?_
  refine ja_iconst dbinary_51 ?_
  refine ja_iadd dbinary_52 ?_
  refine il_pileValue (v := h 95 (((h 0 149) - 2) + 1).toNat) rfl ⟨by omega, by omega⟩ dbinary_53 ?_
  have f6 := gC_pileValue g (((h 0 149) - 2) + 1).toNat
  refine ja_istore dbinary_54 (by decide) (L2 := [(5, (0, (h 95 (((h 0 149) - 2) + 1).toNat))), (4, (0, (h 95 ((h 0 149) - 2).toNat))), (3, (0, (h 94 (((h 0 149) - 2) + 1).toNat))), (2, (0, (h 94 ((h 0 149) - 2).toNat))), (0, (2, ((0 : Nat) : Int))), (1, (0, a1))]) rfl ?_
  refine ja_iload_n dbinary_56 rfl rfl ?_
  refine ja_sipush 300 dbinary_57 rfl ?_
  refine ja_icmp_eq 70 dbinary_60 rfl ⟨by omega, by omega⟩ ⟨by decide, by decide⟩ (fun c60 => ?_) (fun c60 => ?_)
  · refine ja_aload_n dbinary_70 rfl rfl ?_
    refine ja_iconst dbinary_71 ?_
    refine ja_iload_n dbinary_72 rfl rfl ?_
    refine ja_iload_n dbinary_73 rfl rfl ?_
    refine ja_icmp_ne 88 dbinary_74 rfl ⟨by omega, by omega⟩ ⟨by omega, by omega⟩ (fun c74 => ?_) (fun c74 => ?_)
    · refine ja_iconst dbinary_88 ?_
      refine ja_iload_n dbinary_89 rfl rfl ?_
      refine ja_sipush 300 dbinary_90 rfl ?_
      refine ja_icmp_ne 100 dbinary_93 rfl ⟨by omega, by omega⟩ ⟨by decide, by decide⟩ (fun c93 => ?_) (fun c93 => ?_)
      · refine ja_iconst dbinary_100 ?_
        refine ja_icmp_ne 108 dbinary_101 rfl ⟨by decide, by decide⟩ ⟨by decide, by decide⟩ (fun c101 => absurd c101 (by omega)) (fun c101 => ?_)
        refine ja_iconst dbinary_104 ?_
        refine ja_goto 109 dbinary_105 rfl ?_
        refine t_asWhole (by decide) (show (2 : Nat) ≤ 8 by decide) dbinary_109 g2 ⟨by decide, by decide⟩ ?_
        intro w7 k109_0
        replace k109_0 : 0 ≤ w7 ∧ w7 ≤ 1 := k109_0
        refine t_put (by decide) (show (0 : Nat) ≤ 8 by decide) dbinary_112 g2 ⟨by decide, by decide⟩ ⟨by omega, by omega⟩ (show 0 ≤ 1 ∧ 1 ≤ 2 by omega) (show ((h 0 149) - 2) < 6000 by omega) ?_
        intro g8
        replace g8 : mo_G mo_zr (ja_up (ja_up (ja_up (ja_up h 0 149 ((h 0 149) - 2)) 94 (((h 0 149) - 2).toNat) 1) 95 (((h 0 149) - 2).toNat) w7) 0 149 (((h 0 149) - 2) + 1)) := g8
        show mJ l D cA ad 3 cX12_binary 6 none 115 [(5, (0, (h 95 (((h 0 149) - 2) + 1).toNat))), (4, (0, (h 95 ((h 0 149) - 2).toNat))), (3, (0, (h 94 (((h 0 149) - 2) + 1).toNat))), (2, (0, (h 94 ((h 0 149) - 2).toNat))), (0, (2, ((0 : Nat) : Int))), (1, (0, a1))] [] (ja_up (ja_up (ja_up (ja_up h 0 149 ((h 0 149) - 2)) 94 (((h 0 149) - 2).toNat) 1) 95 (((h 0 149) - 2).toNat) w7) 0 149 (((h 0 149) - 2) + 1)) Q
        refine ja_goto 176 dbinary_115 rfl ?_
        refine ja_return dbinary_176 rfl ?_
        exact k1 w7 (by omega) g8
      · refine ja_iconst dbinary_96 ?_
        refine ja_goto 101 dbinary_97 rfl ?_
        refine ja_icmp_ne 108 dbinary_101 rfl ⟨by decide, by decide⟩ ⟨by decide, by decide⟩ (fun c101 => ?_) (fun c101 => absurd c101 (by omega))
        refine ja_iconst dbinary_108 ?_
        refine t_asWhole (by decide) (show (2 : Nat) ≤ 8 by decide) dbinary_109 g2 ⟨by decide, by decide⟩ ?_
        intro w9 k109_0
        replace k109_0 : 0 ≤ w9 ∧ w9 ≤ 1 := k109_0
        refine t_put (by decide) (show (0 : Nat) ≤ 8 by decide) dbinary_112 g2 ⟨by decide, by decide⟩ ⟨by omega, by omega⟩ (show 0 ≤ 1 ∧ 1 ≤ 2 by omega) (show ((h 0 149) - 2) < 6000 by omega) ?_
        intro g10
        replace g10 : mo_G mo_zr (ja_up (ja_up (ja_up (ja_up h 0 149 ((h 0 149) - 2)) 94 (((h 0 149) - 2).toNat) 1) 95 (((h 0 149) - 2).toNat) w9) 0 149 (((h 0 149) - 2) + 1)) := g10
        show mJ l D cA ad 3 cX12_binary 6 none 115 [(5, (0, (h 95 (((h 0 149) - 2) + 1).toNat))), (4, (0, (h 95 ((h 0 149) - 2).toNat))), (3, (0, (h 94 (((h 0 149) - 2) + 1).toNat))), (2, (0, (h 94 ((h 0 149) - 2).toNat))), (0, (2, ((0 : Nat) : Int))), (1, (0, a1))] [] (ja_up (ja_up (ja_up (ja_up h 0 149 ((h 0 149) - 2)) 94 (((h 0 149) - 2).toNat) 1) 95 (((h 0 149) - 2).toNat) w9) 0 149 (((h 0 149) - 2) + 1)) Q
        refine ja_goto 176 dbinary_115 rfl ?_
        refine ja_return dbinary_176 rfl ?_
        exact k1 w9 (by omega) g10
    · refine ja_iload dbinary_77 rfl ?_
      refine ja_iload dbinary_79 rfl ?_
      refine ja_icmp_ne 88 dbinary_81 rfl ⟨by omega, by omega⟩ ⟨by omega, by omega⟩ (fun c81 => ?_) (fun c81 => ?_)
      · refine ja_iconst dbinary_88 ?_
        refine ja_iload_n dbinary_89 rfl rfl ?_
        refine ja_sipush 300 dbinary_90 rfl ?_
        refine ja_icmp_ne 100 dbinary_93 rfl ⟨by omega, by omega⟩ ⟨by decide, by decide⟩ (fun c93 => ?_) (fun c93 => ?_)
        · refine ja_iconst dbinary_100 ?_
          refine ja_icmp_ne 108 dbinary_101 rfl ⟨by decide, by decide⟩ ⟨by decide, by decide⟩ (fun c101 => absurd c101 (by omega)) (fun c101 => ?_)
          refine ja_iconst dbinary_104 ?_
          refine ja_goto 109 dbinary_105 rfl ?_
          refine t_asWhole (by decide) (show (2 : Nat) ≤ 8 by decide) dbinary_109 g2 ⟨by decide, by decide⟩ ?_
          intro w11 k109_0
          replace k109_0 : 0 ≤ w11 ∧ w11 ≤ 1 := k109_0
          refine t_put (by decide) (show (0 : Nat) ≤ 8 by decide) dbinary_112 g2 ⟨by decide, by decide⟩ ⟨by omega, by omega⟩ (show 0 ≤ 1 ∧ 1 ≤ 2 by omega) (show ((h 0 149) - 2) < 6000 by omega) ?_
          intro g12
          replace g12 : mo_G mo_zr (ja_up (ja_up (ja_up (ja_up h 0 149 ((h 0 149) - 2)) 94 (((h 0 149) - 2).toNat) 1) 95 (((h 0 149) - 2).toNat) w11) 0 149 (((h 0 149) - 2) + 1)) := g12
          show mJ l D cA ad 3 cX12_binary 6 none 115 [(5, (0, (h 95 (((h 0 149) - 2) + 1).toNat))), (4, (0, (h 95 ((h 0 149) - 2).toNat))), (3, (0, (h 94 (((h 0 149) - 2) + 1).toNat))), (2, (0, (h 94 ((h 0 149) - 2).toNat))), (0, (2, ((0 : Nat) : Int))), (1, (0, a1))] [] (ja_up (ja_up (ja_up (ja_up h 0 149 ((h 0 149) - 2)) 94 (((h 0 149) - 2).toNat) 1) 95 (((h 0 149) - 2).toNat) w11) 0 149 (((h 0 149) - 2) + 1)) Q
          refine ja_goto 176 dbinary_115 rfl ?_
          refine ja_return dbinary_176 rfl ?_
          exact k1 w11 (by omega) g12
        · refine ja_iconst dbinary_96 ?_
          refine ja_goto 101 dbinary_97 rfl ?_
          refine ja_icmp_ne 108 dbinary_101 rfl ⟨by decide, by decide⟩ ⟨by decide, by decide⟩ (fun c101 => ?_) (fun c101 => absurd c101 (by omega))
          refine ja_iconst dbinary_108 ?_
          refine t_asWhole (by decide) (show (2 : Nat) ≤ 8 by decide) dbinary_109 g2 ⟨by decide, by decide⟩ ?_
          intro w13 k109_0
          replace k109_0 : 0 ≤ w13 ∧ w13 ≤ 1 := k109_0
          refine t_put (by decide) (show (0 : Nat) ≤ 8 by decide) dbinary_112 g2 ⟨by decide, by decide⟩ ⟨by omega, by omega⟩ (show 0 ≤ 1 ∧ 1 ≤ 2 by omega) (show ((h 0 149) - 2) < 6000 by omega) ?_
          intro g14
          replace g14 : mo_G mo_zr (ja_up (ja_up (ja_up (ja_up h 0 149 ((h 0 149) - 2)) 94 (((h 0 149) - 2).toNat) 1) 95 (((h 0 149) - 2).toNat) w13) 0 149 (((h 0 149) - 2) + 1)) := g14
          show mJ l D cA ad 3 cX12_binary 6 none 115 [(5, (0, (h 95 (((h 0 149) - 2) + 1).toNat))), (4, (0, (h 95 ((h 0 149) - 2).toNat))), (3, (0, (h 94 (((h 0 149) - 2) + 1).toNat))), (2, (0, (h 94 ((h 0 149) - 2).toNat))), (0, (2, ((0 : Nat) : Int))), (1, (0, a1))] [] (ja_up (ja_up (ja_up (ja_up h 0 149 ((h 0 149) - 2)) 94 (((h 0 149) - 2).toNat) 1) 95 (((h 0 149) - 2).toNat) w13) 0 149 (((h 0 149) - 2) + 1)) Q
          refine ja_goto 176 dbinary_115 rfl ?_
          refine ja_return dbinary_176 rfl ?_
          exact k1 w13 (by omega) g14
      · refine ja_iconst dbinary_84 ?_
        refine ja_goto 89 dbinary_85 rfl ?_
        refine ja_iload_n dbinary_89 rfl rfl ?_
        refine ja_sipush 300 dbinary_90 rfl ?_
        refine ja_icmp_ne 100 dbinary_93 rfl ⟨by omega, by omega⟩ ⟨by decide, by decide⟩ (fun c93 => ?_) (fun c93 => ?_)
        · refine ja_iconst dbinary_100 ?_
          refine ja_icmp_ne 108 dbinary_101 rfl ⟨by decide, by decide⟩ ⟨by decide, by decide⟩ (fun c101 => ?_) (fun c101 => absurd c101 (by omega))
          refine ja_iconst dbinary_108 ?_
          refine t_asWhole (by decide) (show (2 : Nat) ≤ 8 by decide) dbinary_109 g2 ⟨by decide, by decide⟩ ?_
          intro w15 k109_0
          replace k109_0 : 0 ≤ w15 ∧ w15 ≤ 1 := k109_0
          refine t_put (by decide) (show (0 : Nat) ≤ 8 by decide) dbinary_112 g2 ⟨by decide, by decide⟩ ⟨by omega, by omega⟩ (show 0 ≤ 1 ∧ 1 ≤ 2 by omega) (show ((h 0 149) - 2) < 6000 by omega) ?_
          intro g16
          replace g16 : mo_G mo_zr (ja_up (ja_up (ja_up (ja_up h 0 149 ((h 0 149) - 2)) 94 (((h 0 149) - 2).toNat) 1) 95 (((h 0 149) - 2).toNat) w15) 0 149 (((h 0 149) - 2) + 1)) := g16
          show mJ l D cA ad 3 cX12_binary 6 none 115 [(5, (0, (h 95 (((h 0 149) - 2) + 1).toNat))), (4, (0, (h 95 ((h 0 149) - 2).toNat))), (3, (0, (h 94 (((h 0 149) - 2) + 1).toNat))), (2, (0, (h 94 ((h 0 149) - 2).toNat))), (0, (2, ((0 : Nat) : Int))), (1, (0, a1))] [] (ja_up (ja_up (ja_up (ja_up h 0 149 ((h 0 149) - 2)) 94 (((h 0 149) - 2).toNat) 1) 95 (((h 0 149) - 2).toNat) w15) 0 149 (((h 0 149) - 2) + 1)) Q
          refine ja_goto 176 dbinary_115 rfl ?_
          refine ja_return dbinary_176 rfl ?_
          exact k1 w15 (by omega) g16
        · refine ja_iconst dbinary_96 ?_
          refine ja_goto 101 dbinary_97 rfl ?_
          refine ja_icmp_ne 108 dbinary_101 rfl ⟨by decide, by decide⟩ ⟨by decide, by decide⟩ (fun c101 => absurd c101 (by omega)) (fun c101 => ?_)
          refine ja_iconst dbinary_104 ?_
          refine ja_goto 109 dbinary_105 rfl ?_
          refine t_asWhole (by decide) (show (2 : Nat) ≤ 8 by decide) dbinary_109 g2 ⟨by decide, by decide⟩ ?_
          intro w17 k109_0
          replace k109_0 : 0 ≤ w17 ∧ w17 ≤ 1 := k109_0
          refine t_put (by decide) (show (0 : Nat) ≤ 8 by decide) dbinary_112 g2 ⟨by decide, by decide⟩ ⟨by omega, by omega⟩ (show 0 ≤ 1 ∧ 1 ≤ 2 by omega) (show ((h 0 149) - 2) < 6000 by omega) ?_
          intro g18
          replace g18 : mo_G mo_zr (ja_up (ja_up (ja_up (ja_up h 0 149 ((h 0 149) - 2)) 94 (((h 0 149) - 2).toNat) 1) 95 (((h 0 149) - 2).toNat) w17) 0 149 (((h 0 149) - 2) + 1)) := g18
          show mJ l D cA ad 3 cX12_binary 6 none 115 [(5, (0, (h 95 (((h 0 149) - 2) + 1).toNat))), (4, (0, (h 95 ((h 0 149) - 2).toNat))), (3, (0, (h 94 (((h 0 149) - 2) + 1).toNat))), (2, (0, (h 94 ((h 0 149) - 2).toNat))), (0, (2, ((0 : Nat) : Int))), (1, (0, a1))] [] (ja_up (ja_up (ja_up (ja_up h 0 149 ((h 0 149) - 2)) 94 (((h 0 149) - 2).toNat) 1) 95 (((h 0 149) - 2).toNat) w17) 0 149 (((h 0 149) - 2) + 1)) Q
          refine ja_goto 176 dbinary_115 rfl ?_
          refine ja_return dbinary_176 rfl ?_
          exact k1 w17 (by omega) g18
  · refine ja_iload_n dbinary_63 rfl rfl ?_
    refine ja_sipush 301 dbinary_64 rfl ?_
    refine ja_icmp_ne 118 dbinary_67 rfl ⟨by omega, by omega⟩ ⟨by decide, by decide⟩ (fun c67 => ?_) (fun c67 => ?_)
    · refine ja_iload_n dbinary_118 rfl rfl ?_
      refine ja_iconst dbinary_119 ?_
      refine ja_icmp_ne 128 dbinary_120 rfl ⟨by omega, by omega⟩ ⟨by decide, by decide⟩ (fun c120 => ?_) (fun c120 => ?_)
      · refine ja_aload_n dbinary_128 rfl rfl ?_
        refine ja_bipush (-5) dbinary_129 rfl ?_
        refine t_fails (by decide) (show (0 : Nat) ≤ 8 by decide) dbinary_131 g2 ⟨by decide, by decide⟩ ?_
        intro g19
        replace g19 : mo_G mo_zr (ja_up (ja_up (ja_up (ja_up (ja_up h 0 149 ((h 0 149) - 2)) 0 186 1) 0 187 1) 0 188 1) 0 189 (-5)) := g19
        show mJ l D cA ad 3 cX12_binary 6 none 134 [(5, (0, (h 95 (((h 0 149) - 2) + 1).toNat))), (4, (0, (h 95 ((h 0 149) - 2).toNat))), (3, (0, (h 94 (((h 0 149) - 2) + 1).toNat))), (2, (0, (h 94 ((h 0 149) - 2).toNat))), (0, (2, ((0 : Nat) : Int))), (1, (0, a1))] [] (ja_up (ja_up (ja_up (ja_up (ja_up h 0 149 ((h 0 149) - 2)) 0 186 1) 0 187 1) 0 188 1) 0 189 (-5)) Q
        refine ja_goto 176 dbinary_134 rfl ?_
        refine ja_return dbinary_176 rfl ?_
        exact k2 (-5) (by omega) g19
      · refine ja_iload_n dbinary_123 rfl rfl ?_
        refine ja_iconst dbinary_124 ?_
        refine ja_icmp_eq 137 dbinary_125 rfl ⟨by omega, by omega⟩ ⟨by decide, by decide⟩ (fun c125 => ?_) (fun c125 => ?_)
        · refine ja_iload dbinary_137 rfl ?_
          refine ja_if_ne 163 dbinary_139 rfl ⟨by omega, by omega⟩ (fun c139 => ?_) (fun c139 => ?_)
          · refine ja_aload_n dbinary_163 rfl rfl ?_
            refine ja_iconst dbinary_164 ?_
            refine ja_iload_n dbinary_165 rfl rfl ?_
            refine ja_iload dbinary_166 rfl ?_
            refine ja_iload dbinary_168 rfl ?_
            refine t_both (by decide) (show (2 : Nat) ≤ 8 by decide) dbinary_170 g2 ⟨by omega, by omega⟩ ⟨by omega, by omega⟩ ⟨by omega, by omega⟩ (show ¬ ((a1 = 47 ∨ a1 = 37) ∧ (h 95 (((h 0 149) - 2) + 1).toNat) = 0) by omega) ?_
            intro w20 k170_0
            replace k170_0 : -2147483648 ≤ w20 ∧ w20 ≤ 2147483647 := k170_0
            refine t_put (by decide) (show (0 : Nat) ≤ 8 by decide) dbinary_173 g2 ⟨by decide, by decide⟩ ⟨by omega, by omega⟩ (show 0 ≤ 1 ∧ 1 ≤ 2 by omega) (show ((h 0 149) - 2) < 6000 by omega) ?_
            intro g21
            replace g21 : mo_G mo_zr (ja_up (ja_up (ja_up (ja_up h 0 149 ((h 0 149) - 2)) 94 (((h 0 149) - 2).toNat) 1) 95 (((h 0 149) - 2).toNat) w20) 0 149 (((h 0 149) - 2) + 1)) := g21
            show mJ l D cA ad 3 cX12_binary 6 none 176 [(5, (0, (h 95 (((h 0 149) - 2) + 1).toNat))), (4, (0, (h 95 ((h 0 149) - 2).toNat))), (3, (0, (h 94 (((h 0 149) - 2) + 1).toNat))), (2, (0, (h 94 ((h 0 149) - 2).toNat))), (0, (2, ((0 : Nat) : Int))), (1, (0, a1))] [] (ja_up (ja_up (ja_up (ja_up h 0 149 ((h 0 149) - 2)) 94 (((h 0 149) - 2).toNat) 1) 95 (((h 0 149) - 2).toNat) w20) 0 149 (((h 0 149) - 2) + 1)) Q
            refine ja_return dbinary_176 rfl ?_
            exact k1 w20 (by omega) g21
          · refine ja_iload_n dbinary_142 rfl rfl ?_
            refine ja_bipush 47 dbinary_143 rfl ?_
            refine ja_icmp_eq 154 dbinary_145 rfl ⟨by omega, by omega⟩ ⟨by decide, by decide⟩ (fun c145 => ?_) (fun c145 => ?_)
            · refine ja_aload_n dbinary_154 rfl rfl ?_
              refine ja_bipush (-6) dbinary_155 rfl ?_
              refine t_fails (by decide) (show (0 : Nat) ≤ 8 by decide) dbinary_157 g2 ⟨by decide, by decide⟩ ?_
              intro g22
              replace g22 : mo_G mo_zr (ja_up (ja_up (ja_up (ja_up (ja_up h 0 149 ((h 0 149) - 2)) 0 186 1) 0 187 1) 0 188 1) 0 189 (-6)) := g22
              show mJ l D cA ad 3 cX12_binary 6 none 160 [(5, (0, (h 95 (((h 0 149) - 2) + 1).toNat))), (4, (0, (h 95 ((h 0 149) - 2).toNat))), (3, (0, (h 94 (((h 0 149) - 2) + 1).toNat))), (2, (0, (h 94 ((h 0 149) - 2).toNat))), (0, (2, ((0 : Nat) : Int))), (1, (0, a1))] [] (ja_up (ja_up (ja_up (ja_up (ja_up h 0 149 ((h 0 149) - 2)) 0 186 1) 0 187 1) 0 188 1) 0 189 (-6)) Q
              refine ja_goto 176 dbinary_160 rfl ?_
              refine ja_return dbinary_176 rfl ?_
              exact k2 (-6) (by omega) g22
            · refine ja_iload_n dbinary_148 rfl rfl ?_
              refine ja_bipush 37 dbinary_149 rfl ?_
              refine ja_icmp_ne 163 dbinary_151 rfl ⟨by omega, by omega⟩ ⟨by decide, by decide⟩ (fun c151 => ?_) (fun c151 => ?_)
              · refine ja_aload_n dbinary_163 rfl rfl ?_
                refine ja_iconst dbinary_164 ?_
                refine ja_iload_n dbinary_165 rfl rfl ?_
                refine ja_iload dbinary_166 rfl ?_
                refine ja_iload dbinary_168 rfl ?_
                refine t_both (by decide) (show (2 : Nat) ≤ 8 by decide) dbinary_170 g2 ⟨by omega, by omega⟩ ⟨by omega, by omega⟩ ⟨by omega, by omega⟩ (show ¬ ((a1 = 47 ∨ a1 = 37) ∧ (h 95 (((h 0 149) - 2) + 1).toNat) = 0) by omega) ?_
                intro w23 k170_0
                replace k170_0 : -2147483648 ≤ w23 ∧ w23 ≤ 2147483647 := k170_0
                refine t_put (by decide) (show (0 : Nat) ≤ 8 by decide) dbinary_173 g2 ⟨by decide, by decide⟩ ⟨by omega, by omega⟩ (show 0 ≤ 1 ∧ 1 ≤ 2 by omega) (show ((h 0 149) - 2) < 6000 by omega) ?_
                intro g24
                replace g24 : mo_G mo_zr (ja_up (ja_up (ja_up (ja_up h 0 149 ((h 0 149) - 2)) 94 (((h 0 149) - 2).toNat) 1) 95 (((h 0 149) - 2).toNat) w23) 0 149 (((h 0 149) - 2) + 1)) := g24
                show mJ l D cA ad 3 cX12_binary 6 none 176 [(5, (0, (h 95 (((h 0 149) - 2) + 1).toNat))), (4, (0, (h 95 ((h 0 149) - 2).toNat))), (3, (0, (h 94 (((h 0 149) - 2) + 1).toNat))), (2, (0, (h 94 ((h 0 149) - 2).toNat))), (0, (2, ((0 : Nat) : Int))), (1, (0, a1))] [] (ja_up (ja_up (ja_up (ja_up h 0 149 ((h 0 149) - 2)) 94 (((h 0 149) - 2).toNat) 1) 95 (((h 0 149) - 2).toNat) w23) 0 149 (((h 0 149) - 2) + 1)) Q
                refine ja_return dbinary_176 rfl ?_
                exact k1 w23 (by omega) g24
              · refine ja_aload_n dbinary_154 rfl rfl ?_
                refine ja_bipush (-6) dbinary_155 rfl ?_
                refine t_fails (by decide) (show (0 : Nat) ≤ 8 by decide) dbinary_157 g2 ⟨by decide, by decide⟩ ?_
                intro g25
                replace g25 : mo_G mo_zr (ja_up (ja_up (ja_up (ja_up (ja_up h 0 149 ((h 0 149) - 2)) 0 186 1) 0 187 1) 0 188 1) 0 189 (-6)) := g25
                show mJ l D cA ad 3 cX12_binary 6 none 160 [(5, (0, (h 95 (((h 0 149) - 2) + 1).toNat))), (4, (0, (h 95 ((h 0 149) - 2).toNat))), (3, (0, (h 94 (((h 0 149) - 2) + 1).toNat))), (2, (0, (h 94 ((h 0 149) - 2).toNat))), (0, (2, ((0 : Nat) : Int))), (1, (0, a1))] [] (ja_up (ja_up (ja_up (ja_up (ja_up h 0 149 ((h 0 149) - 2)) 0 186 1) 0 187 1) 0 188 1) 0 189 (-6)) Q
                refine ja_goto 176 dbinary_160 rfl ?_
                refine ja_return dbinary_176 rfl ?_
                exact k2 (-6) (by omega) g25
        · refine ja_aload_n dbinary_128 rfl rfl ?_
          refine ja_bipush (-5) dbinary_129 rfl ?_
          refine t_fails (by decide) (show (0 : Nat) ≤ 8 by decide) dbinary_131 g2 ⟨by decide, by decide⟩ ?_
          intro g26
          replace g26 : mo_G mo_zr (ja_up (ja_up (ja_up (ja_up (ja_up h 0 149 ((h 0 149) - 2)) 0 186 1) 0 187 1) 0 188 1) 0 189 (-5)) := g26
          show mJ l D cA ad 3 cX12_binary 6 none 134 [(5, (0, (h 95 (((h 0 149) - 2) + 1).toNat))), (4, (0, (h 95 ((h 0 149) - 2).toNat))), (3, (0, (h 94 (((h 0 149) - 2) + 1).toNat))), (2, (0, (h 94 ((h 0 149) - 2).toNat))), (0, (2, ((0 : Nat) : Int))), (1, (0, a1))] [] (ja_up (ja_up (ja_up (ja_up (ja_up h 0 149 ((h 0 149) - 2)) 0 186 1) 0 187 1) 0 188 1) 0 189 (-5)) Q
          refine ja_goto 176 dbinary_134 rfl ?_
          refine ja_return dbinary_176 rfl ?_
          exact k2 (-5) (by omega) g26
    · refine ja_aload_n dbinary_70 rfl rfl ?_
      refine ja_iconst dbinary_71 ?_
      refine ja_iload_n dbinary_72 rfl rfl ?_
      refine ja_iload_n dbinary_73 rfl rfl ?_
      refine ja_icmp_ne 88 dbinary_74 rfl ⟨by omega, by omega⟩ ⟨by omega, by omega⟩ (fun c74 => ?_) (fun c74 => ?_)
      · refine ja_iconst dbinary_88 ?_
        refine ja_iload_n dbinary_89 rfl rfl ?_
        refine ja_sipush 300 dbinary_90 rfl ?_
        refine ja_icmp_ne 100 dbinary_93 rfl ⟨by omega, by omega⟩ ⟨by decide, by decide⟩ (fun c93 => ?_) (fun c93 => ?_)
        · refine ja_iconst dbinary_100 ?_
          refine ja_icmp_ne 108 dbinary_101 rfl ⟨by decide, by decide⟩ ⟨by decide, by decide⟩ (fun c101 => absurd c101 (by omega)) (fun c101 => ?_)
          refine ja_iconst dbinary_104 ?_
          refine ja_goto 109 dbinary_105 rfl ?_
          refine t_asWhole (by decide) (show (2 : Nat) ≤ 8 by decide) dbinary_109 g2 ⟨by decide, by decide⟩ ?_
          intro w27 k109_0
          replace k109_0 : 0 ≤ w27 ∧ w27 ≤ 1 := k109_0
          refine t_put (by decide) (show (0 : Nat) ≤ 8 by decide) dbinary_112 g2 ⟨by decide, by decide⟩ ⟨by omega, by omega⟩ (show 0 ≤ 1 ∧ 1 ≤ 2 by omega) (show ((h 0 149) - 2) < 6000 by omega) ?_
          intro g28
          replace g28 : mo_G mo_zr (ja_up (ja_up (ja_up (ja_up h 0 149 ((h 0 149) - 2)) 94 (((h 0 149) - 2).toNat) 1) 95 (((h 0 149) - 2).toNat) w27) 0 149 (((h 0 149) - 2) + 1)) := g28
          show mJ l D cA ad 3 cX12_binary 6 none 115 [(5, (0, (h 95 (((h 0 149) - 2) + 1).toNat))), (4, (0, (h 95 ((h 0 149) - 2).toNat))), (3, (0, (h 94 (((h 0 149) - 2) + 1).toNat))), (2, (0, (h 94 ((h 0 149) - 2).toNat))), (0, (2, ((0 : Nat) : Int))), (1, (0, a1))] [] (ja_up (ja_up (ja_up (ja_up h 0 149 ((h 0 149) - 2)) 94 (((h 0 149) - 2).toNat) 1) 95 (((h 0 149) - 2).toNat) w27) 0 149 (((h 0 149) - 2) + 1)) Q
          refine ja_goto 176 dbinary_115 rfl ?_
          refine ja_return dbinary_176 rfl ?_
          exact k1 w27 (by omega) g28
        · refine ja_iconst dbinary_96 ?_
          refine ja_goto 101 dbinary_97 rfl ?_
          refine ja_icmp_ne 108 dbinary_101 rfl ⟨by decide, by decide⟩ ⟨by decide, by decide⟩ (fun c101 => ?_) (fun c101 => absurd c101 (by omega))
          refine ja_iconst dbinary_108 ?_
          refine t_asWhole (by decide) (show (2 : Nat) ≤ 8 by decide) dbinary_109 g2 ⟨by decide, by decide⟩ ?_
          intro w29 k109_0
          replace k109_0 : 0 ≤ w29 ∧ w29 ≤ 1 := k109_0
          refine t_put (by decide) (show (0 : Nat) ≤ 8 by decide) dbinary_112 g2 ⟨by decide, by decide⟩ ⟨by omega, by omega⟩ (show 0 ≤ 1 ∧ 1 ≤ 2 by omega) (show ((h 0 149) - 2) < 6000 by omega) ?_
          intro g30
          replace g30 : mo_G mo_zr (ja_up (ja_up (ja_up (ja_up h 0 149 ((h 0 149) - 2)) 94 (((h 0 149) - 2).toNat) 1) 95 (((h 0 149) - 2).toNat) w29) 0 149 (((h 0 149) - 2) + 1)) := g30
          show mJ l D cA ad 3 cX12_binary 6 none 115 [(5, (0, (h 95 (((h 0 149) - 2) + 1).toNat))), (4, (0, (h 95 ((h 0 149) - 2).toNat))), (3, (0, (h 94 (((h 0 149) - 2) + 1).toNat))), (2, (0, (h 94 ((h 0 149) - 2).toNat))), (0, (2, ((0 : Nat) : Int))), (1, (0, a1))] [] (ja_up (ja_up (ja_up (ja_up h 0 149 ((h 0 149) - 2)) 94 (((h 0 149) - 2).toNat) 1) 95 (((h 0 149) - 2).toNat) w29) 0 149 (((h 0 149) - 2) + 1)) Q
          refine ja_goto 176 dbinary_115 rfl ?_
          refine ja_return dbinary_176 rfl ?_
          exact k1 w29 (by omega) g30
      · refine ja_iload dbinary_77 rfl ?_
        refine ja_iload dbinary_79 rfl ?_
        refine ja_icmp_ne 88 dbinary_81 rfl ⟨by omega, by omega⟩ ⟨by omega, by omega⟩ (fun c81 => ?_) (fun c81 => ?_)
        · refine ja_iconst dbinary_88 ?_
          refine ja_iload_n dbinary_89 rfl rfl ?_
          refine ja_sipush 300 dbinary_90 rfl ?_
          refine ja_icmp_ne 100 dbinary_93 rfl ⟨by omega, by omega⟩ ⟨by decide, by decide⟩ (fun c93 => ?_) (fun c93 => ?_)
          · refine ja_iconst dbinary_100 ?_
            refine ja_icmp_ne 108 dbinary_101 rfl ⟨by decide, by decide⟩ ⟨by decide, by decide⟩ (fun c101 => absurd c101 (by omega)) (fun c101 => ?_)
            refine ja_iconst dbinary_104 ?_
            refine ja_goto 109 dbinary_105 rfl ?_
            refine t_asWhole (by decide) (show (2 : Nat) ≤ 8 by decide) dbinary_109 g2 ⟨by decide, by decide⟩ ?_
            intro w31 k109_0
            replace k109_0 : 0 ≤ w31 ∧ w31 ≤ 1 := k109_0
            refine t_put (by decide) (show (0 : Nat) ≤ 8 by decide) dbinary_112 g2 ⟨by decide, by decide⟩ ⟨by omega, by omega⟩ (show 0 ≤ 1 ∧ 1 ≤ 2 by omega) (show ((h 0 149) - 2) < 6000 by omega) ?_
            intro g32
            replace g32 : mo_G mo_zr (ja_up (ja_up (ja_up (ja_up h 0 149 ((h 0 149) - 2)) 94 (((h 0 149) - 2).toNat) 1) 95 (((h 0 149) - 2).toNat) w31) 0 149 (((h 0 149) - 2) + 1)) := g32
            show mJ l D cA ad 3 cX12_binary 6 none 115 [(5, (0, (h 95 (((h 0 149) - 2) + 1).toNat))), (4, (0, (h 95 ((h 0 149) - 2).toNat))), (3, (0, (h 94 (((h 0 149) - 2) + 1).toNat))), (2, (0, (h 94 ((h 0 149) - 2).toNat))), (0, (2, ((0 : Nat) : Int))), (1, (0, a1))] [] (ja_up (ja_up (ja_up (ja_up h 0 149 ((h 0 149) - 2)) 94 (((h 0 149) - 2).toNat) 1) 95 (((h 0 149) - 2).toNat) w31) 0 149 (((h 0 149) - 2) + 1)) Q
            refine ja_goto 176 dbinary_115 rfl ?_
            refine ja_return dbinary_176 rfl ?_
            exact k1 w31 (by omega) g32
          · refine ja_iconst dbinary_96 ?_
            refine ja_goto 101 dbinary_97 rfl ?_
            refine ja_icmp_ne 108 dbinary_101 rfl ⟨by decide, by decide⟩ ⟨by decide, by decide⟩ (fun c101 => ?_) (fun c101 => absurd c101 (by omega))
            refine ja_iconst dbinary_108 ?_
            refine t_asWhole (by decide) (show (2 : Nat) ≤ 8 by decide) dbinary_109 g2 ⟨by decide, by decide⟩ ?_
            intro w33 k109_0
            replace k109_0 : 0 ≤ w33 ∧ w33 ≤ 1 := k109_0
            refine t_put (by decide) (show (0 : Nat) ≤ 8 by decide) dbinary_112 g2 ⟨by decide, by decide⟩ ⟨by omega, by omega⟩ (show 0 ≤ 1 ∧ 1 ≤ 2 by omega) (show ((h 0 149) - 2) < 6000 by omega) ?_
            intro g34
            replace g34 : mo_G mo_zr (ja_up (ja_up (ja_up (ja_up h 0 149 ((h 0 149) - 2)) 94 (((h 0 149) - 2).toNat) 1) 95 (((h 0 149) - 2).toNat) w33) 0 149 (((h 0 149) - 2) + 1)) := g34
            show mJ l D cA ad 3 cX12_binary 6 none 115 [(5, (0, (h 95 (((h 0 149) - 2) + 1).toNat))), (4, (0, (h 95 ((h 0 149) - 2).toNat))), (3, (0, (h 94 (((h 0 149) - 2) + 1).toNat))), (2, (0, (h 94 ((h 0 149) - 2).toNat))), (0, (2, ((0 : Nat) : Int))), (1, (0, a1))] [] (ja_up (ja_up (ja_up (ja_up h 0 149 ((h 0 149) - 2)) 94 (((h 0 149) - 2).toNat) 1) 95 (((h 0 149) - 2).toNat) w33) 0 149 (((h 0 149) - 2) + 1)) Q
            refine ja_goto 176 dbinary_115 rfl ?_
            refine ja_return dbinary_176 rfl ?_
            exact k1 w33 (by omega) g34
        · refine ja_iconst dbinary_84 ?_
          refine ja_goto 89 dbinary_85 rfl ?_
          refine ja_iload_n dbinary_89 rfl rfl ?_
          refine ja_sipush 300 dbinary_90 rfl ?_
          refine ja_icmp_ne 100 dbinary_93 rfl ⟨by omega, by omega⟩ ⟨by decide, by decide⟩ (fun c93 => ?_) (fun c93 => ?_)
          · refine ja_iconst dbinary_100 ?_
            refine ja_icmp_ne 108 dbinary_101 rfl ⟨by decide, by decide⟩ ⟨by decide, by decide⟩ (fun c101 => ?_) (fun c101 => absurd c101 (by omega))
            refine ja_iconst dbinary_108 ?_
            refine t_asWhole (by decide) (show (2 : Nat) ≤ 8 by decide) dbinary_109 g2 ⟨by decide, by decide⟩ ?_
            intro w35 k109_0
            replace k109_0 : 0 ≤ w35 ∧ w35 ≤ 1 := k109_0
            refine t_put (by decide) (show (0 : Nat) ≤ 8 by decide) dbinary_112 g2 ⟨by decide, by decide⟩ ⟨by omega, by omega⟩ (show 0 ≤ 1 ∧ 1 ≤ 2 by omega) (show ((h 0 149) - 2) < 6000 by omega) ?_
            intro g36
            replace g36 : mo_G mo_zr (ja_up (ja_up (ja_up (ja_up h 0 149 ((h 0 149) - 2)) 94 (((h 0 149) - 2).toNat) 1) 95 (((h 0 149) - 2).toNat) w35) 0 149 (((h 0 149) - 2) + 1)) := g36
            show mJ l D cA ad 3 cX12_binary 6 none 115 [(5, (0, (h 95 (((h 0 149) - 2) + 1).toNat))), (4, (0, (h 95 ((h 0 149) - 2).toNat))), (3, (0, (h 94 (((h 0 149) - 2) + 1).toNat))), (2, (0, (h 94 ((h 0 149) - 2).toNat))), (0, (2, ((0 : Nat) : Int))), (1, (0, a1))] [] (ja_up (ja_up (ja_up (ja_up h 0 149 ((h 0 149) - 2)) 94 (((h 0 149) - 2).toNat) 1) 95 (((h 0 149) - 2).toNat) w35) 0 149 (((h 0 149) - 2) + 1)) Q
            refine ja_goto 176 dbinary_115 rfl ?_
            refine ja_return dbinary_176 rfl ?_
            exact k1 w35 (by omega) g36
          · refine ja_iconst dbinary_96 ?_
            refine ja_goto 101 dbinary_97 rfl ?_
            refine ja_icmp_ne 108 dbinary_101 rfl ⟨by decide, by decide⟩ ⟨by decide, by decide⟩ (fun c101 => absurd c101 (by omega)) (fun c101 => ?_)
            refine ja_iconst dbinary_104 ?_
            refine ja_goto 109 dbinary_105 rfl ?_
            refine t_asWhole (by decide) (show (2 : Nat) ≤ 8 by decide) dbinary_109 g2 ⟨by decide, by decide⟩ ?_
            intro w37 k109_0
            replace k109_0 : 0 ≤ w37 ∧ w37 ≤ 1 := k109_0
            refine t_put (by decide) (show (0 : Nat) ≤ 8 by decide) dbinary_112 g2 ⟨by decide, by decide⟩ ⟨by omega, by omega⟩ (show 0 ≤ 1 ∧ 1 ≤ 2 by omega) (show ((h 0 149) - 2) < 6000 by omega) ?_
            intro g38
            replace g38 : mo_G mo_zr (ja_up (ja_up (ja_up (ja_up h 0 149 ((h 0 149) - 2)) 94 (((h 0 149) - 2).toNat) 1) 95 (((h 0 149) - 2).toNat) w37) 0 149 (((h 0 149) - 2) + 1)) := g38
            show mJ l D cA ad 3 cX12_binary 6 none 115 [(5, (0, (h 95 (((h 0 149) - 2) + 1).toNat))), (4, (0, (h 95 ((h 0 149) - 2).toNat))), (3, (0, (h 94 (((h 0 149) - 2) + 1).toNat))), (2, (0, (h 94 ((h 0 149) - 2).toNat))), (0, (2, ((0 : Nat) : Int))), (1, (0, a1))] [] (ja_up (ja_up (ja_up (ja_up h 0 149 ((h 0 149) - 2)) 94 (((h 0 149) - 2).toNat) 1) 95 (((h 0 149) - 2).toNat) w37) 0 149 (((h 0 149) - 2) + 1)) Q
            refine ja_goto 176 dbinary_115 rfl ?_
            refine ja_return dbinary_176 rfl ?_
            exact k1 w37 (by omega) g38
theorem t_binary {a1 : Int} {d nL pc : Nat} {cc : ByteArray} {rt : Option FieldType} {L : List (Nat × ja_V)} {S : List ja_V} {h : ja_H} {Q : Option ja_V → ja_H → Prop} (hdd : 3 < d) (hwd : ja_wd S ≤ 8) (hd : decode cc pc = .ok (.invokevirtual 1108, 3)) (g : mo_G mo_zr h) (r1 : -2147483648 ≤ a1 ∧ a1 ≤ 2147483647) (p1 : 2 ≤ (h 0 149)) (p2 : VI h) (k1 : ∀ (v : Int), (-2147483648 ≤ v ∧ v ≤ 2147483647) → mo_G mo_zr (ja_up (ja_up (ja_up (ja_up h 0 149 ((h 0 149) - 2)) 94 (((h 0 149) - 2).toNat) 1) 95 (((h 0 149) - 2).toNat) v) 0 149 (((h 0 149) - 2) + 1)) → mJ l D cA ad d cc nL rt (pc + 3) L S (ja_up (ja_up (ja_up (ja_up h 0 149 ((h 0 149) - 2)) 94 (((h 0 149) - 2).toNat) 1) 95 (((h 0 149) - 2).toNat) v) 0 149 (((h 0 149) - 2) + 1)) Q) (k2 : ∀ (c : Int), (-2147483648 ≤ c ∧ c ≤ 2147483647) → mo_G mo_zr (ja_up (ja_up (ja_up (ja_up (ja_up h 0 149 ((h 0 149) - 2)) 0 186 1) 0 187 1) 0 188 1) 0 189 c) → mJ l D cA ad d cc nL rt (pc + 3) L S (ja_up (ja_up (ja_up (ja_up (ja_up h 0 149 ((h 0 149) - 2)) 0 186 1) 0 187 1) 0 188 1) 0 189 c) Q) : mJ l D cA ad d cc nL rt pc L ((0, a1) :: (2, ((0 : Nat) : Int)) :: S) h Q :=
  mc_binary hdd hwd hd (s_binary g r1 p1 p2 k1 k2)
end
