/-! the reference: its acts (written by a program) -/
theorem doperators_0 : decode cX12_operators 0 = .ok (.aload_n 0, 1) := by decide +kernel
theorem doperators_1 : decode cX12_operators 1 = .ok (.invokevirtual 862, 3) := by decide +kernel
theorem doperators_4 : decode cX12_operators 4 = .ok (.istore_n 2, 1) := by decide +kernel
theorem doperators_5 : decode cX12_operators 5 = .ok (.iload_n 2, 1) := by decide +kernel
theorem doperators_6 : decode cX12_operators 6 = .ok (.iload_n 1, 1) := by decide +kernel
theorem doperators_7 : decode cX12_operators 7 = .ok (.if_icmp .gt 15, 3) := by decide +kernel
theorem doperators_10 : decode cX12_operators 10 = .ok (.aload_n 0, 1) := by decide +kernel
theorem doperators_11 : decode cX12_operators 11 = .ok (.dup, 1) := by decide +kernel
theorem doperators_12 : decode cX12_operators 12 = .ok (.getfield 614, 3) := by decide +kernel
theorem doperators_15 : decode cX12_operators 15 = .ok (.iconst 1, 1) := by decide +kernel
theorem doperators_16 : decode cX12_operators 16 = .ok (.isub, 1) := by decide +kernel
theorem doperators_17 : decode cX12_operators 17 = .ok (.putfield 614, 3) := by decide +kernel
theorem doperators_20 : decode cX12_operators 20 = .ok (.iconst 1, 1) := by decide +kernel
theorem doperators_21 : decode cX12_operators 21 = .ok (.ireturn, 1) := by decide +kernel
theorem doperators_22 : decode cX12_operators 22 = .ok (.aload_n 0, 1) := by decide +kernel
theorem doperators_23 : decode cX12_operators 23 = .ok (.getfield 13, 3) := by decide +kernel
theorem doperators_26 : decode cX12_operators 26 = .ok (.aload_n 0, 1) := by decide +kernel
theorem doperators_27 : decode cX12_operators 27 = .ok (.getfield 574, 3) := by decide +kernel
theorem doperators_30 : decode cX12_operators 30 = .ok (.iaload, 1) := by decide +kernel
theorem doperators_31 : decode cX12_operators 31 = .ok (.iconst 1, 1) := by decide +kernel
theorem doperators_32 : decode cX12_operators 32 = .ok (.if_icmp .ne 7, 3) := by decide +kernel
theorem doperators_35 : decode cX12_operators 35 = .ok (.iconst 0, 1) := by decide +kernel
theorem doperators_36 : decode cX12_operators 36 = .ok (.goto 12, 3) := by decide +kernel
theorem doperators_39 : decode cX12_operators 39 = .ok (.aload_n 0, 1) := by decide +kernel
theorem doperators_40 : decode cX12_operators 40 = .ok (.getfield 22, 3) := by decide +kernel
theorem doperators_43 : decode cX12_operators 43 = .ok (.aload_n 0, 1) := by decide +kernel
theorem doperators_44 : decode cX12_operators 44 = .ok (.getfield 574, 3) := by decide +kernel
theorem doperators_47 : decode cX12_operators 47 = .ok (.iaload, 1) := by decide +kernel
theorem doperators_48 : decode cX12_operators 48 = .ok (.istore_n 3, 1) := by decide +kernel
theorem doperators_49 : decode cX12_operators 49 = .ok (.aload_n 0, 1) := by decide +kernel
theorem doperators_50 : decode cX12_operators 50 = .ok (.invokevirtual 589, 3) := by decide +kernel
theorem doperators_53 : decode cX12_operators 53 = .ok (.ifCond .ne 5, 3) := by decide +kernel
theorem doperators_56 : decode cX12_operators 56 = .ok (.iconst 0, 1) := by decide +kernel
theorem doperators_57 : decode cX12_operators 57 = .ok (.ireturn, 1) := by decide +kernel
theorem doperators_58 : decode cX12_operators 58 = .ok (.aload_n 0, 1) := by decide +kernel
theorem doperators_59 : decode cX12_operators 59 = .ok (.iconst 2, 1) := by decide +kernel
theorem doperators_60 : decode cX12_operators 60 = .ok (.iload_n 1, 1) := by decide +kernel
theorem doperators_61 : decode cX12_operators 61 = .ok (.iconst 0, 1) := by decide +kernel
theorem doperators_62 : decode cX12_operators 62 = .ok (.iconst 0, 1) := by decide +kernel
theorem doperators_63 : decode cX12_operators 63 = .ok (.invokevirtual 790, 3) := by decide +kernel
theorem doperators_66 : decode cX12_operators 66 = .ok (.istore 4, 2) := by decide +kernel
theorem doperators_68 : decode cX12_operators 68 = .ok (.iload_n 2, 1) := by decide +kernel
theorem doperators_69 : decode cX12_operators 69 = .ok (.iconst 2, 1) := by decide +kernel
theorem doperators_70 : decode cX12_operators 70 = .ok (.if_icmp .gt 31, 3) := by decide +kernel
theorem doperators_73 : decode cX12_operators 73 = .ok (.aload_n 0, 1) := by decide +kernel
theorem doperators_74 : decode cX12_operators 74 = .ok (.iconst 4, 1) := by decide +kernel
theorem doperators_75 : decode cX12_operators 75 = .ok (.aload_n 0, 1) := by decide +kernel
theorem doperators_76 : decode cX12_operators 76 = .ok (.iload_n 2, 1) := by decide +kernel
theorem doperators_77 : decode cX12_operators 77 = .ok (.iconst 1, 1) := by decide +kernel
theorem doperators_78 : decode cX12_operators 78 = .ok (.if_icmp .ne 8, 3) := by decide +kernel
theorem doperators_81 : decode cX12_operators 81 = .ok (.bipush 13, 2) := by decide +kernel
theorem doperators_83 : decode cX12_operators 83 = .ok (.goto 5, 3) := by decide +kernel
theorem doperators_86 : decode cX12_operators 86 = .ok (.bipush 12, 2) := by decide +kernel
theorem doperators_88 : decode cX12_operators 88 = .ok (.iconst 0, 1) := by decide +kernel
theorem doperators_89 : decode cX12_operators 89 = .ok (.iconst 0, 1) := by decide +kernel
theorem doperators_90 : decode cX12_operators 90 = .ok (.invokevirtual 732, 3) := by decide +kernel
theorem doperators_93 : decode cX12_operators 93 = .ok (.iconst 0, 1) := by decide +kernel
theorem doperators_94 : decode cX12_operators 94 = .ok (.iconst 0, 1) := by decide +kernel
theorem doperators_95 : decode cX12_operators 95 = .ok (.invokevirtual 790, 3) := by decide +kernel
theorem doperators_98 : decode cX12_operators 98 = .ok (.goto 11, 3) := by decide +kernel
theorem doperators_101 : decode cX12_operators 101 = .ok (.aload_n 0, 1) := by decide +kernel
theorem doperators_102 : decode cX12_operators 102 = .ok (.iconst 3, 1) := by decide +kernel
theorem doperators_103 : decode cX12_operators 103 = .ok (.iload_n 3, 1) := by decide +kernel
theorem doperators_104 : decode cX12_operators 104 = .ok (.iconst 0, 1) := by decide +kernel
theorem doperators_105 : decode cX12_operators 105 = .ok (.iconst 0, 1) := by decide +kernel
theorem doperators_106 : decode cX12_operators 106 = .ok (.invokevirtual 790, 3) := by decide +kernel
theorem doperators_109 : decode cX12_operators 109 = .ok (.istore 4, 2) := by decide +kernel
theorem doperators_111 : decode cX12_operators 111 = .ok (.aload_n 0, 1) := by decide +kernel
theorem doperators_112 : decode cX12_operators 112 = .ok (.iconst 1, 1) := by decide +kernel
theorem doperators_113 : decode cX12_operators 113 = .ok (.iload_n 2, 1) := by decide +kernel
theorem doperators_114 : decode cX12_operators 114 = .ok (.iconst 0, 1) := by decide +kernel
theorem doperators_115 : decode cX12_operators 115 = .ok (.iconst 0, 1) := by decide +kernel
theorem doperators_116 : decode cX12_operators 116 = .ok (.invokevirtual 790, 3) := by decide +kernel
theorem doperators_119 : decode cX12_operators 119 = .ok (.ireturn, 1) := by decide +kernel
section
variable {l : Launch} {D : va_G} {cA : Nat → ClassId} {ad : Nat → Nat}
theorem s_operators {a1 : Int} {R r ph tf q0 b : Int} {s : List mo_A} {ht st rg : Nat → Int} {h : ja_H} {Q : Option ja_V → ja_H → Prop} (g : mo_G h) (r1 : -2147483648 ≤ a1 ∧ a1 ≤ 2147483647) (p1 : pk_S h (h 0 17).toNat s) (p2 : piB h R r ph tf q0 ((2, a1, b) :: s) ht st rg) (k1 : ∀ (h' : ja_H), (pi_done h h' R r ph tf q0 (pi_mu h ((2, a1, b) :: s))) → mo_G h' → Q (some (0, 1)) h') (k2 : ∀ (h' : ja_H), (0 < (h' 0 8) ∧ (h' 0 1) = (h 0 1) ∧ (h' 0 118) = (h 0 118) ∧ (h' 0 127) = (h 0 127)) → mo_G h' → Q (some (0, 0)) h') : mM_operators l D cA ad a1 h Q := by
  show mJ l D cA ad 3 cX12_operators 5 (some .boolean) 0 [(0, (2, ((0 : Nat) : Int))), (1, (0, a1))] [] h Q
  have kn_at := gF_at g
  have kn_wTop := gF_wTop g
  have kn_words := gF_words g
  have kn_nest := gF_nest g
  have hN := piB_num g p1 p2
  obtain ⟨N1, N2, N3, N4, N5, N6, N7, N8, N9, N10, N11, N12, N13⟩ := hN
  have hn1 : (h 0 18) = 1 + pk_sum pk_c s := p2.1.1
  refine ja_aload_n doperators_0 rfl rfl ?_
  refine t_strength (by decide) (show (0 : Nat) ≤ 8 by decide) doperators_1 g  ?_
  intro w1 k1_0
  refine ja_istore_n doperators_4 rfl (by decide) (L2 := [(2, (0, w1)), (0, (2, ((0 : Nat) : Int))), (1, (0, a1))]) rfl ?_
  refine ja_iload_n doperators_5 rfl rfl ?_
  refine ja_iload_n doperators_6 rfl rfl ?_
  refine ja_icmp_gt 22 doperators_7 rfl ⟨by omega, by omega⟩ ⟨by omega, by omega⟩ (fun c7 => ?_) (fun c7 => ?_)
  · refine ja_aload_n doperators_22 rfl rfl ?_
    refine fa_kinds doperators_23 ?_
    refine ja_aload_n doperators_26 rfl rfl ?_
    refine fg_at (v := h 0 7) rfl doperators_27 ?_
    have f2 := gF_at g
    refine il_kinds (v := h 2 (h 0 7).toNat) rfl ⟨by omega, by omega⟩ doperators_30 ?_
    have f3 := gC_kinds g (h 0 7).toNat
    refine ja_iconst doperators_31 ?_
    refine ja_icmp_ne 39 doperators_32 rfl ⟨by omega, by omega⟩ ⟨by decide, by decide⟩ (fun c32 => ?_) (fun c32 => ?_)
    · refine ja_aload_n doperators_39 rfl rfl ?_
      refine fa_worths doperators_40 ?_
      refine ja_aload_n doperators_43 rfl rfl ?_
      refine fg_at (v := h 0 7) rfl doperators_44 ?_
      refine il_worths (v := h 5 (h 0 7).toNat) rfl ⟨by omega, by omega⟩ doperators_47 ?_
      have f4 := gC_worths g (h 0 7).toNat
      refine ja_istore_n doperators_48 rfl (by decide) (L2 := [(3, (0, (h 5 (h 0 7).toNat))), (2, (0, w1)), (0, (2, ((0 : Nat) : Int))), (1, (0, a1))]) rfl ?_
      refine ja_aload_n doperators_49 rfl rfl ?_
      refine t_take (by decide) (show (0 : Nat) ≤ 8 by decide) doperators_50 g  ?_ ?_
      · intro k50_0 g5
        replace k50_0 : (h 0 7) < 900 := k50_0
        replace g5 : mo_G (ja_up h 0 7 ((h 0 7) + 1)) := g5
        show mJ l D cA ad 3 cX12_operators 5 (some .boolean) 53 [(3, (0, (h 5 (h 0 7).toNat))), (2, (0, w1)), (0, (2, ((0 : Nat) : Int))), (1, (0, a1))] [(0, 1)] (ja_up h 0 7 ((h 0 7) + 1)) Q
        refine ja_if_ne 58 doperators_53 rfl ⟨by decide, by decide⟩ (fun c53 => ?_) (fun c53 => absurd c53 (by omega))
        refine ja_aload_n doperators_58 rfl rfl ?_
        refine ja_iconst doperators_59 ?_
        refine ja_iload_n doperators_60 rfl rfl ?_
        refine ja_iconst doperators_61 ?_
        refine ja_iconst doperators_62 ?_
        refine t_later (by decide) (show (0 : Nat) ≤ 8 by decide) doperators_63 g5 ⟨by decide, by decide⟩ ⟨by omega, by omega⟩ ⟨by decide, by decide⟩ ⟨by decide, by decide⟩ (show 0 ≤ 2 ∧ 2 ≤ 38 by omega) (show (h 0 17) < 2000 by omega) ?_
        intro g6
        replace g6 : mo_G (ja_up (ja_up (ja_up (ja_up (ja_up (ja_up h 0 7 ((h 0 7) + 1)) 6 ((h 0 17).toNat) 2) 7 ((h 0 17).toNat) a1) 8 ((h 0 17).toNat) 0) 9 ((h 0 17).toNat) 0) 0 17 ((h 0 17) + 1)) := g6
        show mJ l D cA ad 3 cX12_operators 5 (some .boolean) 66 [(3, (0, (h 5 (h 0 7).toNat))), (2, (0, w1)), (0, (2, ((0 : Nat) : Int))), (1, (0, a1))] [(0, 1)] (ja_up (ja_up (ja_up (ja_up (ja_up (ja_up h 0 7 ((h 0 7) + 1)) 6 ((h 0 17).toNat) 2) 7 ((h 0 17).toNat) a1) 8 ((h 0 17).toNat) 0) 9 ((h 0 17).toNat) 0) 0 17 ((h 0 17) + 1)) Q
        refine ja_istore doperators_66 (by decide) (L2 := [(4, (0, 1)), (3, (0, (h 5 (h 0 7).toNat))), (2, (0, w1)), (0, (2, ((0 : Nat) : Int))), (1, (0, a1))]) rfl ?_
        refine ja_iload_n doperators_68 rfl rfl ?_
        refine ja_iconst doperators_69 ?_
        refine ja_icmp_gt 101 doperators_70 rfl ⟨by omega, by omega⟩ ⟨by decide, by decide⟩ (fun c70 => ?_) (fun c70 => ?_)
        · refine ja_aload_n doperators_101 rfl rfl ?_
          refine ja_iconst doperators_102 ?_
          refine ja_iload_n doperators_103 rfl rfl ?_
          refine ja_iconst doperators_104 ?_
          refine ja_iconst doperators_105 ?_
          refine t_later (by decide) (show (0 : Nat) ≤ 8 by decide) doperators_106 g6 ⟨by decide, by decide⟩ ⟨by omega, by omega⟩ ⟨by decide, by decide⟩ ⟨by decide, by decide⟩ (show 0 ≤ 3 ∧ 3 ≤ 38 by omega) (show ((h 0 17) + 1) < 2000 by omega) ?_
          intro g7
          replace g7 : mo_G (ja_up (ja_up (ja_up (ja_up (ja_up (ja_up (ja_up (ja_up (ja_up (ja_up (ja_up h 0 7 ((h 0 7) + 1)) 6 ((h 0 17).toNat) 2) 7 ((h 0 17).toNat) a1) 8 ((h 0 17).toNat) 0) 9 ((h 0 17).toNat) 0) 0 17 ((h 0 17) + 1)) 6 (((h 0 17) + 1).toNat) 3) 7 (((h 0 17) + 1).toNat) (h 5 (h 0 7).toNat)) 8 (((h 0 17) + 1).toNat) 0) 9 (((h 0 17) + 1).toNat) 0) 0 17 (((h 0 17) + 1) + 1)) := g7
          show mJ l D cA ad 3 cX12_operators 5 (some .boolean) 109 [(4, (0, 1)), (3, (0, (h 5 (h 0 7).toNat))), (2, (0, w1)), (0, (2, ((0 : Nat) : Int))), (1, (0, a1))] [(0, 1)] (ja_up (ja_up (ja_up (ja_up (ja_up (ja_up (ja_up (ja_up (ja_up (ja_up (ja_up h 0 7 ((h 0 7) + 1)) 6 ((h 0 17).toNat) 2) 7 ((h 0 17).toNat) a1) 8 ((h 0 17).toNat) 0) 9 ((h 0 17).toNat) 0) 0 17 ((h 0 17) + 1)) 6 (((h 0 17) + 1).toNat) 3) 7 (((h 0 17) + 1).toNat) (h 5 (h 0 7).toNat)) 8 (((h 0 17) + 1).toNat) 0) 9 (((h 0 17) + 1).toNat) 0) 0 17 (((h 0 17) + 1) + 1)) Q
          refine ja_istore doperators_109 (by decide) (L2 := [(4, (0, 1)), (3, (0, (h 5 (h 0 7).toNat))), (2, (0, w1)), (0, (2, ((0 : Nat) : Int))), (1, (0, a1))]) rfl ?_
          refine ja_aload_n doperators_111 rfl rfl ?_
          refine ja_iconst doperators_112 ?_
          refine ja_iload_n doperators_113 rfl rfl ?_
          refine ja_iconst doperators_114 ?_
          refine ja_iconst doperators_115 ?_
          refine t_later (by decide) (show (0 : Nat) ≤ 8 by decide) doperators_116 g7 ⟨by decide, by decide⟩ ⟨by omega, by omega⟩ ⟨by decide, by decide⟩ ⟨by decide, by decide⟩ (show 0 ≤ 1 ∧ 1 ≤ 38 by omega) (show (((h 0 17) + 1) + 1) < 2000 by omega) ?_
          intro g8
          replace g8 : mo_G (ja_up (ja_up (ja_up (ja_up (ja_up (ja_up (ja_up (ja_up (ja_up (ja_up (ja_up (ja_up (ja_up (ja_up (ja_up (ja_up h 0 7 ((h 0 7) + 1)) 6 ((h 0 17).toNat) 2) 7 ((h 0 17).toNat) a1) 8 ((h 0 17).toNat) 0) 9 ((h 0 17).toNat) 0) 0 17 ((h 0 17) + 1)) 6 (((h 0 17) + 1).toNat) 3) 7 (((h 0 17) + 1).toNat) (h 5 (h 0 7).toNat)) 8 (((h 0 17) + 1).toNat) 0) 9 (((h 0 17) + 1).toNat) 0) 0 17 (((h 0 17) + 1) + 1)) 6 ((((h 0 17) + 1) + 1).toNat) 1) 7 ((((h 0 17) + 1) + 1).toNat) w1) 8 ((((h 0 17) + 1) + 1).toNat) 0) 9 ((((h 0 17) + 1) + 1).toNat) 0) 0 17 ((((h 0 17) + 1) + 1) + 1)) := g8
          show mJ l D cA ad 3 cX12_operators 5 (some .boolean) 119 [(4, (0, 1)), (3, (0, (h 5 (h 0 7).toNat))), (2, (0, w1)), (0, (2, ((0 : Nat) : Int))), (1, (0, a1))] [(0, 1)] (ja_up (ja_up (ja_up (ja_up (ja_up (ja_up (ja_up (ja_up (ja_up (ja_up (ja_up (ja_up (ja_up (ja_up (ja_up (ja_up h 0 7 ((h 0 7) + 1)) 6 ((h 0 17).toNat) 2) 7 ((h 0 17).toNat) a1) 8 ((h 0 17).toNat) 0) 9 ((h 0 17).toNat) 0) 0 17 ((h 0 17) + 1)) 6 (((h 0 17) + 1).toNat) 3) 7 (((h 0 17) + 1).toNat) (h 5 (h 0 7).toNat)) 8 (((h 0 17) + 1).toNat) 0) 9 (((h 0 17) + 1).toNat) 0) 0 17 (((h 0 17) + 1) + 1)) 6 ((((h 0 17) + 1) + 1).toNat) 1) 7 ((((h 0 17) + 1) + 1).toNat) w1) 8 ((((h 0 17) + 1) + 1).toNat) 0) 9 ((((h 0 17) + 1) + 1).toNat) 0) 0 17 ((((h 0 17) + 1) + 1) + 1)) Q
          refine ja_zreturn doperators_119 rfl (by omega) ?_
          exact mo_fin (by omega) rfl (k1 (ja_up (ja_up (ja_up (ja_up (ja_up (ja_up (ja_up (ja_up (ja_up (ja_up (ja_up (ja_up (ja_up (ja_up (ja_up (ja_up h 0 7 ((h 0 7) + 1)) 6 ((h 0 17).toNat) 2) 7 ((h 0 17).toNat) a1) 8 ((h 0 17).toNat) 0) 9 ((h 0 17).toNat) 0) 0 17 ((h 0 17) + 1)) 6 (((h 0 17) + 1).toNat) 3) 7 (((h 0 17) + 1).toNat) (h 5 (h 0 7).toNat)) 8 (((h 0 17) + 1).toNat) 0) 9 (((h 0 17) + 1).toNat) 0) 0 17 (((h 0 17) + 1) + 1)) 6 ((((h 0 17) + 1) + 1).toNat) 1) 7 ((((h 0 17) + 1) + 1).toNat) w1) 8 ((((h 0 17) + 1) + 1).toNat) 0) 9 ((((h 0 17) + 1) + 1).toNat) 0) 0 17 ((((h 0 17) + 1) + 1) + 1)) (ab_ops_bin g p1 p2) g8)
        · refine ja_aload_n doperators_73 rfl rfl ?_
          refine ja_iconst doperators_74 ?_
          refine ja_aload_n doperators_75 rfl rfl ?_
          refine ja_iload_n doperators_76 rfl rfl ?_
          refine ja_iconst doperators_77 ?_
          refine ja_icmp_ne 86 doperators_78 rfl ⟨by omega, by omega⟩ ⟨by decide, by decide⟩ (fun c78 => ?_) (fun c78 => ?_)
          · refine ja_bipush 12 doperators_86 rfl ?_
            refine ja_iconst doperators_88 ?_
            refine ja_iconst doperators_89 ?_
            refine t_emit (by decide) (show (2 : Nat) ≤ 8 by decide) doperators_90 g6 ⟨by decide, by decide⟩ ⟨by decide, by decide⟩ ⟨by decide, by decide⟩ (show 0 ≤ 12 ∧ 12 ≤ 26 by omega) (show (h 0 113) < 5000 by omega) ?_
            intro g9
            replace g9 : mo_G (ja_up (ja_up (ja_up (ja_up (ja_up (ja_up (ja_up (ja_up (ja_up (ja_up h 0 7 ((h 0 7) + 1)) 6 ((h 0 17).toNat) 2) 7 ((h 0 17).toNat) a1) 8 ((h 0 17).toNat) 0) 9 ((h 0 17).toNat) 0) 0 17 ((h 0 17) + 1)) 74 ((h 0 113).toNat) 12) 75 ((h 0 113).toNat) 0) 76 ((h 0 113).toNat) 0) 0 113 ((h 0 113) + 1)) := g9
            show mJ l D cA ad 3 cX12_operators 5 (some .boolean) 93 [(4, (0, 1)), (3, (0, (h 5 (h 0 7).toNat))), (2, (0, w1)), (0, (2, ((0 : Nat) : Int))), (1, (0, a1))] [(0, (h 0 113)), (0, 4), (2, ((0 : Nat) : Int))] (ja_up (ja_up (ja_up (ja_up (ja_up (ja_up (ja_up (ja_up (ja_up (ja_up h 0 7 ((h 0 7) + 1)) 6 ((h 0 17).toNat) 2) 7 ((h 0 17).toNat) a1) 8 ((h 0 17).toNat) 0) 9 ((h 0 17).toNat) 0) 0 17 ((h 0 17) + 1)) 74 ((h 0 113).toNat) 12) 75 ((h 0 113).toNat) 0) 76 ((h 0 113).toNat) 0) 0 113 ((h 0 113) + 1)) Q
            refine ja_iconst doperators_93 ?_
            refine ja_iconst doperators_94 ?_
            refine t_later (by decide) (show (0 : Nat) ≤ 8 by decide) doperators_95 g9 ⟨by decide, by decide⟩ ⟨by omega, by omega⟩ ⟨by decide, by decide⟩ ⟨by decide, by decide⟩ (show 0 ≤ 4 ∧ 4 ≤ 38 by omega) (show ((h 0 17) + 1) < 2000 by omega) ?_
            intro g10
            replace g10 : mo_G (ja_up (ja_up (ja_up (ja_up (ja_up (ja_up (ja_up (ja_up (ja_up (ja_up (ja_up (ja_up (ja_up (ja_up (ja_up h 0 7 ((h 0 7) + 1)) 6 ((h 0 17).toNat) 2) 7 ((h 0 17).toNat) a1) 8 ((h 0 17).toNat) 0) 9 ((h 0 17).toNat) 0) 0 17 ((h 0 17) + 1)) 74 ((h 0 113).toNat) 12) 75 ((h 0 113).toNat) 0) 76 ((h 0 113).toNat) 0) 0 113 ((h 0 113) + 1)) 6 (((h 0 17) + 1).toNat) 4) 7 (((h 0 17) + 1).toNat) (h 0 113)) 8 (((h 0 17) + 1).toNat) 0) 9 (((h 0 17) + 1).toNat) 0) 0 17 (((h 0 17) + 1) + 1)) := g10
            show mJ l D cA ad 3 cX12_operators 5 (some .boolean) 98 [(4, (0, 1)), (3, (0, (h 5 (h 0 7).toNat))), (2, (0, w1)), (0, (2, ((0 : Nat) : Int))), (1, (0, a1))] [(0, 1)] (ja_up (ja_up (ja_up (ja_up (ja_up (ja_up (ja_up (ja_up (ja_up (ja_up (ja_up (ja_up (ja_up (ja_up (ja_up h 0 7 ((h 0 7) + 1)) 6 ((h 0 17).toNat) 2) 7 ((h 0 17).toNat) a1) 8 ((h 0 17).toNat) 0) 9 ((h 0 17).toNat) 0) 0 17 ((h 0 17) + 1)) 74 ((h 0 113).toNat) 12) 75 ((h 0 113).toNat) 0) 76 ((h 0 113).toNat) 0) 0 113 ((h 0 113) + 1)) 6 (((h 0 17) + 1).toNat) 4) 7 (((h 0 17) + 1).toNat) (h 0 113)) 8 (((h 0 17) + 1).toNat) 0) 9 (((h 0 17) + 1).toNat) 0) 0 17 (((h 0 17) + 1) + 1)) Q
            refine ja_goto 109 doperators_98 rfl ?_
            refine ja_istore doperators_109 (by decide) (L2 := [(4, (0, 1)), (3, (0, (h 5 (h 0 7).toNat))), (2, (0, w1)), (0, (2, ((0 : Nat) : Int))), (1, (0, a1))]) rfl ?_
            refine ja_aload_n doperators_111 rfl rfl ?_
            refine ja_iconst doperators_112 ?_
            refine ja_iload_n doperators_113 rfl rfl ?_
            refine ja_iconst doperators_114 ?_
            refine ja_iconst doperators_115 ?_
            refine t_later (by decide) (show (0 : Nat) ≤ 8 by decide) doperators_116 g10 ⟨by decide, by decide⟩ ⟨by omega, by omega⟩ ⟨by decide, by decide⟩ ⟨by decide, by decide⟩ (show 0 ≤ 1 ∧ 1 ≤ 38 by omega) (show (((h 0 17) + 1) + 1) < 2000 by omega) ?_
            intro g11
            replace g11 : mo_G (ja_up (ja_up (ja_up (ja_up (ja_up (ja_up (ja_up (ja_up (ja_up (ja_up (ja_up (ja_up (ja_up (ja_up (ja_up (ja_up (ja_up (ja_up (ja_up (ja_up h 0 7 ((h 0 7) + 1)) 6 ((h 0 17).toNat) 2) 7 ((h 0 17).toNat) a1) 8 ((h 0 17).toNat) 0) 9 ((h 0 17).toNat) 0) 0 17 ((h 0 17) + 1)) 74 ((h 0 113).toNat) 12) 75 ((h 0 113).toNat) 0) 76 ((h 0 113).toNat) 0) 0 113 ((h 0 113) + 1)) 6 (((h 0 17) + 1).toNat) 4) 7 (((h 0 17) + 1).toNat) (h 0 113)) 8 (((h 0 17) + 1).toNat) 0) 9 (((h 0 17) + 1).toNat) 0) 0 17 (((h 0 17) + 1) + 1)) 6 ((((h 0 17) + 1) + 1).toNat) 1) 7 ((((h 0 17) + 1) + 1).toNat) w1) 8 ((((h 0 17) + 1) + 1).toNat) 0) 9 ((((h 0 17) + 1) + 1).toNat) 0) 0 17 ((((h 0 17) + 1) + 1) + 1)) := g11
            show mJ l D cA ad 3 cX12_operators 5 (some .boolean) 119 [(4, (0, 1)), (3, (0, (h 5 (h 0 7).toNat))), (2, (0, w1)), (0, (2, ((0 : Nat) : Int))), (1, (0, a1))] [(0, 1)] (ja_up (ja_up (ja_up (ja_up (ja_up (ja_up (ja_up (ja_up (ja_up (ja_up (ja_up (ja_up (ja_up (ja_up (ja_up (ja_up (ja_up (ja_up (ja_up (ja_up h 0 7 ((h 0 7) + 1)) 6 ((h 0 17).toNat) 2) 7 ((h 0 17).toNat) a1) 8 ((h 0 17).toNat) 0) 9 ((h 0 17).toNat) 0) 0 17 ((h 0 17) + 1)) 74 ((h 0 113).toNat) 12) 75 ((h 0 113).toNat) 0) 76 ((h 0 113).toNat) 0) 0 113 ((h 0 113) + 1)) 6 (((h 0 17) + 1).toNat) 4) 7 (((h 0 17) + 1).toNat) (h 0 113)) 8 (((h 0 17) + 1).toNat) 0) 9 (((h 0 17) + 1).toNat) 0) 0 17 (((h 0 17) + 1) + 1)) 6 ((((h 0 17) + 1) + 1).toNat) 1) 7 ((((h 0 17) + 1) + 1).toNat) w1) 8 ((((h 0 17) + 1) + 1).toNat) 0) 9 ((((h 0 17) + 1) + 1).toNat) 0) 0 17 ((((h 0 17) + 1) + 1) + 1)) Q
            refine ja_zreturn doperators_119 rfl (by omega) ?_
            exact mo_fin (by omega) rfl (k1 (ja_up (ja_up (ja_up (ja_up (ja_up (ja_up (ja_up (ja_up (ja_up (ja_up (ja_up (ja_up (ja_up (ja_up (ja_up (ja_up (ja_up (ja_up (ja_up (ja_up h 0 7 ((h 0 7) + 1)) 6 ((h 0 17).toNat) 2) 7 ((h 0 17).toNat) a1) 8 ((h 0 17).toNat) 0) 9 ((h 0 17).toNat) 0) 0 17 ((h 0 17) + 1)) 74 ((h 0 113).toNat) 12) 75 ((h 0 113).toNat) 0) 76 ((h 0 113).toNat) 0) 0 113 ((h 0 113) + 1)) 6 (((h 0 17) + 1).toNat) 4) 7 (((h 0 17) + 1).toNat) (h 0 113)) 8 (((h 0 17) + 1).toNat) 0) 9 (((h 0 17) + 1).toNat) 0) 0 17 (((h 0 17) + 1) + 1)) 6 ((((h 0 17) + 1) + 1).toNat) 1) 7 ((((h 0 17) + 1) + 1).toNat) w1) 8 ((((h 0 17) + 1) + 1).toNat) 0) 9 ((((h 0 17) + 1) + 1).toNat) 0) 0 17 ((((h 0 17) + 1) + 1) + 1)) (ab_ops_12 g p1 p2) g11)
          · refine ja_bipush 13 doperators_81 rfl ?_
            refine ja_goto 88 doperators_83 rfl ?_
            refine ja_iconst doperators_88 ?_
            refine ja_iconst doperators_89 ?_
            refine t_emit (by decide) (show (2 : Nat) ≤ 8 by decide) doperators_90 g6 ⟨by decide, by decide⟩ ⟨by decide, by decide⟩ ⟨by decide, by decide⟩ (show 0 ≤ 13 ∧ 13 ≤ 26 by omega) (show (h 0 113) < 5000 by omega) ?_
            intro g12
            replace g12 : mo_G (ja_up (ja_up (ja_up (ja_up (ja_up (ja_up (ja_up (ja_up (ja_up (ja_up h 0 7 ((h 0 7) + 1)) 6 ((h 0 17).toNat) 2) 7 ((h 0 17).toNat) a1) 8 ((h 0 17).toNat) 0) 9 ((h 0 17).toNat) 0) 0 17 ((h 0 17) + 1)) 74 ((h 0 113).toNat) 13) 75 ((h 0 113).toNat) 0) 76 ((h 0 113).toNat) 0) 0 113 ((h 0 113) + 1)) := g12
            show mJ l D cA ad 3 cX12_operators 5 (some .boolean) 93 [(4, (0, 1)), (3, (0, (h 5 (h 0 7).toNat))), (2, (0, w1)), (0, (2, ((0 : Nat) : Int))), (1, (0, a1))] [(0, (h 0 113)), (0, 4), (2, ((0 : Nat) : Int))] (ja_up (ja_up (ja_up (ja_up (ja_up (ja_up (ja_up (ja_up (ja_up (ja_up h 0 7 ((h 0 7) + 1)) 6 ((h 0 17).toNat) 2) 7 ((h 0 17).toNat) a1) 8 ((h 0 17).toNat) 0) 9 ((h 0 17).toNat) 0) 0 17 ((h 0 17) + 1)) 74 ((h 0 113).toNat) 13) 75 ((h 0 113).toNat) 0) 76 ((h 0 113).toNat) 0) 0 113 ((h 0 113) + 1)) Q
            refine ja_iconst doperators_93 ?_
            refine ja_iconst doperators_94 ?_
            refine t_later (by decide) (show (0 : Nat) ≤ 8 by decide) doperators_95 g12 ⟨by decide, by decide⟩ ⟨by omega, by omega⟩ ⟨by decide, by decide⟩ ⟨by decide, by decide⟩ (show 0 ≤ 4 ∧ 4 ≤ 38 by omega) (show ((h 0 17) + 1) < 2000 by omega) ?_
            intro g13
            replace g13 : mo_G (ja_up (ja_up (ja_up (ja_up (ja_up (ja_up (ja_up (ja_up (ja_up (ja_up (ja_up (ja_up (ja_up (ja_up (ja_up h 0 7 ((h 0 7) + 1)) 6 ((h 0 17).toNat) 2) 7 ((h 0 17).toNat) a1) 8 ((h 0 17).toNat) 0) 9 ((h 0 17).toNat) 0) 0 17 ((h 0 17) + 1)) 74 ((h 0 113).toNat) 13) 75 ((h 0 113).toNat) 0) 76 ((h 0 113).toNat) 0) 0 113 ((h 0 113) + 1)) 6 (((h 0 17) + 1).toNat) 4) 7 (((h 0 17) + 1).toNat) (h 0 113)) 8 (((h 0 17) + 1).toNat) 0) 9 (((h 0 17) + 1).toNat) 0) 0 17 (((h 0 17) + 1) + 1)) := g13
            show mJ l D cA ad 3 cX12_operators 5 (some .boolean) 98 [(4, (0, 1)), (3, (0, (h 5 (h 0 7).toNat))), (2, (0, w1)), (0, (2, ((0 : Nat) : Int))), (1, (0, a1))] [(0, 1)] (ja_up (ja_up (ja_up (ja_up (ja_up (ja_up (ja_up (ja_up (ja_up (ja_up (ja_up (ja_up (ja_up (ja_up (ja_up h 0 7 ((h 0 7) + 1)) 6 ((h 0 17).toNat) 2) 7 ((h 0 17).toNat) a1) 8 ((h 0 17).toNat) 0) 9 ((h 0 17).toNat) 0) 0 17 ((h 0 17) + 1)) 74 ((h 0 113).toNat) 13) 75 ((h 0 113).toNat) 0) 76 ((h 0 113).toNat) 0) 0 113 ((h 0 113) + 1)) 6 (((h 0 17) + 1).toNat) 4) 7 (((h 0 17) + 1).toNat) (h 0 113)) 8 (((h 0 17) + 1).toNat) 0) 9 (((h 0 17) + 1).toNat) 0) 0 17 (((h 0 17) + 1) + 1)) Q
            refine ja_goto 109 doperators_98 rfl ?_
            refine ja_istore doperators_109 (by decide) (L2 := [(4, (0, 1)), (3, (0, (h 5 (h 0 7).toNat))), (2, (0, w1)), (0, (2, ((0 : Nat) : Int))), (1, (0, a1))]) rfl ?_
            refine ja_aload_n doperators_111 rfl rfl ?_
            refine ja_iconst doperators_112 ?_
            refine ja_iload_n doperators_113 rfl rfl ?_
            refine ja_iconst doperators_114 ?_
            refine ja_iconst doperators_115 ?_
            refine t_later (by decide) (show (0 : Nat) ≤ 8 by decide) doperators_116 g13 ⟨by decide, by decide⟩ ⟨by omega, by omega⟩ ⟨by decide, by decide⟩ ⟨by decide, by decide⟩ (show 0 ≤ 1 ∧ 1 ≤ 38 by omega) (show (((h 0 17) + 1) + 1) < 2000 by omega) ?_
            intro g14
            replace g14 : mo_G (ja_up (ja_up (ja_up (ja_up (ja_up (ja_up (ja_up (ja_up (ja_up (ja_up (ja_up (ja_up (ja_up (ja_up (ja_up (ja_up (ja_up (ja_up (ja_up (ja_up h 0 7 ((h 0 7) + 1)) 6 ((h 0 17).toNat) 2) 7 ((h 0 17).toNat) a1) 8 ((h 0 17).toNat) 0) 9 ((h 0 17).toNat) 0) 0 17 ((h 0 17) + 1)) 74 ((h 0 113).toNat) 13) 75 ((h 0 113).toNat) 0) 76 ((h 0 113).toNat) 0) 0 113 ((h 0 113) + 1)) 6 (((h 0 17) + 1).toNat) 4) 7 (((h 0 17) + 1).toNat) (h 0 113)) 8 (((h 0 17) + 1).toNat) 0) 9 (((h 0 17) + 1).toNat) 0) 0 17 (((h 0 17) + 1) + 1)) 6 ((((h 0 17) + 1) + 1).toNat) 1) 7 ((((h 0 17) + 1) + 1).toNat) w1) 8 ((((h 0 17) + 1) + 1).toNat) 0) 9 ((((h 0 17) + 1) + 1).toNat) 0) 0 17 ((((h 0 17) + 1) + 1) + 1)) := g14
            show mJ l D cA ad 3 cX12_operators 5 (some .boolean) 119 [(4, (0, 1)), (3, (0, (h 5 (h 0 7).toNat))), (2, (0, w1)), (0, (2, ((0 : Nat) : Int))), (1, (0, a1))] [(0, 1)] (ja_up (ja_up (ja_up (ja_up (ja_up (ja_up (ja_up (ja_up (ja_up (ja_up (ja_up (ja_up (ja_up (ja_up (ja_up (ja_up (ja_up (ja_up (ja_up (ja_up h 0 7 ((h 0 7) + 1)) 6 ((h 0 17).toNat) 2) 7 ((h 0 17).toNat) a1) 8 ((h 0 17).toNat) 0) 9 ((h 0 17).toNat) 0) 0 17 ((h 0 17) + 1)) 74 ((h 0 113).toNat) 13) 75 ((h 0 113).toNat) 0) 76 ((h 0 113).toNat) 0) 0 113 ((h 0 113) + 1)) 6 (((h 0 17) + 1).toNat) 4) 7 (((h 0 17) + 1).toNat) (h 0 113)) 8 (((h 0 17) + 1).toNat) 0) 9 (((h 0 17) + 1).toNat) 0) 0 17 (((h 0 17) + 1) + 1)) 6 ((((h 0 17) + 1) + 1).toNat) 1) 7 ((((h 0 17) + 1) + 1).toNat) w1) 8 ((((h 0 17) + 1) + 1).toNat) 0) 9 ((((h 0 17) + 1) + 1).toNat) 0) 0 17 ((((h 0 17) + 1) + 1) + 1)) Q
            refine ja_zreturn doperators_119 rfl (by omega) ?_
            exact mo_fin (by omega) rfl (k1 (ja_up (ja_up (ja_up (ja_up (ja_up (ja_up (ja_up (ja_up (ja_up (ja_up (ja_up (ja_up (ja_up (ja_up (ja_up (ja_up (ja_up (ja_up (ja_up (ja_up h 0 7 ((h 0 7) + 1)) 6 ((h 0 17).toNat) 2) 7 ((h 0 17).toNat) a1) 8 ((h 0 17).toNat) 0) 9 ((h 0 17).toNat) 0) 0 17 ((h 0 17) + 1)) 74 ((h 0 113).toNat) 13) 75 ((h 0 113).toNat) 0) 76 ((h 0 113).toNat) 0) 0 113 ((h 0 113) + 1)) 6 (((h 0 17) + 1).toNat) 4) 7 (((h 0 17) + 1).toNat) (h 0 113)) 8 (((h 0 17) + 1).toNat) 0) 9 (((h 0 17) + 1).toNat) 0) 0 17 (((h 0 17) + 1) + 1)) 6 ((((h 0 17) + 1) + 1).toNat) 1) 7 ((((h 0 17) + 1) + 1).toNat) w1) 8 ((((h 0 17) + 1) + 1).toNat) 0) 9 ((((h 0 17) + 1) + 1).toNat) 0) 0 17 ((((h 0 17) + 1) + 1) + 1)) (ab_ops_13 g p1 p2) g14)
      · intro h15 k50_1 g16
        refine ja_if_ne 58 doperators_53 rfl ⟨by decide, by decide⟩ (fun c53 => absurd c53 (by omega)) (fun c53 => ?_)
        refine ja_iconst doperators_56 ?_
        refine ja_zreturn doperators_57 rfl (by omega) ?_
        exact mo_fin (by omega) rfl (k2 h15 (by omega) g16)
    · refine ja_iconst doperators_35 ?_
      refine ja_goto 48 doperators_36 rfl ?_
      refine ja_istore_n doperators_48 rfl (by decide) (L2 := [(3, (0, 0)), (2, (0, w1)), (0, (2, ((0 : Nat) : Int))), (1, (0, a1))]) rfl ?_
      refine ja_aload_n doperators_49 rfl rfl ?_
      refine t_take (by decide) (show (0 : Nat) ≤ 8 by decide) doperators_50 g  ?_ ?_
      · intro k50_0 g17
        replace k50_0 : (h 0 7) < 900 := k50_0
        replace g17 : mo_G (ja_up h 0 7 ((h 0 7) + 1)) := g17
        show mJ l D cA ad 3 cX12_operators 5 (some .boolean) 53 [(3, (0, 0)), (2, (0, w1)), (0, (2, ((0 : Nat) : Int))), (1, (0, a1))] [(0, 1)] (ja_up h 0 7 ((h 0 7) + 1)) Q
        refine ja_if_ne 58 doperators_53 rfl ⟨by decide, by decide⟩ (fun c53 => ?_) (fun c53 => absurd c53 (by omega))
        refine ja_aload_n doperators_58 rfl rfl ?_
        refine ja_iconst doperators_59 ?_
        refine ja_iload_n doperators_60 rfl rfl ?_
        refine ja_iconst doperators_61 ?_
        refine ja_iconst doperators_62 ?_
        refine t_later (by decide) (show (0 : Nat) ≤ 8 by decide) doperators_63 g17 ⟨by decide, by decide⟩ ⟨by omega, by omega⟩ ⟨by decide, by decide⟩ ⟨by decide, by decide⟩ (show 0 ≤ 2 ∧ 2 ≤ 38 by omega) (show (h 0 17) < 2000 by omega) ?_
        intro g18
        replace g18 : mo_G (ja_up (ja_up (ja_up (ja_up (ja_up (ja_up h 0 7 ((h 0 7) + 1)) 6 ((h 0 17).toNat) 2) 7 ((h 0 17).toNat) a1) 8 ((h 0 17).toNat) 0) 9 ((h 0 17).toNat) 0) 0 17 ((h 0 17) + 1)) := g18
        show mJ l D cA ad 3 cX12_operators 5 (some .boolean) 66 [(3, (0, 0)), (2, (0, w1)), (0, (2, ((0 : Nat) : Int))), (1, (0, a1))] [(0, 1)] (ja_up (ja_up (ja_up (ja_up (ja_up (ja_up h 0 7 ((h 0 7) + 1)) 6 ((h 0 17).toNat) 2) 7 ((h 0 17).toNat) a1) 8 ((h 0 17).toNat) 0) 9 ((h 0 17).toNat) 0) 0 17 ((h 0 17) + 1)) Q
        refine ja_istore doperators_66 (by decide) (L2 := [(4, (0, 1)), (3, (0, 0)), (2, (0, w1)), (0, (2, ((0 : Nat) : Int))), (1, (0, a1))]) rfl ?_
        refine ja_iload_n doperators_68 rfl rfl ?_
        refine ja_iconst doperators_69 ?_
        refine ja_icmp_gt 101 doperators_70 rfl ⟨by omega, by omega⟩ ⟨by decide, by decide⟩ (fun c70 => ?_) (fun c70 => ?_)
        · refine ja_aload_n doperators_101 rfl rfl ?_
          refine ja_iconst doperators_102 ?_
          refine ja_iload_n doperators_103 rfl rfl ?_
          refine ja_iconst doperators_104 ?_
          refine ja_iconst doperators_105 ?_
          refine t_later (by decide) (show (0 : Nat) ≤ 8 by decide) doperators_106 g18 ⟨by decide, by decide⟩ ⟨by decide, by decide⟩ ⟨by decide, by decide⟩ ⟨by decide, by decide⟩ (show 0 ≤ 3 ∧ 3 ≤ 38 by omega) (show ((h 0 17) + 1) < 2000 by omega) ?_
          intro g19
          replace g19 : mo_G (ja_up (ja_up (ja_up (ja_up (ja_up (ja_up (ja_up (ja_up (ja_up (ja_up (ja_up h 0 7 ((h 0 7) + 1)) 6 ((h 0 17).toNat) 2) 7 ((h 0 17).toNat) a1) 8 ((h 0 17).toNat) 0) 9 ((h 0 17).toNat) 0) 0 17 ((h 0 17) + 1)) 6 (((h 0 17) + 1).toNat) 3) 7 (((h 0 17) + 1).toNat) 0) 8 (((h 0 17) + 1).toNat) 0) 9 (((h 0 17) + 1).toNat) 0) 0 17 (((h 0 17) + 1) + 1)) := g19
          show mJ l D cA ad 3 cX12_operators 5 (some .boolean) 109 [(4, (0, 1)), (3, (0, 0)), (2, (0, w1)), (0, (2, ((0 : Nat) : Int))), (1, (0, a1))] [(0, 1)] (ja_up (ja_up (ja_up (ja_up (ja_up (ja_up (ja_up (ja_up (ja_up (ja_up (ja_up h 0 7 ((h 0 7) + 1)) 6 ((h 0 17).toNat) 2) 7 ((h 0 17).toNat) a1) 8 ((h 0 17).toNat) 0) 9 ((h 0 17).toNat) 0) 0 17 ((h 0 17) + 1)) 6 (((h 0 17) + 1).toNat) 3) 7 (((h 0 17) + 1).toNat) 0) 8 (((h 0 17) + 1).toNat) 0) 9 (((h 0 17) + 1).toNat) 0) 0 17 (((h 0 17) + 1) + 1)) Q
          refine ja_istore doperators_109 (by decide) (L2 := [(4, (0, 1)), (3, (0, 0)), (2, (0, w1)), (0, (2, ((0 : Nat) : Int))), (1, (0, a1))]) rfl ?_
          refine ja_aload_n doperators_111 rfl rfl ?_
          refine ja_iconst doperators_112 ?_
          refine ja_iload_n doperators_113 rfl rfl ?_
          refine ja_iconst doperators_114 ?_
          refine ja_iconst doperators_115 ?_
          refine t_later (by decide) (show (0 : Nat) ≤ 8 by decide) doperators_116 g19 ⟨by decide, by decide⟩ ⟨by omega, by omega⟩ ⟨by decide, by decide⟩ ⟨by decide, by decide⟩ (show 0 ≤ 1 ∧ 1 ≤ 38 by omega) (show (((h 0 17) + 1) + 1) < 2000 by omega) ?_
          intro g20
          replace g20 : mo_G (ja_up (ja_up (ja_up (ja_up (ja_up (ja_up (ja_up (ja_up (ja_up (ja_up (ja_up (ja_up (ja_up (ja_up (ja_up (ja_up h 0 7 ((h 0 7) + 1)) 6 ((h 0 17).toNat) 2) 7 ((h 0 17).toNat) a1) 8 ((h 0 17).toNat) 0) 9 ((h 0 17).toNat) 0) 0 17 ((h 0 17) + 1)) 6 (((h 0 17) + 1).toNat) 3) 7 (((h 0 17) + 1).toNat) 0) 8 (((h 0 17) + 1).toNat) 0) 9 (((h 0 17) + 1).toNat) 0) 0 17 (((h 0 17) + 1) + 1)) 6 ((((h 0 17) + 1) + 1).toNat) 1) 7 ((((h 0 17) + 1) + 1).toNat) w1) 8 ((((h 0 17) + 1) + 1).toNat) 0) 9 ((((h 0 17) + 1) + 1).toNat) 0) 0 17 ((((h 0 17) + 1) + 1) + 1)) := g20
          show mJ l D cA ad 3 cX12_operators 5 (some .boolean) 119 [(4, (0, 1)), (3, (0, 0)), (2, (0, w1)), (0, (2, ((0 : Nat) : Int))), (1, (0, a1))] [(0, 1)] (ja_up (ja_up (ja_up (ja_up (ja_up (ja_up (ja_up (ja_up (ja_up (ja_up (ja_up (ja_up (ja_up (ja_up (ja_up (ja_up h 0 7 ((h 0 7) + 1)) 6 ((h 0 17).toNat) 2) 7 ((h 0 17).toNat) a1) 8 ((h 0 17).toNat) 0) 9 ((h 0 17).toNat) 0) 0 17 ((h 0 17) + 1)) 6 (((h 0 17) + 1).toNat) 3) 7 (((h 0 17) + 1).toNat) 0) 8 (((h 0 17) + 1).toNat) 0) 9 (((h 0 17) + 1).toNat) 0) 0 17 (((h 0 17) + 1) + 1)) 6 ((((h 0 17) + 1) + 1).toNat) 1) 7 ((((h 0 17) + 1) + 1).toNat) w1) 8 ((((h 0 17) + 1) + 1).toNat) 0) 9 ((((h 0 17) + 1) + 1).toNat) 0) 0 17 ((((h 0 17) + 1) + 1) + 1)) Q
          refine ja_zreturn doperators_119 rfl (by omega) ?_
          exact mo_fin (by omega) rfl (k1 (ja_up (ja_up (ja_up (ja_up (ja_up (ja_up (ja_up (ja_up (ja_up (ja_up (ja_up (ja_up (ja_up (ja_up (ja_up (ja_up h 0 7 ((h 0 7) + 1)) 6 ((h 0 17).toNat) 2) 7 ((h 0 17).toNat) a1) 8 ((h 0 17).toNat) 0) 9 ((h 0 17).toNat) 0) 0 17 ((h 0 17) + 1)) 6 (((h 0 17) + 1).toNat) 3) 7 (((h 0 17) + 1).toNat) 0) 8 (((h 0 17) + 1).toNat) 0) 9 (((h 0 17) + 1).toNat) 0) 0 17 (((h 0 17) + 1) + 1)) 6 ((((h 0 17) + 1) + 1).toNat) 1) 7 ((((h 0 17) + 1) + 1).toNat) w1) 8 ((((h 0 17) + 1) + 1).toNat) 0) 9 ((((h 0 17) + 1) + 1).toNat) 0) 0 17 ((((h 0 17) + 1) + 1) + 1)) (ab_ops_bin g p1 p2) g20)
        · refine ja_aload_n doperators_73 rfl rfl ?_
          refine ja_iconst doperators_74 ?_
          refine ja_aload_n doperators_75 rfl rfl ?_
          refine ja_iload_n doperators_76 rfl rfl ?_
          refine ja_iconst doperators_77 ?_
          refine ja_icmp_ne 86 doperators_78 rfl ⟨by omega, by omega⟩ ⟨by decide, by decide⟩ (fun c78 => ?_) (fun c78 => ?_)
          · refine ja_bipush 12 doperators_86 rfl ?_
            refine ja_iconst doperators_88 ?_
            refine ja_iconst doperators_89 ?_
            refine t_emit (by decide) (show (2 : Nat) ≤ 8 by decide) doperators_90 g18 ⟨by decide, by decide⟩ ⟨by decide, by decide⟩ ⟨by decide, by decide⟩ (show 0 ≤ 12 ∧ 12 ≤ 26 by omega) (show (h 0 113) < 5000 by omega) ?_
            intro g21
            replace g21 : mo_G (ja_up (ja_up (ja_up (ja_up (ja_up (ja_up (ja_up (ja_up (ja_up (ja_up h 0 7 ((h 0 7) + 1)) 6 ((h 0 17).toNat) 2) 7 ((h 0 17).toNat) a1) 8 ((h 0 17).toNat) 0) 9 ((h 0 17).toNat) 0) 0 17 ((h 0 17) + 1)) 74 ((h 0 113).toNat) 12) 75 ((h 0 113).toNat) 0) 76 ((h 0 113).toNat) 0) 0 113 ((h 0 113) + 1)) := g21
            show mJ l D cA ad 3 cX12_operators 5 (some .boolean) 93 [(4, (0, 1)), (3, (0, 0)), (2, (0, w1)), (0, (2, ((0 : Nat) : Int))), (1, (0, a1))] [(0, (h 0 113)), (0, 4), (2, ((0 : Nat) : Int))] (ja_up (ja_up (ja_up (ja_up (ja_up (ja_up (ja_up (ja_up (ja_up (ja_up h 0 7 ((h 0 7) + 1)) 6 ((h 0 17).toNat) 2) 7 ((h 0 17).toNat) a1) 8 ((h 0 17).toNat) 0) 9 ((h 0 17).toNat) 0) 0 17 ((h 0 17) + 1)) 74 ((h 0 113).toNat) 12) 75 ((h 0 113).toNat) 0) 76 ((h 0 113).toNat) 0) 0 113 ((h 0 113) + 1)) Q
            refine ja_iconst doperators_93 ?_
            refine ja_iconst doperators_94 ?_
            refine t_later (by decide) (show (0 : Nat) ≤ 8 by decide) doperators_95 g21 ⟨by decide, by decide⟩ ⟨by omega, by omega⟩ ⟨by decide, by decide⟩ ⟨by decide, by decide⟩ (show 0 ≤ 4 ∧ 4 ≤ 38 by omega) (show ((h 0 17) + 1) < 2000 by omega) ?_
            intro g22
            replace g22 : mo_G (ja_up (ja_up (ja_up (ja_up (ja_up (ja_up (ja_up (ja_up (ja_up (ja_up (ja_up (ja_up (ja_up (ja_up (ja_up h 0 7 ((h 0 7) + 1)) 6 ((h 0 17).toNat) 2) 7 ((h 0 17).toNat) a1) 8 ((h 0 17).toNat) 0) 9 ((h 0 17).toNat) 0) 0 17 ((h 0 17) + 1)) 74 ((h 0 113).toNat) 12) 75 ((h 0 113).toNat) 0) 76 ((h 0 113).toNat) 0) 0 113 ((h 0 113) + 1)) 6 (((h 0 17) + 1).toNat) 4) 7 (((h 0 17) + 1).toNat) (h 0 113)) 8 (((h 0 17) + 1).toNat) 0) 9 (((h 0 17) + 1).toNat) 0) 0 17 (((h 0 17) + 1) + 1)) := g22
            show mJ l D cA ad 3 cX12_operators 5 (some .boolean) 98 [(4, (0, 1)), (3, (0, 0)), (2, (0, w1)), (0, (2, ((0 : Nat) : Int))), (1, (0, a1))] [(0, 1)] (ja_up (ja_up (ja_up (ja_up (ja_up (ja_up (ja_up (ja_up (ja_up (ja_up (ja_up (ja_up (ja_up (ja_up (ja_up h 0 7 ((h 0 7) + 1)) 6 ((h 0 17).toNat) 2) 7 ((h 0 17).toNat) a1) 8 ((h 0 17).toNat) 0) 9 ((h 0 17).toNat) 0) 0 17 ((h 0 17) + 1)) 74 ((h 0 113).toNat) 12) 75 ((h 0 113).toNat) 0) 76 ((h 0 113).toNat) 0) 0 113 ((h 0 113) + 1)) 6 (((h 0 17) + 1).toNat) 4) 7 (((h 0 17) + 1).toNat) (h 0 113)) 8 (((h 0 17) + 1).toNat) 0) 9 (((h 0 17) + 1).toNat) 0) 0 17 (((h 0 17) + 1) + 1)) Q
            refine ja_goto 109 doperators_98 rfl ?_
            refine ja_istore doperators_109 (by decide) (L2 := [(4, (0, 1)), (3, (0, 0)), (2, (0, w1)), (0, (2, ((0 : Nat) : Int))), (1, (0, a1))]) rfl ?_
            refine ja_aload_n doperators_111 rfl rfl ?_
            refine ja_iconst doperators_112 ?_
            refine ja_iload_n doperators_113 rfl rfl ?_
            refine ja_iconst doperators_114 ?_
            refine ja_iconst doperators_115 ?_
            refine t_later (by decide) (show (0 : Nat) ≤ 8 by decide) doperators_116 g22 ⟨by decide, by decide⟩ ⟨by omega, by omega⟩ ⟨by decide, by decide⟩ ⟨by decide, by decide⟩ (show 0 ≤ 1 ∧ 1 ≤ 38 by omega) (show (((h 0 17) + 1) + 1) < 2000 by omega) ?_
            intro g23
            replace g23 : mo_G (ja_up (ja_up (ja_up (ja_up (ja_up (ja_up (ja_up (ja_up (ja_up (ja_up (ja_up (ja_up (ja_up (ja_up (ja_up (ja_up (ja_up (ja_up (ja_up (ja_up h 0 7 ((h 0 7) + 1)) 6 ((h 0 17).toNat) 2) 7 ((h 0 17).toNat) a1) 8 ((h 0 17).toNat) 0) 9 ((h 0 17).toNat) 0) 0 17 ((h 0 17) + 1)) 74 ((h 0 113).toNat) 12) 75 ((h 0 113).toNat) 0) 76 ((h 0 113).toNat) 0) 0 113 ((h 0 113) + 1)) 6 (((h 0 17) + 1).toNat) 4) 7 (((h 0 17) + 1).toNat) (h 0 113)) 8 (((h 0 17) + 1).toNat) 0) 9 (((h 0 17) + 1).toNat) 0) 0 17 (((h 0 17) + 1) + 1)) 6 ((((h 0 17) + 1) + 1).toNat) 1) 7 ((((h 0 17) + 1) + 1).toNat) w1) 8 ((((h 0 17) + 1) + 1).toNat) 0) 9 ((((h 0 17) + 1) + 1).toNat) 0) 0 17 ((((h 0 17) + 1) + 1) + 1)) := g23
            show mJ l D cA ad 3 cX12_operators 5 (some .boolean) 119 [(4, (0, 1)), (3, (0, 0)), (2, (0, w1)), (0, (2, ((0 : Nat) : Int))), (1, (0, a1))] [(0, 1)] (ja_up (ja_up (ja_up (ja_up (ja_up (ja_up (ja_up (ja_up (ja_up (ja_up (ja_up (ja_up (ja_up (ja_up (ja_up (ja_up (ja_up (ja_up (ja_up (ja_up h 0 7 ((h 0 7) + 1)) 6 ((h 0 17).toNat) 2) 7 ((h 0 17).toNat) a1) 8 ((h 0 17).toNat) 0) 9 ((h 0 17).toNat) 0) 0 17 ((h 0 17) + 1)) 74 ((h 0 113).toNat) 12) 75 ((h 0 113).toNat) 0) 76 ((h 0 113).toNat) 0) 0 113 ((h 0 113) + 1)) 6 (((h 0 17) + 1).toNat) 4) 7 (((h 0 17) + 1).toNat) (h 0 113)) 8 (((h 0 17) + 1).toNat) 0) 9 (((h 0 17) + 1).toNat) 0) 0 17 (((h 0 17) + 1) + 1)) 6 ((((h 0 17) + 1) + 1).toNat) 1) 7 ((((h 0 17) + 1) + 1).toNat) w1) 8 ((((h 0 17) + 1) + 1).toNat) 0) 9 ((((h 0 17) + 1) + 1).toNat) 0) 0 17 ((((h 0 17) + 1) + 1) + 1)) Q
            refine ja_zreturn doperators_119 rfl (by omega) ?_
            exact mo_fin (by omega) rfl (k1 (ja_up (ja_up (ja_up (ja_up (ja_up (ja_up (ja_up (ja_up (ja_up (ja_up (ja_up (ja_up (ja_up (ja_up (ja_up (ja_up (ja_up (ja_up (ja_up (ja_up h 0 7 ((h 0 7) + 1)) 6 ((h 0 17).toNat) 2) 7 ((h 0 17).toNat) a1) 8 ((h 0 17).toNat) 0) 9 ((h 0 17).toNat) 0) 0 17 ((h 0 17) + 1)) 74 ((h 0 113).toNat) 12) 75 ((h 0 113).toNat) 0) 76 ((h 0 113).toNat) 0) 0 113 ((h 0 113) + 1)) 6 (((h 0 17) + 1).toNat) 4) 7 (((h 0 17) + 1).toNat) (h 0 113)) 8 (((h 0 17) + 1).toNat) 0) 9 (((h 0 17) + 1).toNat) 0) 0 17 (((h 0 17) + 1) + 1)) 6 ((((h 0 17) + 1) + 1).toNat) 1) 7 ((((h 0 17) + 1) + 1).toNat) w1) 8 ((((h 0 17) + 1) + 1).toNat) 0) 9 ((((h 0 17) + 1) + 1).toNat) 0) 0 17 ((((h 0 17) + 1) + 1) + 1)) (ab_ops_12 g p1 p2) g23)
          · refine ja_bipush 13 doperators_81 rfl ?_
            refine ja_goto 88 doperators_83 rfl ?_
            refine ja_iconst doperators_88 ?_
            refine ja_iconst doperators_89 ?_
            refine t_emit (by decide) (show (2 : Nat) ≤ 8 by decide) doperators_90 g18 ⟨by decide, by decide⟩ ⟨by decide, by decide⟩ ⟨by decide, by decide⟩ (show 0 ≤ 13 ∧ 13 ≤ 26 by omega) (show (h 0 113) < 5000 by omega) ?_
            intro g24
            replace g24 : mo_G (ja_up (ja_up (ja_up (ja_up (ja_up (ja_up (ja_up (ja_up (ja_up (ja_up h 0 7 ((h 0 7) + 1)) 6 ((h 0 17).toNat) 2) 7 ((h 0 17).toNat) a1) 8 ((h 0 17).toNat) 0) 9 ((h 0 17).toNat) 0) 0 17 ((h 0 17) + 1)) 74 ((h 0 113).toNat) 13) 75 ((h 0 113).toNat) 0) 76 ((h 0 113).toNat) 0) 0 113 ((h 0 113) + 1)) := g24
            show mJ l D cA ad 3 cX12_operators 5 (some .boolean) 93 [(4, (0, 1)), (3, (0, 0)), (2, (0, w1)), (0, (2, ((0 : Nat) : Int))), (1, (0, a1))] [(0, (h 0 113)), (0, 4), (2, ((0 : Nat) : Int))] (ja_up (ja_up (ja_up (ja_up (ja_up (ja_up (ja_up (ja_up (ja_up (ja_up h 0 7 ((h 0 7) + 1)) 6 ((h 0 17).toNat) 2) 7 ((h 0 17).toNat) a1) 8 ((h 0 17).toNat) 0) 9 ((h 0 17).toNat) 0) 0 17 ((h 0 17) + 1)) 74 ((h 0 113).toNat) 13) 75 ((h 0 113).toNat) 0) 76 ((h 0 113).toNat) 0) 0 113 ((h 0 113) + 1)) Q
            refine ja_iconst doperators_93 ?_
            refine ja_iconst doperators_94 ?_
            refine t_later (by decide) (show (0 : Nat) ≤ 8 by decide) doperators_95 g24 ⟨by decide, by decide⟩ ⟨by omega, by omega⟩ ⟨by decide, by decide⟩ ⟨by decide, by decide⟩ (show 0 ≤ 4 ∧ 4 ≤ 38 by omega) (show ((h 0 17) + 1) < 2000 by omega) ?_
            intro g25
            replace g25 : mo_G (ja_up (ja_up (ja_up (ja_up (ja_up (ja_up (ja_up (ja_up (ja_up (ja_up (ja_up (ja_up (ja_up (ja_up (ja_up h 0 7 ((h 0 7) + 1)) 6 ((h 0 17).toNat) 2) 7 ((h 0 17).toNat) a1) 8 ((h 0 17).toNat) 0) 9 ((h 0 17).toNat) 0) 0 17 ((h 0 17) + 1)) 74 ((h 0 113).toNat) 13) 75 ((h 0 113).toNat) 0) 76 ((h 0 113).toNat) 0) 0 113 ((h 0 113) + 1)) 6 (((h 0 17) + 1).toNat) 4) 7 (((h 0 17) + 1).toNat) (h 0 113)) 8 (((h 0 17) + 1).toNat) 0) 9 (((h 0 17) + 1).toNat) 0) 0 17 (((h 0 17) + 1) + 1)) := g25
            show mJ l D cA ad 3 cX12_operators 5 (some .boolean) 98 [(4, (0, 1)), (3, (0, 0)), (2, (0, w1)), (0, (2, ((0 : Nat) : Int))), (1, (0, a1))] [(0, 1)] (ja_up (ja_up (ja_up (ja_up (ja_up (ja_up (ja_up (ja_up (ja_up (ja_up (ja_up (ja_up (ja_up (ja_up (ja_up h 0 7 ((h 0 7) + 1)) 6 ((h 0 17).toNat) 2) 7 ((h 0 17).toNat) a1) 8 ((h 0 17).toNat) 0) 9 ((h 0 17).toNat) 0) 0 17 ((h 0 17) + 1)) 74 ((h 0 113).toNat) 13) 75 ((h 0 113).toNat) 0) 76 ((h 0 113).toNat) 0) 0 113 ((h 0 113) + 1)) 6 (((h 0 17) + 1).toNat) 4) 7 (((h 0 17) + 1).toNat) (h 0 113)) 8 (((h 0 17) + 1).toNat) 0) 9 (((h 0 17) + 1).toNat) 0) 0 17 (((h 0 17) + 1) + 1)) Q
            refine ja_goto 109 doperators_98 rfl ?_
            refine ja_istore doperators_109 (by decide) (L2 := [(4, (0, 1)), (3, (0, 0)), (2, (0, w1)), (0, (2, ((0 : Nat) : Int))), (1, (0, a1))]) rfl ?_
            refine ja_aload_n doperators_111 rfl rfl ?_
            refine ja_iconst doperators_112 ?_
            refine ja_iload_n doperators_113 rfl rfl ?_
            refine ja_iconst doperators_114 ?_
            refine ja_iconst doperators_115 ?_
            refine t_later (by decide) (show (0 : Nat) ≤ 8 by decide) doperators_116 g25 ⟨by decide, by decide⟩ ⟨by omega, by omega⟩ ⟨by decide, by decide⟩ ⟨by decide, by decide⟩ (show 0 ≤ 1 ∧ 1 ≤ 38 by omega) (show (((h 0 17) + 1) + 1) < 2000 by omega) ?_
            intro g26
            replace g26 : mo_G (ja_up (ja_up (ja_up (ja_up (ja_up (ja_up (ja_up (ja_up (ja_up (ja_up (ja_up (ja_up (ja_up (ja_up (ja_up (ja_up (ja_up (ja_up (ja_up (ja_up h 0 7 ((h 0 7) + 1)) 6 ((h 0 17).toNat) 2) 7 ((h 0 17).toNat) a1) 8 ((h 0 17).toNat) 0) 9 ((h 0 17).toNat) 0) 0 17 ((h 0 17) + 1)) 74 ((h 0 113).toNat) 13) 75 ((h 0 113).toNat) 0) 76 ((h 0 113).toNat) 0) 0 113 ((h 0 113) + 1)) 6 (((h 0 17) + 1).toNat) 4) 7 (((h 0 17) + 1).toNat) (h 0 113)) 8 (((h 0 17) + 1).toNat) 0) 9 (((h 0 17) + 1).toNat) 0) 0 17 (((h 0 17) + 1) + 1)) 6 ((((h 0 17) + 1) + 1).toNat) 1) 7 ((((h 0 17) + 1) + 1).toNat) w1) 8 ((((h 0 17) + 1) + 1).toNat) 0) 9 ((((h 0 17) + 1) + 1).toNat) 0) 0 17 ((((h 0 17) + 1) + 1) + 1)) := g26
            show mJ l D cA ad 3 cX12_operators 5 (some .boolean) 119 [(4, (0, 1)), (3, (0, 0)), (2, (0, w1)), (0, (2, ((0 : Nat) : Int))), (1, (0, a1))] [(0, 1)] (ja_up (ja_up (ja_up (ja_up (ja_up (ja_up (ja_up (ja_up (ja_up (ja_up (ja_up (ja_up (ja_up (ja_up (ja_up (ja_up (ja_up (ja_up (ja_up (ja_up h 0 7 ((h 0 7) + 1)) 6 ((h 0 17).toNat) 2) 7 ((h 0 17).toNat) a1) 8 ((h 0 17).toNat) 0) 9 ((h 0 17).toNat) 0) 0 17 ((h 0 17) + 1)) 74 ((h 0 113).toNat) 13) 75 ((h 0 113).toNat) 0) 76 ((h 0 113).toNat) 0) 0 113 ((h 0 113) + 1)) 6 (((h 0 17) + 1).toNat) 4) 7 (((h 0 17) + 1).toNat) (h 0 113)) 8 (((h 0 17) + 1).toNat) 0) 9 (((h 0 17) + 1).toNat) 0) 0 17 (((h 0 17) + 1) + 1)) 6 ((((h 0 17) + 1) + 1).toNat) 1) 7 ((((h 0 17) + 1) + 1).toNat) w1) 8 ((((h 0 17) + 1) + 1).toNat) 0) 9 ((((h 0 17) + 1) + 1).toNat) 0) 0 17 ((((h 0 17) + 1) + 1) + 1)) Q
            refine ja_zreturn doperators_119 rfl (by omega) ?_
            exact mo_fin (by omega) rfl (k1 (ja_up (ja_up (ja_up (ja_up (ja_up (ja_up (ja_up (ja_up (ja_up (ja_up (ja_up (ja_up (ja_up (ja_up (ja_up (ja_up (ja_up (ja_up (ja_up (ja_up h 0 7 ((h 0 7) + 1)) 6 ((h 0 17).toNat) 2) 7 ((h 0 17).toNat) a1) 8 ((h 0 17).toNat) 0) 9 ((h 0 17).toNat) 0) 0 17 ((h 0 17) + 1)) 74 ((h 0 113).toNat) 13) 75 ((h 0 113).toNat) 0) 76 ((h 0 113).toNat) 0) 0 113 ((h 0 113) + 1)) 6 (((h 0 17) + 1).toNat) 4) 7 (((h 0 17) + 1).toNat) (h 0 113)) 8 (((h 0 17) + 1).toNat) 0) 9 (((h 0 17) + 1).toNat) 0) 0 17 (((h 0 17) + 1) + 1)) 6 ((((h 0 17) + 1) + 1).toNat) 1) 7 ((((h 0 17) + 1) + 1).toNat) w1) 8 ((((h 0 17) + 1) + 1).toNat) 0) 9 ((((h 0 17) + 1) + 1).toNat) 0) 0 17 ((((h 0 17) + 1) + 1) + 1)) (ab_ops_13 g p1 p2) g26)
      · intro h27 k50_1 g28
        refine ja_if_ne 58 doperators_53 rfl ⟨by decide, by decide⟩ (fun c53 => absurd c53 (by omega)) (fun c53 => ?_)
        refine ja_iconst doperators_56 ?_
        refine ja_zreturn doperators_57 rfl (by omega) ?_
        exact mo_fin (by omega) rfl (k2 h27 (by omega) g28)
  · refine ja_aload_n doperators_10 rfl rfl ?_
    refine ja_dup doperators_11 (by decide) ?_
    refine fg_nest (v := h 0 18) rfl doperators_12 ?_
    have f29 := gF_nest g
    refine ja_iconst doperators_15 ?_
    refine ja_isub doperators_16 ?_
    have g30 := gP_nest g (x := (h 0 18) - 1) ⟨by omega, by omega⟩
    refine fp_nest doperators_17 ?_
    refine ja_iconst doperators_20 ?_
    refine ja_zreturn doperators_21 rfl (by omega) ?_
    exact mo_fin (by omega) rfl (k1 (ja_up h 0 18 ((h 0 18) - 1)) (ab_ops_end g p1 p2) g30)
theorem t_operators {a1 : Int} {R r ph tf q0 b : Int} {s : List mo_A} {ht st rg : Nat → Int} {d nL pc : Nat} {cc : ByteArray} {rt : Option FieldType} {L : List (Nat × ja_V)} {S : List ja_V} {h : ja_H} {Q : Option ja_V → ja_H → Prop} (hdd : 3 < d) (hwd : ja_wd S ≤ 8) (hd : decode cc pc = .ok (.invokevirtual 847, 3)) (g : mo_G h) (r1 : -2147483648 ≤ a1 ∧ a1 ≤ 2147483647) (p1 : pk_S h (h 0 17).toNat s) (p2 : piB h R r ph tf q0 ((2, a1, b) :: s) ht st rg) (k1 : ∀ (h' : ja_H), (pi_done h h' R r ph tf q0 (pi_mu h ((2, a1, b) :: s))) → mo_G h' → mJ l D cA ad d cc nL rt (pc + 3) L ((0, 1) :: S) h' Q) (k2 : ∀ (h' : ja_H), (0 < (h' 0 8) ∧ (h' 0 1) = (h 0 1) ∧ (h' 0 118) = (h 0 118) ∧ (h' 0 127) = (h 0 127)) → mo_G h' → mJ l D cA ad d cc nL rt (pc + 3) L ((0, 0) :: S) h' Q) : mJ l D cA ad d cc nL rt pc L ((0, a1) :: (2, ((0 : Nat) : Int)) :: S) h Q :=
  mc_operators hdd hwd hd (s_operators g r1 p1 p2 k1 k2)
end
