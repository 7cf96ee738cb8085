/-! the reference: load, joined and others (written by a program) -/
variable {Zz : Zc}
theorem dbeginsPick_0 : decode cX12_beginsPick 0 = .ok (.aload_n 0, 1) := by decide +kernel
theorem dbeginsPick_1 : decode cX12_beginsPick 1 = .ok (.getfield 13, 3) := by decide +kernel
theorem dbeginsPick_4 : decode cX12_beginsPick 4 = .ok (.aload_n 0, 1) := by decide +kernel
theorem dbeginsPick_5 : decode cX12_beginsPick 5 = .ok (.getfield 574, 3) := by decide +kernel
theorem dbeginsPick_8 : decode cX12_beginsPick 8 = .ok (.iaload, 1) := by decide +kernel
theorem dbeginsPick_9 : decode cX12_beginsPick 9 = .ok (.iconst 1, 1) := by decide +kernel
theorem dbeginsPick_10 : decode cX12_beginsPick 10 = .ok (.if_icmp .ne 15, 3) := by decide +kernel
theorem dbeginsPick_13 : decode cX12_beginsPick 13 = .ok (.aload_n 0, 1) := by decide +kernel
theorem dbeginsPick_14 : decode cX12_beginsPick 14 = .ok (.getfield 22, 3) := by decide +kernel
theorem dbeginsPick_17 : decode cX12_beginsPick 17 = .ok (.aload_n 0, 1) := by decide +kernel
theorem dbeginsPick_18 : decode cX12_beginsPick 18 = .ok (.getfield 574, 3) := by decide +kernel
theorem dbeginsPick_21 : decode cX12_beginsPick 21 = .ok (.iaload, 1) := by decide +kernel
theorem dbeginsPick_22 : decode cX12_beginsPick 22 = .ok (.goto 4, 3) := by decide +kernel
theorem dbeginsPick_25 : decode cX12_beginsPick 25 = .ok (.iconst 0, 1) := by decide +kernel
theorem dbeginsPick_26 : decode cX12_beginsPick 26 = .ok (.istore_n 1, 1) := by decide +kernel
theorem dbeginsPick_27 : decode cX12_beginsPick 27 = .ok (.iload_n 1, 1) := by decide +kernel
theorem dbeginsPick_28 : decode cX12_beginsPick 28 = .ok (.bipush 28, 2) := by decide +kernel
theorem dbeginsPick_30 : decode cX12_beginsPick 30 = .ok (.if_icmp .eq 45, 3) := by decide +kernel
theorem dbeginsPick_33 : decode cX12_beginsPick 33 = .ok (.iload_n 1, 1) := by decide +kernel
theorem dbeginsPick_34 : decode cX12_beginsPick 34 = .ok (.bipush 8, 2) := by decide +kernel
theorem dbeginsPick_36 : decode cX12_beginsPick 36 = .ok (.if_icmp .eq 39, 3) := by decide +kernel
theorem dbeginsPick_39 : decode cX12_beginsPick 39 = .ok (.iload_n 1, 1) := by decide +kernel
theorem dbeginsPick_40 : decode cX12_beginsPick 40 = .ok (.bipush 35, 2) := by decide +kernel
theorem dbeginsPick_42 : decode cX12_beginsPick 42 = .ok (.if_icmp .eq 33, 3) := by decide +kernel
theorem dbeginsPick_45 : decode cX12_beginsPick 45 = .ok (.iload_n 1, 1) := by decide +kernel
theorem dbeginsPick_46 : decode cX12_beginsPick 46 = .ok (.bipush 24, 2) := by decide +kernel
theorem dbeginsPick_48 : decode cX12_beginsPick 48 = .ok (.if_icmp .eq 27, 3) := by decide +kernel
theorem dbeginsPick_51 : decode cX12_beginsPick 51 = .ok (.iload_n 1, 1) := by decide +kernel
theorem dbeginsPick_52 : decode cX12_beginsPick 52 = .ok (.bipush 16, 2) := by decide +kernel
theorem dbeginsPick_54 : decode cX12_beginsPick 54 = .ok (.if_icmp .eq 21, 3) := by decide +kernel
theorem dbeginsPick_57 : decode cX12_beginsPick 57 = .ok (.iload_n 1, 1) := by decide +kernel
theorem dbeginsPick_58 : decode cX12_beginsPick 58 = .ok (.bipush 37, 2) := by decide +kernel
theorem dbeginsPick_60 : decode cX12_beginsPick 60 = .ok (.if_icmp .eq 15, 3) := by decide +kernel
theorem dbeginsPick_63 : decode cX12_beginsPick 63 = .ok (.iload_n 1, 1) := by decide +kernel
theorem dbeginsPick_64 : decode cX12_beginsPick 64 = .ok (.bipush 9, 2) := by decide +kernel
theorem dbeginsPick_66 : decode cX12_beginsPick 66 = .ok (.if_icmp .eq 9, 3) := by decide +kernel
theorem dbeginsPick_69 : decode cX12_beginsPick 69 = .ok (.iload_n 1, 1) := by decide +kernel
theorem dbeginsPick_70 : decode cX12_beginsPick 70 = .ok (.bipush 44, 2) := by decide +kernel
theorem dbeginsPick_72 : decode cX12_beginsPick 72 = .ok (.if_icmp .ne 7, 3) := by decide +kernel
theorem dbeginsPick_75 : decode cX12_beginsPick 75 = .ok (.iconst 1, 1) := by decide +kernel
theorem dbeginsPick_76 : decode cX12_beginsPick 76 = .ok (.goto 4, 3) := by decide +kernel
theorem dbeginsPick_79 : decode cX12_beginsPick 79 = .ok (.iconst 0, 1) := by decide +kernel
theorem dbeginsPick_80 : decode cX12_beginsPick 80 = .ok (.istore_n 2, 1) := by decide +kernel
theorem dbeginsPick_81 : decode cX12_beginsPick 81 = .ok (.iload_n 2, 1) := by decide +kernel
theorem dbeginsPick_82 : decode cX12_beginsPick 82 = .ok (.ifCond .ne 48, 3) := by decide +kernel
theorem dbeginsPick_85 : decode cX12_beginsPick 85 = .ok (.iload_n 1, 1) := by decide +kernel
theorem dbeginsPick_86 : decode cX12_beginsPick 86 = .ok (.bipush 15, 2) := by decide +kernel
theorem dbeginsPick_88 : decode cX12_beginsPick 88 = .ok (.if_icmp .ne 10, 3) := by decide +kernel
theorem dbeginsPick_91 : decode cX12_beginsPick 91 = .ok (.aload_n 0, 1) := by decide +kernel
theorem dbeginsPick_92 : decode cX12_beginsPick 92 = .ok (.getfield 701, 3) := by decide +kernel
theorem dbeginsPick_95 : decode cX12_beginsPick 95 = .ok (.ifCond .eq 35, 3) := by decide +kernel
theorem dbeginsPick_98 : decode cX12_beginsPick 98 = .ok (.iload_n 1, 1) := by decide +kernel
theorem dbeginsPick_99 : decode cX12_beginsPick 99 = .ok (.bipush 36, 2) := by decide +kernel
theorem dbeginsPick_101 : decode cX12_beginsPick 101 = .ok (.if_icmp .eq 29, 3) := by decide +kernel
theorem dbeginsPick_104 : decode cX12_beginsPick 104 = .ok (.iload_n 1, 1) := by decide +kernel
theorem dbeginsPick_105 : decode cX12_beginsPick 105 = .ok (.bipush 38, 2) := by decide +kernel
theorem dbeginsPick_107 : decode cX12_beginsPick 107 = .ok (.if_icmp .eq 23, 3) := by decide +kernel
theorem dbeginsPick_110 : decode cX12_beginsPick 110 = .ok (.iload_n 1, 1) := by decide +kernel
theorem dbeginsPick_111 : decode cX12_beginsPick 111 = .ok (.iconst 2, 1) := by decide +kernel
theorem dbeginsPick_112 : decode cX12_beginsPick 112 = .ok (.if_icmp .eq 18, 3) := by decide +kernel
theorem dbeginsPick_115 : decode cX12_beginsPick 115 = .ok (.iload_n 1, 1) := by decide +kernel
theorem dbeginsPick_116 : decode cX12_beginsPick 116 = .ok (.bipush 19, 2) := by decide +kernel
theorem dbeginsPick_118 : decode cX12_beginsPick 118 = .ok (.if_icmp .eq 12, 3) := by decide +kernel
theorem dbeginsPick_121 : decode cX12_beginsPick 121 = .ok (.aload_n 0, 1) := by decide +kernel
theorem dbeginsPick_122 : decode cX12_beginsPick 122 = .ok (.bipush 40, 2) := by decide +kernel
theorem dbeginsPick_124 : decode cX12_beginsPick 124 = .ok (.invokevirtual 586, 3) := by decide +kernel
theorem dbeginsPick_127 : decode cX12_beginsPick 127 = .ok (.ifCond .eq 7, 3) := by decide +kernel
theorem dbeginsPick_130 : decode cX12_beginsPick 130 = .ok (.iconst 1, 1) := by decide +kernel
theorem dbeginsPick_131 : decode cX12_beginsPick 131 = .ok (.goto 4, 3) := by decide +kernel
theorem dbeginsPick_134 : decode cX12_beginsPick 134 = .ok (.iconst 0, 1) := by decide +kernel
theorem dbeginsPick_135 : decode cX12_beginsPick 135 = .ok (.istore_n 2, 1) := by decide +kernel
theorem dbeginsPick_136 : decode cX12_beginsPick 136 = .ok (.iload_n 2, 1) := by decide +kernel
theorem dbeginsPick_137 : decode cX12_beginsPick 137 = .ok (.ifCond .ne 24, 3) := by decide +kernel
theorem dbeginsPick_140 : decode cX12_beginsPick 140 = .ok (.aload_n 0, 1) := by decide +kernel
theorem dbeginsPick_141 : decode cX12_beginsPick 141 = .ok (.invokevirtual 599, 3) := by decide +kernel
theorem dbeginsPick_144 : decode cX12_beginsPick 144 = .ok (.ifCond .eq 21, 3) := by decide +kernel
theorem dbeginsPick_147 : decode cX12_beginsPick 147 = .ok (.aload_n 0, 1) := by decide +kernel
theorem dbeginsPick_148 : decode cX12_beginsPick 148 = .ok (.getfield 695, 3) := by decide +kernel
theorem dbeginsPick_151 : decode cX12_beginsPick 151 = .ok (.ifCond .ne 14, 3) := by decide +kernel
theorem dbeginsPick_154 : decode cX12_beginsPick 154 = .ok (.aload_n 0, 1) := by decide +kernel
theorem dbeginsPick_155 : decode cX12_beginsPick 155 = .ok (.getfield 701, 3) := by decide +kernel
theorem dbeginsPick_158 : decode cX12_beginsPick 158 = .ok (.ifCond .ne 7, 3) := by decide +kernel
theorem dbeginsPick_161 : decode cX12_beginsPick 161 = .ok (.iconst 1, 1) := by decide +kernel
theorem dbeginsPick_162 : decode cX12_beginsPick 162 = .ok (.goto 4, 3) := by decide +kernel
theorem dbeginsPick_165 : decode cX12_beginsPick 165 = .ok (.iconst 0, 1) := by decide +kernel
theorem dbeginsPick_166 : decode cX12_beginsPick 166 = .ok (.ireturn, 1) := by decide +kernel
section
variable {l : Launch} {D : va_G} {cA : Nat → ClassId} {ad : Nat → Nat}
theorem s_beginsPick {h : ja_H} {Q : Option ja_V → ja_H → Prop} (g : mo_G Zz h) (k1 : ∀ (v : Int), (0 ≤ v ∧ v ≤ 1 ∧ (v = 1 → (h 0 85) = 0 ∨ ¬ (h 2 (h 0 7).toNat) = 2)) → Q (some (0, v)) h) : mM_beginsPick l D cA ad  h Q := by
  show mJ l D cA ad 2 cX12_beginsPick 3 (some .boolean) 0 [(0, (2, ((0 : Nat) : Int)))] [] h Q
  have kn_inPick := gF_inPick g
  have CUT : ∀ n : Nat, (∀ (x1 s0 : Int), (-2147483648 ≤ x1 ∧ x1 ≤ 2147483647) → (-2147483648 ≤ s0 ∧ s0 ≤ 2147483647) → ((x1 = 0 ∨ (h 2 (h 0 7).toNat) = 1) ∧ 0 ≤ s0 ∧ s0 ≤ 1 ∧ (s0 = 0 ∨ (h 2 (h 0 7).toNat) = 1)) → (20) = n → mJ l D cA ad 2 cX12_beginsPick 3 (some .boolean) 80 [(0, (2, ((0 : Nat) : Int))), (1, (0, x1))] [(0, s0)] h Q) ∧ (∀ (x1 : Int), (-2147483648 ≤ x1 ∧ x1 ≤ 2147483647) → ((x1 = 0 ∨ (h 2 (h 0 7).toNat) = 1)) → (18) = n → mJ l D cA ad 2 cX12_beginsPick 3 (some .boolean) 98 [(0, (2, ((0 : Nat) : Int))), (1, (0, x1))] [] h Q) ∧ (((h 2 (h 0 7).toNat) = 1 ∨ (h 2 (h 0 7).toNat) = 5) → (16) = n → mJ l D cA ad 2 cX12_beginsPick 3 (some .boolean) 130 [(0, (2, ((0 : Nat) : Int)))] [] h Q) ∧ (∀ (s0 : Int), (-2147483648 ≤ s0 ∧ s0 ≤ 2147483647) → (0 ≤ s0 ∧ s0 ≤ 1 ∧ (s0 = 0 ∨ (h 2 (h 0 7).toNat) = 1 ∨ (h 2 (h 0 7).toNat) = 5)) → (14) = n → mJ l D cA ad 2 cX12_beginsPick 3 (some .boolean) 135 [(0, (2, ((0 : Nat) : Int)))] [(0, s0)] h Q) ∧ (((h 0 85) = 0 ∨ ¬ (h 2 (h 0 7).toNat) = 2) → (12) = n → mJ l D cA ad 2 cX12_beginsPick 3 (some .boolean) 161 [] [] h Q) := by
    intro n
    induction n using Nat.strongRecOn with
    | _ n ih =>
      refine ⟨?_, ?_, ?_, ?_, ?_⟩
      · intro x1 s0 qx1 qs0 iv hm
        subst hm
        refine ja_istore_n dbeginsPick_80 rfl (by decide) (L2 := [(2, (0, s0)), (0, (2, ((0 : Nat) : Int))), (1, (0, x1))]) rfl ?_
        refine ja_iload_n dbeginsPick_81 rfl rfl ?_
        refine ja_if_ne 130 dbeginsPick_82 rfl ⟨by omega, by omega⟩ (fun c82 => ?_) (fun c82 => ?_)
        · exact ja_wk (fun q hq => by simp only [List.mem_cons, List.not_mem_nil, or_false] at hq; rcases hq with rfl <;> rfl) ((ih (16) (by omega)).2.2.1    (show (h 2 (h 0 7).toNat) = 1 ∨ (h 2 (h 0 7).toNat) = 5 by omega) rfl)
        · refine ja_iload_n dbeginsPick_85 rfl rfl ?_
          refine ja_bipush 15 dbeginsPick_86 rfl ?_
          refine ja_icmp_ne 98 dbeginsPick_88 rfl ⟨by omega, by omega⟩ ⟨by decide, by decide⟩ (fun c88 => ?_) (fun c88 => ?_)
          · exact ja_wk (fun q hq => by simp only [List.mem_cons, List.not_mem_nil, or_false] at hq; rcases hq with rfl | rfl <;> rfl) ((ih (18) (by omega)).2.1 x1  ⟨by omega, by omega⟩ (show (x1 = 0 ∨ (h 2 (h 0 7).toNat) = 1) by omega) rfl)
          · refine ja_aload_n dbeginsPick_91 rfl rfl ?_
            refine fg_inFlow (v := h 0 87) rfl dbeginsPick_92 ?_
            have f1 := gF_inFlow g
            refine ja_if_eq 130 dbeginsPick_95 rfl ⟨by omega, by omega⟩ (fun c95 => ?_) (fun c95 => ?_)
            · exact ja_wk (fun q hq => by simp only [List.mem_cons, List.not_mem_nil, or_false] at hq; rcases hq with rfl <;> rfl) ((ih (16) (by omega)).2.2.1    (show (h 2 (h 0 7).toNat) = 1 ∨ (h 2 (h 0 7).toNat) = 5 by omega) rfl)
            · exact ja_wk (fun q hq => by simp only [List.mem_cons, List.not_mem_nil, or_false] at hq; rcases hq with rfl | rfl <;> rfl) ((ih (18) (by omega)).2.1 x1  ⟨by omega, by omega⟩ (show (x1 = 0 ∨ (h 2 (h 0 7).toNat) = 1) by omega) rfl)
      · intro x1 qx1 iv hm
        subst hm
        refine ja_iload_n dbeginsPick_98 rfl rfl ?_
        refine ja_bipush 36 dbeginsPick_99 rfl ?_
        refine ja_icmp_eq 130 dbeginsPick_101 rfl ⟨by omega, by omega⟩ ⟨by decide, by decide⟩ (fun c101 => ?_) (fun c101 => ?_)
        · exact ja_wk (fun q hq => by simp only [List.mem_cons, List.not_mem_nil, or_false] at hq; rcases hq with rfl <;> rfl) ((ih (16) (by omega)).2.2.1    (show (h 2 (h 0 7).toNat) = 1 ∨ (h 2 (h 0 7).toNat) = 5 by omega) rfl)
        · refine ja_iload_n dbeginsPick_104 rfl rfl ?_
          refine ja_bipush 38 dbeginsPick_105 rfl ?_
          refine ja_icmp_eq 130 dbeginsPick_107 rfl ⟨by omega, by omega⟩ ⟨by decide, by decide⟩ (fun c107 => ?_) (fun c107 => ?_)
          · exact ja_wk (fun q hq => by simp only [List.mem_cons, List.not_mem_nil, or_false] at hq; rcases hq with rfl <;> rfl) ((ih (16) (by omega)).2.2.1    (show (h 2 (h 0 7).toNat) = 1 ∨ (h 2 (h 0 7).toNat) = 5 by omega) rfl)
          · refine ja_iload_n dbeginsPick_110 rfl rfl ?_
            refine ja_iconst dbeginsPick_111 ?_
            refine ja_icmp_eq 130 dbeginsPick_112 rfl ⟨by omega, by omega⟩ ⟨by decide, by decide⟩ (fun c112 => ?_) (fun c112 => ?_)
            · exact ja_wk (fun q hq => by simp only [List.mem_cons, List.not_mem_nil, or_false] at hq; rcases hq with rfl <;> rfl) ((ih (16) (by omega)).2.2.1    (show (h 2 (h 0 7).toNat) = 1 ∨ (h 2 (h 0 7).toNat) = 5 by omega) rfl)
            · refine ja_iload_n dbeginsPick_115 rfl rfl ?_
              refine ja_bipush 19 dbeginsPick_116 rfl ?_
              refine ja_icmp_eq 130 dbeginsPick_118 rfl ⟨by omega, by omega⟩ ⟨by decide, by decide⟩ (fun c118 => ?_) (fun c118 => ?_)
              · exact ja_wk (fun q hq => by simp only [List.mem_cons, List.not_mem_nil, or_false] at hq; rcases hq with rfl <;> rfl) ((ih (16) (by omega)).2.2.1    (show (h 2 (h 0 7).toNat) = 1 ∨ (h 2 (h 0 7).toNat) = 5 by omega) rfl)
              · refine ja_aload_n dbeginsPick_121 rfl rfl ?_
                refine ja_bipush 40 dbeginsPick_122 rfl ?_
                refine t_isSign (by decide) (show (0 : Nat) ≤ 8 by decide) dbeginsPick_124 g ⟨by decide, by decide⟩ ?_
                intro w2 k124_0
                refine ja_if_eq 134 dbeginsPick_127 rfl ⟨by omega, by omega⟩ (fun c127 => ?_) (fun c127 => ?_)
                · refine ja_iconst dbeginsPick_134 ?_
                  exact ja_wk (fun q hq => by simp only [List.mem_cons, List.not_mem_nil, or_false] at hq; rcases hq with rfl <;> rfl) ((ih (14) (by omega)).2.2.2.1 0  ⟨by decide, by decide⟩ (show 0 ≤ 0 ∧ 0 ≤ 1 ∧ (0 = 0 ∨ (h 2 (h 0 7).toNat) = 1 ∨ (h 2 (h 0 7).toNat) = 5) by omega) rfl)
                · exact ja_wk (fun q hq => by simp only [List.mem_cons, List.not_mem_nil, or_false] at hq; rcases hq with rfl <;> rfl) ((ih (16) (by omega)).2.2.1    (show (h 2 (h 0 7).toNat) = 1 ∨ (h 2 (h 0 7).toNat) = 5 by omega) rfl)
      · intro iv hm
        subst hm
        refine ja_iconst dbeginsPick_130 ?_
        refine ja_goto 135 dbeginsPick_131 rfl ?_
        exact ja_wk (fun q hq => by simp only [List.mem_cons, List.not_mem_nil, or_false] at hq; rcases hq with rfl <;> rfl) ((ih (14) (by omega)).2.2.2.1 1  ⟨by decide, by decide⟩ (show 0 ≤ 1 ∧ 1 ≤ 1 ∧ (1 = 0 ∨ (h 2 (h 0 7).toNat) = 1 ∨ (h 2 (h 0 7).toNat) = 5) by omega) rfl)
      · intro s0 qs0 iv hm
        subst hm
        refine ja_istore_n dbeginsPick_135 rfl (by decide) (L2 := [(2, (0, s0)), (0, (2, ((0 : Nat) : Int)))]) rfl ?_
        refine ja_iload_n dbeginsPick_136 rfl rfl ?_
        refine ja_if_ne 161 dbeginsPick_137 rfl ⟨by omega, by omega⟩ (fun c137 => ?_) (fun c137 => ?_)
        · exact ja_wk (fun q hq => by cases hq) ((ih (12) (by omega)).2.2.2.2    (show (h 0 85) = 0 ∨ ¬ (h 2 (h 0 7).toNat) = 2 by omega) rfl)
        · refine ja_aload_n dbeginsPick_140 rfl rfl ?_
          refine t_isName (by decide) (show (0 : Nat) ≤ 8 by decide) dbeginsPick_141 g  ?_
          intro w3 k141_0
          refine ja_if_eq 165 dbeginsPick_144 rfl ⟨by omega, by omega⟩ (fun c144 => ?_) (fun c144 => ?_)
          · refine ja_iconst dbeginsPick_165 ?_
            refine ja_zreturn dbeginsPick_166 rfl (by omega) ?_
            exact mo_fin (by omega) rfl (k1 0 (by omega))
          · refine ja_aload_n dbeginsPick_147 rfl rfl ?_
            refine fg_inPick (v := h 0 85) rfl dbeginsPick_148 ?_
            have f4 := gF_inPick g
            refine ja_if_ne 165 dbeginsPick_151 rfl ⟨by omega, by omega⟩ (fun c151 => ?_) (fun c151 => ?_)
            · refine ja_iconst dbeginsPick_165 ?_
              refine ja_zreturn dbeginsPick_166 rfl (by omega) ?_
              exact mo_fin (by omega) rfl (k1 0 (by omega))
            · refine ja_aload_n dbeginsPick_154 rfl rfl ?_
              refine fg_inFlow (v := h 0 87) rfl dbeginsPick_155 ?_
              have f5 := gF_inFlow g
              refine ja_if_ne 165 dbeginsPick_158 rfl ⟨by omega, by omega⟩ (fun c158 => ?_) (fun c158 => ?_)
              · refine ja_iconst dbeginsPick_165 ?_
                refine ja_zreturn dbeginsPick_166 rfl (by omega) ?_
                exact mo_fin (by omega) rfl (k1 0 (by omega))
              · exact ja_wk (fun q hq => by cases hq) ((ih (12) (by omega)).2.2.2.2    (show (h 0 85) = 0 ∨ ¬ (h 2 (h 0 7).toNat) = 2 by omega) rfl)
      · intro iv hm
        subst hm
        refine ja_iconst dbeginsPick_161 ?_
        refine ja_goto 166 dbeginsPick_162 rfl ?_
        refine ja_zreturn dbeginsPick_166 rfl (by omega) ?_
        exact mo_fin (by omega) rfl (k1 1 (by omega))
  refine ja_aload_n dbeginsPick_0 rfl rfl ?_
  refine fa_kinds dbeginsPick_1 ?_
  refine ja_aload_n dbeginsPick_4 rfl rfl ?_
  refine fg_at (v := h 0 7) rfl dbeginsPick_5 ?_
  have f6 := gF_at g
  refine il_kinds (v := h 2 (h 0 7).toNat) rfl ⟨by omega, by omega⟩ dbeginsPick_8 ?_
  have f7 := gC_kinds g (h 0 7).toNat
  refine ja_iconst dbeginsPick_9 ?_
  refine ja_icmp_ne 25 dbeginsPick_10 rfl ⟨by omega, by omega⟩ ⟨by decide, by decide⟩ (fun c10 => ?_) (fun c10 => ?_)
  · refine ja_iconst dbeginsPick_25 ?_
    refine ja_istore_n dbeginsPick_26 rfl (by decide) (L2 := [(1, (0, 0)), (0, (2, ((0 : Nat) : Int)))]) rfl ?_
    refine ja_iload_n dbeginsPick_27 rfl rfl ?_
    refine ja_bipush 28 dbeginsPick_28 rfl ?_
    refine ja_icmp_eq 75 dbeginsPick_30 rfl ⟨by decide, by decide⟩ ⟨by decide, by decide⟩ (fun c30 => absurd c30 (by omega)) (fun c30 => ?_)
    refine ja_iload_n dbeginsPick_33 rfl rfl ?_
    refine ja_bipush 8 dbeginsPick_34 rfl ?_
    refine ja_icmp_eq 75 dbeginsPick_36 rfl ⟨by decide, by decide⟩ ⟨by decide, by decide⟩ (fun c36 => absurd c36 (by omega)) (fun c36 => ?_)
    refine ja_iload_n dbeginsPick_39 rfl rfl ?_
    refine ja_bipush 35 dbeginsPick_40 rfl ?_
    refine ja_icmp_eq 75 dbeginsPick_42 rfl ⟨by decide, by decide⟩ ⟨by decide, by decide⟩ (fun c42 => absurd c42 (by omega)) (fun c42 => ?_)
    refine ja_iload_n dbeginsPick_45 rfl rfl ?_
    refine ja_bipush 24 dbeginsPick_46 rfl ?_
    refine ja_icmp_eq 75 dbeginsPick_48 rfl ⟨by decide, by decide⟩ ⟨by decide, by decide⟩ (fun c48 => absurd c48 (by omega)) (fun c48 => ?_)
    refine ja_iload_n dbeginsPick_51 rfl rfl ?_
    refine ja_bipush 16 dbeginsPick_52 rfl ?_
    refine ja_icmp_eq 75 dbeginsPick_54 rfl ⟨by decide, by decide⟩ ⟨by decide, by decide⟩ (fun c54 => absurd c54 (by omega)) (fun c54 => ?_)
    refine ja_iload_n dbeginsPick_57 rfl rfl ?_
    refine ja_bipush 37 dbeginsPick_58 rfl ?_
    refine ja_icmp_eq 75 dbeginsPick_60 rfl ⟨by decide, by decide⟩ ⟨by decide, by decide⟩ (fun c60 => absurd c60 (by omega)) (fun c60 => ?_)
    refine ja_iload_n dbeginsPick_63 rfl rfl ?_
    refine ja_bipush 9 dbeginsPick_64 rfl ?_
    refine ja_icmp_eq 75 dbeginsPick_66 rfl ⟨by decide, by decide⟩ ⟨by decide, by decide⟩ (fun c66 => absurd c66 (by omega)) (fun c66 => ?_)
    refine ja_iload_n dbeginsPick_69 rfl rfl ?_
    refine ja_bipush 44 dbeginsPick_70 rfl ?_
    refine ja_icmp_ne 79 dbeginsPick_72 rfl ⟨by decide, by decide⟩ ⟨by decide, by decide⟩ (fun c72 => ?_) (fun c72 => absurd c72 (by omega))
    refine ja_iconst dbeginsPick_79 ?_
    exact ja_wk (fun q hq => by simp only [List.mem_cons, List.not_mem_nil, or_false] at hq; rcases hq with rfl | rfl <;> rfl) ((CUT _).1 0 0  ⟨by decide, by decide⟩ ⟨by decide, by decide⟩ (show (0 = 0 ∨ (h 2 (h 0 7).toNat) = 1) ∧ 0 ≤ 0 ∧ 0 ≤ 1 ∧ (0 = 0 ∨ (h 2 (h 0 7).toNat) = 1) by omega) rfl)
  · refine ja_aload_n dbeginsPick_13 rfl rfl ?_
    refine fa_worths dbeginsPick_14 ?_
    refine ja_aload_n dbeginsPick_17 rfl rfl ?_
    refine fg_at (v := h 0 7) rfl dbeginsPick_18 ?_
    refine il_worths (v := h 5 (h 0 7).toNat) rfl ⟨by omega, by omega⟩ dbeginsPick_21 ?_
    have f8 := gC_worths g (h 0 7).toNat
    refine ja_goto 26 dbeginsPick_22 rfl ?_
    refine ja_istore_n dbeginsPick_26 rfl (by decide) (L2 := [(1, (0, (h 5 (h 0 7).toNat))), (0, (2, ((0 : Nat) : Int)))]) rfl ?_
    refine ja_iload_n dbeginsPick_27 rfl rfl ?_
    refine ja_bipush 28 dbeginsPick_28 rfl ?_
    refine ja_icmp_eq 75 dbeginsPick_30 rfl ⟨by omega, by omega⟩ ⟨by decide, by decide⟩ (fun c30 => ?_) (fun c30 => ?_)
    · refine ja_iconst dbeginsPick_75 ?_
      refine ja_goto 80 dbeginsPick_76 rfl ?_
      exact ja_wk (fun q hq => by simp only [List.mem_cons, List.not_mem_nil, or_false] at hq; rcases hq with rfl | rfl <;> rfl) ((CUT _).1 (h 5 (h 0 7).toNat) 1  ⟨by omega, by omega⟩ ⟨by decide, by decide⟩ (show ((h 5 (h 0 7).toNat) = 0 ∨ (h 2 (h 0 7).toNat) = 1) ∧ 0 ≤ 1 ∧ 1 ≤ 1 ∧ (1 = 0 ∨ (h 2 (h 0 7).toNat) = 1) by omega) rfl)
    · refine ja_iload_n dbeginsPick_33 rfl rfl ?_
      refine ja_bipush 8 dbeginsPick_34 rfl ?_
      refine ja_icmp_eq 75 dbeginsPick_36 rfl ⟨by omega, by omega⟩ ⟨by decide, by decide⟩ (fun c36 => ?_) (fun c36 => ?_)
      · refine ja_iconst dbeginsPick_75 ?_
        refine ja_goto 80 dbeginsPick_76 rfl ?_
        exact ja_wk (fun q hq => by simp only [List.mem_cons, List.not_mem_nil, or_false] at hq; rcases hq with rfl | rfl <;> rfl) ((CUT _).1 (h 5 (h 0 7).toNat) 1  ⟨by omega, by omega⟩ ⟨by decide, by decide⟩ (show ((h 5 (h 0 7).toNat) = 0 ∨ (h 2 (h 0 7).toNat) = 1) ∧ 0 ≤ 1 ∧ 1 ≤ 1 ∧ (1 = 0 ∨ (h 2 (h 0 7).toNat) = 1) by omega) rfl)
      · refine ja_iload_n dbeginsPick_39 rfl rfl ?_
        refine ja_bipush 35 dbeginsPick_40 rfl ?_
        refine ja_icmp_eq 75 dbeginsPick_42 rfl ⟨by omega, by omega⟩ ⟨by decide, by decide⟩ (fun c42 => ?_) (fun c42 => ?_)
        · refine ja_iconst dbeginsPick_75 ?_
          refine ja_goto 80 dbeginsPick_76 rfl ?_
          exact ja_wk (fun q hq => by simp only [List.mem_cons, List.not_mem_nil, or_false] at hq; rcases hq with rfl | rfl <;> rfl) ((CUT _).1 (h 5 (h 0 7).toNat) 1  ⟨by omega, by omega⟩ ⟨by decide, by decide⟩ (show ((h 5 (h 0 7).toNat) = 0 ∨ (h 2 (h 0 7).toNat) = 1) ∧ 0 ≤ 1 ∧ 1 ≤ 1 ∧ (1 = 0 ∨ (h 2 (h 0 7).toNat) = 1) by omega) rfl)
        · refine ja_iload_n dbeginsPick_45 rfl rfl ?_
          refine ja_bipush 24 dbeginsPick_46 rfl ?_
          refine ja_icmp_eq 75 dbeginsPick_48 rfl ⟨by omega, by omega⟩ ⟨by decide, by decide⟩ (fun c48 => ?_) (fun c48 => ?_)
          · refine ja_iconst dbeginsPick_75 ?_
            refine ja_goto 80 dbeginsPick_76 rfl ?_
            exact ja_wk (fun q hq => by simp only [List.mem_cons, List.not_mem_nil, or_false] at hq; rcases hq with rfl | rfl <;> rfl) ((CUT _).1 (h 5 (h 0 7).toNat) 1  ⟨by omega, by omega⟩ ⟨by decide, by decide⟩ (show ((h 5 (h 0 7).toNat) = 0 ∨ (h 2 (h 0 7).toNat) = 1) ∧ 0 ≤ 1 ∧ 1 ≤ 1 ∧ (1 = 0 ∨ (h 2 (h 0 7).toNat) = 1) by omega) rfl)
          · refine ja_iload_n dbeginsPick_51 rfl rfl ?_
            refine ja_bipush 16 dbeginsPick_52 rfl ?_
            refine ja_icmp_eq 75 dbeginsPick_54 rfl ⟨by omega, by omega⟩ ⟨by decide, by decide⟩ (fun c54 => ?_) (fun c54 => ?_)
            · refine ja_iconst dbeginsPick_75 ?_
              refine ja_goto 80 dbeginsPick_76 rfl ?_
              exact ja_wk (fun q hq => by simp only [List.mem_cons, List.not_mem_nil, or_false] at hq; rcases hq with rfl | rfl <;> rfl) ((CUT _).1 (h 5 (h 0 7).toNat) 1  ⟨by omega, by omega⟩ ⟨by decide, by decide⟩ (show ((h 5 (h 0 7).toNat) = 0 ∨ (h 2 (h 0 7).toNat) = 1) ∧ 0 ≤ 1 ∧ 1 ≤ 1 ∧ (1 = 0 ∨ (h 2 (h 0 7).toNat) = 1) by omega) rfl)
            · refine ja_iload_n dbeginsPick_57 rfl rfl ?_
              refine ja_bipush 37 dbeginsPick_58 rfl ?_
              refine ja_icmp_eq 75 dbeginsPick_60 rfl ⟨by omega, by omega⟩ ⟨by decide, by decide⟩ (fun c60 => ?_) (fun c60 => ?_)
              · refine ja_iconst dbeginsPick_75 ?_
                refine ja_goto 80 dbeginsPick_76 rfl ?_
                exact ja_wk (fun q hq => by simp only [List.mem_cons, List.not_mem_nil, or_false] at hq; rcases hq with rfl | rfl <;> rfl) ((CUT _).1 (h 5 (h 0 7).toNat) 1  ⟨by omega, by omega⟩ ⟨by decide, by decide⟩ (show ((h 5 (h 0 7).toNat) = 0 ∨ (h 2 (h 0 7).toNat) = 1) ∧ 0 ≤ 1 ∧ 1 ≤ 1 ∧ (1 = 0 ∨ (h 2 (h 0 7).toNat) = 1) by omega) rfl)
              · refine ja_iload_n dbeginsPick_63 rfl rfl ?_
                refine ja_bipush 9 dbeginsPick_64 rfl ?_
                refine ja_icmp_eq 75 dbeginsPick_66 rfl ⟨by omega, by omega⟩ ⟨by decide, by decide⟩ (fun c66 => ?_) (fun c66 => ?_)
                · refine ja_iconst dbeginsPick_75 ?_
                  refine ja_goto 80 dbeginsPick_76 rfl ?_
                  exact ja_wk (fun q hq => by simp only [List.mem_cons, List.not_mem_nil, or_false] at hq; rcases hq with rfl | rfl <;> rfl) ((CUT _).1 (h 5 (h 0 7).toNat) 1  ⟨by omega, by omega⟩ ⟨by decide, by decide⟩ (show ((h 5 (h 0 7).toNat) = 0 ∨ (h 2 (h 0 7).toNat) = 1) ∧ 0 ≤ 1 ∧ 1 ≤ 1 ∧ (1 = 0 ∨ (h 2 (h 0 7).toNat) = 1) by omega) rfl)
                · refine ja_iload_n dbeginsPick_69 rfl rfl ?_
                  refine ja_bipush 44 dbeginsPick_70 rfl ?_
                  refine ja_icmp_ne 79 dbeginsPick_72 rfl ⟨by omega, by omega⟩ ⟨by decide, by decide⟩ (fun c72 => ?_) (fun c72 => ?_)
                  · refine ja_iconst dbeginsPick_79 ?_
                    exact ja_wk (fun q hq => by simp only [List.mem_cons, List.not_mem_nil, or_false] at hq; rcases hq with rfl | rfl <;> rfl) ((CUT _).1 (h 5 (h 0 7).toNat) 0  ⟨by omega, by omega⟩ ⟨by decide, by decide⟩ (show ((h 5 (h 0 7).toNat) = 0 ∨ (h 2 (h 0 7).toNat) = 1) ∧ 0 ≤ 0 ∧ 0 ≤ 1 ∧ (0 = 0 ∨ (h 2 (h 0 7).toNat) = 1) by omega) rfl)
                  · refine ja_iconst dbeginsPick_75 ?_
                    refine ja_goto 80 dbeginsPick_76 rfl ?_
                    exact ja_wk (fun q hq => by simp only [List.mem_cons, List.not_mem_nil, or_false] at hq; rcases hq with rfl | rfl <;> rfl) ((CUT _).1 (h 5 (h 0 7).toNat) 1  ⟨by omega, by omega⟩ ⟨by decide, by decide⟩ (show ((h 5 (h 0 7).toNat) = 0 ∨ (h 2 (h 0 7).toNat) = 1) ∧ 0 ≤ 1 ∧ 1 ≤ 1 ∧ (1 = 0 ∨ (h 2 (h 0 7).toNat) = 1) by omega) rfl)
theorem t_beginsPick {d nL pc : Nat} {cc : ByteArray} {rt : Option FieldType} {L : List (Nat × ja_V)} {S : List ja_V} {h : ja_H} {Q : Option ja_V → ja_H → Prop} (hdd : 2 < d) (hwd : ja_wd S ≤ 8) (hd : decode cc pc = .ok (.invokevirtual 869, 3)) (g : mo_G Zz h) (k1 : ∀ (v : Int), (0 ≤ v ∧ v ≤ 1 ∧ (v = 1 → (h 0 85) = 0 ∨ ¬ (h 2 (h 0 7).toNat) = 2)) → mJ l D cA ad d cc nL rt (pc + 3) L ((0, v) :: S) h Q) : mJ l D cA ad d cc nL rt pc L ((2, ((0 : Nat) : Int)) :: S) h Q :=
  mc_beginsPick hdd hwd hd (s_beginsPick g k1)
end
theorem dsimple_0 : decode cX12_simple 0 = .ok (.aload_n 0, 1) := by decide +kernel
theorem dsimple_1 : decode cX12_simple 1 = .ok (.invokevirtual 589, 3) := by decide +kernel
theorem dsimple_4 : decode cX12_simple 4 = .ok (.ifCond .eq 42, 3) := by decide +kernel
theorem dsimple_7 : decode cX12_simple 7 = .ok (.aload_n 0, 1) := by decide +kernel
theorem dsimple_8 : decode cX12_simple 8 = .ok (.iload_n 1, 1) := by decide +kernel
theorem dsimple_9 : decode cX12_simple 9 = .ok (.iconst 0, 1) := by decide +kernel
theorem dsimple_10 : decode cX12_simple 10 = .ok (.iconst 0, 1) := by decide +kernel
theorem dsimple_11 : decode cX12_simple 11 = .ok (.iconst 0, 1) := by decide +kernel
theorem dsimple_12 : decode cX12_simple 12 = .ok (.invokevirtual 790, 3) := by decide +kernel
theorem dsimple_15 : decode cX12_simple 15 = .ok (.ifCond .eq 31, 3) := by decide +kernel
theorem dsimple_18 : decode cX12_simple 18 = .ok (.aload_n 0, 1) := by decide +kernel
theorem dsimple_19 : decode cX12_simple 19 = .ok (.bipush 37, 2) := by decide +kernel
theorem dsimple_21 : decode cX12_simple 21 = .ok (.bipush 59, 2) := by decide +kernel
theorem dsimple_23 : decode cX12_simple 23 = .ok (.iconst 0, 1) := by decide +kernel
theorem dsimple_24 : decode cX12_simple 24 = .ok (.iconst 0, 1) := by decide +kernel
theorem dsimple_25 : decode cX12_simple 25 = .ok (.invokevirtual 790, 3) := by decide +kernel
theorem dsimple_28 : decode cX12_simple 28 = .ok (.ifCond .eq 18, 3) := by decide +kernel
theorem dsimple_31 : decode cX12_simple 31 = .ok (.aload_n 0, 1) := by decide +kernel
theorem dsimple_32 : decode cX12_simple 32 = .ok (.iconst 1, 1) := by decide +kernel
theorem dsimple_33 : decode cX12_simple 33 = .ok (.iconst 0, 1) := by decide +kernel
theorem dsimple_34 : decode cX12_simple 34 = .ok (.iconst 0, 1) := by decide +kernel
theorem dsimple_35 : decode cX12_simple 35 = .ok (.iconst 0, 1) := by decide +kernel
theorem dsimple_36 : decode cX12_simple 36 = .ok (.invokevirtual 790, 3) := by decide +kernel
theorem dsimple_39 : decode cX12_simple 39 = .ok (.ifCond .eq 7, 3) := by decide +kernel
theorem dsimple_42 : decode cX12_simple 42 = .ok (.iconst 1, 1) := by decide +kernel
theorem dsimple_43 : decode cX12_simple 43 = .ok (.goto 4, 3) := by decide +kernel
theorem dsimple_46 : decode cX12_simple 46 = .ok (.iconst 0, 1) := by decide +kernel
theorem dsimple_47 : decode cX12_simple 47 = .ok (.ireturn, 1) := by decide +kernel
section
variable {l : Launch} {D : va_G} {cA : Nat → ClassId} {ad : Nat → Nat}
theorem s_simple {a1 : Int} {h : ja_H} {Q : Option ja_V → ja_H → Prop} (g : mo_G Zz h) (r1 : -2147483648 ≤ a1 ∧ a1 ≤ 2147483647) (p1 : 0 ≤ a1 ∧ a1 ≤ 38) (p2 : (h 0 17) < 1990) (k1 : ((h 0 7) < 900) → mo_G Zz (ja_up (ja_up (ja_up (ja_up (ja_up (ja_up (ja_up (ja_up (ja_up (ja_up (ja_up (ja_up (ja_up (ja_up (ja_up (ja_up h 0 7 ((h 0 7) + 1)) 6 (((h 0 17)).toNat) a1) 7 (((h 0 17)).toNat) 0) 8 (((h 0 17)).toNat) 0) 9 (((h 0 17)).toNat) 0) 0 17 ((h 0 17) + 1)) 6 (((h 0 17) + 1).toNat) 37) 7 (((h 0 17) + 1).toNat) 59) 8 (((h 0 17) + 1).toNat) 0) 9 (((h 0 17) + 1).toNat) 0) 0 17 ((h 0 17) + 1 + 1)) 6 (((h 0 17) + 1 + 1).toNat) 1) 7 (((h 0 17) + 1 + 1).toNat) 0) 8 (((h 0 17) + 1 + 1).toNat) 0) 9 (((h 0 17) + 1 + 1).toNat) 0) 0 17 ((h 0 17) + 1 + 1 + 1)) → Q (some (0, 1)) (ja_up (ja_up (ja_up (ja_up (ja_up (ja_up (ja_up (ja_up (ja_up (ja_up (ja_up (ja_up (ja_up (ja_up (ja_up (ja_up h 0 7 ((h 0 7) + 1)) 6 (((h 0 17)).toNat) a1) 7 (((h 0 17)).toNat) 0) 8 (((h 0 17)).toNat) 0) 9 (((h 0 17)).toNat) 0) 0 17 ((h 0 17) + 1)) 6 (((h 0 17) + 1).toNat) 37) 7 (((h 0 17) + 1).toNat) 59) 8 (((h 0 17) + 1).toNat) 0) 9 (((h 0 17) + 1).toNat) 0) 0 17 ((h 0 17) + 1 + 1)) 6 (((h 0 17) + 1 + 1).toNat) 1) 7 (((h 0 17) + 1 + 1).toNat) 0) 8 (((h 0 17) + 1 + 1).toNat) 0) 9 (((h 0 17) + 1 + 1).toNat) 0) 0 17 ((h 0 17) + 1 + 1 + 1))) (k2 : ∀ (h' : ja_H), (0 < (h' 0 8) ∧ (h' 0 1) = (h 0 1) ∧ (h' 0 118) = (h 0 118) ∧ (h' 0 127) = (h 0 127)) → mo_G Zz h' → Q (some (0, 0)) h') : mM_simple l D cA ad a1 h Q := by
  show mJ l D cA ad 3 cX12_simple 2 (some .boolean) 0 [(0, (2, ((0 : Nat) : Int))), (1, (0, a1))] [] h Q
  have kn_at := gF_at g
  refine ja_aload_n dsimple_0 rfl rfl ?_
  refine t_take (by decide) (show (0 : Nat) ≤ 8 by decide) dsimple_1 g  ?_ ?_
  · intro k1_0 g1
    replace k1_0 : (h 0 7) < 900 := k1_0
    replace g1 : mo_G Zz (ja_up h 0 7 ((h 0 7) + 1)) := g1
    show mJ l D cA ad 3 cX12_simple 2 (some .boolean) 4 [(0, (2, ((0 : Nat) : Int))), (1, (0, a1))] [(0, 1)] (ja_up h 0 7 ((h 0 7) + 1)) Q
    refine ja_if_eq 46 dsimple_4 rfl ⟨by decide, by decide⟩ (fun c4 => absurd c4 (by omega)) (fun c4 => ?_)
    refine ja_aload_n dsimple_7 rfl rfl ?_
    refine ja_iload_n dsimple_8 rfl rfl ?_
    refine ja_iconst dsimple_9 ?_
    refine ja_iconst dsimple_10 ?_
    refine ja_iconst dsimple_11 ?_
    refine t_later (by decide) (show (0 : Nat) ≤ 8 by decide) dsimple_12 g1 ⟨by omega, by omega⟩ ⟨by decide, by decide⟩ ⟨by decide, by decide⟩ ⟨by decide, by decide⟩ (show 0 ≤ a1 ∧ a1 ≤ 38 by omega) (show (h 0 17) < 2000 by omega) ?_
    intro g2
    replace g2 : mo_G Zz (ja_up (ja_up (ja_up (ja_up (ja_up (ja_up h 0 7 ((h 0 7) + 1)) 6 ((h 0 17).toNat) a1) 7 ((h 0 17).toNat) 0) 8 ((h 0 17).toNat) 0) 9 ((h 0 17).toNat) 0) 0 17 ((h 0 17) + 1)) := g2
    show mJ l D cA ad 3 cX12_simple 2 (some .boolean) 15 [(0, (2, ((0 : Nat) : Int))), (1, (0, a1))] [(0, 1)] (ja_up (ja_up (ja_up (ja_up (ja_up (ja_up h 0 7 ((h 0 7) + 1)) 6 ((h 0 17).toNat) a1) 7 ((h 0 17).toNat) 0) 8 ((h 0 17).toNat) 0) 9 ((h 0 17).toNat) 0) 0 17 ((h 0 17) + 1)) Q
    refine ja_if_eq 46 dsimple_15 rfl ⟨by decide, by decide⟩ (fun c15 => absurd c15 (by omega)) (fun c15 => ?_)
    refine ja_aload_n dsimple_18 rfl rfl ?_
    refine ja_bipush 37 dsimple_19 rfl ?_
    refine ja_bipush 59 dsimple_21 rfl ?_
    refine ja_iconst dsimple_23 ?_
    refine ja_iconst dsimple_24 ?_
    refine t_later (by decide) (show (0 : Nat) ≤ 8 by decide) dsimple_25 g2 ⟨by decide, by decide⟩ ⟨by decide, by decide⟩ ⟨by decide, by decide⟩ ⟨by decide, by decide⟩ (show 0 ≤ 37 ∧ 37 ≤ 38 by omega) (show ((h 0 17) + 1) < 2000 by omega) ?_
    intro g3
    replace g3 : mo_G Zz (ja_up (ja_up (ja_up (ja_up (ja_up (ja_up (ja_up (ja_up (ja_up (ja_up (ja_up h 0 7 ((h 0 7) + 1)) 6 ((h 0 17).toNat) a1) 7 ((h 0 17).toNat) 0) 8 ((h 0 17).toNat) 0) 9 ((h 0 17).toNat) 0) 0 17 ((h 0 17) + 1)) 6 (((h 0 17) + 1).toNat) 37) 7 (((h 0 17) + 1).toNat) 59) 8 (((h 0 17) + 1).toNat) 0) 9 (((h 0 17) + 1).toNat) 0) 0 17 (((h 0 17) + 1) + 1)) := g3
    show mJ l D cA ad 3 cX12_simple 2 (some .boolean) 28 [(0, (2, ((0 : Nat) : Int))), (1, (0, a1))] [(0, 1)] (ja_up (ja_up (ja_up (ja_up (ja_up (ja_up (ja_up (ja_up (ja_up (ja_up (ja_up h 0 7 ((h 0 7) + 1)) 6 ((h 0 17).toNat) a1) 7 ((h 0 17).toNat) 0) 8 ((h 0 17).toNat) 0) 9 ((h 0 17).toNat) 0) 0 17 ((h 0 17) + 1)) 6 (((h 0 17) + 1).toNat) 37) 7 (((h 0 17) + 1).toNat) 59) 8 (((h 0 17) + 1).toNat) 0) 9 (((h 0 17) + 1).toNat) 0) 0 17 (((h 0 17) + 1) + 1)) Q
    refine ja_if_eq 46 dsimple_28 rfl ⟨by decide, by decide⟩ (fun c28 => absurd c28 (by omega)) (fun c28 => ?_)
    refine ja_aload_n dsimple_31 rfl rfl ?_
    refine ja_iconst dsimple_32 ?_
    refine ja_iconst dsimple_33 ?_
    refine ja_iconst dsimple_34 ?_
    refine ja_iconst dsimple_35 ?_
    refine t_later (by decide) (show (0 : Nat) ≤ 8 by decide) dsimple_36 g3 ⟨by decide, by decide⟩ ⟨by decide, by decide⟩ ⟨by decide, by decide⟩ ⟨by decide, by decide⟩ (show 0 ≤ 1 ∧ 1 ≤ 38 by omega) (show (((h 0 17) + 1) + 1) < 2000 by omega) ?_
    intro g4
    replace g4 : mo_G Zz (ja_up (ja_up (ja_up (ja_up (ja_up (ja_up (ja_up (ja_up (ja_up (ja_up (ja_up (ja_up (ja_up (ja_up (ja_up (ja_up h 0 7 ((h 0 7) + 1)) 6 ((h 0 17).toNat) a1) 7 ((h 0 17).toNat) 0) 8 ((h 0 17).toNat) 0) 9 ((h 0 17).toNat) 0) 0 17 ((h 0 17) + 1)) 6 (((h 0 17) + 1).toNat) 37) 7 (((h 0 17) + 1).toNat) 59) 8 (((h 0 17) + 1).toNat) 0) 9 (((h 0 17) + 1).toNat) 0) 0 17 (((h 0 17) + 1) + 1)) 6 ((((h 0 17) + 1) + 1).toNat) 1) 7 ((((h 0 17) + 1) + 1).toNat) 0) 8 ((((h 0 17) + 1) + 1).toNat) 0) 9 ((((h 0 17) + 1) + 1).toNat) 0) 0 17 ((((h 0 17) + 1) + 1) + 1)) := g4
    show mJ l D cA ad 3 cX12_simple 2 (some .boolean) 39 [(0, (2, ((0 : Nat) : Int))), (1, (0, a1))] [(0, 1)] (ja_up (ja_up (ja_up (ja_up (ja_up (ja_up (ja_up (ja_up (ja_up (ja_up (ja_up (ja_up (ja_up (ja_up (ja_up (ja_up h 0 7 ((h 0 7) + 1)) 6 ((h 0 17).toNat) a1) 7 ((h 0 17).toNat) 0) 8 ((h 0 17).toNat) 0) 9 ((h 0 17).toNat) 0) 0 17 ((h 0 17) + 1)) 6 (((h 0 17) + 1).toNat) 37) 7 (((h 0 17) + 1).toNat) 59) 8 (((h 0 17) + 1).toNat) 0) 9 (((h 0 17) + 1).toNat) 0) 0 17 (((h 0 17) + 1) + 1)) 6 ((((h 0 17) + 1) + 1).toNat) 1) 7 ((((h 0 17) + 1) + 1).toNat) 0) 8 ((((h 0 17) + 1) + 1).toNat) 0) 9 ((((h 0 17) + 1) + 1).toNat) 0) 0 17 ((((h 0 17) + 1) + 1) + 1)) Q
    refine ja_if_eq 46 dsimple_39 rfl ⟨by decide, by decide⟩ (fun c39 => absurd c39 (by omega)) (fun c39 => ?_)
    refine ja_iconst dsimple_42 ?_
    refine ja_goto 47 dsimple_43 rfl ?_
    refine ja_zreturn dsimple_47 rfl (by omega) ?_
    have hE : ja_up (ja_up (ja_up (ja_up (ja_up (ja_up (ja_up (ja_up (ja_up (ja_up (ja_up (ja_up (ja_up (ja_up (ja_up (ja_up h 0 7 ((h 0 7) + 1)) 6 ((h 0 17).toNat) a1) 7 ((h 0 17).toNat) 0) 8 ((h 0 17).toNat) 0) 9 ((h 0 17).toNat) 0) 0 17 ((h 0 17) + 1)) 6 (((h 0 17) + 1).toNat) 37) 7 (((h 0 17) + 1).toNat) 59) 8 (((h 0 17) + 1).toNat) 0) 9 (((h 0 17) + 1).toNat) 0) 0 17 (((h 0 17) + 1) + 1)) 6 ((((h 0 17) + 1) + 1).toNat) 1) 7 ((((h 0 17) + 1) + 1).toNat) 0) 8 ((((h 0 17) + 1) + 1).toNat) 0) 9 ((((h 0 17) + 1) + 1).toNat) 0) 0 17 ((((h 0 17) + 1) + 1) + 1) = ja_up (ja_up (ja_up (ja_up (ja_up (ja_up (ja_up (ja_up (ja_up (ja_up (ja_up (ja_up (ja_up (ja_up (ja_up (ja_up h 0 7 ((h 0 7) + 1)) 6 ((h 0 17).toNat) a1) 7 ((h 0 17).toNat) 0) 8 ((h 0 17).toNat) 0) 9 ((h 0 17).toNat) 0) 0 17 ((h 0 17) + 1)) 6 (((h 0 17) + 1).toNat) 37) 7 (((h 0 17) + 1).toNat) 59) 8 (((h 0 17) + 1).toNat) 0) 9 (((h 0 17) + 1).toNat) 0) 0 17 ((h 0 17) + 1 + 1)) 6 (((h 0 17) + 1 + 1).toNat) 1) 7 (((h 0 17) + 1 + 1).toNat) 0) 8 (((h 0 17) + 1 + 1).toNat) 0) 9 (((h 0 17) + 1 + 1).toNat) 0) 0 17 ((h 0 17) + 1 + 1 + 1) := by funext k j; simp only [ja_up]; repeat' split <;> simp_all
    exact mo_fin (by omega) hE (k1 (by omega) (by rw [← hE]; exact g4))
  · intro h5 k1_1 g6
    refine ja_if_eq 46 dsimple_4 rfl ⟨by decide, by decide⟩ (fun c4 => ?_) (fun c4 => absurd c4 (by omega))
    refine ja_iconst dsimple_46 ?_
    refine ja_zreturn dsimple_47 rfl (by omega) ?_
    exact mo_fin (by omega) rfl (k2 h5 (by omega) g6)
theorem t_simple {a1 : Int} {d nL pc : Nat} {cc : ByteArray} {rt : Option FieldType} {L : List (Nat × ja_V)} {S : List ja_V} {h : ja_H} {Q : Option ja_V → ja_H → Prop} (hdd : 3 < d) (hwd : ja_wd S ≤ 8) (hd : decode cc pc = .ok (.invokevirtual 835, 3)) (g : mo_G Zz h) (r1 : -2147483648 ≤ a1 ∧ a1 ≤ 2147483647) (p1 : 0 ≤ a1 ∧ a1 ≤ 38) (p2 : (h 0 17) < 1990) (k1 : ((h 0 7) < 900) → mo_G Zz (ja_up (ja_up (ja_up (ja_up (ja_up (ja_up (ja_up (ja_up (ja_up (ja_up (ja_up (ja_up (ja_up (ja_up (ja_up (ja_up h 0 7 ((h 0 7) + 1)) 6 (((h 0 17)).toNat) a1) 7 (((h 0 17)).toNat) 0) 8 (((h 0 17)).toNat) 0) 9 (((h 0 17)).toNat) 0) 0 17 ((h 0 17) + 1)) 6 (((h 0 17) + 1).toNat) 37) 7 (((h 0 17) + 1).toNat) 59) 8 (((h 0 17) + 1).toNat) 0) 9 (((h 0 17) + 1).toNat) 0) 0 17 ((h 0 17) + 1 + 1)) 6 (((h 0 17) + 1 + 1).toNat) 1) 7 (((h 0 17) + 1 + 1).toNat) 0) 8 (((h 0 17) + 1 + 1).toNat) 0) 9 (((h 0 17) + 1 + 1).toNat) 0) 0 17 ((h 0 17) + 1 + 1 + 1)) → mJ l D cA ad d cc nL rt (pc + 3) L ((0, 1) :: S) (ja_up (ja_up (ja_up (ja_up (ja_up (ja_up (ja_up (ja_up (ja_up (ja_up (ja_up (ja_up (ja_up (ja_up (ja_up (ja_up h 0 7 ((h 0 7) + 1)) 6 (((h 0 17)).toNat) a1) 7 (((h 0 17)).toNat) 0) 8 (((h 0 17)).toNat) 0) 9 (((h 0 17)).toNat) 0) 0 17 ((h 0 17) + 1)) 6 (((h 0 17) + 1).toNat) 37) 7 (((h 0 17) + 1).toNat) 59) 8 (((h 0 17) + 1).toNat) 0) 9 (((h 0 17) + 1).toNat) 0) 0 17 ((h 0 17) + 1 + 1)) 6 (((h 0 17) + 1 + 1).toNat) 1) 7 (((h 0 17) + 1 + 1).toNat) 0) 8 (((h 0 17) + 1 + 1).toNat) 0) 9 (((h 0 17) + 1 + 1).toNat) 0) 0 17 ((h 0 17) + 1 + 1 + 1)) Q) (k2 : ∀ (h' : ja_H), (0 < (h' 0 8) ∧ (h' 0 1) = (h 0 1) ∧ (h' 0 118) = (h 0 118) ∧ (h' 0 127) = (h 0 127)) → mo_G Zz h' → mJ l D cA ad d cc nL rt (pc + 3) L ((0, 0) :: S) h' Q) : mJ l D cA ad d cc nL rt pc L ((0, a1) :: (2, ((0 : Nat) : Int)) :: S) h Q :=
  mc_simple hdd hwd hd (s_simple g r1 p1 p2 k1 k2)
end
theorem dload_0 : decode cX12_load 0 = .ok (.aload_n 0, 1) := by decide +kernel
theorem dload_1 : decode cX12_load 1 = .ok (.iconst 1, 1) := by decide +kernel
theorem dload_2 : decode cX12_load 2 = .ok (.putfield 838, 3) := by decide +kernel
theorem dload_5 : decode cX12_load 5 = .ok (.iconst (-1), 1) := by decide +kernel
theorem dload_6 : decode cX12_load 6 = .ok (.istore_n 2, 1) := by decide +kernel
theorem dload_7 : decode cX12_load 7 = .ok (.aload_n 0, 1) := by decide +kernel
theorem dload_8 : decode cX12_load 8 = .ok (.getfield 698, 3) := by decide +kernel
theorem dload_11 : decode cX12_load 11 = .ok (.iconst 1, 1) := by decide +kernel
theorem dload_12 : decode cX12_load 12 = .ok (.if_icmp .ne 46, 3) := by decide +kernel
theorem dload_15 : decode cX12_load 15 = .ok (.iconst 0, 1) := by decide +kernel
theorem dload_16 : decode cX12_load 16 = .ok (.istore_n 3, 1) := by decide +kernel
theorem dload_17 : decode cX12_load 17 = .ok (.iload_n 3, 1) := by decide +kernel
theorem dload_18 : decode cX12_load 18 = .ok (.aload_n 0, 1) := by decide +kernel
theorem dload_19 : decode cX12_load 19 = .ok (.getfield 704, 3) := by decide +kernel
theorem dload_22 : decode cX12_load 22 = .ok (.if_icmp .ge 33, 3) := by decide +kernel
theorem dload_25 : decode cX12_load 25 = .ok (.aload_n 0, 1) := by decide +kernel
theorem dload_26 : decode cX12_load 26 = .ok (.aload_n 0, 1) := by decide +kernel
theorem dload_27 : decode cX12_load 27 = .ok (.getfield 161, 3) := by decide +kernel
theorem dload_30 : decode cX12_load 30 = .ok (.iload_n 3, 1) := by decide +kernel
theorem dload_31 : decode cX12_load 31 = .ok (.iaload, 1) := by decide +kernel
theorem dload_32 : decode cX12_load 32 = .ok (.invokevirtual 716, 3) := by decide +kernel
theorem dload_35 : decode cX12_load 35 = .ok (.aload_n 0, 1) := by decide +kernel
theorem dload_36 : decode cX12_load 36 = .ok (.iload_n 1, 1) := by decide +kernel
theorem dload_37 : decode cX12_load 37 = .ok (.invokevirtual 716, 3) := by decide +kernel
theorem dload_40 : decode cX12_load 40 = .ok (.if_icmp .ne 7, 3) := by decide +kernel
theorem dload_43 : decode cX12_load 43 = .ok (.iload_n 3, 1) := by decide +kernel
theorem dload_44 : decode cX12_load 44 = .ok (.goto 4, 3) := by decide +kernel
theorem dload_47 : decode cX12_load 47 = .ok (.iload_n 2, 1) := by decide +kernel
theorem dload_48 : decode cX12_load 48 = .ok (.istore_n 2, 1) := by decide +kernel
theorem dload_49 : decode cX12_load 49 = .ok (.iinc 3 1, 3) := by decide +kernel
theorem dload_52 : decode cX12_load 52 = .ok (.goto (-35), 3) := by decide +kernel
theorem dload_55 : decode cX12_load 55 = .ok (.goto 44, 3) := by decide +kernel
theorem dload_58 : decode cX12_load 58 = .ok (.iconst 0, 1) := by decide +kernel
theorem dload_59 : decode cX12_load 59 = .ok (.istore_n 3, 1) := by decide +kernel
theorem dload_60 : decode cX12_load 60 = .ok (.iload_n 3, 1) := by decide +kernel
theorem dload_61 : decode cX12_load 61 = .ok (.aload_n 0, 1) := by decide +kernel
theorem dload_62 : decode cX12_load 62 = .ok (.getfield 713, 3) := by decide +kernel
theorem dload_65 : decode cX12_load 65 = .ok (.if_icmp .ge 34, 3) := by decide +kernel
theorem dload_68 : decode cX12_load 68 = .ok (.aload_n 0, 1) := by decide +kernel
theorem dload_69 : decode cX12_load 69 = .ok (.getfield 155, 3) := by decide +kernel
theorem dload_72 : decode cX12_load 72 = .ok (.iload_n 3, 1) := by decide +kernel
theorem dload_73 : decode cX12_load 73 = .ok (.iaload, 1) := by decide +kernel
theorem dload_74 : decode cX12_load 74 = .ok (.aload_n 0, 1) := by decide +kernel
theorem dload_75 : decode cX12_load 75 = .ok (.iload_n 1, 1) := by decide +kernel
theorem dload_76 : decode cX12_load 76 = .ok (.invokevirtual 716, 3) := by decide +kernel
theorem dload_79 : decode cX12_load 79 = .ok (.if_icmp .ne 12, 3) := by decide +kernel
theorem dload_82 : decode cX12_load 82 = .ok (.aload_n 0, 1) := by decide +kernel
theorem dload_83 : decode cX12_load 83 = .ok (.getfield 158, 3) := by decide +kernel
theorem dload_86 : decode cX12_load 86 = .ok (.iload_n 3, 1) := by decide +kernel
theorem dload_87 : decode cX12_load 87 = .ok (.iaload, 1) := by decide +kernel
theorem dload_88 : decode cX12_load 88 = .ok (.goto 4, 3) := by decide +kernel
theorem dload_91 : decode cX12_load 91 = .ok (.iload_n 2, 1) := by decide +kernel
theorem dload_92 : decode cX12_load 92 = .ok (.istore_n 2, 1) := by decide +kernel
theorem dload_93 : decode cX12_load 93 = .ok (.iinc 3 1, 3) := by decide +kernel
theorem dload_96 : decode cX12_load 96 = .ok (.goto (-36), 3) := by decide +kernel
theorem dload_99 : decode cX12_load 99 = .ok (.iload_n 2, 1) := by decide +kernel
theorem dload_100 : decode cX12_load 100 = .ok (.ifCond .lt 14, 3) := by decide +kernel
theorem dload_103 : decode cX12_load 103 = .ok (.aload_n 0, 1) := by decide +kernel
theorem dload_104 : decode cX12_load 104 = .ok (.iconst 4, 1) := by decide +kernel
theorem dload_105 : decode cX12_load 105 = .ok (.iload_n 2, 1) := by decide +kernel
theorem dload_106 : decode cX12_load 106 = .ok (.iconst 0, 1) := by decide +kernel
theorem dload_107 : decode cX12_load 107 = .ok (.invokevirtual 732, 3) := by decide +kernel
theorem dload_110 : decode cX12_load 110 = .ok (.istore_n 3, 1) := by decide +kernel
theorem dload_111 : decode cX12_load 111 = .ok (.goto 61, 3) := by decide +kernel
theorem dload_114 : decode cX12_load 114 = .ok (.aload_n 0, 1) := by decide +kernel
theorem dload_115 : decode cX12_load 115 = .ok (.getfield 698, 3) := by decide +kernel
theorem dload_118 : decode cX12_load 118 = .ok (.iconst 1, 1) := by decide +kernel
theorem dload_119 : decode cX12_load 119 = .ok (.if_icmp .eq 11, 3) := by decide +kernel
theorem dload_122 : decode cX12_load 122 = .ok (.aload_n 0, 1) := by decide +kernel
theorem dload_123 : decode cX12_load 123 = .ok (.getfield 620, 3) := by decide +kernel
theorem dload_126 : decode cX12_load 126 = .ok (.iconst 2, 1) := by decide +kernel
theorem dload_127 : decode cX12_load 127 = .ok (.if_icmp .lt 7, 3) := by decide +kernel
theorem dload_130 : decode cX12_load 130 = .ok (.iconst 1, 1) := by decide +kernel
theorem dload_131 : decode cX12_load 131 = .ok (.goto 4, 3) := by decide +kernel
theorem dload_134 : decode cX12_load 134 = .ok (.iconst 0, 1) := by decide +kernel
theorem dload_135 : decode cX12_load 135 = .ok (.istore_n 3, 1) := by decide +kernel
theorem dload_136 : decode cX12_load 136 = .ok (.iload_n 3, 1) := by decide +kernel
theorem dload_137 : decode cX12_load 137 = .ok (.ifCond .eq 16, 3) := by decide +kernel
theorem dload_140 : decode cX12_load 140 = .ok (.aload_n 0, 1) := by decide +kernel
theorem dload_141 : decode cX12_load 141 = .ok (.iconst 1, 1) := by decide +kernel
theorem dload_142 : decode cX12_load 142 = .ok (.iload_n 1, 1) := by decide +kernel
theorem dload_143 : decode cX12_load 143 = .ok (.aload_n 0, 1) := by decide +kernel
theorem dload_144 : decode cX12_load 144 = .ok (.getfield 760, 3) := by decide +kernel
theorem dload_147 : decode cX12_load 147 = .ok (.invokevirtual 783, 3) := by decide +kernel
theorem dload_150 : decode cX12_load 150 = .ok (.goto 9, 3) := by decide +kernel
theorem dload_153 : decode cX12_load 153 = .ok (.aload_n 0, 1) := by decide +kernel
theorem dload_154 : decode cX12_load 154 = .ok (.iconst 5, 1) := by decide +kernel
theorem dload_155 : decode cX12_load 155 = .ok (.iload_n 1, 1) := by decide +kernel
theorem dload_156 : decode cX12_load 156 = .ok (.invokevirtual 719, 3) := by decide +kernel
theorem dload_159 : decode cX12_load 159 = .ok (.aload_n 0, 1) := by decide +kernel
theorem dload_160 : decode cX12_load 160 = .ok (.bipush 6, 2) := by decide +kernel
theorem dload_162 : decode cX12_load 162 = .ok (.iload_n 1, 1) := by decide +kernel
theorem dload_163 : decode cX12_load 163 = .ok (.aload_n 0, 1) := by decide +kernel
theorem dload_164 : decode cX12_load 164 = .ok (.getfield 760, 3) := by decide +kernel
theorem dload_167 : decode cX12_load 167 = .ok (.invokevirtual 732, 3) := by decide +kernel
theorem dload_170 : decode cX12_load 170 = .ok (.istore 4, 2) := by decide +kernel
theorem dload_172 : decode cX12_load 172 = .ok (.return_, 1) := by decide +kernel
section
variable {l : Launch} {D : va_G} {cA : Nat → ClassId} {ad : Nat → Nat}
theorem s_load {a1 : Int} {h : ja_H} {Q : Option ja_V → ja_H → Prop} (g : mo_G Zz h) (r1 : -2147483648 ≤ a1 ∧ a1 ≤ 2147483647) (p1 : 0 ≤ a1 ∧ a1 ≤ 900) (p2 : (h 0 113) < 5000) (p3 : (h 0 68) < 900) (k1 : ∀ (v : Int), (0 ≤ v ∧ v ≤ 15 ∧ ((h 0 86) = 1 → v ≤ 6)) → mo_G Zz (ja_up (ja_up (ja_up (ja_up (ja_up h 0 19 1) 74 (((h 0 113)).toNat) 4) 75 (((h 0 113)).toNat) v) 76 (((h 0 113)).toNat) 0) 0 113 ((h 0 113) + 1)) → Q none (ja_up (ja_up (ja_up (ja_up (ja_up h 0 19 1) 74 (((h 0 113)).toNat) 4) 75 (((h 0 113)).toNat) v) 76 (((h 0 113)).toNat) 0) 0 113 ((h 0 113) + 1))) (k2 : ((h 0 86) = 1 ∨ 2 ≤ (h 0 74)) → mo_G Zz (ja_up (ja_up (ja_up (ja_up (ja_up (ja_up (ja_up (ja_up (ja_up h 0 19 1) 45 (((h 0 68)).toNat) 1) 44 (((h 0 68)).toNat) a1) 46 (((h 0 68)).toNat) (h 0 76)) 0 68 ((h 0 68) + 1)) 74 (((h 0 113)).toNat) 6) 75 (((h 0 113)).toNat) a1) 76 (((h 0 113)).toNat) (h 0 76)) 0 113 ((h 0 113) + 1)) → Q none (ja_up (ja_up (ja_up (ja_up (ja_up (ja_up (ja_up (ja_up (ja_up h 0 19 1) 45 (((h 0 68)).toNat) 1) 44 (((h 0 68)).toNat) a1) 46 (((h 0 68)).toNat) (h 0 76)) 0 68 ((h 0 68) + 1)) 74 (((h 0 113)).toNat) 6) 75 (((h 0 113)).toNat) a1) 76 (((h 0 113)).toNat) (h 0 76)) 0 113 ((h 0 113) + 1))) (k3 : ∀ (f p : Int), (1 ≤ f ∧ f ≤ 8 ∧ -2147483648 ≤ p ∧ p ≤ 2147483647) → mo_G Zz (ja_up (ja_up (ja_up (ja_up (ja_up (ja_up (ja_up h 0 19 1) 0 11 f) 0 12 p) 74 (((h 0 113)).toNat) 6) 75 (((h 0 113)).toNat) a1) 76 (((h 0 113)).toNat) (h 0 76)) 0 113 ((h 0 113) + 1)) → Q none (ja_up (ja_up (ja_up (ja_up (ja_up (ja_up (ja_up h 0 19 1) 0 11 f) 0 12 p) 74 (((h 0 113)).toNat) 6) 75 (((h 0 113)).toNat) a1) 76 (((h 0 113)).toNat) (h 0 76)) 0 113 ((h 0 113) + 1))) : mM_load l D cA ad a1 h Q := by
  show mJ l D cA ad 2 cX12_load 5 none 0 [(0, (2, ((0 : Nat) : Int))), (1, (0, a1))] [] h Q
  have kn_params := gF_params g
  have kn_known := gF_known g
  have kn_inIf := gF_inIf g
  have kn_body := gF_body g
  have kn_inAspect := gF_inAspect g
  have kn_words := gF_words g
  have kn_wants := gF_wants g
  have kn_false1 := gF_false1 g
  have CUT : ∀ n : Nat, (∀ (x2 x3 : Int), mo_G Zz (ja_up h 0 19 1) → (-2147483648 ≤ x2 ∧ x2 ≤ 2147483647) → (-2147483648 ≤ x3 ∧ x3 ≤ 2147483647) → (0 ≤ x3 ∧ x3 ≤ (h 0 82) ∧ -1 ≤ x2 ∧ x2 ≤ 6) → ((100 - x3).toNat) = n → mJ l D cA ad 2 cX12_load 5 none 17 [(0, (2, ((0 : Nat) : Int))), (1, (0, a1)), (2, (0, x2)), (3, (0, x3))] [] (ja_up h 0 19 1) Q) ∧ (∀ (x2 x3 : Int), mo_G Zz (ja_up h 0 19 1) → (-2147483648 ≤ x2 ∧ x2 ≤ 2147483647) → (-2147483648 ≤ x3 ∧ x3 ≤ 2147483647) → (0 ≤ x3 ∧ x3 ≤ (h 0 79) ∧ -1 ≤ x2 ∧ x2 ≤ 15 ∧ ¬ (h 0 86) = 1) → ((100 - x3).toNat) = n → mJ l D cA ad 2 cX12_load 5 none 60 [(0, (2, ((0 : Nat) : Int))), (1, (0, a1)), (2, (0, x2)), (3, (0, x3))] [] (ja_up h 0 19 1) Q) := by
    intro n
    induction n using Nat.strongRecOn with
    | _ n ih =>
      refine ⟨?_, ?_⟩
      · intro x2 x3 gu qx2 qx3 iv hm
        subst hm
        refine ja_iload_n dload_17 rfl rfl ?_
        refine ja_aload_n dload_18 rfl rfl ?_
        refine fg_params (v := h 0 82) rfl dload_19 ?_
        have f1 := gF_params g
        refine ja_icmp_ge 55 dload_22 rfl ⟨by omega, by omega⟩ ⟨by omega, by omega⟩ (fun c22 => ?_) (fun c22 => ?_)
        · refine ja_goto 99 dload_55 rfl ?_
          refine ja_iload_n dload_99 rfl rfl ?_
          refine ja_if_lt 114 dload_100 rfl ⟨by omega, by omega⟩ (fun c100 => ?_) (fun c100 => ?_)
          · refine ja_aload_n dload_114 rfl rfl ?_
            refine fg_inIf (v := h 0 86) rfl dload_115 ?_
            have f2 := gF_inIf g
            refine ja_iconst dload_118 ?_
            refine ja_icmp_eq 130 dload_119 rfl ⟨by omega, by omega⟩ ⟨by decide, by decide⟩ (fun c119 => ?_) (fun c119 => ?_)
            · refine ja_iconst dload_130 ?_
              refine ja_goto 135 dload_131 rfl ?_
              refine ja_istore_n dload_135 rfl (by decide) (L2 := [(3, (0, 1)), (0, (2, ((0 : Nat) : Int))), (1, (0, a1)), (2, (0, x2))]) rfl ?_
              refine ja_iload_n dload_136 rfl rfl ?_
              refine ja_if_eq 153 dload_137 rfl ⟨by decide, by decide⟩ (fun c137 => absurd c137 (by omega)) (fun c137 => ?_)
              refine ja_aload_n dload_140 rfl rfl ?_
              refine ja_iconst dload_141 ?_
              refine ja_iload_n dload_142 rfl rfl ?_
              refine ja_aload_n dload_143 rfl rfl ?_
              refine fg_inAspect (v := h 0 76) rfl dload_144 ?_
              have f3 := gF_inAspect g
              refine t_want (by decide) (show (0 : Nat) ≤ 8 by decide) dload_147 gu ⟨by decide, by decide⟩ ⟨by omega, by omega⟩ ⟨by omega, by omega⟩ (show 0 ≤ 1 ∧ 1 ≤ 1 by omega) (show 0 ≤ a1 ∧ a1 ≤ 900 by omega) (show 0 ≤ (h 0 76) ∧ (h 0 76) ≤ 7 by omega) (show (h 0 68) < 900 by omega) ?_
              intro g4
              replace g4 : mo_G Zz (ja_up (ja_up (ja_up (ja_up (ja_up h 0 19 1) 45 ((h 0 68).toNat) 1) 44 ((h 0 68).toNat) a1) 46 ((h 0 68).toNat) (h 0 76)) 0 68 ((h 0 68) + 1)) := g4
              show mJ l D cA ad 2 cX12_load 5 none 150 [(3, (0, 1)), (0, (2, ((0 : Nat) : Int))), (1, (0, a1)), (2, (0, x2))] [] (ja_up (ja_up (ja_up (ja_up (ja_up h 0 19 1) 45 ((h 0 68).toNat) 1) 44 ((h 0 68).toNat) a1) 46 ((h 0 68).toNat) (h 0 76)) 0 68 ((h 0 68) + 1)) Q
              refine ja_goto 159 dload_150 rfl ?_
              refine ja_aload_n dload_159 rfl rfl ?_
              refine ja_bipush 6 dload_160 rfl ?_
              refine ja_iload_n dload_162 rfl rfl ?_
              refine ja_aload_n dload_163 rfl rfl ?_
              refine fg_inAspect (v := h 0 76) rfl dload_164 ?_
              refine t_emit (by decide) (show (0 : Nat) ≤ 8 by decide) dload_167 g4 ⟨by decide, by decide⟩ ⟨by omega, by omega⟩ ⟨by omega, by omega⟩ (show 0 ≤ 6 ∧ 6 ≤ 26 by omega) (show (h 0 113) < 5000 by omega) ?_
              intro g5
              replace g5 : mo_G Zz (ja_up (ja_up (ja_up (ja_up (ja_up (ja_up (ja_up (ja_up (ja_up h 0 19 1) 45 ((h 0 68).toNat) 1) 44 ((h 0 68).toNat) a1) 46 ((h 0 68).toNat) (h 0 76)) 0 68 ((h 0 68) + 1)) 74 ((h 0 113).toNat) 6) 75 ((h 0 113).toNat) a1) 76 ((h 0 113).toNat) (h 0 76)) 0 113 ((h 0 113) + 1)) := g5
              show mJ l D cA ad 2 cX12_load 5 none 170 [(3, (0, 1)), (0, (2, ((0 : Nat) : Int))), (1, (0, a1)), (2, (0, x2))] [(0, (h 0 113))] (ja_up (ja_up (ja_up (ja_up (ja_up (ja_up (ja_up (ja_up (ja_up h 0 19 1) 45 ((h 0 68).toNat) 1) 44 ((h 0 68).toNat) a1) 46 ((h 0 68).toNat) (h 0 76)) 0 68 ((h 0 68) + 1)) 74 ((h 0 113).toNat) 6) 75 ((h 0 113).toNat) a1) 76 ((h 0 113).toNat) (h 0 76)) 0 113 ((h 0 113) + 1)) Q
              refine ja_istore dload_170 (by decide) (L2 := [(4, (0, (h 0 113))), (3, (0, 1)), (0, (2, ((0 : Nat) : Int))), (1, (0, a1)), (2, (0, x2))]) rfl ?_
              refine ja_return dload_172 rfl ?_
              first | (have hE : ja_up (ja_up (ja_up (ja_up (ja_up (ja_up (ja_up (ja_up (ja_up h 0 19 1) 45 ((h 0 68).toNat) 1) 44 ((h 0 68).toNat) a1) 46 ((h 0 68).toNat) (h 0 76)) 0 68 ((h 0 68) + 1)) 74 ((h 0 113).toNat) 6) 75 ((h 0 113).toNat) a1) 76 ((h 0 113).toNat) (h 0 76)) 0 113 ((h 0 113) + 1) = ja_up (ja_up (ja_up (ja_up (ja_up h 0 19 1) 74 ((h 0 113).toNat) 4) 75 ((h 0 113).toNat) a1) 76 ((h 0 113).toNat) 0) 0 113 ((h 0 113) + 1) := by funext k j; simp only [ja_up]; repeat' split <;> simp_all; rw [hE]; exact k1 a1 (by omega) (by rw [← hE]; exact g5)) | (exact k2 (by omega) g5) | (have hE : ja_up (ja_up (ja_up (ja_up (ja_up (ja_up (ja_up (ja_up (ja_up h 0 19 1) 45 ((h 0 68).toNat) 1) 44 ((h 0 68).toNat) a1) 46 ((h 0 68).toNat) (h 0 76)) 0 68 ((h 0 68) + 1)) 74 ((h 0 113).toNat) 6) 75 ((h 0 113).toNat) a1) 76 ((h 0 113).toNat) (h 0 76)) 0 113 ((h 0 113) + 1) = ja_up (ja_up (ja_up (ja_up (ja_up (ja_up (ja_up h 0 19 1) 0 11 (h 0 11)) 0 12 (h 0 12)) 74 ((h 0 113).toNat) 6) 75 ((h 0 113).toNat) a1) 76 ((h 0 113).toNat) (h 0 76)) 0 113 ((h 0 113) + 1) := by funext k j; simp only [ja_up]; repeat' split <;> simp_all; rw [hE]; exact k3 (h 0 11) (h 0 12) (by omega) (by rw [← hE]; exact g5))
            · refine ja_aload_n dload_122 rfl rfl ?_
              refine fg_body (v := h 0 74) rfl dload_123 ?_
              have f6 := gF_body g
              refine ja_iconst dload_126 ?_
              refine ja_icmp_lt 134 dload_127 rfl ⟨by omega, by omega⟩ ⟨by decide, by decide⟩ (fun c127 => ?_) (fun c127 => ?_)
              · refine ja_iconst dload_134 ?_
                refine ja_istore_n dload_135 rfl (by decide) (L2 := [(3, (0, 0)), (0, (2, ((0 : Nat) : Int))), (1, (0, a1)), (2, (0, x2))]) rfl ?_
                refine ja_iload_n dload_136 rfl rfl ?_
                refine ja_if_eq 153 dload_137 rfl ⟨by decide, by decide⟩ (fun c137 => ?_) (fun c137 => absurd c137 (by omega))
                refine ja_aload_n dload_153 rfl rfl ?_
                refine ja_iconst dload_154 ?_
                refine ja_iload_n dload_155 rfl rfl ?_
                refine t_judge (by decide) (show (0 : Nat) ≤ 8 by decide) dload_156 gu ⟨by decide, by decide⟩ ⟨by omega, by omega⟩ (show 1 ≤ 5 ∧ 5 ≤ 8 by omega) (show 0 ≤ a1 ∧ a1 ≤ 900 by omega) ?_
                intro w7 w8 k156_0 g9
                replace k156_0 : 1 ≤ w7 ∧ w7 ≤ 8 ∧ -2147483648 ≤ w8 ∧ w8 ≤ 2147483647 := k156_0
                replace g9 : mo_G Zz (ja_up (ja_up (ja_up h 0 19 1) 0 11 w7) 0 12 w8) := g9
                show mJ l D cA ad 2 cX12_load 5 none 159 [(3, (0, 0)), (0, (2, ((0 : Nat) : Int))), (1, (0, a1)), (2, (0, x2))] [] (ja_up (ja_up (ja_up h 0 19 1) 0 11 w7) 0 12 w8) Q
                refine ja_aload_n dload_159 rfl rfl ?_
                refine ja_bipush 6 dload_160 rfl ?_
                refine ja_iload_n dload_162 rfl rfl ?_
                refine ja_aload_n dload_163 rfl rfl ?_
                refine fg_inAspect (v := h 0 76) rfl dload_164 ?_
                have f10 := gF_inAspect g
                refine t_emit (by decide) (show (0 : Nat) ≤ 8 by decide) dload_167 g9 ⟨by decide, by decide⟩ ⟨by omega, by omega⟩ ⟨by omega, by omega⟩ (show 0 ≤ 6 ∧ 6 ≤ 26 by omega) (show (h 0 113) < 5000 by omega) ?_
                intro g11
                replace g11 : mo_G Zz (ja_up (ja_up (ja_up (ja_up (ja_up (ja_up (ja_up h 0 19 1) 0 11 w7) 0 12 w8) 74 ((h 0 113).toNat) 6) 75 ((h 0 113).toNat) a1) 76 ((h 0 113).toNat) (h 0 76)) 0 113 ((h 0 113) + 1)) := g11
                show mJ l D cA ad 2 cX12_load 5 none 170 [(3, (0, 0)), (0, (2, ((0 : Nat) : Int))), (1, (0, a1)), (2, (0, x2))] [(0, (h 0 113))] (ja_up (ja_up (ja_up (ja_up (ja_up (ja_up (ja_up h 0 19 1) 0 11 w7) 0 12 w8) 74 ((h 0 113).toNat) 6) 75 ((h 0 113).toNat) a1) 76 ((h 0 113).toNat) (h 0 76)) 0 113 ((h 0 113) + 1)) Q
                refine ja_istore dload_170 (by decide) (L2 := [(4, (0, (h 0 113))), (3, (0, 0)), (0, (2, ((0 : Nat) : Int))), (1, (0, a1)), (2, (0, x2))]) rfl ?_
                refine ja_return dload_172 rfl ?_
                first | (have hE : ja_up (ja_up (ja_up (ja_up (ja_up (ja_up (ja_up h 0 19 1) 0 11 w7) 0 12 w8) 74 ((h 0 113).toNat) 6) 75 ((h 0 113).toNat) a1) 76 ((h 0 113).toNat) (h 0 76)) 0 113 ((h 0 113) + 1) = ja_up (ja_up (ja_up (ja_up (ja_up h 0 19 1) 74 ((h 0 113).toNat) 4) 75 ((h 0 113).toNat) a1) 76 ((h 0 113).toNat) 0) 0 113 ((h 0 113) + 1) := by funext k j; simp only [ja_up]; repeat' split <;> simp_all; rw [hE]; exact k1 a1 (by omega) (by rw [← hE]; exact g11)) | (have hE : ja_up (ja_up (ja_up (ja_up (ja_up (ja_up (ja_up h 0 19 1) 0 11 w7) 0 12 w8) 74 ((h 0 113).toNat) 6) 75 ((h 0 113).toNat) a1) 76 ((h 0 113).toNat) (h 0 76)) 0 113 ((h 0 113) + 1) = ja_up (ja_up (ja_up (ja_up (ja_up (ja_up (ja_up (ja_up (ja_up h 0 19 1) 45 ((h 0 68).toNat) 1) 44 ((h 0 68).toNat) a1) 46 ((h 0 68).toNat) (h 0 76)) 0 68 ((h 0 68) + 1)) 74 ((h 0 113).toNat) 6) 75 ((h 0 113).toNat) a1) 76 ((h 0 113).toNat) (h 0 76)) 0 113 ((h 0 113) + 1) := by funext k j; simp only [ja_up]; repeat' split <;> simp_all; rw [hE]; exact k2 (by omega) (by rw [← hE]; exact g11)) | (exact k3 w7 w8 (by omega) g11)
              · refine ja_iconst dload_130 ?_
                refine ja_goto 135 dload_131 rfl ?_
                refine ja_istore_n dload_135 rfl (by decide) (L2 := [(3, (0, 1)), (0, (2, ((0 : Nat) : Int))), (1, (0, a1)), (2, (0, x2))]) rfl ?_
                refine ja_iload_n dload_136 rfl rfl ?_
                refine ja_if_eq 153 dload_137 rfl ⟨by decide, by decide⟩ (fun c137 => absurd c137 (by omega)) (fun c137 => ?_)
                refine ja_aload_n dload_140 rfl rfl ?_
                refine ja_iconst dload_141 ?_
                refine ja_iload_n dload_142 rfl rfl ?_
                refine ja_aload_n dload_143 rfl rfl ?_
                refine fg_inAspect (v := h 0 76) rfl dload_144 ?_
                have f12 := gF_inAspect g
                refine t_want (by decide) (show (0 : Nat) ≤ 8 by decide) dload_147 gu ⟨by decide, by decide⟩ ⟨by omega, by omega⟩ ⟨by omega, by omega⟩ (show 0 ≤ 1 ∧ 1 ≤ 1 by omega) (show 0 ≤ a1 ∧ a1 ≤ 900 by omega) (show 0 ≤ (h 0 76) ∧ (h 0 76) ≤ 7 by omega) (show (h 0 68) < 900 by omega) ?_
                intro g13
                replace g13 : mo_G Zz (ja_up (ja_up (ja_up (ja_up (ja_up h 0 19 1) 45 ((h 0 68).toNat) 1) 44 ((h 0 68).toNat) a1) 46 ((h 0 68).toNat) (h 0 76)) 0 68 ((h 0 68) + 1)) := g13
                show mJ l D cA ad 2 cX12_load 5 none 150 [(3, (0, 1)), (0, (2, ((0 : Nat) : Int))), (1, (0, a1)), (2, (0, x2))] [] (ja_up (ja_up (ja_up (ja_up (ja_up h 0 19 1) 45 ((h 0 68).toNat) 1) 44 ((h 0 68).toNat) a1) 46 ((h 0 68).toNat) (h 0 76)) 0 68 ((h 0 68) + 1)) Q
                refine ja_goto 159 dload_150 rfl ?_
                refine ja_aload_n dload_159 rfl rfl ?_
                refine ja_bipush 6 dload_160 rfl ?_
                refine ja_iload_n dload_162 rfl rfl ?_
                refine ja_aload_n dload_163 rfl rfl ?_
                refine fg_inAspect (v := h 0 76) rfl dload_164 ?_
                refine t_emit (by decide) (show (0 : Nat) ≤ 8 by decide) dload_167 g13 ⟨by decide, by decide⟩ ⟨by omega, by omega⟩ ⟨by omega, by omega⟩ (show 0 ≤ 6 ∧ 6 ≤ 26 by omega) (show (h 0 113) < 5000 by omega) ?_
                intro g14
                replace g14 : mo_G Zz (ja_up (ja_up (ja_up (ja_up (ja_up (ja_up (ja_up (ja_up (ja_up h 0 19 1) 45 ((h 0 68).toNat) 1) 44 ((h 0 68).toNat) a1) 46 ((h 0 68).toNat) (h 0 76)) 0 68 ((h 0 68) + 1)) 74 ((h 0 113).toNat) 6) 75 ((h 0 113).toNat) a1) 76 ((h 0 113).toNat) (h 0 76)) 0 113 ((h 0 113) + 1)) := g14
                show mJ l D cA ad 2 cX12_load 5 none 170 [(3, (0, 1)), (0, (2, ((0 : Nat) : Int))), (1, (0, a1)), (2, (0, x2))] [(0, (h 0 113))] (ja_up (ja_up (ja_up (ja_up (ja_up (ja_up (ja_up (ja_up (ja_up h 0 19 1) 45 ((h 0 68).toNat) 1) 44 ((h 0 68).toNat) a1) 46 ((h 0 68).toNat) (h 0 76)) 0 68 ((h 0 68) + 1)) 74 ((h 0 113).toNat) 6) 75 ((h 0 113).toNat) a1) 76 ((h 0 113).toNat) (h 0 76)) 0 113 ((h 0 113) + 1)) Q
                refine ja_istore dload_170 (by decide) (L2 := [(4, (0, (h 0 113))), (3, (0, 1)), (0, (2, ((0 : Nat) : Int))), (1, (0, a1)), (2, (0, x2))]) rfl ?_
                refine ja_return dload_172 rfl ?_
                first | (have hE : ja_up (ja_up (ja_up (ja_up (ja_up (ja_up (ja_up (ja_up (ja_up h 0 19 1) 45 ((h 0 68).toNat) 1) 44 ((h 0 68).toNat) a1) 46 ((h 0 68).toNat) (h 0 76)) 0 68 ((h 0 68) + 1)) 74 ((h 0 113).toNat) 6) 75 ((h 0 113).toNat) a1) 76 ((h 0 113).toNat) (h 0 76)) 0 113 ((h 0 113) + 1) = ja_up (ja_up (ja_up (ja_up (ja_up h 0 19 1) 74 ((h 0 113).toNat) 4) 75 ((h 0 113).toNat) a1) 76 ((h 0 113).toNat) 0) 0 113 ((h 0 113) + 1) := by funext k j; simp only [ja_up]; repeat' split <;> simp_all; rw [hE]; exact k1 a1 (by omega) (by rw [← hE]; exact g14)) | (exact k2 (by omega) g14) | (have hE : ja_up (ja_up (ja_up (ja_up (ja_up (ja_up (ja_up (ja_up (ja_up h 0 19 1) 45 ((h 0 68).toNat) 1) 44 ((h 0 68).toNat) a1) 46 ((h 0 68).toNat) (h 0 76)) 0 68 ((h 0 68) + 1)) 74 ((h 0 113).toNat) 6) 75 ((h 0 113).toNat) a1) 76 ((h 0 113).toNat) (h 0 76)) 0 113 ((h 0 113) + 1) = ja_up (ja_up (ja_up (ja_up (ja_up (ja_up (ja_up h 0 19 1) 0 11 (h 0 11)) 0 12 (h 0 12)) 74 ((h 0 113).toNat) 6) 75 ((h 0 113).toNat) a1) 76 ((h 0 113).toNat) (h 0 76)) 0 113 ((h 0 113) + 1) := by funext k j; simp only [ja_up]; repeat' split <;> simp_all; rw [hE]; exact k3 (h 0 11) (h 0 12) (by omega) (by rw [← hE]; exact g14))
          · refine ja_aload_n dload_103 rfl rfl ?_
            refine ja_iconst dload_104 ?_
            refine ja_iload_n dload_105 rfl rfl ?_
            refine ja_iconst dload_106 ?_
            refine t_emit (by decide) (show (0 : Nat) ≤ 8 by decide) dload_107 gu ⟨by decide, by decide⟩ ⟨by omega, by omega⟩ ⟨by decide, by decide⟩ (show 0 ≤ 4 ∧ 4 ≤ 26 by omega) (show (h 0 113) < 5000 by omega) ?_
            intro g15
            replace g15 : mo_G Zz (ja_up (ja_up (ja_up (ja_up (ja_up h 0 19 1) 74 ((h 0 113).toNat) 4) 75 ((h 0 113).toNat) x2) 76 ((h 0 113).toNat) 0) 0 113 ((h 0 113) + 1)) := g15
            show mJ l D cA ad 2 cX12_load 5 none 110 [(0, (2, ((0 : Nat) : Int))), (1, (0, a1)), (2, (0, x2)), (3, (0, x3))] [(0, (h 0 113))] (ja_up (ja_up (ja_up (ja_up (ja_up h 0 19 1) 74 ((h 0 113).toNat) 4) 75 ((h 0 113).toNat) x2) 76 ((h 0 113).toNat) 0) 0 113 ((h 0 113) + 1)) Q
            refine ja_istore_n dload_110 rfl (by decide) (L2 := [(3, (0, (h 0 113))), (0, (2, ((0 : Nat) : Int))), (1, (0, a1)), (2, (0, x2))]) rfl ?_
            refine ja_goto 172 dload_111 rfl ?_
            refine ja_return dload_172 rfl ?_
            first | (exact k1 x2 (by omega) g15) | (have hE : ja_up (ja_up (ja_up (ja_up (ja_up h 0 19 1) 74 ((h 0 113).toNat) 4) 75 ((h 0 113).toNat) x2) 76 ((h 0 113).toNat) 0) 0 113 ((h 0 113) + 1) = ja_up (ja_up (ja_up (ja_up (ja_up (ja_up (ja_up (ja_up (ja_up h 0 19 1) 45 ((h 0 68).toNat) 1) 44 ((h 0 68).toNat) a1) 46 ((h 0 68).toNat) (h 0 76)) 0 68 ((h 0 68) + 1)) 74 ((h 0 113).toNat) 6) 75 ((h 0 113).toNat) a1) 76 ((h 0 113).toNat) (h 0 76)) 0 113 ((h 0 113) + 1) := by funext k j; simp only [ja_up]; repeat' split <;> simp_all; rw [hE]; exact k2 (by omega) (by rw [← hE]; exact g15)) | (have hE : ja_up (ja_up (ja_up (ja_up (ja_up h 0 19 1) 74 ((h 0 113).toNat) 4) 75 ((h 0 113).toNat) x2) 76 ((h 0 113).toNat) 0) 0 113 ((h 0 113) + 1) = ja_up (ja_up (ja_up (ja_up (ja_up (ja_up (ja_up h 0 19 1) 0 11 (h 0 11)) 0 12 (h 0 12)) 74 ((h 0 113).toNat) 6) 75 ((h 0 113).toNat) a1) 76 ((h 0 113).toNat) (h 0 76)) 0 113 ((h 0 113) + 1) := by funext k j; simp only [ja_up]; repeat' split <;> simp_all; rw [hE]; exact k3 (h 0 11) (h 0 12) (by omega) (by rw [← hE]; exact g15))
        · refine ja_aload_n dload_25 rfl rfl ?_
          refine ja_aload_n dload_26 rfl rfl ?_
          refine fa_paramName dload_27 ?_
          refine ja_iload_n dload_30 rfl rfl ?_
          refine il_paramName (v := h 51 (x3).toNat) rfl ⟨by omega, by omega⟩ dload_31 ?_
          have f16 := gC_paramName g (x3).toNat
          refine t_id (by decide) (show (0 : Nat) ≤ 8 by decide) dload_32 gu ⟨by omega, by omega⟩ (show 0 ≤ (h 51 (x3).toNat) ∧ (h 51 (x3).toNat) ≤ 900 by omega) ?_
          intro k32_0
          replace k32_0 : -2147483648 ≤ (h 5 (h 51 (x3).toNat).toNat) ∧ (h 5 (h 51 (x3).toNat).toNat) ≤ 2147483647 := k32_0
          show mJ l D cA ad 2 cX12_load 5 none 35 [(0, (2, ((0 : Nat) : Int))), (1, (0, a1)), (2, (0, x2)), (3, (0, x3))] [(0, (h 5 (h 51 (x3).toNat).toNat))] (ja_up h 0 19 1) Q
          refine ja_aload_n dload_35 rfl rfl ?_
          refine ja_iload_n dload_36 rfl rfl ?_
          refine t_id (by decide) (show (1 : Nat) ≤ 8 by decide) dload_37 gu ⟨by omega, by omega⟩ (show 0 ≤ a1 ∧ a1 ≤ 900 by omega) ?_
          intro k37_0
          replace k37_0 : -2147483648 ≤ (h 5 (a1).toNat) ∧ (h 5 (a1).toNat) ≤ 2147483647 := k37_0
          show mJ l D cA ad 2 cX12_load 5 none 40 [(0, (2, ((0 : Nat) : Int))), (1, (0, a1)), (2, (0, x2)), (3, (0, x3))] [(0, (h 5 (a1).toNat)), (0, (h 5 (h 51 (x3).toNat).toNat))] (ja_up h 0 19 1) Q
          refine ja_icmp_ne 47 dload_40 rfl ⟨by omega, by omega⟩ ⟨by omega, by omega⟩ (fun c40 => ?_) (fun c40 => ?_)
          · refine ja_iload_n dload_47 rfl rfl ?_
            refine ja_istore_n dload_48 rfl (by decide) (L2 := [(2, (0, x2)), (0, (2, ((0 : Nat) : Int))), (1, (0, a1)), (3, (0, x3))]) rfl ?_
            refine ja_iinc dload_49 rfl (by decide) (L2 := [(3, (0, (x3 + 1))), (2, (0, x2)), (0, (2, ((0 : Nat) : Int))), (1, (0, a1))]) rfl ?_
            refine ja_goto 17 dload_52 rfl ?_
            exact ja_wk (fun q hq => by simp only [List.mem_cons, List.not_mem_nil, or_false] at hq; rcases hq with rfl | rfl | rfl | rfl <;> rfl) ((ih ((100 - (x3 + 1)).toNat) (by omega)).1 x2 (x3 + 1) gu ⟨by omega, by omega⟩ ⟨by omega, by omega⟩ (show 0 ≤ (x3 + 1) ∧ (x3 + 1) ≤ (h 0 82) ∧ -1 ≤ x2 ∧ x2 ≤ 6 by omega) rfl)
          · refine ja_iload_n dload_43 rfl rfl ?_
            refine ja_goto 48 dload_44 rfl ?_
            refine ja_istore_n dload_48 rfl (by decide) (L2 := [(2, (0, x3)), (0, (2, ((0 : Nat) : Int))), (1, (0, a1)), (3, (0, x3))]) rfl ?_
            refine ja_iinc dload_49 rfl (by decide) (L2 := [(3, (0, (x3 + 1))), (2, (0, x3)), (0, (2, ((0 : Nat) : Int))), (1, (0, a1))]) rfl ?_
            refine ja_goto 17 dload_52 rfl ?_
            exact ja_wk (fun q hq => by simp only [List.mem_cons, List.not_mem_nil, or_false] at hq; rcases hq with rfl | rfl | rfl | rfl <;> rfl) ((ih ((100 - (x3 + 1)).toNat) (by omega)).1 x3 (x3 + 1) gu ⟨by omega, by omega⟩ ⟨by omega, by omega⟩ (show 0 ≤ (x3 + 1) ∧ (x3 + 1) ≤ (h 0 82) ∧ -1 ≤ x3 ∧ x3 ≤ 6 by omega) rfl)
      · intro x2 x3 gu qx2 qx3 iv hm
        subst hm
        refine ja_iload_n dload_60 rfl rfl ?_
        refine ja_aload_n dload_61 rfl rfl ?_
        refine fg_known (v := h 0 79) rfl dload_62 ?_
        have f17 := gF_known g
        refine ja_icmp_ge 99 dload_65 rfl ⟨by omega, by omega⟩ ⟨by omega, by omega⟩ (fun c65 => ?_) (fun c65 => ?_)
        · refine ja_iload_n dload_99 rfl rfl ?_
          refine ja_if_lt 114 dload_100 rfl ⟨by omega, by omega⟩ (fun c100 => ?_) (fun c100 => ?_)
          · refine ja_aload_n dload_114 rfl rfl ?_
            refine fg_inIf (v := h 0 86) rfl dload_115 ?_
            have f18 := gF_inIf g
            refine ja_iconst dload_118 ?_
            refine ja_icmp_eq 130 dload_119 rfl ⟨by omega, by omega⟩ ⟨by decide, by decide⟩ (fun c119 => ?_) (fun c119 => ?_)
            · refine ja_iconst dload_130 ?_
              refine ja_goto 135 dload_131 rfl ?_
              refine ja_istore_n dload_135 rfl (by decide) (L2 := [(3, (0, 1)), (0, (2, ((0 : Nat) : Int))), (1, (0, a1)), (2, (0, x2))]) rfl ?_
              refine ja_iload_n dload_136 rfl rfl ?_
              refine ja_if_eq 153 dload_137 rfl ⟨by decide, by decide⟩ (fun c137 => absurd c137 (by omega)) (fun c137 => ?_)
              refine ja_aload_n dload_140 rfl rfl ?_
              refine ja_iconst dload_141 ?_
              refine ja_iload_n dload_142 rfl rfl ?_
              refine ja_aload_n dload_143 rfl rfl ?_
              refine fg_inAspect (v := h 0 76) rfl dload_144 ?_
              have f19 := gF_inAspect g
              refine t_want (by decide) (show (0 : Nat) ≤ 8 by decide) dload_147 gu ⟨by decide, by decide⟩ ⟨by omega, by omega⟩ ⟨by omega, by omega⟩ (show 0 ≤ 1 ∧ 1 ≤ 1 by omega) (show 0 ≤ a1 ∧ a1 ≤ 900 by omega) (show 0 ≤ (h 0 76) ∧ (h 0 76) ≤ 7 by omega) (show (h 0 68) < 900 by omega) ?_
              intro g20
              replace g20 : mo_G Zz (ja_up (ja_up (ja_up (ja_up (ja_up h 0 19 1) 45 ((h 0 68).toNat) 1) 44 ((h 0 68).toNat) a1) 46 ((h 0 68).toNat) (h 0 76)) 0 68 ((h 0 68) + 1)) := g20
              show mJ l D cA ad 2 cX12_load 5 none 150 [(3, (0, 1)), (0, (2, ((0 : Nat) : Int))), (1, (0, a1)), (2, (0, x2))] [] (ja_up (ja_up (ja_up (ja_up (ja_up h 0 19 1) 45 ((h 0 68).toNat) 1) 44 ((h 0 68).toNat) a1) 46 ((h 0 68).toNat) (h 0 76)) 0 68 ((h 0 68) + 1)) Q
              refine ja_goto 159 dload_150 rfl ?_
              refine ja_aload_n dload_159 rfl rfl ?_
              refine ja_bipush 6 dload_160 rfl ?_
              refine ja_iload_n dload_162 rfl rfl ?_
              refine ja_aload_n dload_163 rfl rfl ?_
              refine fg_inAspect (v := h 0 76) rfl dload_164 ?_
              refine t_emit (by decide) (show (0 : Nat) ≤ 8 by decide) dload_167 g20 ⟨by decide, by decide⟩ ⟨by omega, by omega⟩ ⟨by omega, by omega⟩ (show 0 ≤ 6 ∧ 6 ≤ 26 by omega) (show (h 0 113) < 5000 by omega) ?_
              intro g21
              replace g21 : mo_G Zz (ja_up (ja_up (ja_up (ja_up (ja_up (ja_up (ja_up (ja_up (ja_up h 0 19 1) 45 ((h 0 68).toNat) 1) 44 ((h 0 68).toNat) a1) 46 ((h 0 68).toNat) (h 0 76)) 0 68 ((h 0 68) + 1)) 74 ((h 0 113).toNat) 6) 75 ((h 0 113).toNat) a1) 76 ((h 0 113).toNat) (h 0 76)) 0 113 ((h 0 113) + 1)) := g21
              show mJ l D cA ad 2 cX12_load 5 none 170 [(3, (0, 1)), (0, (2, ((0 : Nat) : Int))), (1, (0, a1)), (2, (0, x2))] [(0, (h 0 113))] (ja_up (ja_up (ja_up (ja_up (ja_up (ja_up (ja_up (ja_up (ja_up h 0 19 1) 45 ((h 0 68).toNat) 1) 44 ((h 0 68).toNat) a1) 46 ((h 0 68).toNat) (h 0 76)) 0 68 ((h 0 68) + 1)) 74 ((h 0 113).toNat) 6) 75 ((h 0 113).toNat) a1) 76 ((h 0 113).toNat) (h 0 76)) 0 113 ((h 0 113) + 1)) Q
              refine ja_istore dload_170 (by decide) (L2 := [(4, (0, (h 0 113))), (3, (0, 1)), (0, (2, ((0 : Nat) : Int))), (1, (0, a1)), (2, (0, x2))]) rfl ?_
              refine ja_return dload_172 rfl ?_
              first | (have hE : ja_up (ja_up (ja_up (ja_up (ja_up (ja_up (ja_up (ja_up (ja_up h 0 19 1) 45 ((h 0 68).toNat) 1) 44 ((h 0 68).toNat) a1) 46 ((h 0 68).toNat) (h 0 76)) 0 68 ((h 0 68) + 1)) 74 ((h 0 113).toNat) 6) 75 ((h 0 113).toNat) a1) 76 ((h 0 113).toNat) (h 0 76)) 0 113 ((h 0 113) + 1) = ja_up (ja_up (ja_up (ja_up (ja_up h 0 19 1) 74 ((h 0 113).toNat) 4) 75 ((h 0 113).toNat) a1) 76 ((h 0 113).toNat) 0) 0 113 ((h 0 113) + 1) := by funext k j; simp only [ja_up]; repeat' split <;> simp_all; rw [hE]; exact k1 a1 (by omega) (by rw [← hE]; exact g21)) | (exact k2 (by omega) g21) | (have hE : ja_up (ja_up (ja_up (ja_up (ja_up (ja_up (ja_up (ja_up (ja_up h 0 19 1) 45 ((h 0 68).toNat) 1) 44 ((h 0 68).toNat) a1) 46 ((h 0 68).toNat) (h 0 76)) 0 68 ((h 0 68) + 1)) 74 ((h 0 113).toNat) 6) 75 ((h 0 113).toNat) a1) 76 ((h 0 113).toNat) (h 0 76)) 0 113 ((h 0 113) + 1) = ja_up (ja_up (ja_up (ja_up (ja_up (ja_up (ja_up h 0 19 1) 0 11 (h 0 11)) 0 12 (h 0 12)) 74 ((h 0 113).toNat) 6) 75 ((h 0 113).toNat) a1) 76 ((h 0 113).toNat) (h 0 76)) 0 113 ((h 0 113) + 1) := by funext k j; simp only [ja_up]; repeat' split <;> simp_all; rw [hE]; exact k3 (h 0 11) (h 0 12) (by omega) (by rw [← hE]; exact g21))
            · refine ja_aload_n dload_122 rfl rfl ?_
              refine fg_body (v := h 0 74) rfl dload_123 ?_
              have f22 := gF_body g
              refine ja_iconst dload_126 ?_
              refine ja_icmp_lt 134 dload_127 rfl ⟨by omega, by omega⟩ ⟨by decide, by decide⟩ (fun c127 => ?_) (fun c127 => ?_)
              · refine ja_iconst dload_134 ?_
                refine ja_istore_n dload_135 rfl (by decide) (L2 := [(3, (0, 0)), (0, (2, ((0 : Nat) : Int))), (1, (0, a1)), (2, (0, x2))]) rfl ?_
                refine ja_iload_n dload_136 rfl rfl ?_
                refine ja_if_eq 153 dload_137 rfl ⟨by decide, by decide⟩ (fun c137 => ?_) (fun c137 => absurd c137 (by omega))
                refine ja_aload_n dload_153 rfl rfl ?_
                refine ja_iconst dload_154 ?_
                refine ja_iload_n dload_155 rfl rfl ?_
                refine t_judge (by decide) (show (0 : Nat) ≤ 8 by decide) dload_156 gu ⟨by decide, by decide⟩ ⟨by omega, by omega⟩ (show 1 ≤ 5 ∧ 5 ≤ 8 by omega) (show 0 ≤ a1 ∧ a1 ≤ 900 by omega) ?_
                intro w23 w24 k156_0 g25
                replace k156_0 : 1 ≤ w23 ∧ w23 ≤ 8 ∧ -2147483648 ≤ w24 ∧ w24 ≤ 2147483647 := k156_0
                replace g25 : mo_G Zz (ja_up (ja_up (ja_up h 0 19 1) 0 11 w23) 0 12 w24) := g25
                show mJ l D cA ad 2 cX12_load 5 none 159 [(3, (0, 0)), (0, (2, ((0 : Nat) : Int))), (1, (0, a1)), (2, (0, x2))] [] (ja_up (ja_up (ja_up h 0 19 1) 0 11 w23) 0 12 w24) Q
                refine ja_aload_n dload_159 rfl rfl ?_
                refine ja_bipush 6 dload_160 rfl ?_
                refine ja_iload_n dload_162 rfl rfl ?_
                refine ja_aload_n dload_163 rfl rfl ?_
                refine fg_inAspect (v := h 0 76) rfl dload_164 ?_
                have f26 := gF_inAspect g
                refine t_emit (by decide) (show (0 : Nat) ≤ 8 by decide) dload_167 g25 ⟨by decide, by decide⟩ ⟨by omega, by omega⟩ ⟨by omega, by omega⟩ (show 0 ≤ 6 ∧ 6 ≤ 26 by omega) (show (h 0 113) < 5000 by omega) ?_
                intro g27
                replace g27 : mo_G Zz (ja_up (ja_up (ja_up (ja_up (ja_up (ja_up (ja_up h 0 19 1) 0 11 w23) 0 12 w24) 74 ((h 0 113).toNat) 6) 75 ((h 0 113).toNat) a1) 76 ((h 0 113).toNat) (h 0 76)) 0 113 ((h 0 113) + 1)) := g27
                show mJ l D cA ad 2 cX12_load 5 none 170 [(3, (0, 0)), (0, (2, ((0 : Nat) : Int))), (1, (0, a1)), (2, (0, x2))] [(0, (h 0 113))] (ja_up (ja_up (ja_up (ja_up (ja_up (ja_up (ja_up h 0 19 1) 0 11 w23) 0 12 w24) 74 ((h 0 113).toNat) 6) 75 ((h 0 113).toNat) a1) 76 ((h 0 113).toNat) (h 0 76)) 0 113 ((h 0 113) + 1)) Q
                refine ja_istore dload_170 (by decide) (L2 := [(4, (0, (h 0 113))), (3, (0, 0)), (0, (2, ((0 : Nat) : Int))), (1, (0, a1)), (2, (0, x2))]) rfl ?_
                refine ja_return dload_172 rfl ?_
                first | (have hE : ja_up (ja_up (ja_up (ja_up (ja_up (ja_up (ja_up h 0 19 1) 0 11 w23) 0 12 w24) 74 ((h 0 113).toNat) 6) 75 ((h 0 113).toNat) a1) 76 ((h 0 113).toNat) (h 0 76)) 0 113 ((h 0 113) + 1) = ja_up (ja_up (ja_up (ja_up (ja_up h 0 19 1) 74 ((h 0 113).toNat) 4) 75 ((h 0 113).toNat) a1) 76 ((h 0 113).toNat) 0) 0 113 ((h 0 113) + 1) := by funext k j; simp only [ja_up]; repeat' split <;> simp_all; rw [hE]; exact k1 a1 (by omega) (by rw [← hE]; exact g27)) | (have hE : ja_up (ja_up (ja_up (ja_up (ja_up (ja_up (ja_up h 0 19 1) 0 11 w23) 0 12 w24) 74 ((h 0 113).toNat) 6) 75 ((h 0 113).toNat) a1) 76 ((h 0 113).toNat) (h 0 76)) 0 113 ((h 0 113) + 1) = ja_up (ja_up (ja_up (ja_up (ja_up (ja_up (ja_up (ja_up (ja_up h 0 19 1) 45 ((h 0 68).toNat) 1) 44 ((h 0 68).toNat) a1) 46 ((h 0 68).toNat) (h 0 76)) 0 68 ((h 0 68) + 1)) 74 ((h 0 113).toNat) 6) 75 ((h 0 113).toNat) a1) 76 ((h 0 113).toNat) (h 0 76)) 0 113 ((h 0 113) + 1) := by funext k j; simp only [ja_up]; repeat' split <;> simp_all; rw [hE]; exact k2 (by omega) (by rw [← hE]; exact g27)) | (exact k3 w23 w24 (by omega) g27)
              · refine ja_iconst dload_130 ?_
                refine ja_goto 135 dload_131 rfl ?_
                refine ja_istore_n dload_135 rfl (by decide) (L2 := [(3, (0, 1)), (0, (2, ((0 : Nat) : Int))), (1, (0, a1)), (2, (0, x2))]) rfl ?_
                refine ja_iload_n dload_136 rfl rfl ?_
                refine ja_if_eq 153 dload_137 rfl ⟨by decide, by decide⟩ (fun c137 => absurd c137 (by omega)) (fun c137 => ?_)
                refine ja_aload_n dload_140 rfl rfl ?_
                refine ja_iconst dload_141 ?_
                refine ja_iload_n dload_142 rfl rfl ?_
                refine ja_aload_n dload_143 rfl rfl ?_
                refine fg_inAspect (v := h 0 76) rfl dload_144 ?_
                have f28 := gF_inAspect g
                refine t_want (by decide) (show (0 : Nat) ≤ 8 by decide) dload_147 gu ⟨by decide, by decide⟩ ⟨by omega, by omega⟩ ⟨by omega, by omega⟩ (show 0 ≤ 1 ∧ 1 ≤ 1 by omega) (show 0 ≤ a1 ∧ a1 ≤ 900 by omega) (show 0 ≤ (h 0 76) ∧ (h 0 76) ≤ 7 by omega) (show (h 0 68) < 900 by omega) ?_
                intro g29
                replace g29 : mo_G Zz (ja_up (ja_up (ja_up (ja_up (ja_up h 0 19 1) 45 ((h 0 68).toNat) 1) 44 ((h 0 68).toNat) a1) 46 ((h 0 68).toNat) (h 0 76)) 0 68 ((h 0 68) + 1)) := g29
                show mJ l D cA ad 2 cX12_load 5 none 150 [(3, (0, 1)), (0, (2, ((0 : Nat) : Int))), (1, (0, a1)), (2, (0, x2))] [] (ja_up (ja_up (ja_up (ja_up (ja_up h 0 19 1) 45 ((h 0 68).toNat) 1) 44 ((h 0 68).toNat) a1) 46 ((h 0 68).toNat) (h 0 76)) 0 68 ((h 0 68) + 1)) Q
                refine ja_goto 159 dload_150 rfl ?_
                refine ja_aload_n dload_159 rfl rfl ?_
                refine ja_bipush 6 dload_160 rfl ?_
                refine ja_iload_n dload_162 rfl rfl ?_
                refine ja_aload_n dload_163 rfl rfl ?_
                refine fg_inAspect (v := h 0 76) rfl dload_164 ?_
                refine t_emit (by decide) (show (0 : Nat) ≤ 8 by decide) dload_167 g29 ⟨by decide, by decide⟩ ⟨by omega, by omega⟩ ⟨by omega, by omega⟩ (show 0 ≤ 6 ∧ 6 ≤ 26 by omega) (show (h 0 113) < 5000 by omega) ?_
                intro g30
                replace g30 : mo_G Zz (ja_up (ja_up (ja_up (ja_up (ja_up (ja_up (ja_up (ja_up (ja_up h 0 19 1) 45 ((h 0 68).toNat) 1) 44 ((h 0 68).toNat) a1) 46 ((h 0 68).toNat) (h 0 76)) 0 68 ((h 0 68) + 1)) 74 ((h 0 113).toNat) 6) 75 ((h 0 113).toNat) a1) 76 ((h 0 113).toNat) (h 0 76)) 0 113 ((h 0 113) + 1)) := g30
                show mJ l D cA ad 2 cX12_load 5 none 170 [(3, (0, 1)), (0, (2, ((0 : Nat) : Int))), (1, (0, a1)), (2, (0, x2))] [(0, (h 0 113))] (ja_up (ja_up (ja_up (ja_up (ja_up (ja_up (ja_up (ja_up (ja_up h 0 19 1) 45 ((h 0 68).toNat) 1) 44 ((h 0 68).toNat) a1) 46 ((h 0 68).toNat) (h 0 76)) 0 68 ((h 0 68) + 1)) 74 ((h 0 113).toNat) 6) 75 ((h 0 113).toNat) a1) 76 ((h 0 113).toNat) (h 0 76)) 0 113 ((h 0 113) + 1)) Q
                refine ja_istore dload_170 (by decide) (L2 := [(4, (0, (h 0 113))), (3, (0, 1)), (0, (2, ((0 : Nat) : Int))), (1, (0, a1)), (2, (0, x2))]) rfl ?_
                refine ja_return dload_172 rfl ?_
                first | (have hE : ja_up (ja_up (ja_up (ja_up (ja_up (ja_up (ja_up (ja_up (ja_up h 0 19 1) 45 ((h 0 68).toNat) 1) 44 ((h 0 68).toNat) a1) 46 ((h 0 68).toNat) (h 0 76)) 0 68 ((h 0 68) + 1)) 74 ((h 0 113).toNat) 6) 75 ((h 0 113).toNat) a1) 76 ((h 0 113).toNat) (h 0 76)) 0 113 ((h 0 113) + 1) = ja_up (ja_up (ja_up (ja_up (ja_up h 0 19 1) 74 ((h 0 113).toNat) 4) 75 ((h 0 113).toNat) a1) 76 ((h 0 113).toNat) 0) 0 113 ((h 0 113) + 1) := by funext k j; simp only [ja_up]; repeat' split <;> simp_all; rw [hE]; exact k1 a1 (by omega) (by rw [← hE]; exact g30)) | (exact k2 (by omega) g30) | (have hE : ja_up (ja_up (ja_up (ja_up (ja_up (ja_up (ja_up (ja_up (ja_up h 0 19 1) 45 ((h 0 68).toNat) 1) 44 ((h 0 68).toNat) a1) 46 ((h 0 68).toNat) (h 0 76)) 0 68 ((h 0 68) + 1)) 74 ((h 0 113).toNat) 6) 75 ((h 0 113).toNat) a1) 76 ((h 0 113).toNat) (h 0 76)) 0 113 ((h 0 113) + 1) = ja_up (ja_up (ja_up (ja_up (ja_up (ja_up (ja_up h 0 19 1) 0 11 (h 0 11)) 0 12 (h 0 12)) 74 ((h 0 113).toNat) 6) 75 ((h 0 113).toNat) a1) 76 ((h 0 113).toNat) (h 0 76)) 0 113 ((h 0 113) + 1) := by funext k j; simp only [ja_up]; repeat' split <;> simp_all; rw [hE]; exact k3 (h 0 11) (h 0 12) (by omega) (by rw [← hE]; exact g30))
          · refine ja_aload_n dload_103 rfl rfl ?_
            refine ja_iconst dload_104 ?_
            refine ja_iload_n dload_105 rfl rfl ?_
            refine ja_iconst dload_106 ?_
            refine t_emit (by decide) (show (0 : Nat) ≤ 8 by decide) dload_107 gu ⟨by decide, by decide⟩ ⟨by omega, by omega⟩ ⟨by decide, by decide⟩ (show 0 ≤ 4 ∧ 4 ≤ 26 by omega) (show (h 0 113) < 5000 by omega) ?_
            intro g31
            replace g31 : mo_G Zz (ja_up (ja_up (ja_up (ja_up (ja_up h 0 19 1) 74 ((h 0 113).toNat) 4) 75 ((h 0 113).toNat) x2) 76 ((h 0 113).toNat) 0) 0 113 ((h 0 113) + 1)) := g31
            show mJ l D cA ad 2 cX12_load 5 none 110 [(0, (2, ((0 : Nat) : Int))), (1, (0, a1)), (2, (0, x2)), (3, (0, x3))] [(0, (h 0 113))] (ja_up (ja_up (ja_up (ja_up (ja_up h 0 19 1) 74 ((h 0 113).toNat) 4) 75 ((h 0 113).toNat) x2) 76 ((h 0 113).toNat) 0) 0 113 ((h 0 113) + 1)) Q
            refine ja_istore_n dload_110 rfl (by decide) (L2 := [(3, (0, (h 0 113))), (0, (2, ((0 : Nat) : Int))), (1, (0, a1)), (2, (0, x2))]) rfl ?_
            refine ja_goto 172 dload_111 rfl ?_
            refine ja_return dload_172 rfl ?_
            first | (exact k1 x2 (by omega) g31) | (have hE : ja_up (ja_up (ja_up (ja_up (ja_up h 0 19 1) 74 ((h 0 113).toNat) 4) 75 ((h 0 113).toNat) x2) 76 ((h 0 113).toNat) 0) 0 113 ((h 0 113) + 1) = ja_up (ja_up (ja_up (ja_up (ja_up (ja_up (ja_up (ja_up (ja_up h 0 19 1) 45 ((h 0 68).toNat) 1) 44 ((h 0 68).toNat) a1) 46 ((h 0 68).toNat) (h 0 76)) 0 68 ((h 0 68) + 1)) 74 ((h 0 113).toNat) 6) 75 ((h 0 113).toNat) a1) 76 ((h 0 113).toNat) (h 0 76)) 0 113 ((h 0 113) + 1) := by funext k j; simp only [ja_up]; repeat' split <;> simp_all; rw [hE]; exact k2 (by omega) (by rw [← hE]; exact g31)) | (have hE : ja_up (ja_up (ja_up (ja_up (ja_up h 0 19 1) 74 ((h 0 113).toNat) 4) 75 ((h 0 113).toNat) x2) 76 ((h 0 113).toNat) 0) 0 113 ((h 0 113) + 1) = ja_up (ja_up (ja_up (ja_up (ja_up (ja_up (ja_up h 0 19 1) 0 11 (h 0 11)) 0 12 (h 0 12)) 74 ((h 0 113).toNat) 6) 75 ((h 0 113).toNat) a1) 76 ((h 0 113).toNat) (h 0 76)) 0 113 ((h 0 113) + 1) := by funext k j; simp only [ja_up]; repeat' split <;> simp_all; rw [hE]; exact k3 (h 0 11) (h 0 12) (by omega) (by rw [← hE]; exact g31))
        · refine ja_aload_n dload_68 rfl rfl ?_
          refine fa_knownName dload_69 ?_
          refine ja_iload_n dload_72 rfl rfl ?_
          refine il_knownName (v := h 49 (x3).toNat) rfl ⟨by omega, by omega⟩ dload_73 ?_
          have f32 := gC_knownName g (x3).toNat
          refine ja_aload_n dload_74 rfl rfl ?_
          refine ja_iload_n dload_75 rfl rfl ?_
          refine t_id (by decide) (show (1 : Nat) ≤ 8 by decide) dload_76 gu ⟨by omega, by omega⟩ (show 0 ≤ a1 ∧ a1 ≤ 900 by omega) ?_
          intro k76_0
          replace k76_0 : -2147483648 ≤ (h 5 (a1).toNat) ∧ (h 5 (a1).toNat) ≤ 2147483647 := k76_0
          show mJ l D cA ad 2 cX12_load 5 none 79 [(0, (2, ((0 : Nat) : Int))), (1, (0, a1)), (2, (0, x2)), (3, (0, x3))] [(0, (h 5 (a1).toNat)), (0, (h 49 (x3).toNat))] (ja_up h 0 19 1) Q
          refine ja_icmp_ne 91 dload_79 rfl ⟨by omega, by omega⟩ ⟨by omega, by omega⟩ (fun c79 => ?_) (fun c79 => ?_)
          · refine ja_iload_n dload_91 rfl rfl ?_
            refine ja_istore_n dload_92 rfl (by decide) (L2 := [(2, (0, x2)), (0, (2, ((0 : Nat) : Int))), (1, (0, a1)), (3, (0, x3))]) rfl ?_
            refine ja_iinc dload_93 rfl (by decide) (L2 := [(3, (0, (x3 + 1))), (2, (0, x2)), (0, (2, ((0 : Nat) : Int))), (1, (0, a1))]) rfl ?_
            refine ja_goto 60 dload_96 rfl ?_
            exact ja_wk (fun q hq => by simp only [List.mem_cons, List.not_mem_nil, or_false] at hq; rcases hq with rfl | rfl | rfl | rfl <;> rfl) ((ih ((100 - (x3 + 1)).toNat) (by omega)).2 x2 (x3 + 1) gu ⟨by omega, by omega⟩ ⟨by omega, by omega⟩ (show 0 ≤ (x3 + 1) ∧ (x3 + 1) ≤ (h 0 79) ∧ -1 ≤ x2 ∧ x2 ≤ 15 ∧ ¬ (h 0 86) = 1 by omega) rfl)
          · refine ja_aload_n dload_82 rfl rfl ?_
            refine fa_knownSlot dload_83 ?_
            refine ja_iload_n dload_86 rfl rfl ?_
            refine il_knownSlot (v := h 50 (x3).toNat) rfl ⟨by omega, by omega⟩ dload_87 ?_
            have f33 := gC_knownSlot g (x3).toNat
            refine ja_goto 92 dload_88 rfl ?_
            refine ja_istore_n dload_92 rfl (by decide) (L2 := [(2, (0, (h 50 (x3).toNat))), (0, (2, ((0 : Nat) : Int))), (1, (0, a1)), (3, (0, x3))]) rfl ?_
            refine ja_iinc dload_93 rfl (by decide) (L2 := [(3, (0, (x3 + 1))), (2, (0, (h 50 (x3).toNat))), (0, (2, ((0 : Nat) : Int))), (1, (0, a1))]) rfl ?_
            refine ja_goto 60 dload_96 rfl ?_
            exact ja_wk (fun q hq => by simp only [List.mem_cons, List.not_mem_nil, or_false] at hq; rcases hq with rfl | rfl | rfl | rfl <;> rfl) ((ih ((100 - (x3 + 1)).toNat) (by omega)).2 (h 50 (x3).toNat) (x3 + 1) gu ⟨by omega, by omega⟩ ⟨by omega, by omega⟩ (show 0 ≤ (x3 + 1) ∧ (x3 + 1) ≤ (h 0 79) ∧ -1 ≤ (h 50 (x3).toNat) ∧ (h 50 (x3).toNat) ≤ 15 ∧ ¬ (h 0 86) = 1 by omega) rfl)
  refine ja_aload_n dload_0 rfl rfl ?_
  refine ja_iconst dload_1 ?_
  have g34 := gP_form g (x := 1) ⟨by decide, by decide⟩
  refine fp_form dload_2 ?_
  refine ja_iconst dload_5 ?_
  refine ja_istore_n dload_6 rfl (by decide) (L2 := [(2, (0, (-1))), (0, (2, ((0 : Nat) : Int))), (1, (0, a1))]) rfl ?_
  refine ja_aload_n dload_7 rfl rfl ?_
  refine fg_inIf (v := h 0 86) rfl dload_8 ?_
  have f35 := gF_inIf g
  refine ja_iconst dload_11 ?_
  refine ja_icmp_ne 58 dload_12 rfl ⟨by omega, by omega⟩ ⟨by decide, by decide⟩ (fun c12 => ?_) (fun c12 => ?_)
  · refine ja_iconst dload_58 ?_
    refine ja_istore_n dload_59 rfl (by decide) (L2 := [(3, (0, 0)), (2, (0, (-1))), (0, (2, ((0 : Nat) : Int))), (1, (0, a1))]) rfl ?_
    exact ja_wk (fun q hq => by simp only [List.mem_cons, List.not_mem_nil, or_false] at hq; rcases hq with rfl | rfl | rfl | rfl <;> rfl) ((CUT _).2 (-1) 0 g34 ⟨by decide, by decide⟩ ⟨by decide, by decide⟩ (show 0 ≤ 0 ∧ 0 ≤ (h 0 79) ∧ -1 ≤ (-1) ∧ (-1) ≤ 15 ∧ ¬ (h 0 86) = 1 by omega) rfl)
  · refine ja_iconst dload_15 ?_
    refine ja_istore_n dload_16 rfl (by decide) (L2 := [(3, (0, 0)), (2, (0, (-1))), (0, (2, ((0 : Nat) : Int))), (1, (0, a1))]) rfl ?_
    exact ja_wk (fun q hq => by simp only [List.mem_cons, List.not_mem_nil, or_false] at hq; rcases hq with rfl | rfl | rfl | rfl <;> rfl) ((CUT _).1 (-1) 0 g34 ⟨by decide, by decide⟩ ⟨by decide, by decide⟩ (show 0 ≤ 0 ∧ 0 ≤ (h 0 82) ∧ -1 ≤ (-1) ∧ (-1) ≤ 6 by omega) rfl)
theorem t_load {a1 : Int} {d nL pc : Nat} {cc : ByteArray} {rt : Option FieldType} {L : List (Nat × ja_V)} {S : List ja_V} {h : ja_H} {Q : Option ja_V → ja_H → Prop} (hdd : 2 < d) (hwd : ja_wd S ≤ 8) (hd : decode cc pc = .ok (.invokevirtual 866, 3)) (g : mo_G Zz h) (r1 : -2147483648 ≤ a1 ∧ a1 ≤ 2147483647) (p1 : 0 ≤ a1 ∧ a1 ≤ 900) (p2 : (h 0 113) < 5000) (p3 : (h 0 68) < 900) (k1 : ∀ (v : Int), (0 ≤ v ∧ v ≤ 15 ∧ ((h 0 86) = 1 → v ≤ 6)) → mo_G Zz (ja_up (ja_up (ja_up (ja_up (ja_up h 0 19 1) 74 (((h 0 113)).toNat) 4) 75 (((h 0 113)).toNat) v) 76 (((h 0 113)).toNat) 0) 0 113 ((h 0 113) + 1)) → mJ l D cA ad d cc nL rt (pc + 3) L S (ja_up (ja_up (ja_up (ja_up (ja_up h 0 19 1) 74 (((h 0 113)).toNat) 4) 75 (((h 0 113)).toNat) v) 76 (((h 0 113)).toNat) 0) 0 113 ((h 0 113) + 1)) Q) (k2 : ((h 0 86) = 1 ∨ 2 ≤ (h 0 74)) → mo_G Zz (ja_up (ja_up (ja_up (ja_up (ja_up (ja_up (ja_up (ja_up (ja_up h 0 19 1) 45 (((h 0 68)).toNat) 1) 44 (((h 0 68)).toNat) a1) 46 (((h 0 68)).toNat) (h 0 76)) 0 68 ((h 0 68) + 1)) 74 (((h 0 113)).toNat) 6) 75 (((h 0 113)).toNat) a1) 76 (((h 0 113)).toNat) (h 0 76)) 0 113 ((h 0 113) + 1)) → mJ l D cA ad d cc nL rt (pc + 3) L S (ja_up (ja_up (ja_up (ja_up (ja_up (ja_up (ja_up (ja_up (ja_up h 0 19 1) 45 (((h 0 68)).toNat) 1) 44 (((h 0 68)).toNat) a1) 46 (((h 0 68)).toNat) (h 0 76)) 0 68 ((h 0 68) + 1)) 74 (((h 0 113)).toNat) 6) 75 (((h 0 113)).toNat) a1) 76 (((h 0 113)).toNat) (h 0 76)) 0 113 ((h 0 113) + 1)) Q) (k3 : ∀ (f p : Int), (1 ≤ f ∧ f ≤ 8 ∧ -2147483648 ≤ p ∧ p ≤ 2147483647) → mo_G Zz (ja_up (ja_up (ja_up (ja_up (ja_up (ja_up (ja_up h 0 19 1) 0 11 f) 0 12 p) 74 (((h 0 113)).toNat) 6) 75 (((h 0 113)).toNat) a1) 76 (((h 0 113)).toNat) (h 0 76)) 0 113 ((h 0 113) + 1)) → mJ l D cA ad d cc nL rt (pc + 3) L S (ja_up (ja_up (ja_up (ja_up (ja_up (ja_up (ja_up h 0 19 1) 0 11 f) 0 12 p) 74 (((h 0 113)).toNat) 6) 75 (((h 0 113)).toNat) a1) 76 (((h 0 113)).toNat) (h 0 76)) 0 113 ((h 0 113) + 1)) Q) : mJ l D cA ad d cc nL rt pc L ((0, a1) :: (2, ((0 : Nat) : Int)) :: S) h Q :=
  mc_load hdd hwd hd (s_load g r1 p1 p2 p3 k1 k2 k3)
end
theorem djoined_0 : decode cX12_joined 0 = .ok (.aload_n 0, 1) := by decide +kernel
theorem djoined_1 : decode cX12_joined 1 = .ok (.dup, 1) := by decide +kernel
theorem djoined_2 : decode cX12_joined 2 = .ok (.getfield 689, 3) := by decide +kernel
theorem djoined_5 : decode cX12_joined 5 = .ok (.iconst 1, 1) := by decide +kernel
theorem djoined_6 : decode cX12_joined 6 = .ok (.isub, 1) := by decide +kernel
theorem djoined_7 : decode cX12_joined 7 = .ok (.putfield 689, 3) := by decide +kernel
theorem djoined_10 : decode cX12_joined 10 = .ok (.aload_n 0, 1) := by decide +kernel
theorem djoined_11 : decode cX12_joined 11 = .ok (.getfield 218, 3) := by decide +kernel
theorem djoined_14 : decode cX12_joined 14 = .ok (.aload_n 0, 1) := by decide +kernel
theorem djoined_15 : decode cX12_joined 15 = .ok (.getfield 689, 3) := by decide +kernel
theorem djoined_18 : decode cX12_joined 18 = .ok (.iaload, 1) := by decide +kernel
theorem djoined_19 : decode cX12_joined 19 = .ok (.istore_n 2, 1) := by decide +kernel
theorem djoined_20 : decode cX12_joined 20 = .ok (.aload_n 0, 1) := by decide +kernel
theorem djoined_21 : decode cX12_joined 21 = .ok (.getfield 218, 3) := by decide +kernel
theorem djoined_24 : decode cX12_joined 24 = .ok (.aload_n 0, 1) := by decide +kernel
theorem djoined_25 : decode cX12_joined 25 = .ok (.getfield 689, 3) := by decide +kernel
theorem djoined_28 : decode cX12_joined 28 = .ok (.iconst 1, 1) := by decide +kernel
theorem djoined_29 : decode cX12_joined 29 = .ok (.isub, 1) := by decide +kernel
theorem djoined_30 : decode cX12_joined 30 = .ok (.iaload, 1) := by decide +kernel
theorem djoined_31 : decode cX12_joined 31 = .ok (.istore_n 3, 1) := by decide +kernel
theorem djoined_32 : decode cX12_joined 32 = .ok (.aload_n 0, 1) := by decide +kernel
theorem djoined_33 : decode cX12_joined 33 = .ok (.iload_n 1, 1) := by decide +kernel
theorem djoined_34 : decode cX12_joined 34 = .ok (.iload_n 3, 1) := by decide +kernel
theorem djoined_35 : decode cX12_joined 35 = .ok (.iload_n 2, 1) := by decide +kernel
theorem djoined_36 : decode cX12_joined 36 = .ok (.aload_n 0, 1) := by decide +kernel
theorem djoined_37 : decode cX12_joined 37 = .ok (.getfield 574, 3) := by decide +kernel
theorem djoined_40 : decode cX12_joined 40 = .ok (.invokevirtual 878, 3) := by decide +kernel
theorem djoined_43 : decode cX12_joined 43 = .ok (.istore 4, 2) := by decide +kernel
theorem djoined_45 : decode cX12_joined 45 = .ok (.iload_n 1, 1) := by decide +kernel
theorem djoined_46 : decode cX12_joined 46 = .ok (.bipush 13, 2) := by decide +kernel
theorem djoined_48 : decode cX12_joined 48 = .ok (.if_icmp .ne 27, 3) := by decide +kernel
theorem djoined_51 : decode cX12_joined 51 = .ok (.aload_n 0, 1) := by decide +kernel
theorem djoined_52 : decode cX12_joined 52 = .ok (.getfield 203, 3) := by decide +kernel
theorem djoined_55 : decode cX12_joined 55 = .ok (.iload_n 3, 1) := by decide +kernel
theorem djoined_56 : decode cX12_joined 56 = .ok (.iaload, 1) := by decide +kernel
theorem djoined_57 : decode cX12_joined 57 = .ok (.aload_n 0, 1) := by decide +kernel
theorem djoined_58 : decode cX12_joined 58 = .ok (.getfield 203, 3) := by decide +kernel
theorem djoined_61 : decode cX12_joined 61 = .ok (.iload_n 2, 1) := by decide +kernel
theorem djoined_62 : decode cX12_joined 62 = .ok (.iaload, 1) := by decide +kernel
theorem djoined_63 : decode cX12_joined 63 = .ok (.iand, 1) := by decide +kernel
theorem djoined_64 : decode cX12_joined 64 = .ok (.ifCond .eq 7, 3) := by decide +kernel
theorem djoined_67 : decode cX12_joined 67 = .ok (.iconst 1, 1) := by decide +kernel
theorem djoined_68 : decode cX12_joined 68 = .ok (.goto 27, 3) := by decide +kernel
theorem djoined_71 : decode cX12_joined 71 = .ok (.iconst 0, 1) := by decide +kernel
theorem djoined_72 : decode cX12_joined 72 = .ok (.goto 23, 3) := by decide +kernel
theorem djoined_75 : decode cX12_joined 75 = .ok (.aload_n 0, 1) := by decide +kernel
theorem djoined_76 : decode cX12_joined 76 = .ok (.getfield 203, 3) := by decide +kernel
theorem djoined_79 : decode cX12_joined 79 = .ok (.iload_n 3, 1) := by decide +kernel
theorem djoined_80 : decode cX12_joined 80 = .ok (.iaload, 1) := by decide +kernel
theorem djoined_81 : decode cX12_joined 81 = .ok (.aload_n 0, 1) := by decide +kernel
theorem djoined_82 : decode cX12_joined 82 = .ok (.getfield 203, 3) := by decide +kernel
theorem djoined_85 : decode cX12_joined 85 = .ok (.iload_n 2, 1) := by decide +kernel
theorem djoined_86 : decode cX12_joined 86 = .ok (.iaload, 1) := by decide +kernel
theorem djoined_87 : decode cX12_joined 87 = .ok (.if_icmp .eq 7, 3) := by decide +kernel
theorem djoined_90 : decode cX12_joined 90 = .ok (.iconst 1, 1) := by decide +kernel
theorem djoined_91 : decode cX12_joined 91 = .ok (.goto 4, 3) := by decide +kernel
theorem djoined_94 : decode cX12_joined 94 = .ok (.iconst 0, 1) := by decide +kernel
theorem djoined_95 : decode cX12_joined 95 = .ok (.istore 5, 2) := by decide +kernel
theorem djoined_97 : decode cX12_joined 97 = .ok (.aload_n 0, 1) := by decide +kernel
theorem djoined_98 : decode cX12_joined 98 = .ok (.getfield 206, 3) := by decide +kernel
theorem djoined_101 : decode cX12_joined 101 = .ok (.iload 4, 2) := by decide +kernel
theorem djoined_103 : decode cX12_joined 103 = .ok (.aload_n 0, 1) := by decide +kernel
theorem djoined_104 : decode cX12_joined 104 = .ok (.getfield 206, 3) := by decide +kernel
theorem djoined_107 : decode cX12_joined 107 = .ok (.iload_n 3, 1) := by decide +kernel
theorem djoined_108 : decode cX12_joined 108 = .ok (.baload, 1) := by decide +kernel
theorem djoined_109 : decode cX12_joined 109 = .ok (.ifCond .ne 17, 3) := by decide +kernel
theorem djoined_112 : decode cX12_joined 112 = .ok (.aload_n 0, 1) := by decide +kernel
theorem djoined_113 : decode cX12_joined 113 = .ok (.getfield 206, 3) := by decide +kernel
theorem djoined_116 : decode cX12_joined 116 = .ok (.iload_n 2, 1) := by decide +kernel
theorem djoined_117 : decode cX12_joined 117 = .ok (.baload, 1) := by decide +kernel
theorem djoined_118 : decode cX12_joined 118 = .ok (.ifCond .ne 8, 3) := by decide +kernel
theorem djoined_121 : decode cX12_joined 121 = .ok (.iload 5, 2) := by decide +kernel
theorem djoined_123 : decode cX12_joined 123 = .ok (.ifCond .eq 7, 3) := by decide +kernel
theorem djoined_126 : decode cX12_joined 126 = .ok (.iconst 1, 1) := by decide +kernel
theorem djoined_127 : decode cX12_joined 127 = .ok (.goto 4, 3) := by decide +kernel
theorem djoined_130 : decode cX12_joined 130 = .ok (.iconst 0, 1) := by decide +kernel
theorem djoined_131 : decode cX12_joined 131 = .ok (.bastore, 1) := by decide +kernel
theorem djoined_132 : decode cX12_joined 132 = .ok (.aload_n 0, 1) := by decide +kernel
theorem djoined_133 : decode cX12_joined 133 = .ok (.getfield 203, 3) := by decide +kernel
theorem djoined_136 : decode cX12_joined 136 = .ok (.iload 4, 2) := by decide +kernel
theorem djoined_138 : decode cX12_joined 138 = .ok (.aload_n 0, 1) := by decide +kernel
theorem djoined_139 : decode cX12_joined 139 = .ok (.getfield 203, 3) := by decide +kernel
theorem djoined_142 : decode cX12_joined 142 = .ok (.iload_n 3, 1) := by decide +kernel
theorem djoined_143 : decode cX12_joined 143 = .ok (.iaload, 1) := by decide +kernel
theorem djoined_144 : decode cX12_joined 144 = .ok (.aload_n 0, 1) := by decide +kernel
theorem djoined_145 : decode cX12_joined 145 = .ok (.getfield 203, 3) := by decide +kernel
theorem djoined_148 : decode cX12_joined 148 = .ok (.iload_n 2, 1) := by decide +kernel
theorem djoined_149 : decode cX12_joined 149 = .ok (.iaload, 1) := by decide +kernel
theorem djoined_150 : decode cX12_joined 150 = .ok (.ior, 1) := by decide +kernel
theorem djoined_151 : decode cX12_joined 151 = .ok (.iastore, 1) := by decide +kernel
theorem djoined_152 : decode cX12_joined 152 = .ok (.aload_n 0, 1) := by decide +kernel
theorem djoined_153 : decode cX12_joined 153 = .ok (.getfield 218, 3) := by decide +kernel
theorem djoined_156 : decode cX12_joined 156 = .ok (.aload_n 0, 1) := by decide +kernel
theorem djoined_157 : decode cX12_joined 157 = .ok (.getfield 689, 3) := by decide +kernel
theorem djoined_160 : decode cX12_joined 160 = .ok (.iconst 1, 1) := by decide +kernel
theorem djoined_161 : decode cX12_joined 161 = .ok (.isub, 1) := by decide +kernel
theorem djoined_162 : decode cX12_joined 162 = .ok (.iload 4, 2) := by decide +kernel
theorem djoined_164 : decode cX12_joined 164 = .ok (.iastore, 1) := by decide +kernel
theorem djoined_165 : decode cX12_joined 165 = .ok (.iconst 1, 1) := by decide +kernel
theorem djoined_166 : decode cX12_joined 166 = .ok (.ireturn, 1) := by decide +kernel
section
variable {l : Launch} {D : va_G} {cA : Nat → ClassId} {ad : Nat → Nat}
theorem s_joined {a1 : Int} {h : ja_H} {Q : Option ja_V → ja_H → Prop} (g : mo_G Zz h) (r1 : -2147483648 ≤ a1 ∧ a1 ≤ 2147483647) (p1 : a1 = 13 ∨ a1 = 14) (p2 : 2 ≤ (h 0 109)) (p3 : (h 0 95) < 900) (k1 : ∀ (ip tw b : Int), (((ip = 1 ∧ (h 0 85) = 1) ∨ (ip = 0 ∧ (h 0 85) = 0)) ∧ 0 ≤ tw ∧ tw ≤ 1) → mo_G Zz (ja_up (ja_up (ja_up (ja_up (ja_up (ja_up (ja_up (ja_up (ja_up (ja_up (ja_up (ja_up (ja_up (ja_up h 0 109 ((h 0 109) - 1)) 0 95 ((h 0 95) + 1)) 58 (((h 0 95)).toNat) a1) 59 (((h 0 95)).toNat) (h 70 ((h 0 109) - 1 - 1).toNat)) 60 (((h 0 95)).toNat) (h 70 ((h 0 109) - 1).toNat)) 61 (((h 0 95)).toNat) (h 0 7)) 62 (((h 0 95)).toNat) 0) 64 (((h 0 95)).toNat) (h 0 76)) 65 (((h 0 95)).toNat) 0) 66 (((h 0 95)).toNat) 0) 67 (((h 0 95)).toNat) ip) 66 (((h 0 95)).toNat) tw) 65 (((h 0 95)).toNat) b) 70 (((h 0 109) - 1 - 1).toNat) (h 0 95)) → Q (some (0, 1)) (ja_up (ja_up (ja_up (ja_up (ja_up (ja_up (ja_up (ja_up (ja_up (ja_up (ja_up (ja_up (ja_up (ja_up h 0 109 ((h 0 109) - 1)) 0 95 ((h 0 95) + 1)) 58 (((h 0 95)).toNat) a1) 59 (((h 0 95)).toNat) (h 70 ((h 0 109) - 1 - 1).toNat)) 60 (((h 0 95)).toNat) (h 70 ((h 0 109) - 1).toNat)) 61 (((h 0 95)).toNat) (h 0 7)) 62 (((h 0 95)).toNat) 0) 64 (((h 0 95)).toNat) (h 0 76)) 65 (((h 0 95)).toNat) 0) 66 (((h 0 95)).toNat) 0) 67 (((h 0 95)).toNat) ip) 66 (((h 0 95)).toNat) tw) 65 (((h 0 95)).toNat) b) 70 (((h 0 109) - 1 - 1).toNat) (h 0 95))) : mM_joined l D cA ad a1 h Q := by
  show mJ l D cA ad 2 cX12_joined 6 (some .boolean) 0 [(0, (2, ((0 : Nat) : Int))), (1, (0, a1))] [] h Q
  have kn_treeTop := gF_treeTop g
  have kn_nodes := gF_nodes g
  have kn_at := gF_at g
  have kq1 := gC_treePile g ((h 0 109) - 1).toNat
  have kq2 := gC_treePile g ((h 0 109) - 1 - 1).toNat
  refine ja_aload_n djoined_0 rfl rfl ?_
  refine ja_dup djoined_1 (by decide) ?_
  refine fg_treeTop (v := h 0 109) rfl djoined_2 ?_
  have f1 := gF_treeTop g
  refine ja_iconst djoined_5 ?_
  refine ja_isub djoined_6 ?_
  have g2 := gP_treeTop g (x := (h 0 109) - 1) ⟨by omega, by omega⟩
  refine fp_treeTop djoined_7 ?_
  refine ja_aload_n djoined_10 rfl rfl ?_
  refine fa_treePile djoined_11 ?_
  refine ja_aload_n djoined_14 rfl rfl ?_
  refine fg_treeTop (v := (h 0 109) - 1) rfl djoined_15 ?_
  refine il_treePile (v := h 70 ((h 0 109) - 1).toNat) rfl ⟨by omega, by omega⟩ djoined_18 ?_
  have f3 := gC_treePile g ((h 0 109) - 1).toNat
  refine ja_istore_n djoined_19 rfl (by decide) (L2 := [(2, (0, (h 70 ((h 0 109) - 1).toNat))), (0, (2, ((0 : Nat) : Int))), (1, (0, a1))]) rfl ?_
  refine ja_aload_n djoined_20 rfl rfl ?_
  refine fa_treePile djoined_21 ?_
  refine ja_aload_n djoined_24 rfl rfl ?_
  refine fg_treeTop (v := (h 0 109) - 1) rfl djoined_25 ?_
  refine ja_iconst djoined_28 ?_
  refine ja_isub djoined_29 ?_
  refine il_treePile (v := h 70 (((h 0 109) - 1) - 1).toNat) rfl ⟨by omega, by omega⟩ djoined_30 ?_
  have f4 := gC_treePile g (((h 0 109) - 1) - 1).toNat
  refine ja_istore_n djoined_31 rfl (by decide) (L2 := [(3, (0, (h 70 (((h 0 109) - 1) - 1).toNat))), (2, (0, (h 70 ((h 0 109) - 1).toNat))), (0, (2, ((0 : Nat) : Int))), (1, (0, a1))]) rfl ?_
  refine ja_aload_n djoined_32 rfl rfl ?_
  refine ja_iload_n djoined_33 rfl rfl ?_
  refine ja_iload_n djoined_34 rfl rfl ?_
  refine ja_iload_n djoined_35 rfl rfl ?_
  refine ja_aload_n djoined_36 rfl rfl ?_
  refine fg_at (v := h 0 7) rfl djoined_37 ?_
  have f5 := gF_at g
  refine t_node (by decide) (show (0 : Nat) ≤ 8 by decide) djoined_40 g2 ⟨by omega, by omega⟩ ⟨by omega, by omega⟩ ⟨by omega, by omega⟩ ⟨by omega, by omega⟩ (show 0 ≤ a1 ∧ a1 ≤ 15 by omega) (show 0 ≤ (h 0 7) ∧ (h 0 7) ≤ 900 by omega) (show (h 0 95) < 900 by omega) ?_
  intro w6 k40_0 g7
  replace k40_0 : (w6 = 1 ∧ (h 0 85) = 1) ∨ (w6 = 0 ∧ (h 0 85) = 0) := k40_0
  replace g7 : mo_G Zz (ja_up (ja_up (ja_up (ja_up (ja_up (ja_up (ja_up (ja_up (ja_up (ja_up (ja_up h 0 109 ((h 0 109) - 1)) 0 95 ((h 0 95) + 1)) 58 ((h 0 95).toNat) a1) 59 ((h 0 95).toNat) (h 70 (((h 0 109) - 1) - 1).toNat)) 60 ((h 0 95).toNat) (h 70 ((h 0 109) - 1).toNat)) 61 ((h 0 95).toNat) (h 0 7)) 62 ((h 0 95).toNat) 0) 64 ((h 0 95).toNat) (h 0 76)) 65 ((h 0 95).toNat) 0) 66 ((h 0 95).toNat) 0) 67 ((h 0 95).toNat) w6) := g7
  show mJ l D cA ad 2 cX12_joined 6 (some .boolean) 43 [(3, (0, (h 70 (((h 0 109) - 1) - 1).toNat))), (2, (0, (h 70 ((h 0 109) - 1).toNat))), (0, (2, ((0 : Nat) : Int))), (1, (0, a1))] [(0, (h 0 95))] (ja_up (ja_up (ja_up (ja_up (ja_up (ja_up (ja_up (ja_up (ja_up (ja_up (ja_up h 0 109 ((h 0 109) - 1)) 0 95 ((h 0 95) + 1)) 58 ((h 0 95).toNat) a1) 59 ((h 0 95).toNat) (h 70 (((h 0 109) - 1) - 1).toNat)) 60 ((h 0 95).toNat) (h 70 ((h 0 109) - 1).toNat)) 61 ((h 0 95).toNat) (h 0 7)) 62 ((h 0 95).toNat) 0) 64 ((h 0 95).toNat) (h 0 76)) 65 ((h 0 95).toNat) 0) 66 ((h 0 95).toNat) 0) 67 ((h 0 95).toNat) w6) Q
  refine ja_istore djoined_43 (by decide) (L2 := [(4, (0, (h 0 95))), (3, (0, (h 70 (((h 0 109) - 1) - 1).toNat))), (2, (0, (h 70 ((h 0 109) - 1).toNat))), (0, (2, ((0 : Nat) : Int))), (1, (0, a1))]) rfl ?_
  refine ja_iload_n djoined_45 rfl rfl ?_
  refine ja_bipush 13 djoined_46 rfl ?_
  refine ja_icmp_ne 75 djoined_48 rfl ⟨by omega, by omega⟩ ⟨by decide, by decide⟩ (fun c48 => ?_) (fun c48 => ?_)
  · refine ja_aload_n djoined_75 rfl rfl ?_
    refine fa_nodeBinds djoined_76 ?_
    refine ja_iload_n djoined_79 rfl rfl ?_
    refine il_nodeBinds rfl ⟨by omega, by omega⟩ djoined_80 ?_
    have f8 := gC_nodeBinds g7 (h 70 (((h 0 109) - 1) - 1).toNat).toNat
    refine ja_aload_n djoined_81 rfl rfl ?_
    refine fa_nodeBinds djoined_82 ?_
    refine ja_iload_n djoined_85 rfl rfl ?_
    refine il_nodeBinds rfl ⟨by omega, by omega⟩ djoined_86 ?_
    have f9 := gC_nodeBinds g7 (h 70 ((h 0 109) - 1).toNat).toNat
    refine ja_icmp_eq 94 djoined_87 rfl ⟨by omega, by omega⟩ ⟨by omega, by omega⟩ (fun c87 => ?_) (fun c87 => ?_)
    · refine ja_iconst djoined_94 ?_
      refine ja_istore djoined_95 (by decide) (L2 := [(5, (0, 0)), (4, (0, (h 0 95))), (3, (0, (h 70 (((h 0 109) - 1) - 1).toNat))), (2, (0, (h 70 ((h 0 109) - 1).toNat))), (0, (2, ((0 : Nat) : Int))), (1, (0, a1))]) rfl ?_
      refine ja_aload_n djoined_97 rfl rfl ?_
      refine fa_nodeTwice djoined_98 ?_
      refine ja_iload djoined_101 rfl ?_
      refine ja_aload_n djoined_103 rfl rfl ?_
      refine fa_nodeTwice djoined_104 ?_
      refine ja_iload_n djoined_107 rfl rfl ?_
      refine il_nodeTwice rfl ⟨by omega, by omega⟩ djoined_108 ?_
      have f10 := gC_nodeTwice g7 (h 70 (((h 0 109) - 1) - 1).toNat).toNat
      refine ja_if_ne 126 djoined_109 rfl ⟨by omega, by omega⟩ (fun c109 => ?_) (fun c109 => ?_)
      · refine ja_iconst djoined_126 ?_
        refine ja_goto 131 djoined_127 rfl ?_
        have g11 := gW_nodeTwice g7 (h 0 95).toNat (x := 1) ⟨by decide, by decide⟩
        refine is_nodeTwice ⟨by omega, by omega⟩ (by omega) djoined_131 ?_
        refine ja_aload_n djoined_132 rfl rfl ?_
        refine fa_nodeBinds djoined_133 ?_
        refine ja_iload djoined_136 rfl ?_
        refine ja_aload_n djoined_138 rfl rfl ?_
        refine fa_nodeBinds djoined_139 ?_
        refine ja_iload_n djoined_142 rfl rfl ?_
        refine il_nodeBinds rfl ⟨by omega, by omega⟩ djoined_143 ?_
        have f12 := gC_nodeBinds g11 (h 70 (((h 0 109) - 1) - 1).toNat).toNat
        refine ja_aload_n djoined_144 rfl rfl ?_
        refine fa_nodeBinds djoined_145 ?_
        refine ja_iload_n djoined_148 rfl rfl ?_
        refine il_nodeBinds rfl ⟨by omega, by omega⟩ djoined_149 ?_
        have f13 := gC_nodeBinds g11 (h 70 ((h 0 109) - 1).toNat).toNat
        refine mo_hior djoined_150 (fun v14 rv14 => ?_)
        have g15 := gW_nodeBinds g11 (h 0 95).toNat (x := v14) ⟨by omega, by omega⟩
        refine is_nodeBinds ⟨by omega, by omega⟩ djoined_151 ?_
        refine ja_aload_n djoined_152 rfl rfl ?_
        refine fa_treePile djoined_153 ?_
        refine ja_aload_n djoined_156 rfl rfl ?_
        refine fg_treeTop (v := (h 0 109) - 1) rfl djoined_157 ?_
        refine ja_iconst djoined_160 ?_
        refine ja_isub djoined_161 ?_
        refine ja_iload djoined_162 rfl ?_
        have g16 := gW_treePile g15 (((h 0 109) - 1) - 1).toNat (x := h 0 95) ⟨by omega, by omega⟩
        refine is_treePile ⟨by omega, by omega⟩ djoined_164 ?_
        refine ja_iconst djoined_165 ?_
        refine ja_zreturn djoined_166 rfl (by omega) ?_
        have hE : ja_up (ja_up (ja_up (ja_up (ja_up (ja_up (ja_up (ja_up (ja_up (ja_up (ja_up (ja_up (ja_up (ja_up h 0 109 ((h 0 109) - 1)) 0 95 ((h 0 95) + 1)) 58 ((h 0 95).toNat) a1) 59 ((h 0 95).toNat) (h 70 (((h 0 109) - 1) - 1).toNat)) 60 ((h 0 95).toNat) (h 70 ((h 0 109) - 1).toNat)) 61 ((h 0 95).toNat) (h 0 7)) 62 ((h 0 95).toNat) 0) 64 ((h 0 95).toNat) (h 0 76)) 65 ((h 0 95).toNat) 0) 66 ((h 0 95).toNat) 0) 67 ((h 0 95).toNat) w6) 66 ((h 0 95).toNat) 1) 65 ((h 0 95).toNat) v14) 70 ((((h 0 109) - 1) - 1).toNat) (h 0 95) = ja_up (ja_up (ja_up (ja_up (ja_up (ja_up (ja_up (ja_up (ja_up (ja_up (ja_up (ja_up (ja_up (ja_up h 0 109 ((h 0 109) - 1)) 0 95 ((h 0 95) + 1)) 58 ((h 0 95).toNat) a1) 59 ((h 0 95).toNat) (h 70 ((h 0 109) - 1 - 1).toNat)) 60 ((h 0 95).toNat) (h 70 ((h 0 109) - 1).toNat)) 61 ((h 0 95).toNat) (h 0 7)) 62 ((h 0 95).toNat) 0) 64 ((h 0 95).toNat) (h 0 76)) 65 ((h 0 95).toNat) 0) 66 ((h 0 95).toNat) 0) 67 ((h 0 95).toNat) w6) 66 ((h 0 95).toNat) 1) 65 ((h 0 95).toNat) v14) 70 (((h 0 109) - 1 - 1).toNat) (h 0 95) := by funext k j; simp only [ja_up]; repeat' split <;> simp_all
        exact mo_fin (by omega) hE (k1 w6 1 v14 (by omega) (by rw [← hE]; exact g16))
      · refine ja_aload_n djoined_112 rfl rfl ?_
        refine fa_nodeTwice djoined_113 ?_
        refine ja_iload_n djoined_116 rfl rfl ?_
        refine il_nodeTwice rfl ⟨by omega, by omega⟩ djoined_117 ?_
        have f17 := gC_nodeTwice g7 (h 70 ((h 0 109) - 1).toNat).toNat
        refine ja_if_ne 126 djoined_118 rfl ⟨by omega, by omega⟩ (fun c118 => ?_) (fun c118 => ?_)
        · refine ja_iconst djoined_126 ?_
          refine ja_goto 131 djoined_127 rfl ?_
          have g18 := gW_nodeTwice g7 (h 0 95).toNat (x := 1) ⟨by decide, by decide⟩
          refine is_nodeTwice ⟨by omega, by omega⟩ (by omega) djoined_131 ?_
          refine ja_aload_n djoined_132 rfl rfl ?_
          refine fa_nodeBinds djoined_133 ?_
          refine ja_iload djoined_136 rfl ?_
          refine ja_aload_n djoined_138 rfl rfl ?_
          refine fa_nodeBinds djoined_139 ?_
          refine ja_iload_n djoined_142 rfl rfl ?_
          refine il_nodeBinds rfl ⟨by omega, by omega⟩ djoined_143 ?_
          have f19 := gC_nodeBinds g18 (h 70 (((h 0 109) - 1) - 1).toNat).toNat
          refine ja_aload_n djoined_144 rfl rfl ?_
          refine fa_nodeBinds djoined_145 ?_
          refine ja_iload_n djoined_148 rfl rfl ?_
          refine il_nodeBinds rfl ⟨by omega, by omega⟩ djoined_149 ?_
          have f20 := gC_nodeBinds g18 (h 70 ((h 0 109) - 1).toNat).toNat
          refine mo_hior djoined_150 (fun v21 rv21 => ?_)
          have g22 := gW_nodeBinds g18 (h 0 95).toNat (x := v21) ⟨by omega, by omega⟩
          refine is_nodeBinds ⟨by omega, by omega⟩ djoined_151 ?_
          refine ja_aload_n djoined_152 rfl rfl ?_
          refine fa_treePile djoined_153 ?_
          refine ja_aload_n djoined_156 rfl rfl ?_
          refine fg_treeTop (v := (h 0 109) - 1) rfl djoined_157 ?_
          refine ja_iconst djoined_160 ?_
          refine ja_isub djoined_161 ?_
          refine ja_iload djoined_162 rfl ?_
          have g23 := gW_treePile g22 (((h 0 109) - 1) - 1).toNat (x := h 0 95) ⟨by omega, by omega⟩
          refine is_treePile ⟨by omega, by omega⟩ djoined_164 ?_
          refine ja_iconst djoined_165 ?_
          refine ja_zreturn djoined_166 rfl (by omega) ?_
          have hE : ja_up (ja_up (ja_up (ja_up (ja_up (ja_up (ja_up (ja_up (ja_up (ja_up (ja_up (ja_up (ja_up (ja_up h 0 109 ((h 0 109) - 1)) 0 95 ((h 0 95) + 1)) 58 ((h 0 95).toNat) a1) 59 ((h 0 95).toNat) (h 70 (((h 0 109) - 1) - 1).toNat)) 60 ((h 0 95).toNat) (h 70 ((h 0 109) - 1).toNat)) 61 ((h 0 95).toNat) (h 0 7)) 62 ((h 0 95).toNat) 0) 64 ((h 0 95).toNat) (h 0 76)) 65 ((h 0 95).toNat) 0) 66 ((h 0 95).toNat) 0) 67 ((h 0 95).toNat) w6) 66 ((h 0 95).toNat) 1) 65 ((h 0 95).toNat) v21) 70 ((((h 0 109) - 1) - 1).toNat) (h 0 95) = ja_up (ja_up (ja_up (ja_up (ja_up (ja_up (ja_up (ja_up (ja_up (ja_up (ja_up (ja_up (ja_up (ja_up h 0 109 ((h 0 109) - 1)) 0 95 ((h 0 95) + 1)) 58 ((h 0 95).toNat) a1) 59 ((h 0 95).toNat) (h 70 ((h 0 109) - 1 - 1).toNat)) 60 ((h 0 95).toNat) (h 70 ((h 0 109) - 1).toNat)) 61 ((h 0 95).toNat) (h 0 7)) 62 ((h 0 95).toNat) 0) 64 ((h 0 95).toNat) (h 0 76)) 65 ((h 0 95).toNat) 0) 66 ((h 0 95).toNat) 0) 67 ((h 0 95).toNat) w6) 66 ((h 0 95).toNat) 1) 65 ((h 0 95).toNat) v21) 70 (((h 0 109) - 1 - 1).toNat) (h 0 95) := by funext k j; simp only [ja_up]; repeat' split <;> simp_all
          exact mo_fin (by omega) hE (k1 w6 1 v21 (by omega) (by rw [← hE]; exact g23))
        · refine ja_iload djoined_121 rfl ?_
          refine ja_if_eq 130 djoined_123 rfl ⟨by decide, by decide⟩ (fun c123 => ?_) (fun c123 => absurd c123 (by omega))
          refine ja_iconst djoined_130 ?_
          have g24 := gW_nodeTwice g7 (h 0 95).toNat (x := 0) ⟨by decide, by decide⟩
          refine is_nodeTwice ⟨by omega, by omega⟩ (by omega) djoined_131 ?_
          refine ja_aload_n djoined_132 rfl rfl ?_
          refine fa_nodeBinds djoined_133 ?_
          refine ja_iload djoined_136 rfl ?_
          refine ja_aload_n djoined_138 rfl rfl ?_
          refine fa_nodeBinds djoined_139 ?_
          refine ja_iload_n djoined_142 rfl rfl ?_
          refine il_nodeBinds rfl ⟨by omega, by omega⟩ djoined_143 ?_
          have f25 := gC_nodeBinds g24 (h 70 (((h 0 109) - 1) - 1).toNat).toNat
          refine ja_aload_n djoined_144 rfl rfl ?_
          refine fa_nodeBinds djoined_145 ?_
          refine ja_iload_n djoined_148 rfl rfl ?_
          refine il_nodeBinds rfl ⟨by omega, by omega⟩ djoined_149 ?_
          have f26 := gC_nodeBinds g24 (h 70 ((h 0 109) - 1).toNat).toNat
          refine mo_hior djoined_150 (fun v27 rv27 => ?_)
          have g28 := gW_nodeBinds g24 (h 0 95).toNat (x := v27) ⟨by omega, by omega⟩
          refine is_nodeBinds ⟨by omega, by omega⟩ djoined_151 ?_
          refine ja_aload_n djoined_152 rfl rfl ?_
          refine fa_treePile djoined_153 ?_
          refine ja_aload_n djoined_156 rfl rfl ?_
          refine fg_treeTop (v := (h 0 109) - 1) rfl djoined_157 ?_
          refine ja_iconst djoined_160 ?_
          refine ja_isub djoined_161 ?_
          refine ja_iload djoined_162 rfl ?_
          have g29 := gW_treePile g28 (((h 0 109) - 1) - 1).toNat (x := h 0 95) ⟨by omega, by omega⟩
          refine is_treePile ⟨by omega, by omega⟩ djoined_164 ?_
          refine ja_iconst djoined_165 ?_
          refine ja_zreturn djoined_166 rfl (by omega) ?_
          have hE : ja_up (ja_up (ja_up (ja_up (ja_up (ja_up (ja_up (ja_up (ja_up (ja_up (ja_up (ja_up (ja_up (ja_up h 0 109 ((h 0 109) - 1)) 0 95 ((h 0 95) + 1)) 58 ((h 0 95).toNat) a1) 59 ((h 0 95).toNat) (h 70 (((h 0 109) - 1) - 1).toNat)) 60 ((h 0 95).toNat) (h 70 ((h 0 109) - 1).toNat)) 61 ((h 0 95).toNat) (h 0 7)) 62 ((h 0 95).toNat) 0) 64 ((h 0 95).toNat) (h 0 76)) 65 ((h 0 95).toNat) 0) 66 ((h 0 95).toNat) 0) 67 ((h 0 95).toNat) w6) 66 ((h 0 95).toNat) 0) 65 ((h 0 95).toNat) v27) 70 ((((h 0 109) - 1) - 1).toNat) (h 0 95) = ja_up (ja_up (ja_up (ja_up (ja_up (ja_up (ja_up (ja_up (ja_up (ja_up (ja_up (ja_up (ja_up (ja_up h 0 109 ((h 0 109) - 1)) 0 95 ((h 0 95) + 1)) 58 ((h 0 95).toNat) a1) 59 ((h 0 95).toNat) (h 70 ((h 0 109) - 1 - 1).toNat)) 60 ((h 0 95).toNat) (h 70 ((h 0 109) - 1).toNat)) 61 ((h 0 95).toNat) (h 0 7)) 62 ((h 0 95).toNat) 0) 64 ((h 0 95).toNat) (h 0 76)) 65 ((h 0 95).toNat) 0) 66 ((h 0 95).toNat) 0) 67 ((h 0 95).toNat) w6) 66 ((h 0 95).toNat) 0) 65 ((h 0 95).toNat) v27) 70 (((h 0 109) - 1 - 1).toNat) (h 0 95) := by funext k j; simp only [ja_up]; repeat' split <;> simp_all
          exact mo_fin (by omega) hE (k1 w6 0 v27 (by omega) (by rw [← hE]; exact g29))
    · refine ja_iconst djoined_90 ?_
      refine ja_goto 95 djoined_91 rfl ?_
      refine ja_istore djoined_95 (by decide) (L2 := [(5, (0, 1)), (4, (0, (h 0 95))), (3, (0, (h 70 (((h 0 109) - 1) - 1).toNat))), (2, (0, (h 70 ((h 0 109) - 1).toNat))), (0, (2, ((0 : Nat) : Int))), (1, (0, a1))]) rfl ?_
      refine ja_aload_n djoined_97 rfl rfl ?_
      refine fa_nodeTwice djoined_98 ?_
      refine ja_iload djoined_101 rfl ?_
      refine ja_aload_n djoined_103 rfl rfl ?_
      refine fa_nodeTwice djoined_104 ?_
      refine ja_iload_n djoined_107 rfl rfl ?_
      refine il_nodeTwice rfl ⟨by omega, by omega⟩ djoined_108 ?_
      have f30 := gC_nodeTwice g7 (h 70 (((h 0 109) - 1) - 1).toNat).toNat
      refine ja_if_ne 126 djoined_109 rfl ⟨by omega, by omega⟩ (fun c109 => ?_) (fun c109 => ?_)
      · refine ja_iconst djoined_126 ?_
        refine ja_goto 131 djoined_127 rfl ?_
        have g31 := gW_nodeTwice g7 (h 0 95).toNat (x := 1) ⟨by decide, by decide⟩
        refine is_nodeTwice ⟨by omega, by omega⟩ (by omega) djoined_131 ?_
        refine ja_aload_n djoined_132 rfl rfl ?_
        refine fa_nodeBinds djoined_133 ?_
        refine ja_iload djoined_136 rfl ?_
        refine ja_aload_n djoined_138 rfl rfl ?_
        refine fa_nodeBinds djoined_139 ?_
        refine ja_iload_n djoined_142 rfl rfl ?_
        refine il_nodeBinds rfl ⟨by omega, by omega⟩ djoined_143 ?_
        have f32 := gC_nodeBinds g31 (h 70 (((h 0 109) - 1) - 1).toNat).toNat
        refine ja_aload_n djoined_144 rfl rfl ?_
        refine fa_nodeBinds djoined_145 ?_
        refine ja_iload_n djoined_148 rfl rfl ?_
        refine il_nodeBinds rfl ⟨by omega, by omega⟩ djoined_149 ?_
        have f33 := gC_nodeBinds g31 (h 70 ((h 0 109) - 1).toNat).toNat
        refine mo_hior djoined_150 (fun v34 rv34 => ?_)
        have g35 := gW_nodeBinds g31 (h 0 95).toNat (x := v34) ⟨by omega, by omega⟩
        refine is_nodeBinds ⟨by omega, by omega⟩ djoined_151 ?_
        refine ja_aload_n djoined_152 rfl rfl ?_
        refine fa_treePile djoined_153 ?_
        refine ja_aload_n djoined_156 rfl rfl ?_
        refine fg_treeTop (v := (h 0 109) - 1) rfl djoined_157 ?_
        refine ja_iconst djoined_160 ?_
        refine ja_isub djoined_161 ?_
        refine ja_iload djoined_162 rfl ?_
        have g36 := gW_treePile g35 (((h 0 109) - 1) - 1).toNat (x := h 0 95) ⟨by omega, by omega⟩
        refine is_treePile ⟨by omega, by omega⟩ djoined_164 ?_
        refine ja_iconst djoined_165 ?_
        refine ja_zreturn djoined_166 rfl (by omega) ?_
        have hE : ja_up (ja_up (ja_up (ja_up (ja_up (ja_up (ja_up (ja_up (ja_up (ja_up (ja_up (ja_up (ja_up (ja_up h 0 109 ((h 0 109) - 1)) 0 95 ((h 0 95) + 1)) 58 ((h 0 95).toNat) a1) 59 ((h 0 95).toNat) (h 70 (((h 0 109) - 1) - 1).toNat)) 60 ((h 0 95).toNat) (h 70 ((h 0 109) - 1).toNat)) 61 ((h 0 95).toNat) (h 0 7)) 62 ((h 0 95).toNat) 0) 64 ((h 0 95).toNat) (h 0 76)) 65 ((h 0 95).toNat) 0) 66 ((h 0 95).toNat) 0) 67 ((h 0 95).toNat) w6) 66 ((h 0 95).toNat) 1) 65 ((h 0 95).toNat) v34) 70 ((((h 0 109) - 1) - 1).toNat) (h 0 95) = ja_up (ja_up (ja_up (ja_up (ja_up (ja_up (ja_up (ja_up (ja_up (ja_up (ja_up (ja_up (ja_up (ja_up h 0 109 ((h 0 109) - 1)) 0 95 ((h 0 95) + 1)) 58 ((h 0 95).toNat) a1) 59 ((h 0 95).toNat) (h 70 ((h 0 109) - 1 - 1).toNat)) 60 ((h 0 95).toNat) (h 70 ((h 0 109) - 1).toNat)) 61 ((h 0 95).toNat) (h 0 7)) 62 ((h 0 95).toNat) 0) 64 ((h 0 95).toNat) (h 0 76)) 65 ((h 0 95).toNat) 0) 66 ((h 0 95).toNat) 0) 67 ((h 0 95).toNat) w6) 66 ((h 0 95).toNat) 1) 65 ((h 0 95).toNat) v34) 70 (((h 0 109) - 1 - 1).toNat) (h 0 95) := by funext k j; simp only [ja_up]; repeat' split <;> simp_all
        exact mo_fin (by omega) hE (k1 w6 1 v34 (by omega) (by rw [← hE]; exact g36))
      · refine ja_aload_n djoined_112 rfl rfl ?_
        refine fa_nodeTwice djoined_113 ?_
        refine ja_iload_n djoined_116 rfl rfl ?_
        refine il_nodeTwice rfl ⟨by omega, by omega⟩ djoined_117 ?_
        have f37 := gC_nodeTwice g7 (h 70 ((h 0 109) - 1).toNat).toNat
        refine ja_if_ne 126 djoined_118 rfl ⟨by omega, by omega⟩ (fun c118 => ?_) (fun c118 => ?_)
        · refine ja_iconst djoined_126 ?_
          refine ja_goto 131 djoined_127 rfl ?_
          have g38 := gW_nodeTwice g7 (h 0 95).toNat (x := 1) ⟨by decide, by decide⟩
          refine is_nodeTwice ⟨by omega, by omega⟩ (by omega) djoined_131 ?_
          refine ja_aload_n djoined_132 rfl rfl ?_
          refine fa_nodeBinds djoined_133 ?_
          refine ja_iload djoined_136 rfl ?_
          refine ja_aload_n djoined_138 rfl rfl ?_
          refine fa_nodeBinds djoined_139 ?_
          refine ja_iload_n djoined_142 rfl rfl ?_
          refine il_nodeBinds rfl ⟨by omega, by omega⟩ djoined_143 ?_
          have f39 := gC_nodeBinds g38 (h 70 (((h 0 109) - 1) - 1).toNat).toNat
          refine ja_aload_n djoined_144 rfl rfl ?_
          refine fa_nodeBinds djoined_145 ?_
          refine ja_iload_n djoined_148 rfl rfl ?_
          refine il_nodeBinds rfl ⟨by omega, by omega⟩ djoined_149 ?_
          have f40 := gC_nodeBinds g38 (h 70 ((h 0 109) - 1).toNat).toNat
          refine mo_hior djoined_150 (fun v41 rv41 => ?_)
          have g42 := gW_nodeBinds g38 (h 0 95).toNat (x := v41) ⟨by omega, by omega⟩
          refine is_nodeBinds ⟨by omega, by omega⟩ djoined_151 ?_
          refine ja_aload_n djoined_152 rfl rfl ?_
          refine fa_treePile djoined_153 ?_
          refine ja_aload_n djoined_156 rfl rfl ?_
          refine fg_treeTop (v := (h 0 109) - 1) rfl djoined_157 ?_
          refine ja_iconst djoined_160 ?_
          refine ja_isub djoined_161 ?_
          refine ja_iload djoined_162 rfl ?_
          have g43 := gW_treePile g42 (((h 0 109) - 1) - 1).toNat (x := h 0 95) ⟨by omega, by omega⟩
          refine is_treePile ⟨by omega, by omega⟩ djoined_164 ?_
          refine ja_iconst djoined_165 ?_
          refine ja_zreturn djoined_166 rfl (by omega) ?_
          have hE : ja_up (ja_up (ja_up (ja_up (ja_up (ja_up (ja_up (ja_up (ja_up (ja_up (ja_up (ja_up (ja_up (ja_up h 0 109 ((h 0 109) - 1)) 0 95 ((h 0 95) + 1)) 58 ((h 0 95).toNat) a1) 59 ((h 0 95).toNat) (h 70 (((h 0 109) - 1) - 1).toNat)) 60 ((h 0 95).toNat) (h 70 ((h 0 109) - 1).toNat)) 61 ((h 0 95).toNat) (h 0 7)) 62 ((h 0 95).toNat) 0) 64 ((h 0 95).toNat) (h 0 76)) 65 ((h 0 95).toNat) 0) 66 ((h 0 95).toNat) 0) 67 ((h 0 95).toNat) w6) 66 ((h 0 95).toNat) 1) 65 ((h 0 95).toNat) v41) 70 ((((h 0 109) - 1) - 1).toNat) (h 0 95) = ja_up (ja_up (ja_up (ja_up (ja_up (ja_up (ja_up (ja_up (ja_up (ja_up (ja_up (ja_up (ja_up (ja_up h 0 109 ((h 0 109) - 1)) 0 95 ((h 0 95) + 1)) 58 ((h 0 95).toNat) a1) 59 ((h 0 95).toNat) (h 70 ((h 0 109) - 1 - 1).toNat)) 60 ((h 0 95).toNat) (h 70 ((h 0 109) - 1).toNat)) 61 ((h 0 95).toNat) (h 0 7)) 62 ((h 0 95).toNat) 0) 64 ((h 0 95).toNat) (h 0 76)) 65 ((h 0 95).toNat) 0) 66 ((h 0 95).toNat) 0) 67 ((h 0 95).toNat) w6) 66 ((h 0 95).toNat) 1) 65 ((h 0 95).toNat) v41) 70 (((h 0 109) - 1 - 1).toNat) (h 0 95) := by funext k j; simp only [ja_up]; repeat' split <;> simp_all
          exact mo_fin (by omega) hE (k1 w6 1 v41 (by omega) (by rw [← hE]; exact g43))
        · refine ja_iload djoined_121 rfl ?_
          refine ja_if_eq 130 djoined_123 rfl ⟨by decide, by decide⟩ (fun c123 => absurd c123 (by omega)) (fun c123 => ?_)
          refine ja_iconst djoined_126 ?_
          refine ja_goto 131 djoined_127 rfl ?_
          have g44 := gW_nodeTwice g7 (h 0 95).toNat (x := 1) ⟨by decide, by decide⟩
          refine is_nodeTwice ⟨by omega, by omega⟩ (by omega) djoined_131 ?_
          refine ja_aload_n djoined_132 rfl rfl ?_
          refine fa_nodeBinds djoined_133 ?_
          refine ja_iload djoined_136 rfl ?_
          refine ja_aload_n djoined_138 rfl rfl ?_
          refine fa_nodeBinds djoined_139 ?_
          refine ja_iload_n djoined_142 rfl rfl ?_
          refine il_nodeBinds rfl ⟨by omega, by omega⟩ djoined_143 ?_
          have f45 := gC_nodeBinds g44 (h 70 (((h 0 109) - 1) - 1).toNat).toNat
          refine ja_aload_n djoined_144 rfl rfl ?_
          refine fa_nodeBinds djoined_145 ?_
          refine ja_iload_n djoined_148 rfl rfl ?_
          refine il_nodeBinds rfl ⟨by omega, by omega⟩ djoined_149 ?_
          have f46 := gC_nodeBinds g44 (h 70 ((h 0 109) - 1).toNat).toNat
          refine mo_hior djoined_150 (fun v47 rv47 => ?_)
          have g48 := gW_nodeBinds g44 (h 0 95).toNat (x := v47) ⟨by omega, by omega⟩
          refine is_nodeBinds ⟨by omega, by omega⟩ djoined_151 ?_
          refine ja_aload_n djoined_152 rfl rfl ?_
          refine fa_treePile djoined_153 ?_
          refine ja_aload_n djoined_156 rfl rfl ?_
          refine fg_treeTop (v := (h 0 109) - 1) rfl djoined_157 ?_
          refine ja_iconst djoined_160 ?_
          refine ja_isub djoined_161 ?_
          refine ja_iload djoined_162 rfl ?_
          have g49 := gW_treePile g48 (((h 0 109) - 1) - 1).toNat (x := h 0 95) ⟨by omega, by omega⟩
          refine is_treePile ⟨by omega, by omega⟩ djoined_164 ?_
          refine ja_iconst djoined_165 ?_
          refine ja_zreturn djoined_166 rfl (by omega) ?_
          have hE : ja_up (ja_up (ja_up (ja_up (ja_up (ja_up (ja_up (ja_up (ja_up (ja_up (ja_up (ja_up (ja_up (ja_up h 0 109 ((h 0 109) - 1)) 0 95 ((h 0 95) + 1)) 58 ((h 0 95).toNat) a1) 59 ((h 0 95).toNat) (h 70 (((h 0 109) - 1) - 1).toNat)) 60 ((h 0 95).toNat) (h 70 ((h 0 109) - 1).toNat)) 61 ((h 0 95).toNat) (h 0 7)) 62 ((h 0 95).toNat) 0) 64 ((h 0 95).toNat) (h 0 76)) 65 ((h 0 95).toNat) 0) 66 ((h 0 95).toNat) 0) 67 ((h 0 95).toNat) w6) 66 ((h 0 95).toNat) 1) 65 ((h 0 95).toNat) v47) 70 ((((h 0 109) - 1) - 1).toNat) (h 0 95) = ja_up (ja_up (ja_up (ja_up (ja_up (ja_up (ja_up (ja_up (ja_up (ja_up (ja_up (ja_up (ja_up (ja_up h 0 109 ((h 0 109) - 1)) 0 95 ((h 0 95) + 1)) 58 ((h 0 95).toNat) a1) 59 ((h 0 95).toNat) (h 70 ((h 0 109) - 1 - 1).toNat)) 60 ((h 0 95).toNat) (h 70 ((h 0 109) - 1).toNat)) 61 ((h 0 95).toNat) (h 0 7)) 62 ((h 0 95).toNat) 0) 64 ((h 0 95).toNat) (h 0 76)) 65 ((h 0 95).toNat) 0) 66 ((h 0 95).toNat) 0) 67 ((h 0 95).toNat) w6) 66 ((h 0 95).toNat) 1) 65 ((h 0 95).toNat) v47) 70 (((h 0 109) - 1 - 1).toNat) (h 0 95) := by funext k j; simp only [ja_up]; repeat' split <;> simp_all
          exact mo_fin (by omega) hE (k1 w6 1 v47 (by omega) (by rw [← hE]; exact g49))
  · refine ja_aload_n djoined_51 rfl rfl ?_
    refine fa_nodeBinds djoined_52 ?_
    refine ja_iload_n djoined_55 rfl rfl ?_
    refine il_nodeBinds rfl ⟨by omega, by omega⟩ djoined_56 ?_
    have f50 := gC_nodeBinds g7 (h 70 (((h 0 109) - 1) - 1).toNat).toNat
    refine ja_aload_n djoined_57 rfl rfl ?_
    refine fa_nodeBinds djoined_58 ?_
    refine ja_iload_n djoined_61 rfl rfl ?_
    refine il_nodeBinds rfl ⟨by omega, by omega⟩ djoined_62 ?_
    have f51 := gC_nodeBinds g7 (h 70 ((h 0 109) - 1).toNat).toNat
    refine mo_hiand djoined_63 (fun v52 rv52 => ?_)
    refine ja_if_eq 71 djoined_64 rfl ⟨by omega, by omega⟩ (fun c64 => ?_) (fun c64 => ?_)
    · refine ja_iconst djoined_71 ?_
      refine ja_goto 95 djoined_72 rfl ?_
      refine ja_istore djoined_95 (by decide) (L2 := [(5, (0, 0)), (4, (0, (h 0 95))), (3, (0, (h 70 (((h 0 109) - 1) - 1).toNat))), (2, (0, (h 70 ((h 0 109) - 1).toNat))), (0, (2, ((0 : Nat) : Int))), (1, (0, a1))]) rfl ?_
      refine ja_aload_n djoined_97 rfl rfl ?_
      refine fa_nodeTwice djoined_98 ?_
      refine ja_iload djoined_101 rfl ?_
      refine ja_aload_n djoined_103 rfl rfl ?_
      refine fa_nodeTwice djoined_104 ?_
      refine ja_iload_n djoined_107 rfl rfl ?_
      refine il_nodeTwice rfl ⟨by omega, by omega⟩ djoined_108 ?_
      have f53 := gC_nodeTwice g7 (h 70 (((h 0 109) - 1) - 1).toNat).toNat
      refine ja_if_ne 126 djoined_109 rfl ⟨by omega, by omega⟩ (fun c109 => ?_) (fun c109 => ?_)
      · refine ja_iconst djoined_126 ?_
        refine ja_goto 131 djoined_127 rfl ?_
        have g54 := gW_nodeTwice g7 (h 0 95).toNat (x := 1) ⟨by decide, by decide⟩
        refine is_nodeTwice ⟨by omega, by omega⟩ (by omega) djoined_131 ?_
        refine ja_aload_n djoined_132 rfl rfl ?_
        refine fa_nodeBinds djoined_133 ?_
        refine ja_iload djoined_136 rfl ?_
        refine ja_aload_n djoined_138 rfl rfl ?_
        refine fa_nodeBinds djoined_139 ?_
        refine ja_iload_n djoined_142 rfl rfl ?_
        refine il_nodeBinds rfl ⟨by omega, by omega⟩ djoined_143 ?_
        have f55 := gC_nodeBinds g54 (h 70 (((h 0 109) - 1) - 1).toNat).toNat
        refine ja_aload_n djoined_144 rfl rfl ?_
        refine fa_nodeBinds djoined_145 ?_
        refine ja_iload_n djoined_148 rfl rfl ?_
        refine il_nodeBinds rfl ⟨by omega, by omega⟩ djoined_149 ?_
        have f56 := gC_nodeBinds g54 (h 70 ((h 0 109) - 1).toNat).toNat
        refine mo_hior djoined_150 (fun v57 rv57 => ?_)
        have g58 := gW_nodeBinds g54 (h 0 95).toNat (x := v57) ⟨by omega, by omega⟩
        refine is_nodeBinds ⟨by omega, by omega⟩ djoined_151 ?_
        refine ja_aload_n djoined_152 rfl rfl ?_
        refine fa_treePile djoined_153 ?_
        refine ja_aload_n djoined_156 rfl rfl ?_
        refine fg_treeTop (v := (h 0 109) - 1) rfl djoined_157 ?_
        refine ja_iconst djoined_160 ?_
        refine ja_isub djoined_161 ?_
        refine ja_iload djoined_162 rfl ?_
        have g59 := gW_treePile g58 (((h 0 109) - 1) - 1).toNat (x := h 0 95) ⟨by omega, by omega⟩
        refine is_treePile ⟨by omega, by omega⟩ djoined_164 ?_
        refine ja_iconst djoined_165 ?_
        refine ja_zreturn djoined_166 rfl (by omega) ?_
        have hE : ja_up (ja_up (ja_up (ja_up (ja_up (ja_up (ja_up (ja_up (ja_up (ja_up (ja_up (ja_up (ja_up (ja_up h 0 109 ((h 0 109) - 1)) 0 95 ((h 0 95) + 1)) 58 ((h 0 95).toNat) a1) 59 ((h 0 95).toNat) (h 70 (((h 0 109) - 1) - 1).toNat)) 60 ((h 0 95).toNat) (h 70 ((h 0 109) - 1).toNat)) 61 ((h 0 95).toNat) (h 0 7)) 62 ((h 0 95).toNat) 0) 64 ((h 0 95).toNat) (h 0 76)) 65 ((h 0 95).toNat) 0) 66 ((h 0 95).toNat) 0) 67 ((h 0 95).toNat) w6) 66 ((h 0 95).toNat) 1) 65 ((h 0 95).toNat) v57) 70 ((((h 0 109) - 1) - 1).toNat) (h 0 95) = ja_up (ja_up (ja_up (ja_up (ja_up (ja_up (ja_up (ja_up (ja_up (ja_up (ja_up (ja_up (ja_up (ja_up h 0 109 ((h 0 109) - 1)) 0 95 ((h 0 95) + 1)) 58 ((h 0 95).toNat) a1) 59 ((h 0 95).toNat) (h 70 ((h 0 109) - 1 - 1).toNat)) 60 ((h 0 95).toNat) (h 70 ((h 0 109) - 1).toNat)) 61 ((h 0 95).toNat) (h 0 7)) 62 ((h 0 95).toNat) 0) 64 ((h 0 95).toNat) (h 0 76)) 65 ((h 0 95).toNat) 0) 66 ((h 0 95).toNat) 0) 67 ((h 0 95).toNat) w6) 66 ((h 0 95).toNat) 1) 65 ((h 0 95).toNat) v57) 70 (((h 0 109) - 1 - 1).toNat) (h 0 95) := by funext k j; simp only [ja_up]; repeat' split <;> simp_all
        exact mo_fin (by omega) hE (k1 w6 1 v57 (by omega) (by rw [← hE]; exact g59))
      · refine ja_aload_n djoined_112 rfl rfl ?_
        refine fa_nodeTwice djoined_113 ?_
        refine ja_iload_n djoined_116 rfl rfl ?_
        refine il_nodeTwice rfl ⟨by omega, by omega⟩ djoined_117 ?_
        have f60 := gC_nodeTwice g7 (h 70 ((h 0 109) - 1).toNat).toNat
        refine ja_if_ne 126 djoined_118 rfl ⟨by omega, by omega⟩ (fun c118 => ?_) (fun c118 => ?_)
        · refine ja_iconst djoined_126 ?_
          refine ja_goto 131 djoined_127 rfl ?_
          have g61 := gW_nodeTwice g7 (h 0 95).toNat (x := 1) ⟨by decide, by decide⟩
          refine is_nodeTwice ⟨by omega, by omega⟩ (by omega) djoined_131 ?_
          refine ja_aload_n djoined_132 rfl rfl ?_
          refine fa_nodeBinds djoined_133 ?_
          refine ja_iload djoined_136 rfl ?_
          refine ja_aload_n djoined_138 rfl rfl ?_
          refine fa_nodeBinds djoined_139 ?_
          refine ja_iload_n djoined_142 rfl rfl ?_
          refine il_nodeBinds rfl ⟨by omega, by omega⟩ djoined_143 ?_
          have f62 := gC_nodeBinds g61 (h 70 (((h 0 109) - 1) - 1).toNat).toNat
          refine ja_aload_n djoined_144 rfl rfl ?_
          refine fa_nodeBinds djoined_145 ?_
          refine ja_iload_n djoined_148 rfl rfl ?_
          refine il_nodeBinds rfl ⟨by omega, by omega⟩ djoined_149 ?_
          have f63 := gC_nodeBinds g61 (h 70 ((h 0 109) - 1).toNat).toNat
          refine mo_hior djoined_150 (fun v64 rv64 => ?_)
          have g65 := gW_nodeBinds g61 (h 0 95).toNat (x := v64) ⟨by omega, by omega⟩
          refine is_nodeBinds ⟨by omega, by omega⟩ djoined_151 ?_
          refine ja_aload_n djoined_152 rfl rfl ?_
          refine fa_treePile djoined_153 ?_
          refine ja_aload_n djoined_156 rfl rfl ?_
          refine fg_treeTop (v := (h 0 109) - 1) rfl djoined_157 ?_
          refine ja_iconst djoined_160 ?_
          refine ja_isub djoined_161 ?_
          refine ja_iload djoined_162 rfl ?_
          have g66 := gW_treePile g65 (((h 0 109) - 1) - 1).toNat (x := h 0 95) ⟨by omega, by omega⟩
          refine is_treePile ⟨by omega, by omega⟩ djoined_164 ?_
          refine ja_iconst djoined_165 ?_
          refine ja_zreturn djoined_166 rfl (by omega) ?_
          have hE : ja_up (ja_up (ja_up (ja_up (ja_up (ja_up (ja_up (ja_up (ja_up (ja_up (ja_up (ja_up (ja_up (ja_up h 0 109 ((h 0 109) - 1)) 0 95 ((h 0 95) + 1)) 58 ((h 0 95).toNat) a1) 59 ((h 0 95).toNat) (h 70 (((h 0 109) - 1) - 1).toNat)) 60 ((h 0 95).toNat) (h 70 ((h 0 109) - 1).toNat)) 61 ((h 0 95).toNat) (h 0 7)) 62 ((h 0 95).toNat) 0) 64 ((h 0 95).toNat) (h 0 76)) 65 ((h 0 95).toNat) 0) 66 ((h 0 95).toNat) 0) 67 ((h 0 95).toNat) w6) 66 ((h 0 95).toNat) 1) 65 ((h 0 95).toNat) v64) 70 ((((h 0 109) - 1) - 1).toNat) (h 0 95) = ja_up (ja_up (ja_up (ja_up (ja_up (ja_up (ja_up (ja_up (ja_up (ja_up (ja_up (ja_up (ja_up (ja_up h 0 109 ((h 0 109) - 1)) 0 95 ((h 0 95) + 1)) 58 ((h 0 95).toNat) a1) 59 ((h 0 95).toNat) (h 70 ((h 0 109) - 1 - 1).toNat)) 60 ((h 0 95).toNat) (h 70 ((h 0 109) - 1).toNat)) 61 ((h 0 95).toNat) (h 0 7)) 62 ((h 0 95).toNat) 0) 64 ((h 0 95).toNat) (h 0 76)) 65 ((h 0 95).toNat) 0) 66 ((h 0 95).toNat) 0) 67 ((h 0 95).toNat) w6) 66 ((h 0 95).toNat) 1) 65 ((h 0 95).toNat) v64) 70 (((h 0 109) - 1 - 1).toNat) (h 0 95) := by funext k j; simp only [ja_up]; repeat' split <;> simp_all
          exact mo_fin (by omega) hE (k1 w6 1 v64 (by omega) (by rw [← hE]; exact g66))
        · refine ja_iload djoined_121 rfl ?_
          refine ja_if_eq 130 djoined_123 rfl ⟨by decide, by decide⟩ (fun c123 => ?_) (fun c123 => absurd c123 (by omega))
          refine ja_iconst djoined_130 ?_
          have g67 := gW_nodeTwice g7 (h 0 95).toNat (x := 0) ⟨by decide, by decide⟩
          refine is_nodeTwice ⟨by omega, by omega⟩ (by omega) djoined_131 ?_
          refine ja_aload_n djoined_132 rfl rfl ?_
          refine fa_nodeBinds djoined_133 ?_
          refine ja_iload djoined_136 rfl ?_
          refine ja_aload_n djoined_138 rfl rfl ?_
          refine fa_nodeBinds djoined_139 ?_
          refine ja_iload_n djoined_142 rfl rfl ?_
          refine il_nodeBinds rfl ⟨by omega, by omega⟩ djoined_143 ?_
          have f68 := gC_nodeBinds g67 (h 70 (((h 0 109) - 1) - 1).toNat).toNat
          refine ja_aload_n djoined_144 rfl rfl ?_
          refine fa_nodeBinds djoined_145 ?_
          refine ja_iload_n djoined_148 rfl rfl ?_
          refine il_nodeBinds rfl ⟨by omega, by omega⟩ djoined_149 ?_
          have f69 := gC_nodeBinds g67 (h 70 ((h 0 109) - 1).toNat).toNat
          refine mo_hior djoined_150 (fun v70 rv70 => ?_)
          have g71 := gW_nodeBinds g67 (h 0 95).toNat (x := v70) ⟨by omega, by omega⟩
          refine is_nodeBinds ⟨by omega, by omega⟩ djoined_151 ?_
          refine ja_aload_n djoined_152 rfl rfl ?_
          refine fa_treePile djoined_153 ?_
          refine ja_aload_n djoined_156 rfl rfl ?_
          refine fg_treeTop (v := (h 0 109) - 1) rfl djoined_157 ?_
          refine ja_iconst djoined_160 ?_
          refine ja_isub djoined_161 ?_
          refine ja_iload djoined_162 rfl ?_
          have g72 := gW_treePile g71 (((h 0 109) - 1) - 1).toNat (x := h 0 95) ⟨by omega, by omega⟩
          refine is_treePile ⟨by omega, by omega⟩ djoined_164 ?_
          refine ja_iconst djoined_165 ?_
          refine ja_zreturn djoined_166 rfl (by omega) ?_
          have hE : ja_up (ja_up (ja_up (ja_up (ja_up (ja_up (ja_up (ja_up (ja_up (ja_up (ja_up (ja_up (ja_up (ja_up h 0 109 ((h 0 109) - 1)) 0 95 ((h 0 95) + 1)) 58 ((h 0 95).toNat) a1) 59 ((h 0 95).toNat) (h 70 (((h 0 109) - 1) - 1).toNat)) 60 ((h 0 95).toNat) (h 70 ((h 0 109) - 1).toNat)) 61 ((h 0 95).toNat) (h 0 7)) 62 ((h 0 95).toNat) 0) 64 ((h 0 95).toNat) (h 0 76)) 65 ((h 0 95).toNat) 0) 66 ((h 0 95).toNat) 0) 67 ((h 0 95).toNat) w6) 66 ((h 0 95).toNat) 0) 65 ((h 0 95).toNat) v70) 70 ((((h 0 109) - 1) - 1).toNat) (h 0 95) = ja_up (ja_up (ja_up (ja_up (ja_up (ja_up (ja_up (ja_up (ja_up (ja_up (ja_up (ja_up (ja_up (ja_up h 0 109 ((h 0 109) - 1)) 0 95 ((h 0 95) + 1)) 58 ((h 0 95).toNat) a1) 59 ((h 0 95).toNat) (h 70 ((h 0 109) - 1 - 1).toNat)) 60 ((h 0 95).toNat) (h 70 ((h 0 109) - 1).toNat)) 61 ((h 0 95).toNat) (h 0 7)) 62 ((h 0 95).toNat) 0) 64 ((h 0 95).toNat) (h 0 76)) 65 ((h 0 95).toNat) 0) 66 ((h 0 95).toNat) 0) 67 ((h 0 95).toNat) w6) 66 ((h 0 95).toNat) 0) 65 ((h 0 95).toNat) v70) 70 (((h 0 109) - 1 - 1).toNat) (h 0 95) := by funext k j; simp only [ja_up]; repeat' split <;> simp_all
          exact mo_fin (by omega) hE (k1 w6 0 v70 (by omega) (by rw [← hE]; exact g72))
    · refine ja_iconst djoined_67 ?_
      refine ja_goto 95 djoined_68 rfl ?_
      refine ja_istore djoined_95 (by decide) (L2 := [(5, (0, 1)), (4, (0, (h 0 95))), (3, (0, (h 70 (((h 0 109) - 1) - 1).toNat))), (2, (0, (h 70 ((h 0 109) - 1).toNat))), (0, (2, ((0 : Nat) : Int))), (1, (0, a1))]) rfl ?_
      refine ja_aload_n djoined_97 rfl rfl ?_
      refine fa_nodeTwice djoined_98 ?_
      refine ja_iload djoined_101 rfl ?_
      refine ja_aload_n djoined_103 rfl rfl ?_
      refine fa_nodeTwice djoined_104 ?_
      refine ja_iload_n djoined_107 rfl rfl ?_
      refine il_nodeTwice rfl ⟨by omega, by omega⟩ djoined_108 ?_
      have f73 := gC_nodeTwice g7 (h 70 (((h 0 109) - 1) - 1).toNat).toNat
      refine ja_if_ne 126 djoined_109 rfl ⟨by omega, by omega⟩ (fun c109 => ?_) (fun c109 => ?_)
      · refine ja_iconst djoined_126 ?_
        refine ja_goto 131 djoined_127 rfl ?_
        have g74 := gW_nodeTwice g7 (h 0 95).toNat (x := 1) ⟨by decide, by decide⟩
        refine is_nodeTwice ⟨by omega, by omega⟩ (by omega) djoined_131 ?_
        refine ja_aload_n djoined_132 rfl rfl ?_
        refine fa_nodeBinds djoined_133 ?_
        refine ja_iload djoined_136 rfl ?_
        refine ja_aload_n djoined_138 rfl rfl ?_
        refine fa_nodeBinds djoined_139 ?_
        refine ja_iload_n djoined_142 rfl rfl ?_
        refine il_nodeBinds rfl ⟨by omega, by omega⟩ djoined_143 ?_
        have f75 := gC_nodeBinds g74 (h 70 (((h 0 109) - 1) - 1).toNat).toNat
        refine ja_aload_n djoined_144 rfl rfl ?_
        refine fa_nodeBinds djoined_145 ?_
        refine ja_iload_n djoined_148 rfl rfl ?_
        refine il_nodeBinds rfl ⟨by omega, by omega⟩ djoined_149 ?_
        have f76 := gC_nodeBinds g74 (h 70 ((h 0 109) - 1).toNat).toNat
        refine mo_hior djoined_150 (fun v77 rv77 => ?_)
        have g78 := gW_nodeBinds g74 (h 0 95).toNat (x := v77) ⟨by omega, by omega⟩
        refine is_nodeBinds ⟨by omega, by omega⟩ djoined_151 ?_
        refine ja_aload_n djoined_152 rfl rfl ?_
        refine fa_treePile djoined_153 ?_
        refine ja_aload_n djoined_156 rfl rfl ?_
        refine fg_treeTop (v := (h 0 109) - 1) rfl djoined_157 ?_
        refine ja_iconst djoined_160 ?_
        refine ja_isub djoined_161 ?_
        refine ja_iload djoined_162 rfl ?_
        have g79 := gW_treePile g78 (((h 0 109) - 1) - 1).toNat (x := h 0 95) ⟨by omega, by omega⟩
        refine is_treePile ⟨by omega, by omega⟩ djoined_164 ?_
        refine ja_iconst djoined_165 ?_
        refine ja_zreturn djoined_166 rfl (by omega) ?_
        have hE : ja_up (ja_up (ja_up (ja_up (ja_up (ja_up (ja_up (ja_up (ja_up (ja_up (ja_up (ja_up (ja_up (ja_up h 0 109 ((h 0 109) - 1)) 0 95 ((h 0 95) + 1)) 58 ((h 0 95).toNat) a1) 59 ((h 0 95).toNat) (h 70 (((h 0 109) - 1) - 1).toNat)) 60 ((h 0 95).toNat) (h 70 ((h 0 109) - 1).toNat)) 61 ((h 0 95).toNat) (h 0 7)) 62 ((h 0 95).toNat) 0) 64 ((h 0 95).toNat) (h 0 76)) 65 ((h 0 95).toNat) 0) 66 ((h 0 95).toNat) 0) 67 ((h 0 95).toNat) w6) 66 ((h 0 95).toNat) 1) 65 ((h 0 95).toNat) v77) 70 ((((h 0 109) - 1) - 1).toNat) (h 0 95) = ja_up (ja_up (ja_up (ja_up (ja_up (ja_up (ja_up (ja_up (ja_up (ja_up (ja_up (ja_up (ja_up (ja_up h 0 109 ((h 0 109) - 1)) 0 95 ((h 0 95) + 1)) 58 ((h 0 95).toNat) a1) 59 ((h 0 95).toNat) (h 70 ((h 0 109) - 1 - 1).toNat)) 60 ((h 0 95).toNat) (h 70 ((h 0 109) - 1).toNat)) 61 ((h 0 95).toNat) (h 0 7)) 62 ((h 0 95).toNat) 0) 64 ((h 0 95).toNat) (h 0 76)) 65 ((h 0 95).toNat) 0) 66 ((h 0 95).toNat) 0) 67 ((h 0 95).toNat) w6) 66 ((h 0 95).toNat) 1) 65 ((h 0 95).toNat) v77) 70 (((h 0 109) - 1 - 1).toNat) (h 0 95) := by funext k j; simp only [ja_up]; repeat' split <;> simp_all
        exact mo_fin (by omega) hE (k1 w6 1 v77 (by omega) (by rw [← hE]; exact g79))
      · refine ja_aload_n djoined_112 rfl rfl ?_
        refine fa_nodeTwice djoined_113 ?_
        refine ja_iload_n djoined_116 rfl rfl ?_
        refine il_nodeTwice rfl ⟨by omega, by omega⟩ djoined_117 ?_
        have f80 := gC_nodeTwice g7 (h 70 ((h 0 109) - 1).toNat).toNat
        refine ja_if_ne 126 djoined_118 rfl ⟨by omega, by omega⟩ (fun c118 => ?_) (fun c118 => ?_)
        · refine ja_iconst djoined_126 ?_
          refine ja_goto 131 djoined_127 rfl ?_
          have g81 := gW_nodeTwice g7 (h 0 95).toNat (x := 1) ⟨by decide, by decide⟩
          refine is_nodeTwice ⟨by omega, by omega⟩ (by omega) djoined_131 ?_
          refine ja_aload_n djoined_132 rfl rfl ?_
          refine fa_nodeBinds djoined_133 ?_
          refine ja_iload djoined_136 rfl ?_
          refine ja_aload_n djoined_138 rfl rfl ?_
          refine fa_nodeBinds djoined_139 ?_
          refine ja_iload_n djoined_142 rfl rfl ?_
          refine il_nodeBinds rfl ⟨by omega, by omega⟩ djoined_143 ?_
          have f82 := gC_nodeBinds g81 (h 70 (((h 0 109) - 1) - 1).toNat).toNat
          refine ja_aload_n djoined_144 rfl rfl ?_
          refine fa_nodeBinds djoined_145 ?_
          refine ja_iload_n djoined_148 rfl rfl ?_
          refine il_nodeBinds rfl ⟨by omega, by omega⟩ djoined_149 ?_
          have f83 := gC_nodeBinds g81 (h 70 ((h 0 109) - 1).toNat).toNat
          refine mo_hior djoined_150 (fun v84 rv84 => ?_)
          have g85 := gW_nodeBinds g81 (h 0 95).toNat (x := v84) ⟨by omega, by omega⟩
          refine is_nodeBinds ⟨by omega, by omega⟩ djoined_151 ?_
          refine ja_aload_n djoined_152 rfl rfl ?_
          refine fa_treePile djoined_153 ?_
          refine ja_aload_n djoined_156 rfl rfl ?_
          refine fg_treeTop (v := (h 0 109) - 1) rfl djoined_157 ?_
          refine ja_iconst djoined_160 ?_
          refine ja_isub djoined_161 ?_
          refine ja_iload djoined_162 rfl ?_
          have g86 := gW_treePile g85 (((h 0 109) - 1) - 1).toNat (x := h 0 95) ⟨by omega, by omega⟩
          refine is_treePile ⟨by omega, by omega⟩ djoined_164 ?_
          refine ja_iconst djoined_165 ?_
          refine ja_zreturn djoined_166 rfl (by omega) ?_
          have hE : ja_up (ja_up (ja_up (ja_up (ja_up (ja_up (ja_up (ja_up (ja_up (ja_up (ja_up (ja_up (ja_up (ja_up h 0 109 ((h 0 109) - 1)) 0 95 ((h 0 95) + 1)) 58 ((h 0 95).toNat) a1) 59 ((h 0 95).toNat) (h 70 (((h 0 109) - 1) - 1).toNat)) 60 ((h 0 95).toNat) (h 70 ((h 0 109) - 1).toNat)) 61 ((h 0 95).toNat) (h 0 7)) 62 ((h 0 95).toNat) 0) 64 ((h 0 95).toNat) (h 0 76)) 65 ((h 0 95).toNat) 0) 66 ((h 0 95).toNat) 0) 67 ((h 0 95).toNat) w6) 66 ((h 0 95).toNat) 1) 65 ((h 0 95).toNat) v84) 70 ((((h 0 109) - 1) - 1).toNat) (h 0 95) = ja_up (ja_up (ja_up (ja_up (ja_up (ja_up (ja_up (ja_up (ja_up (ja_up (ja_up (ja_up (ja_up (ja_up h 0 109 ((h 0 109) - 1)) 0 95 ((h 0 95) + 1)) 58 ((h 0 95).toNat) a1) 59 ((h 0 95).toNat) (h 70 ((h 0 109) - 1 - 1).toNat)) 60 ((h 0 95).toNat) (h 70 ((h 0 109) - 1).toNat)) 61 ((h 0 95).toNat) (h 0 7)) 62 ((h 0 95).toNat) 0) 64 ((h 0 95).toNat) (h 0 76)) 65 ((h 0 95).toNat) 0) 66 ((h 0 95).toNat) 0) 67 ((h 0 95).toNat) w6) 66 ((h 0 95).toNat) 1) 65 ((h 0 95).toNat) v84) 70 (((h 0 109) - 1 - 1).toNat) (h 0 95) := by funext k j; simp only [ja_up]; repeat' split <;> simp_all
          exact mo_fin (by omega) hE (k1 w6 1 v84 (by omega) (by rw [← hE]; exact g86))
        · refine ja_iload djoined_121 rfl ?_
          refine ja_if_eq 130 djoined_123 rfl ⟨by decide, by decide⟩ (fun c123 => absurd c123 (by omega)) (fun c123 => ?_)
          refine ja_iconst djoined_126 ?_
          refine ja_goto 131 djoined_127 rfl ?_
          have g87 := gW_nodeTwice g7 (h 0 95).toNat (x := 1) ⟨by decide, by decide⟩
          refine is_nodeTwice ⟨by omega, by omega⟩ (by omega) djoined_131 ?_
          refine ja_aload_n djoined_132 rfl rfl ?_
          refine fa_nodeBinds djoined_133 ?_
          refine ja_iload djoined_136 rfl ?_
          refine ja_aload_n djoined_138 rfl rfl ?_
          refine fa_nodeBinds djoined_139 ?_
          refine ja_iload_n djoined_142 rfl rfl ?_
          refine il_nodeBinds rfl ⟨by omega, by omega⟩ djoined_143 ?_
          have f88 := gC_nodeBinds g87 (h 70 (((h 0 109) - 1) - 1).toNat).toNat
          refine ja_aload_n djoined_144 rfl rfl ?_
          refine fa_nodeBinds djoined_145 ?_
          refine ja_iload_n djoined_148 rfl rfl ?_
          refine il_nodeBinds rfl ⟨by omega, by omega⟩ djoined_149 ?_
          have f89 := gC_nodeBinds g87 (h 70 ((h 0 109) - 1).toNat).toNat
          refine mo_hior djoined_150 (fun v90 rv90 => ?_)
          have g91 := gW_nodeBinds g87 (h 0 95).toNat (x := v90) ⟨by omega, by omega⟩
          refine is_nodeBinds ⟨by omega, by omega⟩ djoined_151 ?_
          refine ja_aload_n djoined_152 rfl rfl ?_
          refine fa_treePile djoined_153 ?_
          refine ja_aload_n djoined_156 rfl rfl ?_
          refine fg_treeTop (v := (h 0 109) - 1) rfl djoined_157 ?_
          refine ja_iconst djoined_160 ?_
          refine ja_isub djoined_161 ?_
          refine ja_iload djoined_162 rfl ?_
          have g92 := gW_treePile g91 (((h 0 109) - 1) - 1).toNat (x := h 0 95) ⟨by omega, by omega⟩
          refine is_treePile ⟨by omega, by omega⟩ djoined_164 ?_
          refine ja_iconst djoined_165 ?_
          refine ja_zreturn djoined_166 rfl (by omega) ?_
          have hE : ja_up (ja_up (ja_up (ja_up (ja_up (ja_up (ja_up (ja_up (ja_up (ja_up (ja_up (ja_up (ja_up (ja_up h 0 109 ((h 0 109) - 1)) 0 95 ((h 0 95) + 1)) 58 ((h 0 95).toNat) a1) 59 ((h 0 95).toNat) (h 70 (((h 0 109) - 1) - 1).toNat)) 60 ((h 0 95).toNat) (h 70 ((h 0 109) - 1).toNat)) 61 ((h 0 95).toNat) (h 0 7)) 62 ((h 0 95).toNat) 0) 64 ((h 0 95).toNat) (h 0 76)) 65 ((h 0 95).toNat) 0) 66 ((h 0 95).toNat) 0) 67 ((h 0 95).toNat) w6) 66 ((h 0 95).toNat) 1) 65 ((h 0 95).toNat) v90) 70 ((((h 0 109) - 1) - 1).toNat) (h 0 95) = ja_up (ja_up (ja_up (ja_up (ja_up (ja_up (ja_up (ja_up (ja_up (ja_up (ja_up (ja_up (ja_up (ja_up h 0 109 ((h 0 109) - 1)) 0 95 ((h 0 95) + 1)) 58 ((h 0 95).toNat) a1) 59 ((h 0 95).toNat) (h 70 ((h 0 109) - 1 - 1).toNat)) 60 ((h 0 95).toNat) (h 70 ((h 0 109) - 1).toNat)) 61 ((h 0 95).toNat) (h 0 7)) 62 ((h 0 95).toNat) 0) 64 ((h 0 95).toNat) (h 0 76)) 65 ((h 0 95).toNat) 0) 66 ((h 0 95).toNat) 0) 67 ((h 0 95).toNat) w6) 66 ((h 0 95).toNat) 1) 65 ((h 0 95).toNat) v90) 70 (((h 0 109) - 1 - 1).toNat) (h 0 95) := by funext k j; simp only [ja_up]; repeat' split <;> simp_all
          exact mo_fin (by omega) hE (k1 w6 1 v90 (by omega) (by rw [← hE]; exact g92))
theorem t_joined {a1 : Int} {d nL pc : Nat} {cc : ByteArray} {rt : Option FieldType} {L : List (Nat × ja_V)} {S : List ja_V} {h : ja_H} {Q : Option ja_V → ja_H → Prop} (hdd : 2 < d) (hwd : ja_wd S ≤ 8) (hd : decode cc pc = .ok (.invokevirtual 875, 3)) (g : mo_G Zz h) (r1 : -2147483648 ≤ a1 ∧ a1 ≤ 2147483647) (p1 : a1 = 13 ∨ a1 = 14) (p2 : 2 ≤ (h 0 109)) (p3 : (h 0 95) < 900) (k1 : ∀ (ip tw b : Int), (((ip = 1 ∧ (h 0 85) = 1) ∨ (ip = 0 ∧ (h 0 85) = 0)) ∧ 0 ≤ tw ∧ tw ≤ 1) → mo_G Zz (ja_up (ja_up (ja_up (ja_up (ja_up (ja_up (ja_up (ja_up (ja_up (ja_up (ja_up (ja_up (ja_up (ja_up h 0 109 ((h 0 109) - 1)) 0 95 ((h 0 95) + 1)) 58 (((h 0 95)).toNat) a1) 59 (((h 0 95)).toNat) (h 70 ((h 0 109) - 1 - 1).toNat)) 60 (((h 0 95)).toNat) (h 70 ((h 0 109) - 1).toNat)) 61 (((h 0 95)).toNat) (h 0 7)) 62 (((h 0 95)).toNat) 0) 64 (((h 0 95)).toNat) (h 0 76)) 65 (((h 0 95)).toNat) 0) 66 (((h 0 95)).toNat) 0) 67 (((h 0 95)).toNat) ip) 66 (((h 0 95)).toNat) tw) 65 (((h 0 95)).toNat) b) 70 (((h 0 109) - 1 - 1).toNat) (h 0 95)) → mJ l D cA ad d cc nL rt (pc + 3) L ((0, 1) :: S) (ja_up (ja_up (ja_up (ja_up (ja_up (ja_up (ja_up (ja_up (ja_up (ja_up (ja_up (ja_up (ja_up (ja_up h 0 109 ((h 0 109) - 1)) 0 95 ((h 0 95) + 1)) 58 (((h 0 95)).toNat) a1) 59 (((h 0 95)).toNat) (h 70 ((h 0 109) - 1 - 1).toNat)) 60 (((h 0 95)).toNat) (h 70 ((h 0 109) - 1).toNat)) 61 (((h 0 95)).toNat) (h 0 7)) 62 (((h 0 95)).toNat) 0) 64 (((h 0 95)).toNat) (h 0 76)) 65 (((h 0 95)).toNat) 0) 66 (((h 0 95)).toNat) 0) 67 (((h 0 95)).toNat) ip) 66 (((h 0 95)).toNat) tw) 65 (((h 0 95)).toNat) b) 70 (((h 0 109) - 1 - 1).toNat) (h 0 95)) Q) : mJ l D cA ad d cc nL rt pc L ((0, a1) :: (2, ((0 : Nat) : Int)) :: S) h Q :=
  mc_joined hdd hwd hd (s_joined g r1 p1 p2 p3 k1)
end
theorem dclassOf_0 : decode cX12_classOf 0 = .ok (.iconst 0, 1) := by decide +kernel
theorem dclassOf_1 : decode cX12_classOf 1 = .ok (.istore_n 2, 1) := by decide +kernel
theorem dclassOf_2 : decode cX12_classOf 2 = .ok (.iload_n 2, 1) := by decide +kernel
theorem dclassOf_3 : decode cX12_classOf 3 = .ok (.aload_n 0, 1) := by decide +kernel
theorem dclassOf_4 : decode cX12_classOf 4 = .ok (.getfield 647, 3) := by decide +kernel
theorem dclassOf_7 : decode cX12_classOf 7 = .ok (.if_icmp .ge 25, 3) := by decide +kernel
theorem dclassOf_10 : decode cX12_classOf 10 = .ok (.aload_n 0, 1) := by decide +kernel
theorem dclassOf_11 : decode cX12_classOf 11 = .ok (.aload_n 0, 1) := by decide +kernel
theorem dclassOf_12 : decode cX12_classOf 12 = .ok (.getfield 37, 3) := by decide +kernel
theorem dclassOf_15 : decode cX12_classOf 15 = .ok (.iload_n 2, 1) := by decide +kernel
theorem dclassOf_16 : decode cX12_classOf 16 = .ok (.iaload, 1) := by decide +kernel
theorem dclassOf_17 : decode cX12_classOf 17 = .ok (.invokevirtual 716, 3) := by decide +kernel
theorem dclassOf_20 : decode cX12_classOf 20 = .ok (.iload_n 1, 1) := by decide +kernel
theorem dclassOf_21 : decode cX12_classOf 21 = .ok (.if_icmp .ne 5, 3) := by decide +kernel
theorem dclassOf_24 : decode cX12_classOf 24 = .ok (.iload_n 2, 1) := by decide +kernel
theorem dclassOf_25 : decode cX12_classOf 25 = .ok (.ireturn, 1) := by decide +kernel
theorem dclassOf_26 : decode cX12_classOf 26 = .ok (.iinc 2 1, 3) := by decide +kernel
theorem dclassOf_29 : decode cX12_classOf 29 = .ok (.goto (-27), 3) := by decide +kernel
theorem dclassOf_32 : decode cX12_classOf 32 = .ok (.iconst (-1), 1) := by decide +kernel
theorem dclassOf_33 : decode cX12_classOf 33 = .ok (.ireturn, 1) := by decide +kernel
section
variable {l : Launch} {D : va_G} {cA : Nat → ClassId} {ad : Nat → Nat}
theorem s_classOf {a1 : Int} {h : ja_H} {Q : Option ja_V → ja_H → Prop} (g : mo_G Zz h) (r1 : -2147483648 ≤ a1 ∧ a1 ≤ 2147483647) (k1 : ∀ (v : Int), (-1 ≤ v ∧ v < (h 0 22) ∧ (0 ≤ v → (h 5 (h 10 (v).toNat).toNat) = a1)) → Q (some (0, v)) h) : mM_classOf l D cA ad a1 h Q := by
  show mJ l D cA ad 2 cX12_classOf 3 (some .int) 0 [(0, (2, ((0 : Nat) : Int))), (1, (0, a1))] [] h Q
  have kn_classes := gF_classes g
  have CUT : ∀ n : Nat, (∀ (x2 : Int), (-2147483648 ≤ x2 ∧ x2 ≤ 2147483647) → (0 ≤ x2 ∧ x2 ≤ (h 0 22)) → ((20 - x2).toNat) = n → mJ l D cA ad 2 cX12_classOf 3 (some .int) 2 [(0, (2, ((0 : Nat) : Int))), (1, (0, a1)), (2, (0, x2))] [] h Q) := by
    intro n
    induction n using Nat.strongRecOn with
    | _ n ih =>
      skip
      · intro x2 qx2 iv hm
        subst hm
        refine ja_iload_n dclassOf_2 rfl rfl ?_
        refine ja_aload_n dclassOf_3 rfl rfl ?_
        refine fg_classes (v := h 0 22) rfl dclassOf_4 ?_
        have f1 := gF_classes g
        refine ja_icmp_ge 32 dclassOf_7 rfl ⟨by omega, by omega⟩ ⟨by omega, by omega⟩ (fun c7 => ?_) (fun c7 => ?_)
        · refine ja_iconst dclassOf_32 ?_
          refine ja_ireturn dclassOf_33 rfl ?_
          exact mo_fin (by omega) rfl (k1 (-1) (by omega))
        · refine ja_aload_n dclassOf_10 rfl rfl ?_
          refine ja_aload_n dclassOf_11 rfl rfl ?_
          refine fa_className dclassOf_12 ?_
          refine ja_iload_n dclassOf_15 rfl rfl ?_
          refine il_className (v := h 10 (x2).toNat) rfl ⟨by omega, by omega⟩ dclassOf_16 ?_
          have f2 := gC_className g (x2).toNat
          refine t_id (by decide) (show (0 : Nat) ≤ 8 by decide) dclassOf_17 g ⟨by omega, by omega⟩ (show 0 ≤ (h 10 (x2).toNat) ∧ (h 10 (x2).toNat) ≤ 900 by omega) ?_
          intro k17_0
          refine ja_iload_n dclassOf_20 rfl rfl ?_
          refine ja_icmp_ne 26 dclassOf_21 rfl ⟨by omega, by omega⟩ ⟨by omega, by omega⟩ (fun c21 => ?_) (fun c21 => ?_)
          · refine ja_iinc dclassOf_26 rfl (by decide) (L2 := [(2, (0, (x2 + 1))), (0, (2, ((0 : Nat) : Int))), (1, (0, a1))]) rfl ?_
            refine ja_goto 2 dclassOf_29 rfl ?_
            exact ja_wk (fun q hq => by simp only [List.mem_cons, List.not_mem_nil, or_false] at hq; rcases hq with rfl | rfl | rfl <;> rfl) ((ih ((20 - (x2 + 1)).toNat) (by omega)) (x2 + 1)  ⟨by omega, by omega⟩ (show 0 ≤ (x2 + 1) ∧ (x2 + 1) ≤ (h 0 22) by omega) rfl)
          · refine ja_iload_n dclassOf_24 rfl rfl ?_
            refine ja_ireturn dclassOf_25 rfl ?_
            exact mo_fin (by omega) rfl (k1 x2 (by omega))
  refine ja_iconst dclassOf_0 ?_
  refine ja_istore_n dclassOf_1 rfl (by decide) (L2 := [(2, (0, 0)), (0, (2, ((0 : Nat) : Int))), (1, (0, a1))]) rfl ?_
  exact ja_wk (fun q hq => by simp only [List.mem_cons, List.not_mem_nil, or_false] at hq; rcases hq with rfl | rfl | rfl <;> rfl) ((CUT _) 0  ⟨by decide, by decide⟩ (show 0 ≤ 0 ∧ 0 ≤ (h 0 22) by omega) rfl)
theorem t_classOf {a1 : Int} {d nL pc : Nat} {cc : ByteArray} {rt : Option FieldType} {L : List (Nat × ja_V)} {S : List ja_V} {h : ja_H} {Q : Option ja_V → ja_H → Prop} (hdd : 2 < d) (hwd : ja_wd S ≤ 8) (hd : decode cc pc = .ok (.invokevirtual 903, 3)) (g : mo_G Zz h) (r1 : -2147483648 ≤ a1 ∧ a1 ≤ 2147483647) (k1 : ∀ (v : Int), (-1 ≤ v ∧ v < (h 0 22) ∧ (0 ≤ v → (h 5 (h 10 (v).toNat).toNat) = a1)) → mJ l D cA ad d cc nL rt (pc + 3) L ((0, v) :: S) h Q) : mJ l D cA ad d cc nL rt pc L ((0, a1) :: (2, ((0 : Nat) : Int)) :: S) h Q :=
  mc_classOf hdd hwd hd (s_classOf g r1 k1)
end
theorem daspectOf_0 : decode cX12_aspectOf 0 = .ok (.iconst 0, 1) := by decide +kernel
theorem daspectOf_1 : decode cX12_aspectOf 1 = .ok (.istore_n 2, 1) := by decide +kernel
theorem daspectOf_2 : decode cX12_aspectOf 2 = .ok (.iload_n 2, 1) := by decide +kernel
theorem daspectOf_3 : decode cX12_aspectOf 3 = .ok (.aload_n 0, 1) := by decide +kernel
theorem daspectOf_4 : decode cX12_aspectOf 4 = .ok (.getfield 650, 3) := by decide +kernel
theorem daspectOf_7 : decode cX12_aspectOf 7 = .ok (.if_icmp .ge 25, 3) := by decide +kernel
theorem daspectOf_10 : decode cX12_aspectOf 10 = .ok (.aload_n 0, 1) := by decide +kernel
theorem daspectOf_11 : decode cX12_aspectOf 11 = .ok (.aload_n 0, 1) := by decide +kernel
theorem daspectOf_12 : decode cX12_aspectOf 12 = .ok (.getfield 46, 3) := by decide +kernel
theorem daspectOf_15 : decode cX12_aspectOf 15 = .ok (.iload_n 2, 1) := by decide +kernel
theorem daspectOf_16 : decode cX12_aspectOf 16 = .ok (.iaload, 1) := by decide +kernel
theorem daspectOf_17 : decode cX12_aspectOf 17 = .ok (.invokevirtual 716, 3) := by decide +kernel
theorem daspectOf_20 : decode cX12_aspectOf 20 = .ok (.iload_n 1, 1) := by decide +kernel
theorem daspectOf_21 : decode cX12_aspectOf 21 = .ok (.if_icmp .ne 5, 3) := by decide +kernel
theorem daspectOf_24 : decode cX12_aspectOf 24 = .ok (.iload_n 2, 1) := by decide +kernel
theorem daspectOf_25 : decode cX12_aspectOf 25 = .ok (.ireturn, 1) := by decide +kernel
theorem daspectOf_26 : decode cX12_aspectOf 26 = .ok (.iinc 2 1, 3) := by decide +kernel
theorem daspectOf_29 : decode cX12_aspectOf 29 = .ok (.goto (-27), 3) := by decide +kernel
theorem daspectOf_32 : decode cX12_aspectOf 32 = .ok (.iconst (-1), 1) := by decide +kernel
theorem daspectOf_33 : decode cX12_aspectOf 33 = .ok (.ireturn, 1) := by decide +kernel
section
variable {l : Launch} {D : va_G} {cA : Nat → ClassId} {ad : Nat → Nat}
theorem s_aspectOf {a1 : Int} {h : ja_H} {Q : Option ja_V → ja_H → Prop} (g : mo_G Zz h) (r1 : -2147483648 ≤ a1 ∧ a1 ≤ 2147483647) (k1 : ∀ (v : Int), (-1 ≤ v ∧ v < (h 0 26) ∧ (0 ≤ v → (h 5 (h 13 (v).toNat).toNat) = a1)) → Q (some (0, v)) h) : mM_aspectOf l D cA ad a1 h Q := by
  show mJ l D cA ad 2 cX12_aspectOf 3 (some .int) 0 [(0, (2, ((0 : Nat) : Int))), (1, (0, a1))] [] h Q
  have kn_aspects := gF_aspects g
  have CUT : ∀ n : Nat, (∀ (x2 : Int), (-2147483648 ≤ x2 ∧ x2 ≤ 2147483647) → (0 ≤ x2 ∧ x2 ≤ (h 0 26)) → ((20 - x2).toNat) = n → mJ l D cA ad 2 cX12_aspectOf 3 (some .int) 2 [(0, (2, ((0 : Nat) : Int))), (1, (0, a1)), (2, (0, x2))] [] h Q) := by
    intro n
    induction n using Nat.strongRecOn with
    | _ n ih =>
      skip
      · intro x2 qx2 iv hm
        subst hm
        refine ja_iload_n daspectOf_2 rfl rfl ?_
        refine ja_aload_n daspectOf_3 rfl rfl ?_
        refine fg_aspects (v := h 0 26) rfl daspectOf_4 ?_
        have f1 := gF_aspects g
        refine ja_icmp_ge 32 daspectOf_7 rfl ⟨by omega, by omega⟩ ⟨by omega, by omega⟩ (fun c7 => ?_) (fun c7 => ?_)
        · refine ja_iconst daspectOf_32 ?_
          refine ja_ireturn daspectOf_33 rfl ?_
          exact mo_fin (by omega) rfl (k1 (-1) (by omega))
        · refine ja_aload_n daspectOf_10 rfl rfl ?_
          refine ja_aload_n daspectOf_11 rfl rfl ?_
          refine fa_aspectName daspectOf_12 ?_
          refine ja_iload_n daspectOf_15 rfl rfl ?_
          refine il_aspectName (v := h 13 (x2).toNat) rfl ⟨by omega, by omega⟩ daspectOf_16 ?_
          have f2 := gC_aspectName g (x2).toNat
          refine t_id (by decide) (show (0 : Nat) ≤ 8 by decide) daspectOf_17 g ⟨by omega, by omega⟩ (show 0 ≤ (h 13 (x2).toNat) ∧ (h 13 (x2).toNat) ≤ 900 by omega) ?_
          intro k17_0
          refine ja_iload_n daspectOf_20 rfl rfl ?_
          refine ja_icmp_ne 26 daspectOf_21 rfl ⟨by omega, by omega⟩ ⟨by omega, by omega⟩ (fun c21 => ?_) (fun c21 => ?_)
          · refine ja_iinc daspectOf_26 rfl (by decide) (L2 := [(2, (0, (x2 + 1))), (0, (2, ((0 : Nat) : Int))), (1, (0, a1))]) rfl ?_
            refine ja_goto 2 daspectOf_29 rfl ?_
            exact ja_wk (fun q hq => by simp only [List.mem_cons, List.not_mem_nil, or_false] at hq; rcases hq with rfl | rfl | rfl <;> rfl) ((ih ((20 - (x2 + 1)).toNat) (by omega)) (x2 + 1)  ⟨by omega, by omega⟩ (show 0 ≤ (x2 + 1) ∧ (x2 + 1) ≤ (h 0 26) by omega) rfl)
          · refine ja_iload_n daspectOf_24 rfl rfl ?_
            refine ja_ireturn daspectOf_25 rfl ?_
            exact mo_fin (by omega) rfl (k1 x2 (by omega))
  refine ja_iconst daspectOf_0 ?_
  refine ja_istore_n daspectOf_1 rfl (by decide) (L2 := [(2, (0, 0)), (0, (2, ((0 : Nat) : Int))), (1, (0, a1))]) rfl ?_
  exact ja_wk (fun q hq => by simp only [List.mem_cons, List.not_mem_nil, or_false] at hq; rcases hq with rfl | rfl | rfl <;> rfl) ((CUT _) 0  ⟨by decide, by decide⟩ (show 0 ≤ 0 ∧ 0 ≤ (h 0 26) by omega) rfl)
theorem t_aspectOf {a1 : Int} {d nL pc : Nat} {cc : ByteArray} {rt : Option FieldType} {L : List (Nat × ja_V)} {S : List ja_V} {h : ja_H} {Q : Option ja_V → ja_H → Prop} (hdd : 2 < d) (hwd : ja_wd S ≤ 8) (hd : decode cc pc = .ok (.invokevirtual 906, 3)) (g : mo_G Zz h) (r1 : -2147483648 ≤ a1 ∧ a1 ≤ 2147483647) (k1 : ∀ (v : Int), (-1 ≤ v ∧ v < (h 0 26) ∧ (0 ≤ v → (h 5 (h 13 (v).toNat).toNat) = a1)) → mJ l D cA ad d cc nL rt (pc + 3) L ((0, v) :: S) h Q) : mJ l D cA ad d cc nL rt pc L ((0, a1) :: (2, ((0 : Nat) : Int)) :: S) h Q :=
  mc_aspectOf hdd hwd hd (s_aspectOf g r1 k1)
end
theorem daspectFieldOf_0 : decode cX12_aspectFieldOf 0 = .ok (.iconst 0, 1) := by decide +kernel
theorem daspectFieldOf_1 : decode cX12_aspectFieldOf 1 = .ok (.istore_n 3, 1) := by decide +kernel
theorem daspectFieldOf_2 : decode cX12_aspectFieldOf 2 = .ok (.iload_n 3, 1) := by decide +kernel
theorem daspectFieldOf_3 : decode cX12_aspectFieldOf 3 = .ok (.aload_n 0, 1) := by decide +kernel
theorem daspectFieldOf_4 : decode cX12_aspectFieldOf 4 = .ok (.getfield 53, 3) := by decide +kernel
theorem daspectFieldOf_7 : decode cX12_aspectFieldOf 7 = .ok (.iload_n 1, 1) := by decide +kernel
theorem daspectFieldOf_8 : decode cX12_aspectFieldOf 8 = .ok (.iaload, 1) := by decide +kernel
theorem daspectFieldOf_9 : decode cX12_aspectFieldOf 9 = .ok (.if_icmp .ge 26, 3) := by decide +kernel
theorem daspectFieldOf_12 : decode cX12_aspectFieldOf 12 = .ok (.aload_n 0, 1) := by decide +kernel
theorem daspectFieldOf_13 : decode cX12_aspectFieldOf 13 = .ok (.getfield 56, 3) := by decide +kernel
theorem daspectFieldOf_16 : decode cX12_aspectFieldOf 16 = .ok (.bipush 10, 2) := by decide +kernel
theorem daspectFieldOf_18 : decode cX12_aspectFieldOf 18 = .ok (.iload_n 1, 1) := by decide +kernel
theorem daspectFieldOf_19 : decode cX12_aspectFieldOf 19 = .ok (.imul, 1) := by decide +kernel
theorem daspectFieldOf_20 : decode cX12_aspectFieldOf 20 = .ok (.iload_n 3, 1) := by decide +kernel
theorem daspectFieldOf_21 : decode cX12_aspectFieldOf 21 = .ok (.iadd, 1) := by decide +kernel
theorem daspectFieldOf_22 : decode cX12_aspectFieldOf 22 = .ok (.iaload, 1) := by decide +kernel
theorem daspectFieldOf_23 : decode cX12_aspectFieldOf 23 = .ok (.iload_n 2, 1) := by decide +kernel
theorem daspectFieldOf_24 : decode cX12_aspectFieldOf 24 = .ok (.if_icmp .ne 5, 3) := by decide +kernel
theorem daspectFieldOf_27 : decode cX12_aspectFieldOf 27 = .ok (.iload_n 3, 1) := by decide +kernel
theorem daspectFieldOf_28 : decode cX12_aspectFieldOf 28 = .ok (.ireturn, 1) := by decide +kernel
theorem daspectFieldOf_29 : decode cX12_aspectFieldOf 29 = .ok (.iinc 3 1, 3) := by decide +kernel
theorem daspectFieldOf_32 : decode cX12_aspectFieldOf 32 = .ok (.goto (-30), 3) := by decide +kernel
theorem daspectFieldOf_35 : decode cX12_aspectFieldOf 35 = .ok (.iconst (-1), 1) := by decide +kernel
theorem daspectFieldOf_36 : decode cX12_aspectFieldOf 36 = .ok (.ireturn, 1) := by decide +kernel
section
variable {l : Launch} {D : va_G} {cA : Nat → ClassId} {ad : Nat → Nat}
theorem s_aspectFieldOf {a1 a2 : Int} {h : ja_H} {Q : Option ja_V → ja_H → Prop} (g : mo_G Zz h) (r1 : -2147483648 ≤ a1 ∧ a1 ≤ 2147483647) (r2 : -2147483648 ≤ a2 ∧ a2 ≤ 2147483647) (p1 : 0 ≤ a1 ∧ a1 ≤ 8) (k1 : ∀ (v : Int), (-1 ≤ v ∧ v ≤ 9) → Q (some (0, v)) h) : mM_aspectFieldOf l D cA ad a1 a2 h Q := by
  show mJ l D cA ad 1 cX12_aspectFieldOf 4 (some .int) 0 [(0, (2, ((0 : Nat) : Int))), (1, (0, a1)), (2, (0, a2))] [] h Q
  have CUT : ∀ n : Nat, (∀ (x3 : Int), (-2147483648 ≤ x3 ∧ x3 ≤ 2147483647) → (0 ≤ x3 ∧ x3 ≤ (h 15 (a1).toNat)) → ((20 - x3).toNat) = n → mJ l D cA ad 1 cX12_aspectFieldOf 4 (some .int) 2 [(0, (2, ((0 : Nat) : Int))), (1, (0, a1)), (2, (0, a2)), (3, (0, x3))] [] h Q) := by
    intro n
    induction n using Nat.strongRecOn with
    | _ n ih =>
      skip
      · intro x3 qx3 iv hm
        subst hm
        have kq := gC_aspectFields g a1.toNat
        refine ja_iload_n daspectFieldOf_2 rfl rfl ?_
        refine ja_aload_n daspectFieldOf_3 rfl rfl ?_
        refine fa_aspectFields daspectFieldOf_4 ?_
        refine ja_iload_n daspectFieldOf_7 rfl rfl ?_
        refine il_aspectFields (v := h 15 (a1).toNat) rfl ⟨by omega, by omega⟩ daspectFieldOf_8 ?_
        have f1 := gC_aspectFields g (a1).toNat
        refine ja_icmp_ge 35 daspectFieldOf_9 rfl ⟨by omega, by omega⟩ ⟨by omega, by omega⟩ (fun c9 => ?_) (fun c9 => ?_)
        · refine ja_iconst daspectFieldOf_35 ?_
          refine ja_ireturn daspectFieldOf_36 rfl ?_
          exact mo_fin (by omega) rfl (k1 (-1) (by omega))
        · refine ja_aload_n daspectFieldOf_12 rfl rfl ?_
          refine fa_aspectField daspectFieldOf_13 ?_
          refine ja_bipush 10 daspectFieldOf_16 rfl ?_
          refine ja_iload_n daspectFieldOf_18 rfl rfl ?_
          refine ja_imul daspectFieldOf_19 ?_
          refine ja_iload_n daspectFieldOf_20 rfl rfl ?_
          refine ja_iadd daspectFieldOf_21 ?_
          refine il_aspectField (v := h 16 ((10 * a1) + x3).toNat) rfl ⟨by omega, by omega⟩ daspectFieldOf_22 ?_
          have f2 := gC_aspectField g ((10 * a1) + x3).toNat
          refine ja_iload_n daspectFieldOf_23 rfl rfl ?_
          refine ja_icmp_ne 29 daspectFieldOf_24 rfl ⟨by omega, by omega⟩ ⟨by omega, by omega⟩ (fun c24 => ?_) (fun c24 => ?_)
          · refine ja_iinc daspectFieldOf_29 rfl (by decide) (L2 := [(3, (0, (x3 + 1))), (0, (2, ((0 : Nat) : Int))), (1, (0, a1)), (2, (0, a2))]) rfl ?_
            refine ja_goto 2 daspectFieldOf_32 rfl ?_
            exact ja_wk (fun q hq => by simp only [List.mem_cons, List.not_mem_nil, or_false] at hq; rcases hq with rfl | rfl | rfl | rfl <;> rfl) ((ih ((20 - (x3 + 1)).toNat) (by omega)) (x3 + 1)  ⟨by omega, by omega⟩ (show 0 ≤ (x3 + 1) ∧ (x3 + 1) ≤ (h 15 (a1).toNat) by omega) rfl)
          · refine ja_iload_n daspectFieldOf_27 rfl rfl ?_
            refine ja_ireturn daspectFieldOf_28 rfl ?_
            exact mo_fin (by omega) rfl (k1 x3 (by omega))
  have kq := gC_aspectFields g a1.toNat
  refine ja_iconst daspectFieldOf_0 ?_
  refine ja_istore_n daspectFieldOf_1 rfl (by decide) (L2 := [(3, (0, 0)), (0, (2, ((0 : Nat) : Int))), (1, (0, a1)), (2, (0, a2))]) rfl ?_
  exact ja_wk (fun q hq => by simp only [List.mem_cons, List.not_mem_nil, or_false] at hq; rcases hq with rfl | rfl | rfl | rfl <;> rfl) ((CUT _) 0  ⟨by decide, by decide⟩ (show 0 ≤ 0 ∧ 0 ≤ (h 15 (a1).toNat) by omega) rfl)
theorem t_aspectFieldOf {a1 a2 : Int} {d nL pc : Nat} {cc : ByteArray} {rt : Option FieldType} {L : List (Nat × ja_V)} {S : List ja_V} {h : ja_H} {Q : Option ja_V → ja_H → Prop} (hdd : 1 < d) (hwd : ja_wd S ≤ 8) (hd : decode cc pc = .ok (.invokevirtual 909, 3)) (g : mo_G Zz h) (r1 : -2147483648 ≤ a1 ∧ a1 ≤ 2147483647) (r2 : -2147483648 ≤ a2 ∧ a2 ≤ 2147483647) (p1 : 0 ≤ a1 ∧ a1 ≤ 8) (k1 : ∀ (v : Int), (-1 ≤ v ∧ v ≤ 9) → mJ l D cA ad d cc nL rt (pc + 3) L ((0, v) :: S) h Q) : mJ l D cA ad d cc nL rt pc L ((0, a2) :: (0, a1) :: (2, ((0 : Nat) : Int)) :: S) h Q :=
  mc_aspectFieldOf hdd hwd hd (s_aspectFieldOf g r1 r2 p1 k1)
end
