/-! the reference: patterns, what is known ahead (written by a program) -/
/-! the reference: patterns, what is known ahead -/
def FTX : Nat → Nat → Bool := mo_X [] [1]
def FFO : Nat → Nat → Bool := mo_X [] [1, 73, 71, 72]
/-- a node as the walk over P wants it -/
def ndK (h : ja_H) (n : Nat) : Prop := ((h 58) n = 7 ∨ (h 58) n = 8 → (h 59) n ≤ 111) ∧ ((h 58) n = 11 ∨ (h 58) n = 13 ∨ (h 58) n = 14 ∨ (h 58) n = 15 → 0 ≤ (h 59) n ∧ (h 59) n ≤ 899) ∧ ((h 58) n = 13 ∨ (h 58) n = 14 → 0 ≤ (h 60) n ∧ (h 60) n ≤ 899) ∧ ((h 58) n = 12 → 0 ≤ (h 59) n ∧ (h 59) n ≤ 24)
def ptK (h : ja_H) (p : Nat) : Prop := ((h 52) p = 5 ∨ 0 ≤ (h 54) p) ∧ ((h 56) p = 2 → (h 57) p ≤ 24)
theorem nd_ag {h u : ja_H} {n : Nat} (ag : mo_ag (mo_F [] [58, 59, 60]) h u) (q : ndK h n) : ndK u n := by
  have f1 : (u 58) = (h 58) := funext fun j => ag _ _ rfl
  have f2 : (u 59) = (h 59) := funext fun j => ag _ _ rfl
  have f3 : (u 60) = (h 60) := funext fun j => ag _ _ rfl
  unfold ndK; rw [f1, f2, f3]; exact q
theorem ptK_ag {h u : ja_H} {n : Nat} (ag : mo_ag (mo_F [] [52, 54, 56, 57]) h u) (q : ptK h n) : ptK u n := by
  have f1 : (u 52) = (h 52) := funext fun j => ag _ _ rfl
  have f2 : (u 54) = (h 54) := funext fun j => ag _ _ rfl
  have f3 : (u 56) = (h 56) := funext fun j => ag _ _ rfl
  have f4 : (u 57) = (h 57) := funext fun j => ag _ _ rfl
  unfold ptK; rw [f1, f2, f3, f4]; exact q
theorem dgoes_0 : decode cX12_goes 0 = .ok (.iload_n 1, 1) := by decide +kernel
theorem dgoes_1 : decode cX12_goes 1 = .ok (.istore 5, 2) := by decide +kernel
theorem dgoes_3 : decode cX12_goes 3 = .ok (.iload_n 3, 1) := by decide +kernel
theorem dgoes_4 : decode cX12_goes 4 = .ok (.istore 6, 2) := by decide +kernel
theorem dgoes_6 : decode cX12_goes 6 = .ok (.iconst (-1), 1) := by decide +kernel
theorem dgoes_7 : decode cX12_goes 7 = .ok (.istore 7, 2) := by decide +kernel
theorem dgoes_9 : decode cX12_goes 9 = .ok (.iload_n 3, 1) := by decide +kernel
theorem dgoes_10 : decode cX12_goes 10 = .ok (.istore 8, 2) := by decide +kernel
theorem dgoes_12 : decode cX12_goes 12 = .ok (.iload 6, 2) := by decide +kernel
theorem dgoes_14 : decode cX12_goes 14 = .ok (.iload 4, 2) := by decide +kernel
theorem dgoes_16 : decode cX12_goes 16 = .ok (.if_icmp .ge 90, 3) := by decide +kernel
theorem dgoes_19 : decode cX12_goes 19 = .ok (.iload 5, 2) := by decide +kernel
theorem dgoes_21 : decode cX12_goes 21 = .ok (.iload_n 2, 1) := by decide +kernel
theorem dgoes_22 : decode cX12_goes 22 = .ok (.if_icmp .ge 29, 3) := by decide +kernel
theorem dgoes_25 : decode cX12_goes 25 = .ok (.aload_n 0, 1) := by decide +kernel
theorem dgoes_26 : decode cX12_goes 26 = .ok (.getfield 7, 3) := by decide +kernel
theorem dgoes_29 : decode cX12_goes 29 = .ok (.iload 5, 2) := by decide +kernel
theorem dgoes_31 : decode cX12_goes 31 = .ok (.iaload, 1) := by decide +kernel
theorem dgoes_32 : decode cX12_goes 32 = .ok (.bipush 42, 2) := by decide +kernel
theorem dgoes_34 : decode cX12_goes 34 = .ok (.if_icmp .ne 17, 3) := by decide +kernel
theorem dgoes_37 : decode cX12_goes 37 = .ok (.iload 5, 2) := by decide +kernel
theorem dgoes_39 : decode cX12_goes 39 = .ok (.istore 7, 2) := by decide +kernel
theorem dgoes_41 : decode cX12_goes 41 = .ok (.iload 6, 2) := by decide +kernel
theorem dgoes_43 : decode cX12_goes 43 = .ok (.istore 8, 2) := by decide +kernel
theorem dgoes_45 : decode cX12_goes 45 = .ok (.iinc 5 1, 3) := by decide +kernel
theorem dgoes_48 : decode cX12_goes 48 = .ok (.goto (-36), 3) := by decide +kernel
theorem dgoes_51 : decode cX12_goes 51 = .ok (.iload 5, 2) := by decide +kernel
theorem dgoes_53 : decode cX12_goes 53 = .ok (.iload_n 2, 1) := by decide +kernel
theorem dgoes_54 : decode cX12_goes 54 = .ok (.if_icmp .ge 29, 3) := by decide +kernel
theorem dgoes_57 : decode cX12_goes 57 = .ok (.aload_n 0, 1) := by decide +kernel
theorem dgoes_58 : decode cX12_goes 58 = .ok (.getfield 7, 3) := by decide +kernel
theorem dgoes_61 : decode cX12_goes 61 = .ok (.iload 5, 2) := by decide +kernel
theorem dgoes_63 : decode cX12_goes 63 = .ok (.iaload, 1) := by decide +kernel
theorem dgoes_64 : decode cX12_goes 64 = .ok (.aload_n 0, 1) := by decide +kernel
theorem dgoes_65 : decode cX12_goes 65 = .ok (.getfield 7, 3) := by decide +kernel
theorem dgoes_68 : decode cX12_goes 68 = .ok (.iload 6, 2) := by decide +kernel
theorem dgoes_70 : decode cX12_goes 70 = .ok (.iaload, 1) := by decide +kernel
theorem dgoes_71 : decode cX12_goes 71 = .ok (.if_icmp .ne 12, 3) := by decide +kernel
theorem dgoes_74 : decode cX12_goes 74 = .ok (.iinc 5 1, 3) := by decide +kernel
theorem dgoes_77 : decode cX12_goes 77 = .ok (.iinc 6 1, 3) := by decide +kernel
theorem dgoes_80 : decode cX12_goes 80 = .ok (.goto (-68), 3) := by decide +kernel
theorem dgoes_83 : decode cX12_goes 83 = .ok (.iload 7, 2) := by decide +kernel
theorem dgoes_85 : decode cX12_goes 85 = .ok (.ifCond .lt 19, 3) := by decide +kernel
theorem dgoes_88 : decode cX12_goes 88 = .ok (.iinc 8 1, 3) := by decide +kernel
theorem dgoes_91 : decode cX12_goes 91 = .ok (.iload 8, 2) := by decide +kernel
theorem dgoes_93 : decode cX12_goes 93 = .ok (.istore 6, 2) := by decide +kernel
theorem dgoes_95 : decode cX12_goes 95 = .ok (.iload 7, 2) := by decide +kernel
theorem dgoes_97 : decode cX12_goes 97 = .ok (.iconst 1, 1) := by decide +kernel
theorem dgoes_98 : decode cX12_goes 98 = .ok (.iadd, 1) := by decide +kernel
theorem dgoes_99 : decode cX12_goes 99 = .ok (.istore 5, 2) := by decide +kernel
theorem dgoes_101 : decode cX12_goes 101 = .ok (.goto (-89), 3) := by decide +kernel
theorem dgoes_104 : decode cX12_goes 104 = .ok (.iconst 0, 1) := by decide +kernel
theorem dgoes_105 : decode cX12_goes 105 = .ok (.ireturn, 1) := by decide +kernel
theorem dgoes_106 : decode cX12_goes 106 = .ok (.iload 5, 2) := by decide +kernel
theorem dgoes_108 : decode cX12_goes 108 = .ok (.iload_n 2, 1) := by decide +kernel
theorem dgoes_109 : decode cX12_goes 109 = .ok (.if_icmp .ge 21, 3) := by decide +kernel
theorem dgoes_112 : decode cX12_goes 112 = .ok (.aload_n 0, 1) := by decide +kernel
theorem dgoes_113 : decode cX12_goes 113 = .ok (.getfield 7, 3) := by decide +kernel
theorem dgoes_116 : decode cX12_goes 116 = .ok (.iload 5, 2) := by decide +kernel
theorem dgoes_118 : decode cX12_goes 118 = .ok (.iaload, 1) := by decide +kernel
theorem dgoes_119 : decode cX12_goes 119 = .ok (.bipush 42, 2) := by decide +kernel
theorem dgoes_121 : decode cX12_goes 121 = .ok (.if_icmp .ne 9, 3) := by decide +kernel
theorem dgoes_124 : decode cX12_goes 124 = .ok (.iinc 5 1, 3) := by decide +kernel
theorem dgoes_127 : decode cX12_goes 127 = .ok (.goto (-21), 3) := by decide +kernel
theorem dgoes_130 : decode cX12_goes 130 = .ok (.iload 5, 2) := by decide +kernel
theorem dgoes_132 : decode cX12_goes 132 = .ok (.iload_n 2, 1) := by decide +kernel
theorem dgoes_133 : decode cX12_goes 133 = .ok (.if_icmp .ne 7, 3) := by decide +kernel
theorem dgoes_136 : decode cX12_goes 136 = .ok (.iconst 1, 1) := by decide +kernel
theorem dgoes_137 : decode cX12_goes 137 = .ok (.goto 4, 3) := by decide +kernel
theorem dgoes_140 : decode cX12_goes 140 = .ok (.iconst 0, 1) := by decide +kernel
theorem dgoes_141 : decode cX12_goes 141 = .ok (.ireturn, 1) := by decide +kernel
section
variable {l : Launch} {D : va_G} {cA : Nat → ClassId} {ad : Nat → Nat}
theorem s_goes {a1 a2 a3 a4 : Int} {h : ja_H} {Q : Option ja_V → ja_H → Prop} (g : mo_G mo_zr h) (r1 : -2147483648 ≤ a1 ∧ a1 ≤ 2147483647) (r2 : -2147483648 ≤ a2 ∧ a2 ≤ 2147483647) (r3 : -2147483648 ≤ a3 ∧ a3 ≤ 2147483647) (r4 : -2147483648 ≤ a4 ∧ a4 ≤ 2147483647) (p1 : 0 ≤ a1) (p2 : a1 ≤ a2) (p3 : a2 ≤ 5000 ∨ a2 = a1) (p4 : 0 ≤ a3 ∧ a3 ≤ 5010) (p5 : 0 ≤ a4 ∧ a4 ≤ 5010) (k1 : ∀ (v : Int), (0 ≤ v ∧ v ≤ 1) → Q (some (0, v)) h) : mM_goes l D cA ad a1 a2 a3 a4 h Q := by
  show mJ l D cA ad 1 cX12_goes 9 (some .boolean) 0 [(0, (2, ((0 : Nat) : Int))), (1, (0, a1)), (2, (0, a2)), (3, (0, a3)), (4, (0, a4))] [] h Q
  have CUT : ∀ n : Nat, (∀ (x5 x6 x7 x8 : Int), (-2147483648 ≤ x5 ∧ x5 ≤ 2147483647) → (-2147483648 ≤ x6 ∧ x6 ≤ 2147483647) → (-2147483648 ≤ x7 ∧ x7 ≤ 2147483647) → (-2147483648 ≤ x8 ∧ x8 ≤ 2147483647) → (a1 ≤ x5 ∧ x5 ≤ a2 ∧ (x7 = -1 ∨ (a1 ≤ x7 ∧ x7 < x5)) ∧ a3 ≤ x8 ∧ x8 ≤ x6 ∧ (x6 ≤ a4 ∨ x6 = a3)) → (((40000000 : Int) + (a2 - x7) * 30000000 + (a4 - x8) * 5100 + (a4 - x6)).toNat) = n → mJ l D cA ad 1 cX12_goes 9 (some .boolean) 12 [(0, (2, ((0 : Nat) : Int))), (2, (0, a2)), (4, (0, a4)), (5, (0, x5)), (6, (0, x6)), (7, (0, x7)), (8, (0, x8))] [] h Q) ∧ (∀ (x5 : Int), (-2147483648 ≤ x5 ∧ x5 ≤ 2147483647) → (a1 ≤ x5 ∧ x5 ≤ a2) → ((a2 - x5).toNat) = n → mJ l D cA ad 1 cX12_goes 9 (some .boolean) 106 [(0, (2, ((0 : Nat) : Int))), (2, (0, a2)), (5, (0, x5))] [] h Q) := by
    intro n
    induction n using Nat.strongRecOn with
    | _ n ih =>
      refine ⟨?_, ?_⟩
      · intro x5 x6 x7 x8 qx5 qx6 qx7 qx8 iv hm
        subst hm
        refine ja_iload dgoes_12 rfl ?_
        refine ja_iload dgoes_14 rfl ?_
        refine ja_icmp_ge 106 dgoes_16 rfl ⟨by omega, by omega⟩ ⟨by omega, by omega⟩ (fun c16 => ?_) (fun c16 => ?_)
        · exact ja_wk (fun q hq => by simp only [List.mem_cons, List.not_mem_nil, or_false] at hq; rcases hq with rfl | rfl | rfl <;> rfl) ((ih ((a2 - x5).toNat) (by omega)).2 x5  ⟨by omega, by omega⟩ (show a1 ≤ x5 ∧ x5 ≤ a2 by omega) rfl)
        · refine ja_iload dgoes_19 rfl ?_
          refine ja_iload_n dgoes_21 rfl rfl ?_
          refine ja_icmp_ge 51 dgoes_22 rfl ⟨by omega, by omega⟩ ⟨by omega, by omega⟩ (fun c22 => ?_) (fun c22 => ?_)
          · refine ja_iload dgoes_51 rfl ?_
            refine ja_iload_n dgoes_53 rfl rfl ?_
            refine ja_icmp_ge 83 dgoes_54 rfl ⟨by omega, by omega⟩ ⟨by omega, by omega⟩ (fun c54 => ?_) (fun c54 => ?_)
            · refine ja_iload dgoes_83 rfl ?_
              refine ja_if_lt 104 dgoes_85 rfl ⟨by omega, by omega⟩ (fun c85 => ?_) (fun c85 => ?_)
              · refine ja_iconst dgoes_104 ?_
                refine ja_zreturn dgoes_105 rfl (by omega) ?_
                exact mo_fin (by omega) rfl (k1 0 (by omega))
              · refine ja_iinc dgoes_88 rfl (by decide) (L2 := [(8, (0, (x8 + 1))), (0, (2, ((0 : Nat) : Int))), (2, (0, a2)), (4, (0, a4)), (5, (0, x5)), (6, (0, x6)), (7, (0, x7))]) rfl ?_
                refine ja_iload dgoes_91 rfl ?_
                refine ja_istore dgoes_93 (by decide) (L2 := [(6, (0, (x8 + 1))), (8, (0, (x8 + 1))), (0, (2, ((0 : Nat) : Int))), (2, (0, a2)), (4, (0, a4)), (5, (0, x5)), (7, (0, x7))]) rfl ?_
                refine ja_iload dgoes_95 rfl ?_
                refine ja_iconst dgoes_97 ?_
                refine ja_iadd dgoes_98 ?_
                refine ja_istore dgoes_99 (by decide) (L2 := [(5, (0, (x7 + 1))), (6, (0, (x8 + 1))), (8, (0, (x8 + 1))), (0, (2, ((0 : Nat) : Int))), (2, (0, a2)), (4, (0, a4)), (7, (0, x7))]) rfl ?_
                refine ja_goto 12 dgoes_101 rfl ?_
                exact ja_wk (fun q hq => by simp only [List.mem_cons, List.not_mem_nil, or_false] at hq; rcases hq with rfl | rfl | rfl | rfl | rfl | rfl | rfl <;> rfl) ((ih (((40000000 : Int) + (a2 - x7) * 30000000 + (a4 - (x8 + 1)) * 5100 + (a4 - (x8 + 1))).toNat) (by omega)).1 (x7 + 1) (x8 + 1) x7 (x8 + 1)  ⟨by omega, by omega⟩ ⟨by omega, by omega⟩ ⟨by omega, by omega⟩ ⟨by omega, by omega⟩ (show a1 ≤ (x7 + 1) ∧ (x7 + 1) ≤ a2 ∧ (x7 = -1 ∨ (a1 ≤ x7 ∧ x7 < (x7 + 1))) ∧ a3 ≤ (x8 + 1) ∧ (x8 + 1) ≤ (x8 + 1) ∧ ((x8 + 1) ≤ a4 ∨ (x8 + 1) = a3) by omega) rfl)
            · refine ja_aload_n dgoes_57 rfl rfl ?_
              refine fa_text dgoes_58 ?_
              refine ja_iload dgoes_61 rfl ?_
              refine il_text (v := h 1 (x5).toNat) rfl ⟨by omega, by omega⟩ dgoes_63 ?_
              have f1 := gC_text g (x5).toNat
              refine ja_aload_n dgoes_64 rfl rfl ?_
              refine fa_text dgoes_65 ?_
              refine ja_iload dgoes_68 rfl ?_
              refine il_text (v := h 1 (x6).toNat) rfl ⟨by omega, by omega⟩ dgoes_70 ?_
              have f2 := gC_text g (x6).toNat
              refine ja_icmp_ne 83 dgoes_71 rfl ⟨by omega, by omega⟩ ⟨by omega, by omega⟩ (fun c71 => ?_) (fun c71 => ?_)
              · refine ja_iload dgoes_83 rfl ?_
                refine ja_if_lt 104 dgoes_85 rfl ⟨by omega, by omega⟩ (fun c85 => ?_) (fun c85 => ?_)
                · refine ja_iconst dgoes_104 ?_
                  refine ja_zreturn dgoes_105 rfl (by omega) ?_
                  exact mo_fin (by omega) rfl (k1 0 (by omega))
                · refine ja_iinc dgoes_88 rfl (by decide) (L2 := [(8, (0, (x8 + 1))), (0, (2, ((0 : Nat) : Int))), (2, (0, a2)), (4, (0, a4)), (5, (0, x5)), (6, (0, x6)), (7, (0, x7))]) rfl ?_
                  refine ja_iload dgoes_91 rfl ?_
                  refine ja_istore dgoes_93 (by decide) (L2 := [(6, (0, (x8 + 1))), (8, (0, (x8 + 1))), (0, (2, ((0 : Nat) : Int))), (2, (0, a2)), (4, (0, a4)), (5, (0, x5)), (7, (0, x7))]) rfl ?_
                  refine ja_iload dgoes_95 rfl ?_
                  refine ja_iconst dgoes_97 ?_
                  refine ja_iadd dgoes_98 ?_
                  refine ja_istore dgoes_99 (by decide) (L2 := [(5, (0, (x7 + 1))), (6, (0, (x8 + 1))), (8, (0, (x8 + 1))), (0, (2, ((0 : Nat) : Int))), (2, (0, a2)), (4, (0, a4)), (7, (0, x7))]) rfl ?_
                  refine ja_goto 12 dgoes_101 rfl ?_
                  exact ja_wk (fun q hq => by simp only [List.mem_cons, List.not_mem_nil, or_false] at hq; rcases hq with rfl | rfl | rfl | rfl | rfl | rfl | rfl <;> rfl) ((ih (((40000000 : Int) + (a2 - x7) * 30000000 + (a4 - (x8 + 1)) * 5100 + (a4 - (x8 + 1))).toNat) (by omega)).1 (x7 + 1) (x8 + 1) x7 (x8 + 1)  ⟨by omega, by omega⟩ ⟨by omega, by omega⟩ ⟨by omega, by omega⟩ ⟨by omega, by omega⟩ (show a1 ≤ (x7 + 1) ∧ (x7 + 1) ≤ a2 ∧ (x7 = -1 ∨ (a1 ≤ x7 ∧ x7 < (x7 + 1))) ∧ a3 ≤ (x8 + 1) ∧ (x8 + 1) ≤ (x8 + 1) ∧ ((x8 + 1) ≤ a4 ∨ (x8 + 1) = a3) by omega) rfl)
              · refine ja_iinc dgoes_74 rfl (by decide) (L2 := [(5, (0, (x5 + 1))), (0, (2, ((0 : Nat) : Int))), (2, (0, a2)), (4, (0, a4)), (6, (0, x6)), (7, (0, x7)), (8, (0, x8))]) rfl ?_
                refine ja_iinc dgoes_77 rfl (by decide) (L2 := [(6, (0, (x6 + 1))), (5, (0, (x5 + 1))), (0, (2, ((0 : Nat) : Int))), (2, (0, a2)), (4, (0, a4)), (7, (0, x7)), (8, (0, x8))]) rfl ?_
                refine ja_goto 12 dgoes_80 rfl ?_
                exact ja_wk (fun q hq => by simp only [List.mem_cons, List.not_mem_nil, or_false] at hq; rcases hq with rfl | rfl | rfl | rfl | rfl | rfl | rfl <;> rfl) ((ih (((40000000 : Int) + (a2 - x7) * 30000000 + (a4 - x8) * 5100 + (a4 - (x6 + 1))).toNat) (by omega)).1 (x5 + 1) (x6 + 1) x7 x8  ⟨by omega, by omega⟩ ⟨by omega, by omega⟩ ⟨by omega, by omega⟩ ⟨by omega, by omega⟩ (show a1 ≤ (x5 + 1) ∧ (x5 + 1) ≤ a2 ∧ (x7 = -1 ∨ (a1 ≤ x7 ∧ x7 < (x5 + 1))) ∧ a3 ≤ x8 ∧ x8 ≤ (x6 + 1) ∧ ((x6 + 1) ≤ a4 ∨ (x6 + 1) = a3) by omega) rfl)
          · refine ja_aload_n dgoes_25 rfl rfl ?_
            refine fa_text dgoes_26 ?_
            refine ja_iload dgoes_29 rfl ?_
            refine il_text (v := h 1 (x5).toNat) rfl ⟨by omega, by omega⟩ dgoes_31 ?_
            have f3 := gC_text g (x5).toNat
            refine ja_bipush 42 dgoes_32 rfl ?_
            refine ja_icmp_ne 51 dgoes_34 rfl ⟨by omega, by omega⟩ ⟨by decide, by decide⟩ (fun c34 => ?_) (fun c34 => ?_)
            · refine ja_iload dgoes_51 rfl ?_
              refine ja_iload_n dgoes_53 rfl rfl ?_
              refine ja_icmp_ge 83 dgoes_54 rfl ⟨by omega, by omega⟩ ⟨by omega, by omega⟩ (fun c54 => ?_) (fun c54 => ?_)
              · refine ja_iload dgoes_83 rfl ?_
                refine ja_if_lt 104 dgoes_85 rfl ⟨by omega, by omega⟩ (fun c85 => ?_) (fun c85 => ?_)
                · refine ja_iconst dgoes_104 ?_
                  refine ja_zreturn dgoes_105 rfl (by omega) ?_
                  exact mo_fin (by omega) rfl (k1 0 (by omega))
                · refine ja_iinc dgoes_88 rfl (by decide) (L2 := [(8, (0, (x8 + 1))), (0, (2, ((0 : Nat) : Int))), (2, (0, a2)), (4, (0, a4)), (5, (0, x5)), (6, (0, x6)), (7, (0, x7))]) rfl ?_
                  refine ja_iload dgoes_91 rfl ?_
                  refine ja_istore dgoes_93 (by decide) (L2 := [(6, (0, (x8 + 1))), (8, (0, (x8 + 1))), (0, (2, ((0 : Nat) : Int))), (2, (0, a2)), (4, (0, a4)), (5, (0, x5)), (7, (0, x7))]) rfl ?_
                  refine ja_iload dgoes_95 rfl ?_
                  refine ja_iconst dgoes_97 ?_
                  refine ja_iadd dgoes_98 ?_
                  refine ja_istore dgoes_99 (by decide) (L2 := [(5, (0, (x7 + 1))), (6, (0, (x8 + 1))), (8, (0, (x8 + 1))), (0, (2, ((0 : Nat) : Int))), (2, (0, a2)), (4, (0, a4)), (7, (0, x7))]) rfl ?_
                  refine ja_goto 12 dgoes_101 rfl ?_
                  exact ja_wk (fun q hq => by simp only [List.mem_cons, List.not_mem_nil, or_false] at hq; rcases hq with rfl | rfl | rfl | rfl | rfl | rfl | rfl <;> rfl) ((ih (((40000000 : Int) + (a2 - x7) * 30000000 + (a4 - (x8 + 1)) * 5100 + (a4 - (x8 + 1))).toNat) (by omega)).1 (x7 + 1) (x8 + 1) x7 (x8 + 1)  ⟨by omega, by omega⟩ ⟨by omega, by omega⟩ ⟨by omega, by omega⟩ ⟨by omega, by omega⟩ (show a1 ≤ (x7 + 1) ∧ (x7 + 1) ≤ a2 ∧ (x7 = -1 ∨ (a1 ≤ x7 ∧ x7 < (x7 + 1))) ∧ a3 ≤ (x8 + 1) ∧ (x8 + 1) ≤ (x8 + 1) ∧ ((x8 + 1) ≤ a4 ∨ (x8 + 1) = a3) by omega) rfl)
              · refine ja_aload_n dgoes_57 rfl rfl ?_
                refine fa_text dgoes_58 ?_
                refine ja_iload dgoes_61 rfl ?_
                refine il_text (v := h 1 (x5).toNat) rfl ⟨by omega, by omega⟩ dgoes_63 ?_
                refine ja_aload_n dgoes_64 rfl rfl ?_
                refine fa_text dgoes_65 ?_
                refine ja_iload dgoes_68 rfl ?_
                refine il_text (v := h 1 (x6).toNat) rfl ⟨by omega, by omega⟩ dgoes_70 ?_
                have f4 := gC_text g (x6).toNat
                refine ja_icmp_ne 83 dgoes_71 rfl ⟨by omega, by omega⟩ ⟨by omega, by omega⟩ (fun c71 => ?_) (fun c71 => ?_)
                · refine ja_iload dgoes_83 rfl ?_
                  refine ja_if_lt 104 dgoes_85 rfl ⟨by omega, by omega⟩ (fun c85 => ?_) (fun c85 => ?_)
                  · refine ja_iconst dgoes_104 ?_
                    refine ja_zreturn dgoes_105 rfl (by omega) ?_
                    exact mo_fin (by omega) rfl (k1 0 (by omega))
                  · refine ja_iinc dgoes_88 rfl (by decide) (L2 := [(8, (0, (x8 + 1))), (0, (2, ((0 : Nat) : Int))), (2, (0, a2)), (4, (0, a4)), (5, (0, x5)), (6, (0, x6)), (7, (0, x7))]) rfl ?_
                    refine ja_iload dgoes_91 rfl ?_
                    refine ja_istore dgoes_93 (by decide) (L2 := [(6, (0, (x8 + 1))), (8, (0, (x8 + 1))), (0, (2, ((0 : Nat) : Int))), (2, (0, a2)), (4, (0, a4)), (5, (0, x5)), (7, (0, x7))]) rfl ?_
                    refine ja_iload dgoes_95 rfl ?_
                    refine ja_iconst dgoes_97 ?_
                    refine ja_iadd dgoes_98 ?_
                    refine ja_istore dgoes_99 (by decide) (L2 := [(5, (0, (x7 + 1))), (6, (0, (x8 + 1))), (8, (0, (x8 + 1))), (0, (2, ((0 : Nat) : Int))), (2, (0, a2)), (4, (0, a4)), (7, (0, x7))]) rfl ?_
                    refine ja_goto 12 dgoes_101 rfl ?_
                    exact ja_wk (fun q hq => by simp only [List.mem_cons, List.not_mem_nil, or_false] at hq; rcases hq with rfl | rfl | rfl | rfl | rfl | rfl | rfl <;> rfl) ((ih (((40000000 : Int) + (a2 - x7) * 30000000 + (a4 - (x8 + 1)) * 5100 + (a4 - (x8 + 1))).toNat) (by omega)).1 (x7 + 1) (x8 + 1) x7 (x8 + 1)  ⟨by omega, by omega⟩ ⟨by omega, by omega⟩ ⟨by omega, by omega⟩ ⟨by omega, by omega⟩ (show a1 ≤ (x7 + 1) ∧ (x7 + 1) ≤ a2 ∧ (x7 = -1 ∨ (a1 ≤ x7 ∧ x7 < (x7 + 1))) ∧ a3 ≤ (x8 + 1) ∧ (x8 + 1) ≤ (x8 + 1) ∧ ((x8 + 1) ≤ a4 ∨ (x8 + 1) = a3) by omega) rfl)
                · refine ja_iinc dgoes_74 rfl (by decide) (L2 := [(5, (0, (x5 + 1))), (0, (2, ((0 : Nat) : Int))), (2, (0, a2)), (4, (0, a4)), (6, (0, x6)), (7, (0, x7)), (8, (0, x8))]) rfl ?_
                  refine ja_iinc dgoes_77 rfl (by decide) (L2 := [(6, (0, (x6 + 1))), (5, (0, (x5 + 1))), (0, (2, ((0 : Nat) : Int))), (2, (0, a2)), (4, (0, a4)), (7, (0, x7)), (8, (0, x8))]) rfl ?_
                  refine ja_goto 12 dgoes_80 rfl ?_
                  exact ja_wk (fun q hq => by simp only [List.mem_cons, List.not_mem_nil, or_false] at hq; rcases hq with rfl | rfl | rfl | rfl | rfl | rfl | rfl <;> rfl) ((ih (((40000000 : Int) + (a2 - x7) * 30000000 + (a4 - x8) * 5100 + (a4 - (x6 + 1))).toNat) (by omega)).1 (x5 + 1) (x6 + 1) x7 x8  ⟨by omega, by omega⟩ ⟨by omega, by omega⟩ ⟨by omega, by omega⟩ ⟨by omega, by omega⟩ (show a1 ≤ (x5 + 1) ∧ (x5 + 1) ≤ a2 ∧ (x7 = -1 ∨ (a1 ≤ x7 ∧ x7 < (x5 + 1))) ∧ a3 ≤ x8 ∧ x8 ≤ (x6 + 1) ∧ ((x6 + 1) ≤ a4 ∨ (x6 + 1) = a3) by omega) rfl)
            · refine ja_iload dgoes_37 rfl ?_
              refine ja_istore dgoes_39 (by decide) (L2 := [(7, (0, x5)), (0, (2, ((0 : Nat) : Int))), (2, (0, a2)), (4, (0, a4)), (5, (0, x5)), (6, (0, x6)), (8, (0, x8))]) rfl ?_
              refine ja_iload dgoes_41 rfl ?_
              refine ja_istore dgoes_43 (by decide) (L2 := [(8, (0, x6)), (7, (0, x5)), (0, (2, ((0 : Nat) : Int))), (2, (0, a2)), (4, (0, a4)), (5, (0, x5)), (6, (0, x6))]) rfl ?_
              refine ja_iinc dgoes_45 rfl (by decide) (L2 := [(5, (0, (x5 + 1))), (8, (0, x6)), (7, (0, x5)), (0, (2, ((0 : Nat) : Int))), (2, (0, a2)), (4, (0, a4)), (6, (0, x6))]) rfl ?_
              refine ja_goto 12 dgoes_48 rfl ?_
              exact ja_wk (fun q hq => by simp only [List.mem_cons, List.not_mem_nil, or_false] at hq; rcases hq with rfl | rfl | rfl | rfl | rfl | rfl | rfl <;> rfl) ((ih (((40000000 : Int) + (a2 - x5) * 30000000 + (a4 - x6) * 5100 + (a4 - x6)).toNat) (by omega)).1 (x5 + 1) x6 x5 x6  ⟨by omega, by omega⟩ ⟨by omega, by omega⟩ ⟨by omega, by omega⟩ ⟨by omega, by omega⟩ (show a1 ≤ (x5 + 1) ∧ (x5 + 1) ≤ a2 ∧ (x5 = -1 ∨ (a1 ≤ x5 ∧ x5 < (x5 + 1))) ∧ a3 ≤ x6 ∧ x6 ≤ x6 ∧ (x6 ≤ a4 ∨ x6 = a3) by omega) rfl)
      · intro x5 qx5 iv hm
        subst hm
        refine ja_iload dgoes_106 rfl ?_
        refine ja_iload_n dgoes_108 rfl rfl ?_
        refine ja_icmp_ge 130 dgoes_109 rfl ⟨by omega, by omega⟩ ⟨by omega, by omega⟩ (fun c109 => ?_) (fun c109 => ?_)
        · refine ja_iload dgoes_130 rfl ?_
          refine ja_iload_n dgoes_132 rfl rfl ?_
          refine ja_icmp_ne 140 dgoes_133 rfl ⟨by omega, by omega⟩ ⟨by omega, by omega⟩ (fun c133 => ?_) (fun c133 => ?_)
          · refine ja_iconst dgoes_140 ?_
            refine ja_zreturn dgoes_141 rfl (by omega) ?_
            exact mo_fin (by omega) rfl (k1 0 (by omega))
          · refine ja_iconst dgoes_136 ?_
            refine ja_goto 141 dgoes_137 rfl ?_
            refine ja_zreturn dgoes_141 rfl (by omega) ?_
            exact mo_fin (by omega) rfl (k1 1 (by omega))
        · refine ja_aload_n dgoes_112 rfl rfl ?_
          refine fa_text dgoes_113 ?_
          refine ja_iload dgoes_116 rfl ?_
          refine il_text (v := h 1 (x5).toNat) rfl ⟨by omega, by omega⟩ dgoes_118 ?_
          have f5 := gC_text g (x5).toNat
          refine ja_bipush 42 dgoes_119 rfl ?_
          refine ja_icmp_ne 130 dgoes_121 rfl ⟨by omega, by omega⟩ ⟨by decide, by decide⟩ (fun c121 => ?_) (fun c121 => ?_)
          · refine ja_iload dgoes_130 rfl ?_
            refine ja_iload_n dgoes_132 rfl rfl ?_
            refine ja_icmp_ne 140 dgoes_133 rfl ⟨by omega, by omega⟩ ⟨by omega, by omega⟩ (fun c133 => ?_) (fun c133 => ?_)
            · refine ja_iconst dgoes_140 ?_
              refine ja_zreturn dgoes_141 rfl (by omega) ?_
              exact mo_fin (by omega) rfl (k1 0 (by omega))
            · refine ja_iconst dgoes_136 ?_
              refine ja_goto 141 dgoes_137 rfl ?_
              refine ja_zreturn dgoes_141 rfl (by omega) ?_
              exact mo_fin (by omega) rfl (k1 1 (by omega))
          · refine ja_iinc dgoes_124 rfl (by decide) (L2 := [(5, (0, (x5 + 1))), (0, (2, ((0 : Nat) : Int))), (2, (0, a2))]) rfl ?_
            refine ja_goto 106 dgoes_127 rfl ?_
            exact ja_wk (fun q hq => by simp only [List.mem_cons, List.not_mem_nil, or_false] at hq; rcases hq with rfl | rfl | rfl <;> rfl) ((ih ((a2 - (x5 + 1)).toNat) (by omega)).2 (x5 + 1)  ⟨by omega, by omega⟩ (show a1 ≤ (x5 + 1) ∧ (x5 + 1) ≤ a2 by omega) rfl)
  refine ja_iload_n dgoes_0 rfl rfl ?_
  refine ja_istore dgoes_1 (by decide) (L2 := [(5, (0, a1)), (0, (2, ((0 : Nat) : Int))), (1, (0, a1)), (2, (0, a2)), (3, (0, a3)), (4, (0, a4))]) rfl ?_
  refine ja_iload_n dgoes_3 rfl rfl ?_
  refine ja_istore dgoes_4 (by decide) (L2 := [(6, (0, a3)), (5, (0, a1)), (0, (2, ((0 : Nat) : Int))), (1, (0, a1)), (2, (0, a2)), (3, (0, a3)), (4, (0, a4))]) rfl ?_
  refine ja_iconst dgoes_6 ?_
  refine ja_istore dgoes_7 (by decide) (L2 := [(7, (0, (-1))), (6, (0, a3)), (5, (0, a1)), (0, (2, ((0 : Nat) : Int))), (1, (0, a1)), (2, (0, a2)), (3, (0, a3)), (4, (0, a4))]) rfl ?_
  refine ja_iload_n dgoes_9 rfl rfl ?_
  refine ja_istore dgoes_10 (by decide) (L2 := [(8, (0, a3)), (7, (0, (-1))), (6, (0, a3)), (5, (0, a1)), (0, (2, ((0 : Nat) : Int))), (1, (0, a1)), (2, (0, a2)), (3, (0, a3)), (4, (0, a4))]) rfl ?_
  exact ja_wk (fun q hq => by simp only [List.mem_cons, List.not_mem_nil, or_false] at hq; rcases hq with rfl | rfl | rfl | rfl | rfl | rfl | rfl <;> rfl) ((CUT _).1 a1 a3 (-1) a3  ⟨by omega, by omega⟩ ⟨by omega, by omega⟩ ⟨by decide, by decide⟩ ⟨by omega, by omega⟩ (show a1 ≤ a1 ∧ a1 ≤ a2 ∧ ((-1) = -1 ∨ (a1 ≤ (-1) ∧ (-1) < a1)) ∧ a3 ≤ a3 ∧ a3 ≤ a3 ∧ (a3 ≤ a4 ∨ a3 = a3) by omega) rfl)
theorem t_goes {a1 a2 a3 a4 : Int} {d nL pc : Nat} {cc : ByteArray} {rt : Option FieldType} {L : List (Nat × ja_V)} {S : List ja_V} {h : ja_H} {Q : Option ja_V → ja_H → Prop} (hdd : 1 < d) (hwd : ja_wd S ≤ 8) (hd : decode cc pc = .ok (.invokevirtual 939, 3)) (g : mo_G mo_zr h) (r1 : -2147483648 ≤ a1 ∧ a1 ≤ 2147483647) (r2 : -2147483648 ≤ a2 ∧ a2 ≤ 2147483647) (r3 : -2147483648 ≤ a3 ∧ a3 ≤ 2147483647) (r4 : -2147483648 ≤ a4 ∧ a4 ≤ 2147483647) (p1 : 0 ≤ a1) (p2 : a1 ≤ a2) (p3 : a2 ≤ 5000 ∨ a2 = a1) (p4 : 0 ≤ a3 ∧ a3 ≤ 5010) (p5 : 0 ≤ a4 ∧ a4 ≤ 5010) (k1 : ∀ (v : Int), (0 ≤ v ∧ v ≤ 1) → mJ l D cA ad d cc nL rt (pc + 3) L ((0, v) :: S) h Q) : mJ l D cA ad d cc nL rt pc L ((0, a4) :: (0, a3) :: (0, a2) :: (0, a1) :: (2, ((0 : Nat) : Int)) :: S) h Q :=
  mc_goes hdd hwd hd (s_goes g r1 r2 r3 r4 p1 p2 p3 p4 p5 k1)
end
theorem dgoesName_0 : decode cX12_goesName 0 = .ok (.aload_n 0, 1) := by decide +kernel
theorem dgoesName_1 : decode cX12_goesName 1 = .ok (.iload_n 1, 1) := by decide +kernel
theorem dgoesName_2 : decode cX12_goesName 2 = .ok (.aload_n 0, 1) := by decide +kernel
theorem dgoesName_3 : decode cX12_goesName 3 = .ok (.iload_n 1, 1) := by decide +kernel
theorem dgoesName_4 : decode cX12_goesName 4 = .ok (.invokevirtual 555, 3) := by decide +kernel
theorem dgoesName_7 : decode cX12_goesName 7 = .ok (.aload_n 0, 1) := by decide +kernel
theorem dgoesName_8 : decode cX12_goesName 8 = .ok (.getfield 16, 3) := by decide +kernel
theorem dgoesName_11 : decode cX12_goesName 11 = .ok (.iload_n 2, 1) := by decide +kernel
theorem dgoesName_12 : decode cX12_goesName 12 = .ok (.iaload, 1) := by decide +kernel
theorem dgoesName_13 : decode cX12_goesName 13 = .ok (.aload_n 0, 1) := by decide +kernel
theorem dgoesName_14 : decode cX12_goesName 14 = .ok (.getfield 19, 3) := by decide +kernel
theorem dgoesName_17 : decode cX12_goesName 17 = .ok (.iload_n 2, 1) := by decide +kernel
theorem dgoesName_18 : decode cX12_goesName 18 = .ok (.iaload, 1) := by decide +kernel
theorem dgoesName_19 : decode cX12_goesName 19 = .ok (.invokevirtual 939, 3) := by decide +kernel
theorem dgoesName_22 : decode cX12_goesName 22 = .ok (.ireturn, 1) := by decide +kernel
section
variable {l : Launch} {D : va_G} {cA : Nat → ClassId} {ad : Nat → Nat}
theorem s_goesName {a1 a2 : Int} {h : ja_H} {Q : Option ja_V → ja_H → Prop} (g : mo_G mo_zr h) (r1 : -2147483648 ≤ a1 ∧ a1 ≤ 2147483647) (r2 : -2147483648 ≤ a2 ∧ a2 ≤ 2147483647) (p1 : 0 ≤ a1) (p2 : 0 ≤ a2 ∧ a2 ≤ 900) (k1 : ∀ (v : Int), (0 ≤ v ∧ v ≤ 1) → Q (some (0, v)) h) : mM_goesName l D cA ad a1 a2 h Q := by
  show mJ l D cA ad 3 cX12_goesName 3 (some .boolean) 0 [(0, (2, ((0 : Nat) : Int))), (1, (0, a1)), (2, (0, a2))] [] h Q
  have kn_size := gF_size g
  refine ja_aload_n dgoesName_0 rfl rfl ?_
  refine ja_iload_n dgoesName_1 rfl rfl ?_
  refine ja_aload_n dgoesName_2 rfl rfl ?_
  refine ja_iload_n dgoesName_3 rfl rfl ?_
  refine t_partEnd (by decide) (show (2 : Nat) ≤ 8 by decide) dgoesName_4 g ⟨by omega, by omega⟩ (show 0 ≤ a1 by omega) ?_
  intro w1 k4_0
  refine ja_aload_n dgoesName_7 rfl rfl ?_
  refine fa_places dgoesName_8 ?_
  refine ja_iload_n dgoesName_11 rfl rfl ?_
  refine il_places (v := h 3 (a2).toNat) rfl ⟨by omega, by omega⟩ dgoesName_12 ?_
  have f2 := gC_places g (a2).toNat
  refine ja_aload_n dgoesName_13 rfl rfl ?_
  refine fa_ends dgoesName_14 ?_
  refine ja_iload_n dgoesName_17 rfl rfl ?_
  refine il_ends (v := h 4 (a2).toNat) rfl ⟨by omega, by omega⟩ dgoesName_18 ?_
  have f3 := gC_ends g (a2).toNat
  refine t_goes (by decide) (show (0 : Nat) ≤ 8 by decide) dgoesName_19 g ⟨by omega, by omega⟩ ⟨by omega, by omega⟩ ⟨by omega, by omega⟩ ⟨by omega, by omega⟩ (show 0 ≤ a1 by omega) (show a1 ≤ w1 by omega) (show w1 ≤ 5000 ∨ w1 = a1 by omega) (show 0 ≤ (h 3 (a2).toNat) ∧ (h 3 (a2).toNat) ≤ 5010 by omega) (show 0 ≤ (h 4 (a2).toNat) ∧ (h 4 (a2).toNat) ≤ 5010 by omega) ?_
  intro w4 k19_0
  refine ja_zreturn dgoesName_22 rfl (by omega) ?_
  exact mo_fin (by omega) rfl (k1 w4 (by omega))
theorem t_goesName {a1 a2 : Int} {d nL pc : Nat} {cc : ByteArray} {rt : Option FieldType} {L : List (Nat × ja_V)} {S : List ja_V} {h : ja_H} {Q : Option ja_V → ja_H → Prop} (hdd : 3 < d) (hwd : ja_wd S ≤ 8) (hd : decode cc pc = .ok (.invokevirtual 942, 3)) (g : mo_G mo_zr h) (r1 : -2147483648 ≤ a1 ∧ a1 ≤ 2147483647) (r2 : -2147483648 ≤ a2 ∧ a2 ≤ 2147483647) (p1 : 0 ≤ a1) (p2 : 0 ≤ a2 ∧ a2 ≤ 900) (k1 : ∀ (v : Int), (0 ≤ v ∧ v ≤ 1) → mJ l D cA ad d cc nL rt (pc + 3) L ((0, v) :: S) h Q) : mJ l D cA ad d cc nL rt pc L ((0, a2) :: (0, a1) :: (2, ((0 : Nat) : Int)) :: S) h Q :=
  mc_goesName hdd hwd hd (s_goesName g r1 r2 p1 p2 k1)
end
theorem dgoesWord_0 : decode cX12_goesWord 0 = .ok (.aload_n 0, 1) := by decide +kernel
theorem dgoesWord_1 : decode cX12_goesWord 1 = .ok (.iload_n 1, 1) := by decide +kernel
theorem dgoesWord_2 : decode cX12_goesWord 2 = .ok (.invokevirtual 555, 3) := by decide +kernel
theorem dgoesWord_5 : decode cX12_goesWord 5 = .ok (.istore 5, 2) := by decide +kernel
theorem dgoesWord_7 : decode cX12_goesWord 7 = .ok (.iconst 0, 1) := by decide +kernel
theorem dgoesWord_8 : decode cX12_goesWord 8 = .ok (.istore 6, 2) := by decide +kernel
theorem dgoesWord_10 : decode cX12_goesWord 10 = .ok (.iload 6, 2) := by decide +kernel
theorem dgoesWord_12 : decode cX12_goesWord 12 = .ok (.iload 4, 2) := by decide +kernel
theorem dgoesWord_14 : decode cX12_goesWord 14 = .ok (.if_icmp .ge 37, 3) := by decide +kernel
theorem dgoesWord_17 : decode cX12_goesWord 17 = .ok (.aload_n 0, 1) := by decide +kernel
theorem dgoesWord_18 : decode cX12_goesWord 18 = .ok (.getfield 7, 3) := by decide +kernel
theorem dgoesWord_21 : decode cX12_goesWord 21 = .ok (.sipush 5000, 3) := by decide +kernel
theorem dgoesWord_24 : decode cX12_goesWord 24 = .ok (.iload 6, 2) := by decide +kernel
theorem dgoesWord_26 : decode cX12_goesWord 26 = .ok (.iadd, 1) := by decide +kernel
theorem dgoesWord_27 : decode cX12_goesWord 27 = .ok (.lload_n 2, 1) := by decide +kernel
theorem dgoesWord_28 : decode cX12_goesWord 28 = .ok (.bipush 8, 2) := by decide +kernel
theorem dgoesWord_30 : decode cX12_goesWord 30 = .ok (.iload 4, 2) := by decide +kernel
theorem dgoesWord_32 : decode cX12_goesWord 32 = .ok (.iconst 1, 1) := by decide +kernel
theorem dgoesWord_33 : decode cX12_goesWord 33 = .ok (.isub, 1) := by decide +kernel
theorem dgoesWord_34 : decode cX12_goesWord 34 = .ok (.iload 6, 2) := by decide +kernel
theorem dgoesWord_36 : decode cX12_goesWord 36 = .ok (.isub, 1) := by decide +kernel
theorem dgoesWord_37 : decode cX12_goesWord 37 = .ok (.imul, 1) := by decide +kernel
theorem dgoesWord_38 : decode cX12_goesWord 38 = .ok (.lushr, 1) := by decide +kernel
theorem dgoesWord_39 : decode cX12_goesWord 39 = .ok (.l2i, 1) := by decide +kernel
theorem dgoesWord_40 : decode cX12_goesWord 40 = .ok (.sipush 255, 3) := by decide +kernel
theorem dgoesWord_43 : decode cX12_goesWord 43 = .ok (.iand, 1) := by decide +kernel
theorem dgoesWord_44 : decode cX12_goesWord 44 = .ok (.iastore, 1) := by decide +kernel
theorem dgoesWord_45 : decode cX12_goesWord 45 = .ok (.iinc 6 1, 3) := by decide +kernel
theorem dgoesWord_48 : decode cX12_goesWord 48 = .ok (.goto (-38), 3) := by decide +kernel
theorem dgoesWord_51 : decode cX12_goesWord 51 = .ok (.aload_n 0, 1) := by decide +kernel
theorem dgoesWord_52 : decode cX12_goesWord 52 = .ok (.iload_n 1, 1) := by decide +kernel
theorem dgoesWord_53 : decode cX12_goesWord 53 = .ok (.iload 5, 2) := by decide +kernel
theorem dgoesWord_55 : decode cX12_goesWord 55 = .ok (.sipush 5000, 3) := by decide +kernel
theorem dgoesWord_58 : decode cX12_goesWord 58 = .ok (.sipush 5000, 3) := by decide +kernel
theorem dgoesWord_61 : decode cX12_goesWord 61 = .ok (.iload 4, 2) := by decide +kernel
theorem dgoesWord_63 : decode cX12_goesWord 63 = .ok (.iadd, 1) := by decide +kernel
theorem dgoesWord_64 : decode cX12_goesWord 64 = .ok (.invokevirtual 939, 3) := by decide +kernel
theorem dgoesWord_67 : decode cX12_goesWord 67 = .ok (.ireturn, 1) := by decide +kernel
section
variable {l : Launch} {D : va_G} {cA : Nat → ClassId} {ad : Nat → Nat}
theorem s_goesWord {a1 a2 a3 : Int} {h : ja_H} {Q : Option ja_V → ja_H → Prop} (g : mo_G mo_zr h) (r1 : -2147483648 ≤ a1 ∧ a1 ≤ 2147483647) (r3 : -2147483648 ≤ a3 ∧ a3 ≤ 2147483647) (p1 : 0 ≤ a1) (p2 : 0 ≤ a3 ∧ a3 ≤ 6) (k1 : ∀ (v : Int) (h' : ja_H), (0 ≤ v ∧ v ≤ 1 ∧ mo_ag FTX h h') → mo_G mo_zr h' → Q (some (0, v)) h') : mM_goesWord l D cA ad a1 a2 a3 h Q := by
  show mJ l D cA ad 3 cX12_goesWord 7 (some .boolean) 0 [(0, (2, ((0 : Nat) : Int))), (1, (0, a1)), (2, (1, a2)), (4, (0, a3))] [] h Q
  have kn_size := gF_size g
  have CUT : ∀ n : Nat, (∀ (x5 x6 : Int) (u : ja_H), mo_G mo_zr u → (-2147483648 ≤ x5 ∧ x5 ≤ 2147483647) → (-2147483648 ≤ x6 ∧ x6 ≤ 2147483647) → (mo_ag FTX h u ∧ a1 ≤ x5 ∧ (x5 ≤ 5000 ∨ x5 = a1) ∧ 0 ≤ x6 ∧ x6 ≤ a3) → (((10 : Int) - x6).toNat) = n → mJ l D cA ad 3 cX12_goesWord 7 (some .boolean) 10 [(0, (2, ((0 : Nat) : Int))), (1, (0, a1)), (2, (1, a2)), (4, (0, a3)), (5, (0, x5)), (6, (0, x6))] [] u Q) := by
    intro n
    induction n using Nat.strongRecOn with
    | _ n ih =>
      skip
      · intro x5 x6 u gu qx5 qx6 iv hm
        subst hm
        have ku_size := gF_size gu
        obtain ⟨ag, i2, i3, i4, i5⟩ := iv
        refine ja_iload dgoesWord_10 rfl ?_
        refine ja_iload dgoesWord_12 rfl ?_
        refine ja_icmp_ge 51 dgoesWord_14 rfl ⟨by omega, by omega⟩ ⟨by omega, by omega⟩ (fun c14 => ?_) (fun c14 => ?_)
        · refine ja_aload_n dgoesWord_51 rfl rfl ?_
          refine ja_iload_n dgoesWord_52 rfl rfl ?_
          refine ja_iload dgoesWord_53 rfl ?_
          refine ja_sipush 5000 dgoesWord_55 rfl ?_
          refine ja_sipush 5000 dgoesWord_58 rfl ?_
          refine ja_iload dgoesWord_61 rfl ?_
          refine ja_iadd dgoesWord_63 ?_
          refine t_goes (by decide) (show (0 : Nat) ≤ 8 by decide) dgoesWord_64 gu ⟨by omega, by omega⟩ ⟨by omega, by omega⟩ ⟨by decide, by decide⟩ ⟨by omega, by omega⟩ (show 0 ≤ a1 by omega) (show a1 ≤ x5 by omega) (show x5 ≤ 5000 ∨ x5 = a1 by omega) (show 0 ≤ 5000 ∧ 5000 ≤ 5010 by omega) (show 0 ≤ (5000 + a3) ∧ (5000 + a3) ≤ 5010 by omega) ?_
          intro w1 k64_0
          refine ja_zreturn dgoesWord_67 rfl (by omega) ?_
          exact mo_fin (by omega) rfl (k1 w1 u (⟨by omega, by omega, ag⟩) gu)
        · refine ja_aload_n dgoesWord_17 rfl rfl ?_
          refine fa_text dgoesWord_18 ?_
          refine ja_sipush 5000 dgoesWord_21 rfl ?_
          refine ja_iload dgoesWord_24 rfl ?_
          refine ja_iadd dgoesWord_26 ?_
          refine ja_lload_n dgoesWord_27 rfl rfl ?_
          refine ja_bipush 8 dgoesWord_28 rfl ?_
          refine ja_iload dgoesWord_30 rfl ?_
          refine ja_iconst dgoesWord_32 ?_
          refine mo_hisub dgoesWord_33 (fun v2 rv2 => ?_)
          refine ja_iload dgoesWord_34 rfl ?_
          refine mo_hisub dgoesWord_36 (fun v3 rv3 => ?_)
          refine mo_himul dgoesWord_37 (fun v4 rv4 => ?_)
          refine mo_lushr dgoesWord_38 (fun v5 => ?_)
          refine mo_l2i dgoesWord_39 (fun v6 rv6 => ?_)
          refine ja_sipush 255 dgoesWord_40 rfl ?_
          refine mo_iandc dgoesWord_43 (by decide) (fun v7 rv7 => ?_)
          have g8 := gW_text gu (5000 + x6).toNat (x := v7) ⟨by omega, by omega⟩
          refine is_text ⟨by omega, by omega⟩ dgoesWord_44 ?_
          refine ja_iinc dgoesWord_45 rfl (by decide) (L2 := [(6, (0, (x6 + 1))), (0, (2, ((0 : Nat) : Int))), (1, (0, a1)), (2, (1, a2)), (4, (0, a3)), (5, (0, x5))]) rfl ?_
          refine ja_goto 10 dgoesWord_48 rfl ?_
          exact ja_wk (fun q hq => by simp only [List.mem_cons, List.not_mem_nil, or_false] at hq; rcases hq with rfl | rfl | rfl | rfl | rfl | rfl <;> rfl) ((ih (((10 : Int) - (x6 + 1)).toNat) (by omega)) x5 (x6 + 1) (ja_up u 1 ((5000 + x6).toNat) v7) g8 ⟨by omega, by omega⟩ ⟨by omega, by omega⟩ (⟨(ag_trans ag (by (repeat (first | exact ag_refl | refine ag_up rfl ?_)))), by omega, by omega, by omega, by omega⟩) rfl)
  refine ja_aload_n dgoesWord_0 rfl rfl ?_
  refine ja_iload_n dgoesWord_1 rfl rfl ?_
  refine t_partEnd (by decide) (show (0 : Nat) ≤ 8 by decide) dgoesWord_2 g ⟨by omega, by omega⟩ (show 0 ≤ a1 by omega) ?_
  intro w9 k2_0
  refine ja_istore dgoesWord_5 (by decide) (L2 := [(5, (0, w9)), (0, (2, ((0 : Nat) : Int))), (1, (0, a1)), (2, (1, a2)), (4, (0, a3))]) rfl ?_
  refine ja_iconst dgoesWord_7 ?_
  refine ja_istore dgoesWord_8 (by decide) (L2 := [(6, (0, 0)), (5, (0, w9)), (0, (2, ((0 : Nat) : Int))), (1, (0, a1)), (2, (1, a2)), (4, (0, a3))]) rfl ?_
  exact ja_wk (fun q hq => by simp only [List.mem_cons, List.not_mem_nil, or_false] at hq; rcases hq with rfl | rfl | rfl | rfl | rfl | rfl <;> rfl) ((CUT _) w9 0 h g ⟨by omega, by omega⟩ ⟨by decide, by decide⟩ (⟨ag_refl, by omega, by omega, by omega, by omega⟩) rfl)
theorem t_goesWord {a1 a2 a3 : Int} {d nL pc : Nat} {cc : ByteArray} {rt : Option FieldType} {L : List (Nat × ja_V)} {S : List ja_V} {h : ja_H} {Q : Option ja_V → ja_H → Prop} (hdd : 3 < d) (hwd : ja_wd S ≤ 8) (hd : decode cc pc = .ok (.invokevirtual 950, 3)) (g : mo_G mo_zr h) (r1 : -2147483648 ≤ a1 ∧ a1 ≤ 2147483647) (r3 : -2147483648 ≤ a3 ∧ a3 ≤ 2147483647) (p1 : 0 ≤ a1) (p2 : 0 ≤ a3 ∧ a3 ≤ 6) (k1 : ∀ (v : Int) (h' : ja_H), (0 ≤ v ∧ v ≤ 1 ∧ mo_ag FTX h h') → mo_G mo_zr h' → mJ l D cA ad d cc nL rt (pc + 3) L ((0, v) :: S) h' Q) : mJ l D cA ad d cc nL rt pc L ((0, a3) :: (1, a2) :: (0, a1) :: (2, ((0 : Nat) : Int)) :: S) h Q :=
  mc_goesWord hdd hwd hd (s_goesWord g r1 r3 p1 p2 k1)
end
theorem dtypeMatches_0 : decode cX12_typeMatches 0 = .ok (.aload_n 0, 1) := by decide +kernel
theorem dtypeMatches_1 : decode cX12_typeMatches 1 = .ok (.getfield 16, 3) := by decide +kernel
theorem dtypeMatches_4 : decode cX12_typeMatches 4 = .ok (.aload_n 0, 1) := by decide +kernel
theorem dtypeMatches_5 : decode cX12_typeMatches 5 = .ok (.getfield 191, 3) := by decide +kernel
theorem dtypeMatches_8 : decode cX12_typeMatches 8 = .ok (.iload_n 1, 1) := by decide +kernel
theorem dtypeMatches_9 : decode cX12_typeMatches 9 = .ok (.iaload, 1) := by decide +kernel
theorem dtypeMatches_10 : decode cX12_typeMatches 10 = .ok (.iaload, 1) := by decide +kernel
theorem dtypeMatches_11 : decode cX12_typeMatches 11 = .ok (.iconst 1, 1) := by decide +kernel
theorem dtypeMatches_12 : decode cX12_typeMatches 12 = .ok (.iadd, 1) := by decide +kernel
theorem dtypeMatches_13 : decode cX12_typeMatches 13 = .ok (.istore_n 3, 1) := by decide +kernel
theorem dtypeMatches_14 : decode cX12_typeMatches 14 = .ok (.aload_n 0, 1) := by decide +kernel
theorem dtypeMatches_15 : decode cX12_typeMatches 15 = .ok (.getfield 188, 3) := by decide +kernel
theorem dtypeMatches_18 : decode cX12_typeMatches 18 = .ok (.iload_n 1, 1) := by decide +kernel
theorem dtypeMatches_19 : decode cX12_typeMatches 19 = .ok (.iaload, 1) := by decide +kernel
theorem dtypeMatches_20 : decode cX12_typeMatches 20 = .ok (.iconst 1, 1) := by decide +kernel
theorem dtypeMatches_21 : decode cX12_typeMatches 21 = .ok (.if_icmp .ne 7, 3) := by decide +kernel
theorem dtypeMatches_24 : decode cX12_typeMatches 24 = .ok (.iconst 1, 1) := by decide +kernel
theorem dtypeMatches_25 : decode cX12_typeMatches 25 = .ok (.goto 4, 3) := by decide +kernel
theorem dtypeMatches_28 : decode cX12_typeMatches 28 = .ok (.iconst 0, 1) := by decide +kernel
theorem dtypeMatches_29 : decode cX12_typeMatches 29 = .ok (.istore 4, 2) := by decide +kernel
theorem dtypeMatches_31 : decode cX12_typeMatches 31 = .ok (.aload_n 0, 1) := by decide +kernel
theorem dtypeMatches_32 : decode cX12_typeMatches 32 = .ok (.iload_n 3, 1) := by decide +kernel
theorem dtypeMatches_33 : decode cX12_typeMatches 33 = .ok (.aload_n 0, 1) := by decide +kernel
theorem dtypeMatches_34 : decode cX12_typeMatches 34 = .ok (.getfield 37, 3) := by decide +kernel
theorem dtypeMatches_37 : decode cX12_typeMatches 37 = .ok (.iload_n 2, 1) := by decide +kernel
theorem dtypeMatches_38 : decode cX12_typeMatches 38 = .ok (.iaload, 1) := by decide +kernel
theorem dtypeMatches_39 : decode cX12_typeMatches 39 = .ok (.invokevirtual 942, 3) := by decide +kernel
theorem dtypeMatches_42 : decode cX12_typeMatches 42 = .ok (.istore 5, 2) := by decide +kernel
theorem dtypeMatches_44 : decode cX12_typeMatches 44 = .ok (.aload_n 0, 1) := by decide +kernel
theorem dtypeMatches_45 : decode cX12_typeMatches 45 = .ok (.getfield 43, 3) := by decide +kernel
theorem dtypeMatches_48 : decode cX12_typeMatches 48 = .ok (.iload_n 2, 1) := by decide +kernel
theorem dtypeMatches_49 : decode cX12_typeMatches 49 = .ok (.iaload, 1) := by decide +kernel
theorem dtypeMatches_50 : decode cX12_typeMatches 50 = .ok (.istore 6, 2) := by decide +kernel
theorem dtypeMatches_52 : decode cX12_typeMatches 52 = .ok (.iload 4, 2) := by decide +kernel
theorem dtypeMatches_54 : decode cX12_typeMatches 54 = .ok (.ifCond .eq 39, 3) := by decide +kernel
theorem dtypeMatches_57 : decode cX12_typeMatches 57 = .ok (.iload 6, 2) := by decide +kernel
theorem dtypeMatches_59 : decode cX12_typeMatches 59 = .ok (.ifCond .lt 34, 3) := by decide +kernel
theorem dtypeMatches_62 : decode cX12_typeMatches 62 = .ok (.iload 5, 2) := by decide +kernel
theorem dtypeMatches_64 : decode cX12_typeMatches 64 = .ok (.ifCond .ne 29, 3) := by decide +kernel
theorem dtypeMatches_67 : decode cX12_typeMatches 67 = .ok (.aload_n 0, 1) := by decide +kernel
theorem dtypeMatches_68 : decode cX12_typeMatches 68 = .ok (.iload_n 3, 1) := by decide +kernel
theorem dtypeMatches_69 : decode cX12_typeMatches 69 = .ok (.aload_n 0, 1) := by decide +kernel
theorem dtypeMatches_70 : decode cX12_typeMatches 70 = .ok (.getfield 37, 3) := by decide +kernel
theorem dtypeMatches_73 : decode cX12_typeMatches 73 = .ok (.iload 6, 2) := by decide +kernel
theorem dtypeMatches_75 : decode cX12_typeMatches 75 = .ok (.iaload, 1) := by decide +kernel
theorem dtypeMatches_76 : decode cX12_typeMatches 76 = .ok (.invokevirtual 942, 3) := by decide +kernel
theorem dtypeMatches_79 : decode cX12_typeMatches 79 = .ok (.istore 5, 2) := by decide +kernel
theorem dtypeMatches_81 : decode cX12_typeMatches 81 = .ok (.aload_n 0, 1) := by decide +kernel
theorem dtypeMatches_82 : decode cX12_typeMatches 82 = .ok (.getfield 43, 3) := by decide +kernel
theorem dtypeMatches_85 : decode cX12_typeMatches 85 = .ok (.iload 6, 2) := by decide +kernel
theorem dtypeMatches_87 : decode cX12_typeMatches 87 = .ok (.iaload, 1) := by decide +kernel
theorem dtypeMatches_88 : decode cX12_typeMatches 88 = .ok (.istore 6, 2) := by decide +kernel
theorem dtypeMatches_90 : decode cX12_typeMatches 90 = .ok (.goto (-38), 3) := by decide +kernel
theorem dtypeMatches_93 : decode cX12_typeMatches 93 = .ok (.iload 5, 2) := by decide +kernel
theorem dtypeMatches_95 : decode cX12_typeMatches 95 = .ok (.ireturn, 1) := by decide +kernel
section
variable {l : Launch} {D : va_G} {cA : Nat → ClassId} {ad : Nat → Nat}
theorem s_typeMatches {a1 a2 : Int} {rk : Nat → Nat} {h : ja_H} {Q : Option ja_V → ja_H → Prop} (g : mo_G mo_zr h) (r1 : -2147483648 ≤ a1 ∧ a1 ≤ 2147483647) (r2 : -2147483648 ≤ a2 ∧ a2 ≤ 2147483647) (p1 : 0 ≤ a1 ∧ a1 ≤ 899) (p2 : 0 ≤ a2 ∧ a2 < (h 0 22)) (p3 : rk_P (h 12) (h 0 22) rk) (k1 : ∀ (v : Int), (0 ≤ v ∧ v ≤ 1) → Q (some (0, v)) h) : mM_typeMatches l D cA ad a1 a2 h Q := by
  show mJ l D cA ad 4 cX12_typeMatches 7 (some .boolean) 0 [(0, (2, ((0 : Nat) : Int))), (1, (0, a1)), (2, (0, a2))] [] h Q
  have kn_classes := gF_classes g
  have CUT : ∀ n : Nat, (∀ (x3 x4 x5 x6 : Int), (-2147483648 ≤ x3 ∧ x3 ≤ 2147483647) → (-2147483648 ≤ x4 ∧ x4 ≤ 2147483647) → (-2147483648 ≤ x5 ∧ x5 ≤ 2147483647) → (-2147483648 ≤ x6 ∧ x6 ≤ 2147483647) → (0 ≤ x3 ∧ x3 ≤ 5002 ∧ 0 ≤ x4 ∧ x4 ≤ 1 ∧ 0 ≤ x5 ∧ x5 ≤ 1 ∧ -1 ≤ x6 ∧ x6 < (h 0 22)) → ((if x6 < 0 then 0 else rk (x6).toNat + 1)) = n → mJ l D cA ad 4 cX12_typeMatches 7 (some .boolean) 52 [(0, (2, ((0 : Nat) : Int))), (3, (0, x3)), (4, (0, x4)), (5, (0, x5)), (6, (0, x6))] [] h Q) := by
    intro n
    induction n using Nat.strongRecOn with
    | _ n ih =>
      skip
      · intro x3 x4 x5 x6 qx3 qx4 qx5 qx6 iv hm
        subst hm
        have kab := gC_classAbove g (x6).toNat
        refine ja_iload dtypeMatches_52 rfl ?_
        refine ja_if_eq 93 dtypeMatches_54 rfl ⟨by omega, by omega⟩ (fun c54 => ?_) (fun c54 => ?_)
        · refine ja_iload dtypeMatches_93 rfl ?_
          refine ja_zreturn dtypeMatches_95 rfl (by omega) ?_
          exact mo_fin (by omega) rfl (k1 x5 (by omega))
        · refine ja_iload dtypeMatches_57 rfl ?_
          refine ja_if_lt 93 dtypeMatches_59 rfl ⟨by omega, by omega⟩ (fun c59 => ?_) (fun c59 => ?_)
          · refine ja_iload dtypeMatches_93 rfl ?_
            refine ja_zreturn dtypeMatches_95 rfl (by omega) ?_
            exact mo_fin (by omega) rfl (k1 x5 (by omega))
          · refine ja_iload dtypeMatches_62 rfl ?_
            refine ja_if_ne 93 dtypeMatches_64 rfl ⟨by omega, by omega⟩ (fun c64 => ?_) (fun c64 => ?_)
            · refine ja_iload dtypeMatches_93 rfl ?_
              refine ja_zreturn dtypeMatches_95 rfl (by omega) ?_
              exact mo_fin (by omega) rfl (k1 x5 (by omega))
            · refine ja_aload_n dtypeMatches_67 rfl rfl ?_
              refine ja_iload_n dtypeMatches_68 rfl rfl ?_
              refine ja_aload_n dtypeMatches_69 rfl rfl ?_
              refine fa_className dtypeMatches_70 ?_
              refine ja_iload dtypeMatches_73 rfl ?_
              refine il_className (v := h 10 (x6).toNat) rfl ⟨by omega, by omega⟩ dtypeMatches_75 ?_
              have f1 := gC_className g (x6).toNat
              refine t_goesName (by decide) (show (0 : Nat) ≤ 8 by decide) dtypeMatches_76 g ⟨by omega, by omega⟩ ⟨by omega, by omega⟩ (show 0 ≤ x3 by omega) (show 0 ≤ (h 10 (x6).toNat) ∧ (h 10 (x6).toNat) ≤ 900 by omega) ?_
              intro w2 k76_0
              refine ja_istore dtypeMatches_79 (by decide) (L2 := [(5, (0, w2)), (0, (2, ((0 : Nat) : Int))), (3, (0, x3)), (4, (0, x4)), (6, (0, x6))]) rfl ?_
              refine ja_aload_n dtypeMatches_81 rfl rfl ?_
              refine fa_classAbove dtypeMatches_82 ?_
              refine ja_iload dtypeMatches_85 rfl ?_
              refine il_classAbove (v := h 12 (x6).toNat) rfl ⟨by omega, by omega⟩ dtypeMatches_87 ?_
              have f3 := gC_classAbove g (x6).toNat
              refine ja_istore dtypeMatches_88 (by decide) (L2 := [(6, (0, (h 12 (x6).toNat))), (5, (0, w2)), (0, (2, ((0 : Nat) : Int))), (3, (0, x3)), (4, (0, x4))]) rfl ?_
              refine ja_goto 52 dtypeMatches_90 rfl ?_
              exact ja_wk (fun q hq => by simp only [List.mem_cons, List.not_mem_nil, or_false] at hq; rcases hq with rfl | rfl | rfl | rfl | rfl <;> rfl) ((ih ((if (h 12 (x6).toNat) < 0 then 0 else rk ((h 12 (x6).toNat)).toNat + 1)) ((by have := (p3 (x6).toNat (by omega)).2; (repeat' split) <;> omega))) x3 x4 w2 (h 12 (x6).toNat)  ⟨by omega, by omega⟩ ⟨by omega, by omega⟩ ⟨by omega, by omega⟩ ⟨by omega, by omega⟩ (⟨by omega, by omega, by omega, by omega, by omega, by omega, by omega, (by have := (p3 (x6).toNat (by omega)).1; omega)⟩) rfl)
  refine ja_aload_n dtypeMatches_0 rfl rfl ?_
  refine fa_places dtypeMatches_1 ?_
  refine ja_aload_n dtypeMatches_4 rfl rfl ?_
  refine fa_nodeToken dtypeMatches_5 ?_
  refine ja_iload_n dtypeMatches_8 rfl rfl ?_
  refine il_nodeToken (v := h 61 (a1).toNat) rfl ⟨by omega, by omega⟩ dtypeMatches_9 ?_
  have f4 := gC_nodeToken g (a1).toNat
  refine il_places (v := h 3 (h 61 (a1).toNat).toNat) rfl ⟨by omega, by omega⟩ dtypeMatches_10 ?_
  have f5 := gC_places g (h 61 (a1).toNat).toNat
  refine ja_iconst dtypeMatches_11 ?_
  refine ja_iadd dtypeMatches_12 ?_
  refine ja_istore_n dtypeMatches_13 rfl (by decide) (L2 := [(3, (0, ((h 3 (h 61 (a1).toNat).toNat) + 1))), (0, (2, ((0 : Nat) : Int))), (1, (0, a1)), (2, (0, a2))]) rfl ?_
  refine ja_aload_n dtypeMatches_14 rfl rfl ?_
  refine fa_nodeB dtypeMatches_15 ?_
  refine ja_iload_n dtypeMatches_18 rfl rfl ?_
  refine il_nodeB (v := h 60 (a1).toNat) rfl ⟨by omega, by omega⟩ dtypeMatches_19 ?_
  have f6 := gC_nodeB g (a1).toNat
  refine ja_iconst dtypeMatches_20 ?_
  refine ja_icmp_ne 28 dtypeMatches_21 rfl ⟨by omega, by omega⟩ ⟨by decide, by decide⟩ (fun c21 => ?_) (fun c21 => ?_)
  · refine ja_iconst dtypeMatches_28 ?_
    refine ja_istore dtypeMatches_29 (by decide) (L2 := [(4, (0, 0)), (3, (0, ((h 3 (h 61 (a1).toNat).toNat) + 1))), (0, (2, ((0 : Nat) : Int))), (1, (0, a1)), (2, (0, a2))]) rfl ?_
    refine ja_aload_n dtypeMatches_31 rfl rfl ?_
    refine ja_iload_n dtypeMatches_32 rfl rfl ?_
    refine ja_aload_n dtypeMatches_33 rfl rfl ?_
    refine fa_className dtypeMatches_34 ?_
    refine ja_iload_n dtypeMatches_37 rfl rfl ?_
    refine il_className (v := h 10 (a2).toNat) rfl ⟨by omega, by omega⟩ dtypeMatches_38 ?_
    have f7 := gC_className g (a2).toNat
    refine t_goesName (by decide) (show (0 : Nat) ≤ 8 by decide) dtypeMatches_39 g ⟨by omega, by omega⟩ ⟨by omega, by omega⟩ (show 0 ≤ ((h 3 (h 61 (a1).toNat).toNat) + 1) by omega) (show 0 ≤ (h 10 (a2).toNat) ∧ (h 10 (a2).toNat) ≤ 900 by omega) ?_
    intro w8 k39_0
    refine ja_istore dtypeMatches_42 (by decide) (L2 := [(5, (0, w8)), (4, (0, 0)), (3, (0, ((h 3 (h 61 (a1).toNat).toNat) + 1))), (0, (2, ((0 : Nat) : Int))), (1, (0, a1)), (2, (0, a2))]) rfl ?_
    refine ja_aload_n dtypeMatches_44 rfl rfl ?_
    refine fa_classAbove dtypeMatches_45 ?_
    refine ja_iload_n dtypeMatches_48 rfl rfl ?_
    refine il_classAbove (v := h 12 (a2).toNat) rfl ⟨by omega, by omega⟩ dtypeMatches_49 ?_
    have f9 := gC_classAbove g (a2).toNat
    refine ja_istore dtypeMatches_50 (by decide) (L2 := [(6, (0, (h 12 (a2).toNat))), (5, (0, w8)), (4, (0, 0)), (3, (0, ((h 3 (h 61 (a1).toNat).toNat) + 1))), (0, (2, ((0 : Nat) : Int))), (1, (0, a1)), (2, (0, a2))]) rfl ?_
    exact ja_wk (fun q hq => by simp only [List.mem_cons, List.not_mem_nil, or_false] at hq; rcases hq with rfl | rfl | rfl | rfl | rfl <;> rfl) ((CUT _) ((h 3 (h 61 (a1).toNat).toNat) + 1) 0 w8 (h 12 (a2).toNat)  ⟨by omega, by omega⟩ ⟨by decide, by decide⟩ ⟨by omega, by omega⟩ ⟨by omega, by omega⟩ (⟨by omega, by omega, by omega, by omega, by omega, by omega, by omega, (by have := (p3 (a2).toNat (by omega)).1; omega)⟩) rfl)
  · refine ja_iconst dtypeMatches_24 ?_
    refine ja_goto 29 dtypeMatches_25 rfl ?_
    refine ja_istore dtypeMatches_29 (by decide) (L2 := [(4, (0, 1)), (3, (0, ((h 3 (h 61 (a1).toNat).toNat) + 1))), (0, (2, ((0 : Nat) : Int))), (1, (0, a1)), (2, (0, a2))]) rfl ?_
    refine ja_aload_n dtypeMatches_31 rfl rfl ?_
    refine ja_iload_n dtypeMatches_32 rfl rfl ?_
    refine ja_aload_n dtypeMatches_33 rfl rfl ?_
    refine fa_className dtypeMatches_34 ?_
    refine ja_iload_n dtypeMatches_37 rfl rfl ?_
    refine il_className (v := h 10 (a2).toNat) rfl ⟨by omega, by omega⟩ dtypeMatches_38 ?_
    have f10 := gC_className g (a2).toNat
    refine t_goesName (by decide) (show (0 : Nat) ≤ 8 by decide) dtypeMatches_39 g ⟨by omega, by omega⟩ ⟨by omega, by omega⟩ (show 0 ≤ ((h 3 (h 61 (a1).toNat).toNat) + 1) by omega) (show 0 ≤ (h 10 (a2).toNat) ∧ (h 10 (a2).toNat) ≤ 900 by omega) ?_
    intro w11 k39_0
    refine ja_istore dtypeMatches_42 (by decide) (L2 := [(5, (0, w11)), (4, (0, 1)), (3, (0, ((h 3 (h 61 (a1).toNat).toNat) + 1))), (0, (2, ((0 : Nat) : Int))), (1, (0, a1)), (2, (0, a2))]) rfl ?_
    refine ja_aload_n dtypeMatches_44 rfl rfl ?_
    refine fa_classAbove dtypeMatches_45 ?_
    refine ja_iload_n dtypeMatches_48 rfl rfl ?_
    refine il_classAbove (v := h 12 (a2).toNat) rfl ⟨by omega, by omega⟩ dtypeMatches_49 ?_
    have f12 := gC_classAbove g (a2).toNat
    refine ja_istore dtypeMatches_50 (by decide) (L2 := [(6, (0, (h 12 (a2).toNat))), (5, (0, w11)), (4, (0, 1)), (3, (0, ((h 3 (h 61 (a1).toNat).toNat) + 1))), (0, (2, ((0 : Nat) : Int))), (1, (0, a1)), (2, (0, a2))]) rfl ?_
    exact ja_wk (fun q hq => by simp only [List.mem_cons, List.not_mem_nil, or_false] at hq; rcases hq with rfl | rfl | rfl | rfl | rfl <;> rfl) ((CUT _) ((h 3 (h 61 (a1).toNat).toNat) + 1) 1 w11 (h 12 (a2).toNat)  ⟨by omega, by omega⟩ ⟨by decide, by decide⟩ ⟨by omega, by omega⟩ ⟨by omega, by omega⟩ (⟨by omega, by omega, by omega, by omega, by omega, by omega, by omega, (by have := (p3 (a2).toNat (by omega)).1; omega)⟩) rfl)
theorem t_typeMatches {a1 a2 : Int} {rk : Nat → Nat} {d nL pc : Nat} {cc : ByteArray} {rt : Option FieldType} {L : List (Nat × ja_V)} {S : List ja_V} {h : ja_H} {Q : Option ja_V → ja_H → Prop} (hdd : 4 < d) (hwd : ja_wd S ≤ 8) (hd : decode cc pc = .ok (.invokevirtual 945, 3)) (g : mo_G mo_zr h) (r1 : -2147483648 ≤ a1 ∧ a1 ≤ 2147483647) (r2 : -2147483648 ≤ a2 ∧ a2 ≤ 2147483647) (p1 : 0 ≤ a1 ∧ a1 ≤ 899) (p2 : 0 ≤ a2 ∧ a2 < (h 0 22)) (p3 : rk_P (h 12) (h 0 22) rk) (k1 : ∀ (v : Int), (0 ≤ v ∧ v ≤ 1) → mJ l D cA ad d cc nL rt (pc + 3) L ((0, v) :: S) h Q) : mJ l D cA ad d cc nL rt pc L ((0, a2) :: (0, a1) :: (2, ((0 : Nat) : Int)) :: S) h Q :=
  mc_typeMatches hdd hwd hd (s_typeMatches g r1 r2 p1 p2 p3 k1)
end
theorem dstandsIn_0 : decode cX12_standsIn 0 = .ok (.aload_n 0, 1) := by decide +kernel
theorem dstandsIn_1 : decode cX12_standsIn 1 = .ok (.getfield 176, 3) := by decide +kernel
theorem dstandsIn_4 : decode cX12_standsIn 4 = .ok (.iload_n 1, 1) := by decide +kernel
theorem dstandsIn_5 : decode cX12_standsIn 5 = .ok (.iaload, 1) := by decide +kernel
theorem dstandsIn_6 : decode cX12_standsIn 6 = .ok (.iconst 1, 1) := by decide +kernel
theorem dstandsIn_7 : decode cX12_standsIn 7 = .ok (.if_icmp .ne 17, 3) := by decide +kernel
theorem dstandsIn_10 : decode cX12_standsIn 10 = .ok (.aload_n 0, 1) := by decide +kernel
theorem dstandsIn_11 : decode cX12_standsIn 11 = .ok (.getfield 71, 3) := by decide +kernel
theorem dstandsIn_14 : decode cX12_standsIn 14 = .ok (.aload_n 0, 1) := by decide +kernel
theorem dstandsIn_15 : decode cX12_standsIn 15 = .ok (.getfield 179, 3) := by decide +kernel
theorem dstandsIn_18 : decode cX12_standsIn 18 = .ok (.iload_n 1, 1) := by decide +kernel
theorem dstandsIn_19 : decode cX12_standsIn 19 = .ok (.iaload, 1) := by decide +kernel
theorem dstandsIn_20 : decode cX12_standsIn 20 = .ok (.iaload, 1) := by decide +kernel
theorem dstandsIn_21 : decode cX12_standsIn 21 = .ok (.goto 4, 3) := by decide +kernel
theorem dstandsIn_24 : decode cX12_standsIn 24 = .ok (.iconst (-1), 1) := by decide +kernel
theorem dstandsIn_25 : decode cX12_standsIn 25 = .ok (.ireturn, 1) := by decide +kernel
section
variable {l : Launch} {D : va_G} {cA : Nat → ClassId} {ad : Nat → Nat}
theorem s_standsIn {a1 : Int} {h : ja_H} {Q : Option ja_V → ja_H → Prop} (g : mo_G mo_zr h) (r1 : -2147483648 ≤ a1 ∧ a1 ≤ 2147483647) (p1 : 0 ≤ a1 ∧ a1 ≤ 399) (k1 : ∀ (v : Int), (-1 ≤ v ∧ v ≤ 11) → Q (some (0, v)) h) : mM_standsIn l D cA ad a1 h Q := by
  show mJ l D cA ad 1 cX12_standsIn 2 (some .int) 0 [(0, (2, ((0 : Nat) : Int))), (1, (0, a1))] [] h Q
  refine ja_aload_n dstandsIn_0 rfl rfl ?_
  refine fa_pointStands dstandsIn_1 ?_
  refine ja_iload_n dstandsIn_4 rfl rfl ?_
  refine il_pointStands (v := h 56 (a1).toNat) rfl ⟨by omega, by omega⟩ dstandsIn_5 ?_
  have f1 := gC_pointStands g (a1).toNat
  refine ja_iconst dstandsIn_6 ?_
  refine ja_icmp_ne 24 dstandsIn_7 rfl ⟨by omega, by omega⟩ ⟨by decide, by decide⟩ (fun c7 => ?_) (fun c7 => ?_)
  · refine ja_iconst dstandsIn_24 ?_
    refine ja_ireturn dstandsIn_25 rfl ?_
    exact mo_fin (by omega) rfl (k1 (-1) (by omega))
  · refine ja_aload_n dstandsIn_10 rfl rfl ?_
    refine fa_methodClass dstandsIn_11 ?_
    refine ja_aload_n dstandsIn_14 rfl rfl ?_
    refine fa_pointWhich dstandsIn_15 ?_
    refine ja_iload_n dstandsIn_18 rfl rfl ?_
    refine il_pointWhich (v := h 57 (a1).toNat) rfl ⟨by omega, by omega⟩ dstandsIn_19 ?_
    have f2 := gC_pointWhich g (a1).toNat
    refine il_methodClass (v := h 21 (h 57 (a1).toNat).toNat) rfl ⟨by omega, by omega⟩ dstandsIn_20 ?_
    have f3 := gC_methodClass g (h 57 (a1).toNat).toNat
    refine ja_goto 25 dstandsIn_21 rfl ?_
    refine ja_ireturn dstandsIn_25 rfl ?_
    exact mo_fin (by omega) rfl (k1 (h 21 (h 57 (a1).toNat).toNat) (by omega))
theorem t_standsIn {a1 : Int} {d nL pc : Nat} {cc : ByteArray} {rt : Option FieldType} {L : List (Nat × ja_V)} {S : List ja_V} {h : ja_H} {Q : Option ja_V → ja_H → Prop} (hdd : 1 < d) (hwd : ja_wd S ≤ 8) (hd : decode cc pc = .ok (.invokevirtual 954, 3)) (g : mo_G mo_zr h) (r1 : -2147483648 ≤ a1 ∧ a1 ≤ 2147483647) (p1 : 0 ≤ a1 ∧ a1 ≤ 399) (k1 : ∀ (v : Int), (-1 ≤ v ∧ v ≤ 11) → mJ l D cA ad d cc nL rt (pc + 3) L ((0, v) :: S) h Q) : mJ l D cA ad d cc nL rt pc L ((0, a1) :: (2, ((0 : Nat) : Int)) :: S) h Q :=
  mc_standsIn hdd hwd hd (s_standsIn g r1 p1 k1)
end
theorem dnamedAhead_0 : decode cX12_namedAhead 0 = .ok (.aload_n 0, 1) := by decide +kernel
theorem dnamedAhead_1 : decode cX12_namedAhead 1 = .ok (.getfield 182, 3) := by decide +kernel
theorem dnamedAhead_4 : decode cX12_namedAhead 4 = .ok (.iload_n 1, 1) := by decide +kernel
theorem dnamedAhead_5 : decode cX12_namedAhead 5 = .ok (.iaload, 1) := by decide +kernel
theorem dnamedAhead_6 : decode cX12_namedAhead 6 = .ok (.istore_n 3, 1) := by decide +kernel
theorem dnamedAhead_7 : decode cX12_namedAhead 7 = .ok (.iload_n 3, 1) := by decide +kernel
theorem dnamedAhead_8 : decode cX12_namedAhead 8 = .ok (.ifCond .ne 7, 3) := by decide +kernel
theorem dnamedAhead_11 : decode cX12_namedAhead 11 = .ok (.iconst 0, 1) := by decide +kernel
theorem dnamedAhead_12 : decode cX12_namedAhead 12 = .ok (.goto 22, 3) := by decide +kernel
theorem dnamedAhead_15 : decode cX12_namedAhead 15 = .ok (.iload_n 3, 1) := by decide +kernel
theorem dnamedAhead_16 : decode cX12_namedAhead 16 = .ok (.iconst 3, 1) := by decide +kernel
theorem dnamedAhead_17 : decode cX12_namedAhead 17 = .ok (.if_icmp .ne 7, 3) := by decide +kernel
theorem dnamedAhead_20 : decode cX12_namedAhead 20 = .ok (.iconst 3, 1) := by decide +kernel
theorem dnamedAhead_21 : decode cX12_namedAhead 21 = .ok (.goto 13, 3) := by decide +kernel
theorem dnamedAhead_24 : decode cX12_namedAhead 24 = .ok (.iload_n 3, 1) := by decide +kernel
theorem dnamedAhead_25 : decode cX12_namedAhead 25 = .ok (.iconst 4, 1) := by decide +kernel
theorem dnamedAhead_26 : decode cX12_namedAhead 26 = .ok (.if_icmp .ne 7, 3) := by decide +kernel
theorem dnamedAhead_29 : decode cX12_namedAhead 29 = .ok (.iconst 4, 1) := by decide +kernel
theorem dnamedAhead_30 : decode cX12_namedAhead 30 = .ok (.goto 4, 3) := by decide +kernel
theorem dnamedAhead_33 : decode cX12_namedAhead 33 = .ok (.iconst 1, 1) := by decide +kernel
theorem dnamedAhead_34 : decode cX12_namedAhead 34 = .ok (.istore 4, 2) := by decide +kernel
theorem dnamedAhead_36 : decode cX12_namedAhead 36 = .ok (.aload_n 0, 1) := by decide +kernel
theorem dnamedAhead_37 : decode cX12_namedAhead 37 = .ok (.getfield 164, 3) := by decide +kernel
theorem dnamedAhead_40 : decode cX12_namedAhead 40 = .ok (.iload_n 2, 1) := by decide +kernel
theorem dnamedAhead_41 : decode cX12_namedAhead 41 = .ok (.iaload, 1) := by decide +kernel
theorem dnamedAhead_42 : decode cX12_namedAhead 42 = .ok (.iload 4, 2) := by decide +kernel
theorem dnamedAhead_44 : decode cX12_namedAhead 44 = .ok (.if_icmp .eq 5, 3) := by decide +kernel
theorem dnamedAhead_47 : decode cX12_namedAhead 47 = .ok (.iconst 0, 1) := by decide +kernel
theorem dnamedAhead_48 : decode cX12_namedAhead 48 = .ok (.ireturn, 1) := by decide +kernel
theorem dnamedAhead_49 : decode cX12_namedAhead 49 = .ok (.aload_n 0, 1) := by decide +kernel
theorem dnamedAhead_50 : decode cX12_namedAhead 50 = .ok (.getfield 185, 3) := by decide +kernel
theorem dnamedAhead_53 : decode cX12_namedAhead 53 = .ok (.iload_n 1, 1) := by decide +kernel
theorem dnamedAhead_54 : decode cX12_namedAhead 54 = .ok (.iaload, 1) := by decide +kernel
theorem dnamedAhead_55 : decode cX12_namedAhead 55 = .ok (.ifCond .lt 12, 3) := by decide +kernel
theorem dnamedAhead_58 : decode cX12_namedAhead 58 = .ok (.aload_n 0, 1) := by decide +kernel
theorem dnamedAhead_59 : decode cX12_namedAhead 59 = .ok (.getfield 185, 3) := by decide +kernel
theorem dnamedAhead_62 : decode cX12_namedAhead 62 = .ok (.iload_n 1, 1) := by decide +kernel
theorem dnamedAhead_63 : decode cX12_namedAhead 63 = .ok (.iaload, 1) := by decide +kernel
theorem dnamedAhead_64 : decode cX12_namedAhead 64 = .ok (.goto 16, 3) := by decide +kernel
theorem dnamedAhead_67 : decode cX12_namedAhead 67 = .ok (.aload_n 0, 1) := by decide +kernel
theorem dnamedAhead_68 : decode cX12_namedAhead 68 = .ok (.getfield 16, 3) := by decide +kernel
theorem dnamedAhead_71 : decode cX12_namedAhead 71 = .ok (.aload_n 0, 1) := by decide +kernel
theorem dnamedAhead_72 : decode cX12_namedAhead 72 = .ok (.getfield 191, 3) := by decide +kernel
theorem dnamedAhead_75 : decode cX12_namedAhead 75 = .ok (.iload_n 1, 1) := by decide +kernel
theorem dnamedAhead_76 : decode cX12_namedAhead 76 = .ok (.iaload, 1) := by decide +kernel
theorem dnamedAhead_77 : decode cX12_namedAhead 77 = .ok (.iaload, 1) := by decide +kernel
theorem dnamedAhead_78 : decode cX12_namedAhead 78 = .ok (.iconst 1, 1) := by decide +kernel
theorem dnamedAhead_79 : decode cX12_namedAhead 79 = .ok (.iadd, 1) := by decide +kernel
theorem dnamedAhead_80 : decode cX12_namedAhead 80 = .ok (.istore 5, 2) := by decide +kernel
theorem dnamedAhead_82 : decode cX12_namedAhead 82 = .ok (.aload_n 0, 1) := by decide +kernel
theorem dnamedAhead_83 : decode cX12_namedAhead 83 = .ok (.iload 5, 2) := by decide +kernel
theorem dnamedAhead_85 : decode cX12_namedAhead 85 = .ok (.aload_n 0, 1) := by decide +kernel
theorem dnamedAhead_86 : decode cX12_namedAhead 86 = .ok (.getfield 170, 3) := by decide +kernel
theorem dnamedAhead_89 : decode cX12_namedAhead 89 = .ok (.iload_n 2, 1) := by decide +kernel
theorem dnamedAhead_90 : decode cX12_namedAhead 90 = .ok (.iaload, 1) := by decide +kernel
theorem dnamedAhead_91 : decode cX12_namedAhead 91 = .ok (.invokevirtual 942, 3) := by decide +kernel
theorem dnamedAhead_94 : decode cX12_namedAhead 94 = .ok (.ifCond .ne 5, 3) := by decide +kernel
theorem dnamedAhead_97 : decode cX12_namedAhead 97 = .ok (.iconst 0, 1) := by decide +kernel
theorem dnamedAhead_98 : decode cX12_namedAhead 98 = .ok (.ireturn, 1) := by decide +kernel
theorem dnamedAhead_99 : decode cX12_namedAhead 99 = .ok (.aload_n 0, 1) := by decide +kernel
theorem dnamedAhead_100 : decode cX12_namedAhead 100 = .ok (.getfield 185, 3) := by decide +kernel
theorem dnamedAhead_103 : decode cX12_namedAhead 103 = .ok (.iload_n 1, 1) := by decide +kernel
theorem dnamedAhead_104 : decode cX12_namedAhead 104 = .ok (.iaload, 1) := by decide +kernel
theorem dnamedAhead_105 : decode cX12_namedAhead 105 = .ok (.ifCond .ge 5, 3) := by decide +kernel
theorem dnamedAhead_108 : decode cX12_namedAhead 108 = .ok (.iconst 1, 1) := by decide +kernel
theorem dnamedAhead_109 : decode cX12_namedAhead 109 = .ok (.ireturn, 1) := by decide +kernel
theorem dnamedAhead_110 : decode cX12_namedAhead 110 = .ok (.iload_n 3, 1) := by decide +kernel
theorem dnamedAhead_111 : decode cX12_namedAhead 111 = .ok (.iconst 1, 1) := by decide +kernel
theorem dnamedAhead_112 : decode cX12_namedAhead 112 = .ok (.if_icmp .ne 24, 3) := by decide +kernel
theorem dnamedAhead_115 : decode cX12_namedAhead 115 = .ok (.aload_n 0, 1) := by decide +kernel
theorem dnamedAhead_116 : decode cX12_namedAhead 116 = .ok (.getfield 212, 3) := by decide +kernel
theorem dnamedAhead_119 : decode cX12_namedAhead 119 = .ok (.iload_n 1, 1) := by decide +kernel
theorem dnamedAhead_120 : decode cX12_namedAhead 120 = .ok (.iaload, 1) := by decide +kernel
theorem dnamedAhead_121 : decode cX12_namedAhead 121 = .ok (.aload_n 0, 1) := by decide +kernel
theorem dnamedAhead_122 : decode cX12_namedAhead 122 = .ok (.getfield 71, 3) := by decide +kernel
theorem dnamedAhead_125 : decode cX12_namedAhead 125 = .ok (.aload_n 0, 1) := by decide +kernel
theorem dnamedAhead_126 : decode cX12_namedAhead 126 = .ok (.getfield 179, 3) := by decide +kernel
theorem dnamedAhead_129 : decode cX12_namedAhead 129 = .ok (.iload_n 2, 1) := by decide +kernel
theorem dnamedAhead_130 : decode cX12_namedAhead 130 = .ok (.iaload, 1) := by decide +kernel
theorem dnamedAhead_131 : decode cX12_namedAhead 131 = .ok (.iaload, 1) := by decide +kernel
theorem dnamedAhead_132 : decode cX12_namedAhead 132 = .ok (.ishr, 1) := by decide +kernel
theorem dnamedAhead_133 : decode cX12_namedAhead 133 = .ok (.iconst 1, 1) := by decide +kernel
theorem dnamedAhead_134 : decode cX12_namedAhead 134 = .ok (.iand, 1) := by decide +kernel
theorem dnamedAhead_135 : decode cX12_namedAhead 135 = .ok (.ireturn, 1) := by decide +kernel
theorem dnamedAhead_136 : decode cX12_namedAhead 136 = .ok (.aload_n 0, 1) := by decide +kernel
theorem dnamedAhead_137 : decode cX12_namedAhead 137 = .ok (.getfield 212, 3) := by decide +kernel
theorem dnamedAhead_140 : decode cX12_namedAhead 140 = .ok (.iload_n 1, 1) := by decide +kernel
theorem dnamedAhead_141 : decode cX12_namedAhead 141 = .ok (.iaload, 1) := by decide +kernel
theorem dnamedAhead_142 : decode cX12_namedAhead 142 = .ok (.ifCond .ne 7, 3) := by decide +kernel
theorem dnamedAhead_145 : decode cX12_namedAhead 145 = .ok (.iconst 0, 1) := by decide +kernel
theorem dnamedAhead_146 : decode cX12_namedAhead 146 = .ok (.goto 4, 3) := by decide +kernel
theorem dnamedAhead_149 : decode cX12_namedAhead 149 = .ok (.iconst 2, 1) := by decide +kernel
theorem dnamedAhead_150 : decode cX12_namedAhead 150 = .ok (.ireturn, 1) := by decide +kernel
section
variable {l : Launch} {D : va_G} {cA : Nat → ClassId} {ad : Nat → Nat}
theorem s_namedAhead {a1 a2 : Int} {h : ja_H} {Q : Option ja_V → ja_H → Prop} (g : mo_G mo_zr h) (r1 : -2147483648 ≤ a1 ∧ a1 ≤ 2147483647) (r2 : -2147483648 ≤ a2 ∧ a2 ≤ 2147483647) (p1 : 0 ≤ a1 ∧ a1 ≤ 899) (p2 : 0 ≤ a2 ∧ a2 ≤ 399) (p3 : ptK h a2.toNat) (k1 : ∀ (v : Int), (0 ≤ v ∧ v ≤ 2) → Q (some (0, v)) h) : mM_namedAhead l D cA ad a1 a2 h Q := by
  show mJ l D cA ad 4 cX12_namedAhead 6 (some .int) 0 [(0, (2, ((0 : Nat) : Int))), (1, (0, a1)), (2, (0, a2))] [] h Q
  have CUT : ∀ n : Nat, (∀ (x3 s0 : Int), (-2147483648 ≤ x3 ∧ x3 ≤ 2147483647) → (-2147483648 ≤ s0 ∧ s0 ≤ 2147483647) → (0 ≤ s0 ∧ s0 ≤ 4 ∧ 0 ≤ x3 ∧ x3 ≤ 15) → (3) = n → mJ l D cA ad 4 cX12_namedAhead 6 (some .int) 34 [(0, (2, ((0 : Nat) : Int))), (1, (0, a1)), (2, (0, a2)), (3, (0, x3))] [(0, s0)] h Q) ∧ (∀ (x3 s0 : Int), (-2147483648 ≤ x3 ∧ x3 ≤ 2147483647) → (-2147483648 ≤ s0 ∧ s0 ≤ 2147483647) → (0 ≤ s0 ∧ ¬ ((h 52 (a2).toNat) = 5)) → (2) = n → mJ l D cA ad 4 cX12_namedAhead 6 (some .int) 80 [(0, (2, ((0 : Nat) : Int))), (1, (0, a1)), (2, (0, a2)), (3, (0, x3))] [(0, s0)] h Q) := by
    intro n
    induction n using Nat.strongRecOn with
    | _ n ih =>
      refine ⟨?_, ?_⟩
      · intro x3 s0 qx3 qs0 iv hm
        subst hm
        refine ja_istore dnamedAhead_34 (by decide) (L2 := [(4, (0, s0)), (0, (2, ((0 : Nat) : Int))), (1, (0, a1)), (2, (0, a2)), (3, (0, x3))]) rfl ?_
        refine ja_aload_n dnamedAhead_36 rfl rfl ?_
        refine fa_pointKind dnamedAhead_37 ?_
        refine ja_iload_n dnamedAhead_40 rfl rfl ?_
        refine il_pointKind (v := h 52 (a2).toNat) rfl ⟨by omega, by omega⟩ dnamedAhead_41 ?_
        have f1 := gC_pointKind g (a2).toNat
        refine ja_iload dnamedAhead_42 rfl ?_
        refine ja_icmp_eq 49 dnamedAhead_44 rfl ⟨by omega, by omega⟩ ⟨by omega, by omega⟩ (fun c44 => ?_) (fun c44 => ?_)
        · refine ja_aload_n dnamedAhead_49 rfl rfl ?_
          refine fa_nodeA dnamedAhead_50 ?_
          refine ja_iload_n dnamedAhead_53 rfl rfl ?_
          refine il_nodeA (v := h 59 (a1).toNat) rfl ⟨by omega, by omega⟩ dnamedAhead_54 ?_
          have f2 := gC_nodeA g (a1).toNat
          refine ja_if_lt 67 dnamedAhead_55 rfl ⟨by omega, by omega⟩ (fun c55 => ?_) (fun c55 => ?_)
          · refine ja_aload_n dnamedAhead_67 rfl rfl ?_
            refine fa_places dnamedAhead_68 ?_
            refine ja_aload_n dnamedAhead_71 rfl rfl ?_
            refine fa_nodeToken dnamedAhead_72 ?_
            refine ja_iload_n dnamedAhead_75 rfl rfl ?_
            refine il_nodeToken (v := h 61 (a1).toNat) rfl ⟨by omega, by omega⟩ dnamedAhead_76 ?_
            have f3 := gC_nodeToken g (a1).toNat
            refine il_places (v := h 3 (h 61 (a1).toNat).toNat) rfl ⟨by omega, by omega⟩ dnamedAhead_77 ?_
            have f4 := gC_places g (h 61 (a1).toNat).toNat
            refine ja_iconst dnamedAhead_78 ?_
            refine ja_iadd dnamedAhead_79 ?_
            exact ja_wk (fun q hq => by simp only [List.mem_cons, List.not_mem_nil, or_false] at hq; rcases hq with rfl | rfl | rfl | rfl <;> rfl) ((ih (2) (by omega)).2 x3 ((h 3 (h 61 (a1).toNat).toNat) + 1)  ⟨by omega, by omega⟩ ⟨by omega, by omega⟩ (show 0 ≤ ((h 3 (h 61 (a1).toNat).toNat) + 1) ∧ ¬ ((h 52 (a2).toNat) = 5) by omega) rfl)
          · refine ja_aload_n dnamedAhead_58 rfl rfl ?_
            refine fa_nodeA dnamedAhead_59 ?_
            refine ja_iload_n dnamedAhead_62 rfl rfl ?_
            refine il_nodeA (v := h 59 (a1).toNat) rfl ⟨by omega, by omega⟩ dnamedAhead_63 ?_
            refine ja_goto 80 dnamedAhead_64 rfl ?_
            exact ja_wk (fun q hq => by simp only [List.mem_cons, List.not_mem_nil, or_false] at hq; rcases hq with rfl | rfl | rfl | rfl <;> rfl) ((ih (2) (by omega)).2 x3 (h 59 (a1).toNat)  ⟨by omega, by omega⟩ ⟨by omega, by omega⟩ (show 0 ≤ (h 59 (a1).toNat) ∧ ¬ ((h 52 (a2).toNat) = 5) by omega) rfl)
        · refine ja_iconst dnamedAhead_47 ?_
          refine ja_ireturn dnamedAhead_48 rfl ?_
          exact mo_fin (by omega) rfl (k1 0 (by omega))
      · intro x3 s0 qx3 qs0 iv hm
        subst hm
        obtain ⟨pt1, pt2⟩ := p3
        refine ja_istore dnamedAhead_80 (by decide) (L2 := [(5, (0, s0)), (0, (2, ((0 : Nat) : Int))), (1, (0, a1)), (2, (0, a2)), (3, (0, x3))]) rfl ?_
        refine ja_aload_n dnamedAhead_82 rfl rfl ?_
        refine ja_iload dnamedAhead_83 rfl ?_
        refine ja_aload_n dnamedAhead_85 rfl rfl ?_
        refine fa_pointName dnamedAhead_86 ?_
        refine ja_iload_n dnamedAhead_89 rfl rfl ?_
        refine il_pointName (v := h 54 (a2).toNat) rfl ⟨by omega, by omega⟩ dnamedAhead_90 ?_
        have f5 := gC_pointName g (a2).toNat
        refine t_goesName (by decide) (show (0 : Nat) ≤ 8 by decide) dnamedAhead_91 g ⟨by omega, by omega⟩ ⟨by omega, by omega⟩ (show 0 ≤ s0 by omega) (show 0 ≤ (h 54 (a2).toNat) ∧ (h 54 (a2).toNat) ≤ 900 by omega) ?_
        intro w6 k91_0
        refine ja_if_ne 99 dnamedAhead_94 rfl ⟨by omega, by omega⟩ (fun c94 => ?_) (fun c94 => ?_)
        · refine ja_aload_n dnamedAhead_99 rfl rfl ?_
          refine fa_nodeA dnamedAhead_100 ?_
          refine ja_iload_n dnamedAhead_103 rfl rfl ?_
          refine il_nodeA (v := h 59 (a1).toNat) rfl ⟨by omega, by omega⟩ dnamedAhead_104 ?_
          have f7 := gC_nodeA g (a1).toNat
          refine ja_if_ge 110 dnamedAhead_105 rfl ⟨by omega, by omega⟩ (fun c105 => ?_) (fun c105 => ?_)
          · refine ja_iload_n dnamedAhead_110 rfl rfl ?_
            refine ja_iconst dnamedAhead_111 ?_
            refine ja_icmp_ne 136 dnamedAhead_112 rfl ⟨by omega, by omega⟩ ⟨by decide, by decide⟩ (fun c112 => ?_) (fun c112 => ?_)
            · refine ja_aload_n dnamedAhead_136 rfl rfl ?_
              refine fa_nodeTypes dnamedAhead_137 ?_
              refine ja_iload_n dnamedAhead_140 rfl rfl ?_
              refine il_nodeTypes (v := h 68 (a1).toNat) rfl ⟨by omega, by omega⟩ dnamedAhead_141 ?_
              have f8 := gC_nodeTypes g (a1).toNat
              refine ja_if_ne 149 dnamedAhead_142 rfl ⟨by omega, by omega⟩ (fun c142 => ?_) (fun c142 => ?_)
              · refine ja_iconst dnamedAhead_149 ?_
                refine ja_ireturn dnamedAhead_150 rfl ?_
                exact mo_fin (by omega) rfl (k1 2 (by omega))
              · refine ja_iconst dnamedAhead_145 ?_
                refine ja_goto 150 dnamedAhead_146 rfl ?_
                refine ja_ireturn dnamedAhead_150 rfl ?_
                exact mo_fin (by omega) rfl (k1 0 (by omega))
            · refine ja_aload_n dnamedAhead_115 rfl rfl ?_
              refine fa_nodeTypes dnamedAhead_116 ?_
              refine ja_iload_n dnamedAhead_119 rfl rfl ?_
              refine il_nodeTypes (v := h 68 (a1).toNat) rfl ⟨by omega, by omega⟩ dnamedAhead_120 ?_
              have f9 := gC_nodeTypes g (a1).toNat
              refine ja_aload_n dnamedAhead_121 rfl rfl ?_
              refine fa_methodClass dnamedAhead_122 ?_
              refine ja_aload_n dnamedAhead_125 rfl rfl ?_
              refine fa_pointWhich dnamedAhead_126 ?_
              refine ja_iload_n dnamedAhead_129 rfl rfl ?_
              refine il_pointWhich (v := h 57 (a2).toNat) rfl ⟨by omega, by omega⟩ dnamedAhead_130 ?_
              have f10 := gC_pointWhich g (a2).toNat
              refine il_methodClass (v := h 21 (h 57 (a2).toNat).toNat) rfl ⟨by omega, by omega⟩ dnamedAhead_131 ?_
              have f11 := gC_methodClass g (h 57 (a2).toNat).toNat
              refine mo_hishr dnamedAhead_132 (fun v12 rv12 => ?_)
              refine ja_iconst dnamedAhead_133 ?_
              refine mo_iandc dnamedAhead_134 (by decide) (fun v13 rv13 => ?_)
              refine ja_ireturn dnamedAhead_135 rfl ?_
              exact mo_fin (by omega) rfl (k1 v13 (by omega))
          · refine ja_iconst dnamedAhead_108 ?_
            refine ja_ireturn dnamedAhead_109 rfl ?_
            exact mo_fin (by omega) rfl (k1 1 (by omega))
        · refine ja_iconst dnamedAhead_97 ?_
          refine ja_ireturn dnamedAhead_98 rfl ?_
          exact mo_fin (by omega) rfl (k1 0 (by omega))
  obtain ⟨pt1, pt2⟩ := p3
  refine ja_aload_n dnamedAhead_0 rfl rfl ?_
  refine fa_nodeKind dnamedAhead_1 ?_
  refine ja_iload_n dnamedAhead_4 rfl rfl ?_
  refine il_nodeKind (v := h 58 (a1).toNat) rfl ⟨by omega, by omega⟩ dnamedAhead_5 ?_
  have f14 := gC_nodeKind g (a1).toNat
  refine ja_istore_n dnamedAhead_6 rfl (by decide) (L2 := [(3, (0, (h 58 (a1).toNat))), (0, (2, ((0 : Nat) : Int))), (1, (0, a1)), (2, (0, a2))]) rfl ?_
  refine ja_iload_n dnamedAhead_7 rfl rfl ?_
  refine ja_if_ne 15 dnamedAhead_8 rfl ⟨by omega, by omega⟩ (fun c8 => ?_) (fun c8 => ?_)
  · refine ja_iload_n dnamedAhead_15 rfl rfl ?_
    refine ja_iconst dnamedAhead_16 ?_
    refine ja_icmp_ne 24 dnamedAhead_17 rfl ⟨by omega, by omega⟩ ⟨by decide, by decide⟩ (fun c17 => ?_) (fun c17 => ?_)
    · refine ja_iload_n dnamedAhead_24 rfl rfl ?_
      refine ja_iconst dnamedAhead_25 ?_
      refine ja_icmp_ne 33 dnamedAhead_26 rfl ⟨by omega, by omega⟩ ⟨by decide, by decide⟩ (fun c26 => ?_) (fun c26 => ?_)
      · refine ja_iconst dnamedAhead_33 ?_
        exact ja_wk (fun q hq => by simp only [List.mem_cons, List.not_mem_nil, or_false] at hq; rcases hq with rfl | rfl | rfl | rfl <;> rfl) ((CUT _).1 (h 58 (a1).toNat) 1  ⟨by omega, by omega⟩ ⟨by decide, by decide⟩ (show 0 ≤ 1 ∧ 1 ≤ 4 ∧ 0 ≤ (h 58 (a1).toNat) ∧ (h 58 (a1).toNat) ≤ 15 by omega) rfl)
      · refine ja_iconst dnamedAhead_29 ?_
        refine ja_goto 34 dnamedAhead_30 rfl ?_
        exact ja_wk (fun q hq => by simp only [List.mem_cons, List.not_mem_nil, or_false] at hq; rcases hq with rfl | rfl | rfl | rfl <;> rfl) ((CUT _).1 (h 58 (a1).toNat) 4  ⟨by omega, by omega⟩ ⟨by decide, by decide⟩ (show 0 ≤ 4 ∧ 4 ≤ 4 ∧ 0 ≤ (h 58 (a1).toNat) ∧ (h 58 (a1).toNat) ≤ 15 by omega) rfl)
    · refine ja_iconst dnamedAhead_20 ?_
      refine ja_goto 34 dnamedAhead_21 rfl ?_
      exact ja_wk (fun q hq => by simp only [List.mem_cons, List.not_mem_nil, or_false] at hq; rcases hq with rfl | rfl | rfl | rfl <;> rfl) ((CUT _).1 (h 58 (a1).toNat) 3  ⟨by omega, by omega⟩ ⟨by decide, by decide⟩ (show 0 ≤ 3 ∧ 3 ≤ 4 ∧ 0 ≤ (h 58 (a1).toNat) ∧ (h 58 (a1).toNat) ≤ 15 by omega) rfl)
  · refine ja_iconst dnamedAhead_11 ?_
    refine ja_goto 34 dnamedAhead_12 rfl ?_
    exact ja_wk (fun q hq => by simp only [List.mem_cons, List.not_mem_nil, or_false] at hq; rcases hq with rfl | rfl | rfl | rfl <;> rfl) ((CUT _).1 (h 58 (a1).toNat) 0  ⟨by omega, by omega⟩ ⟨by decide, by decide⟩ (show 0 ≤ 0 ∧ 0 ≤ 4 ∧ 0 ≤ (h 58 (a1).toNat) ∧ (h 58 (a1).toNat) ≤ 15 by omega) rfl)
theorem t_namedAhead {a1 a2 : Int} {d nL pc : Nat} {cc : ByteArray} {rt : Option FieldType} {L : List (Nat × ja_V)} {S : List ja_V} {h : ja_H} {Q : Option ja_V → ja_H → Prop} (hdd : 4 < d) (hwd : ja_wd S ≤ 8) (hd : decode cc pc = .ok (.invokevirtual 957, 3)) (g : mo_G mo_zr h) (r1 : -2147483648 ≤ a1 ∧ a1 ≤ 2147483647) (r2 : -2147483648 ≤ a2 ∧ a2 ≤ 2147483647) (p1 : 0 ≤ a1 ∧ a1 ≤ 899) (p2 : 0 ≤ a2 ∧ a2 ≤ 399) (p3 : ptK h a2.toNat) (k1 : ∀ (v : Int), (0 ≤ v ∧ v ≤ 2) → mJ l D cA ad d cc nL rt (pc + 3) L ((0, v) :: S) h Q) : mJ l D cA ad d cc nL rt pc L ((0, a2) :: (0, a1) :: (2, ((0 : Nat) : Int)) :: S) h Q :=
  mc_namedAhead hdd hwd hd (s_namedAhead g r1 r2 p1 p2 p3 k1)
end
theorem dwithinAhead_0 : decode cX12_withinAhead 0 = .ok (.aload_n 0, 1) := by decide +kernel
theorem dwithinAhead_1 : decode cX12_withinAhead 1 = .ok (.getfield 16, 3) := by decide +kernel
theorem dwithinAhead_4 : decode cX12_withinAhead 4 = .ok (.aload_n 0, 1) := by decide +kernel
theorem dwithinAhead_5 : decode cX12_withinAhead 5 = .ok (.getfield 191, 3) := by decide +kernel
theorem dwithinAhead_8 : decode cX12_withinAhead 8 = .ok (.iload_n 1, 1) := by decide +kernel
theorem dwithinAhead_9 : decode cX12_withinAhead 9 = .ok (.iaload, 1) := by decide +kernel
theorem dwithinAhead_10 : decode cX12_withinAhead 10 = .ok (.iaload, 1) := by decide +kernel
theorem dwithinAhead_11 : decode cX12_withinAhead 11 = .ok (.iconst 1, 1) := by decide +kernel
theorem dwithinAhead_12 : decode cX12_withinAhead 12 = .ok (.iadd, 1) := by decide +kernel
theorem dwithinAhead_13 : decode cX12_withinAhead 13 = .ok (.istore_n 3, 1) := by decide +kernel
theorem dwithinAhead_14 : decode cX12_withinAhead 14 = .ok (.aload_n 0, 1) := by decide +kernel
theorem dwithinAhead_15 : decode cX12_withinAhead 15 = .ok (.getfield 185, 3) := by decide +kernel
theorem dwithinAhead_18 : decode cX12_withinAhead 18 = .ok (.iload_n 1, 1) := by decide +kernel
theorem dwithinAhead_19 : decode cX12_withinAhead 19 = .ok (.iaload, 1) := by decide +kernel
theorem dwithinAhead_20 : decode cX12_withinAhead 20 = .ok (.istore 4, 2) := by decide +kernel
theorem dwithinAhead_22 : decode cX12_withinAhead 22 = .ok (.aload_n 0, 1) := by decide +kernel
theorem dwithinAhead_23 : decode cX12_withinAhead 23 = .ok (.getfield 176, 3) := by decide +kernel
theorem dwithinAhead_26 : decode cX12_withinAhead 26 = .ok (.iload_n 2, 1) := by decide +kernel
theorem dwithinAhead_27 : decode cX12_withinAhead 27 = .ok (.iaload, 1) := by decide +kernel
theorem dwithinAhead_28 : decode cX12_withinAhead 28 = .ok (.iconst 1, 1) := by decide +kernel
theorem dwithinAhead_29 : decode cX12_withinAhead 29 = .ok (.if_icmp .ne 62, 3) := by decide +kernel
theorem dwithinAhead_32 : decode cX12_withinAhead 32 = .ok (.aload_n 0, 1) := by decide +kernel
theorem dwithinAhead_33 : decode cX12_withinAhead 33 = .ok (.getfield 179, 3) := by decide +kernel
theorem dwithinAhead_36 : decode cX12_withinAhead 36 = .ok (.iload_n 2, 1) := by decide +kernel
theorem dwithinAhead_37 : decode cX12_withinAhead 37 = .ok (.iaload, 1) := by decide +kernel
theorem dwithinAhead_38 : decode cX12_withinAhead 38 = .ok (.istore 6, 2) := by decide +kernel
theorem dwithinAhead_40 : decode cX12_withinAhead 40 = .ok (.aload_n 0, 1) := by decide +kernel
theorem dwithinAhead_41 : decode cX12_withinAhead 41 = .ok (.getfield 212, 3) := by decide +kernel
theorem dwithinAhead_44 : decode cX12_withinAhead 44 = .ok (.iload_n 1, 1) := by decide +kernel
theorem dwithinAhead_45 : decode cX12_withinAhead 45 = .ok (.iaload, 1) := by decide +kernel
theorem dwithinAhead_46 : decode cX12_withinAhead 46 = .ok (.aload_n 0, 1) := by decide +kernel
theorem dwithinAhead_47 : decode cX12_withinAhead 47 = .ok (.getfield 71, 3) := by decide +kernel
theorem dwithinAhead_50 : decode cX12_withinAhead 50 = .ok (.iload 6, 2) := by decide +kernel
theorem dwithinAhead_52 : decode cX12_withinAhead 52 = .ok (.iaload, 1) := by decide +kernel
theorem dwithinAhead_53 : decode cX12_withinAhead 53 = .ok (.ishr, 1) := by decide +kernel
theorem dwithinAhead_54 : decode cX12_withinAhead 54 = .ok (.iconst 1, 1) := by decide +kernel
theorem dwithinAhead_55 : decode cX12_withinAhead 55 = .ok (.iand, 1) := by decide +kernel
theorem dwithinAhead_56 : decode cX12_withinAhead 56 = .ok (.iconst 1, 1) := by decide +kernel
theorem dwithinAhead_57 : decode cX12_withinAhead 57 = .ok (.if_icmp .ne 28, 3) := by decide +kernel
theorem dwithinAhead_60 : decode cX12_withinAhead 60 = .ok (.iload 4, 2) := by decide +kernel
theorem dwithinAhead_62 : decode cX12_withinAhead 62 = .ok (.ifCond .lt 19, 3) := by decide +kernel
theorem dwithinAhead_65 : decode cX12_withinAhead 65 = .ok (.aload_n 0, 1) := by decide +kernel
theorem dwithinAhead_66 : decode cX12_withinAhead 66 = .ok (.iload 4, 2) := by decide +kernel
theorem dwithinAhead_68 : decode cX12_withinAhead 68 = .ok (.aload_n 0, 1) := by decide +kernel
theorem dwithinAhead_69 : decode cX12_withinAhead 69 = .ok (.getfield 65, 3) := by decide +kernel
theorem dwithinAhead_72 : decode cX12_withinAhead 72 = .ok (.iload 6, 2) := by decide +kernel
theorem dwithinAhead_74 : decode cX12_withinAhead 74 = .ok (.iaload, 1) := by decide +kernel
theorem dwithinAhead_75 : decode cX12_withinAhead 75 = .ok (.invokevirtual 942, 3) := by decide +kernel
theorem dwithinAhead_78 : decode cX12_withinAhead 78 = .ok (.ifCond .eq 7, 3) := by decide +kernel
theorem dwithinAhead_81 : decode cX12_withinAhead 81 = .ok (.iconst 1, 1) := by decide +kernel
theorem dwithinAhead_82 : decode cX12_withinAhead 82 = .ok (.goto 4, 3) := by decide +kernel
theorem dwithinAhead_85 : decode cX12_withinAhead 85 = .ok (.iconst 0, 1) := by decide +kernel
theorem dwithinAhead_86 : decode cX12_withinAhead 86 = .ok (.istore 5, 2) := by decide +kernel
theorem dwithinAhead_88 : decode cX12_withinAhead 88 = .ok (.goto 103, 3) := by decide +kernel
theorem dwithinAhead_91 : decode cX12_withinAhead 91 = .ok (.aload_n 0, 1) := by decide +kernel
theorem dwithinAhead_92 : decode cX12_withinAhead 92 = .ok (.getfield 176, 3) := by decide +kernel
theorem dwithinAhead_95 : decode cX12_withinAhead 95 = .ok (.iload_n 2, 1) := by decide +kernel
theorem dwithinAhead_96 : decode cX12_withinAhead 96 = .ok (.iaload, 1) := by decide +kernel
theorem dwithinAhead_97 : decode cX12_withinAhead 97 = .ok (.iconst 2, 1) := by decide +kernel
theorem dwithinAhead_98 : decode cX12_withinAhead 98 = .ok (.if_icmp .ne 56, 3) := by decide +kernel
theorem dwithinAhead_101 : decode cX12_withinAhead 101 = .ok (.aload_n 0, 1) := by decide +kernel
theorem dwithinAhead_102 : decode cX12_withinAhead 102 = .ok (.iload_n 3, 1) := by decide +kernel
theorem dwithinAhead_103 : decode cX12_withinAhead 103 = .ok (.aload_n 0, 1) := by decide +kernel
theorem dwithinAhead_104 : decode cX12_withinAhead 104 = .ok (.getfield 46, 3) := by decide +kernel
theorem dwithinAhead_107 : decode cX12_withinAhead 107 = .ok (.aload_n 0, 1) := by decide +kernel
theorem dwithinAhead_108 : decode cX12_withinAhead 108 = .ok (.getfield 95, 3) := by decide +kernel
theorem dwithinAhead_111 : decode cX12_withinAhead 111 = .ok (.aload_n 0, 1) := by decide +kernel
theorem dwithinAhead_112 : decode cX12_withinAhead 112 = .ok (.getfield 179, 3) := by decide +kernel
theorem dwithinAhead_115 : decode cX12_withinAhead 115 = .ok (.iload_n 2, 1) := by decide +kernel
theorem dwithinAhead_116 : decode cX12_withinAhead 116 = .ok (.iaload, 1) := by decide +kernel
theorem dwithinAhead_117 : decode cX12_withinAhead 117 = .ok (.iaload, 1) := by decide +kernel
theorem dwithinAhead_118 : decode cX12_withinAhead 118 = .ok (.iaload, 1) := by decide +kernel
theorem dwithinAhead_119 : decode cX12_withinAhead 119 = .ok (.invokevirtual 942, 3) := by decide +kernel
theorem dwithinAhead_122 : decode cX12_withinAhead 122 = .ok (.ifCond .eq 26, 3) := by decide +kernel
theorem dwithinAhead_125 : decode cX12_withinAhead 125 = .ok (.iload 4, 2) := by decide +kernel
theorem dwithinAhead_127 : decode cX12_withinAhead 127 = .ok (.ifCond .lt 17, 3) := by decide +kernel
theorem dwithinAhead_130 : decode cX12_withinAhead 130 = .ok (.aload_n 0, 1) := by decide +kernel
theorem dwithinAhead_131 : decode cX12_withinAhead 131 = .ok (.iload 4, 2) := by decide +kernel
theorem dwithinAhead_133 : decode cX12_withinAhead 133 = .ok (.ldc2_w 948, 3) := by decide +kernel
theorem dwithinAhead_136 : decode cX12_withinAhead 136 = .ok (.bipush 6, 2) := by decide +kernel
theorem dwithinAhead_138 : decode cX12_withinAhead 138 = .ok (.invokevirtual 950, 3) := by decide +kernel
theorem dwithinAhead_141 : decode cX12_withinAhead 141 = .ok (.ifCond .eq 7, 3) := by decide +kernel
theorem dwithinAhead_144 : decode cX12_withinAhead 144 = .ok (.iconst 1, 1) := by decide +kernel
theorem dwithinAhead_145 : decode cX12_withinAhead 145 = .ok (.goto 4, 3) := by decide +kernel
theorem dwithinAhead_148 : decode cX12_withinAhead 148 = .ok (.iconst 0, 1) := by decide +kernel
theorem dwithinAhead_149 : decode cX12_withinAhead 149 = .ok (.istore 5, 2) := by decide +kernel
theorem dwithinAhead_151 : decode cX12_withinAhead 151 = .ok (.goto 40, 3) := by decide +kernel
theorem dwithinAhead_154 : decode cX12_withinAhead 154 = .ok (.aload_n 0, 1) := by decide +kernel
theorem dwithinAhead_155 : decode cX12_withinAhead 155 = .ok (.iload_n 3, 1) := by decide +kernel
theorem dwithinAhead_156 : decode cX12_withinAhead 156 = .ok (.ldc2_w 492, 3) := by decide +kernel
theorem dwithinAhead_159 : decode cX12_withinAhead 159 = .ok (.iconst 4, 1) := by decide +kernel
theorem dwithinAhead_160 : decode cX12_withinAhead 160 = .ok (.invokevirtual 950, 3) := by decide +kernel
theorem dwithinAhead_163 : decode cX12_withinAhead 163 = .ok (.ifCond .eq 25, 3) := by decide +kernel
theorem dwithinAhead_166 : decode cX12_withinAhead 166 = .ok (.iload 4, 2) := by decide +kernel
theorem dwithinAhead_168 : decode cX12_withinAhead 168 = .ok (.ifCond .lt 16, 3) := by decide +kernel
theorem dwithinAhead_171 : decode cX12_withinAhead 171 = .ok (.aload_n 0, 1) := by decide +kernel
theorem dwithinAhead_172 : decode cX12_withinAhead 172 = .ok (.iload 4, 2) := by decide +kernel
theorem dwithinAhead_174 : decode cX12_withinAhead 174 = .ok (.ldc2_w 492, 3) := by decide +kernel
theorem dwithinAhead_177 : decode cX12_withinAhead 177 = .ok (.iconst 4, 1) := by decide +kernel
theorem dwithinAhead_178 : decode cX12_withinAhead 178 = .ok (.invokevirtual 950, 3) := by decide +kernel
theorem dwithinAhead_181 : decode cX12_withinAhead 181 = .ok (.ifCond .eq 7, 3) := by decide +kernel
theorem dwithinAhead_184 : decode cX12_withinAhead 184 = .ok (.iconst 1, 1) := by decide +kernel
theorem dwithinAhead_185 : decode cX12_withinAhead 185 = .ok (.goto 4, 3) := by decide +kernel
theorem dwithinAhead_188 : decode cX12_withinAhead 188 = .ok (.iconst 0, 1) := by decide +kernel
theorem dwithinAhead_189 : decode cX12_withinAhead 189 = .ok (.istore 5, 2) := by decide +kernel
theorem dwithinAhead_191 : decode cX12_withinAhead 191 = .ok (.iload 5, 2) := by decide +kernel
theorem dwithinAhead_193 : decode cX12_withinAhead 193 = .ok (.ifCond .eq 7, 3) := by decide +kernel
theorem dwithinAhead_196 : decode cX12_withinAhead 196 = .ok (.iconst 1, 1) := by decide +kernel
theorem dwithinAhead_197 : decode cX12_withinAhead 197 = .ok (.goto 4, 3) := by decide +kernel
theorem dwithinAhead_200 : decode cX12_withinAhead 200 = .ok (.iconst 0, 1) := by decide +kernel
theorem dwithinAhead_201 : decode cX12_withinAhead 201 = .ok (.ireturn, 1) := by decide +kernel
section
variable {l : Launch} {D : va_G} {cA : Nat → ClassId} {ad : Nat → Nat}
theorem s_withinAhead {a1 a2 : Int} {h : ja_H} {Q : Option ja_V → ja_H → Prop} (g : mo_G mo_zr h) (r1 : -2147483648 ≤ a1 ∧ a1 ≤ 2147483647) (r2 : -2147483648 ≤ a2 ∧ a2 ≤ 2147483647) (p1 : 0 ≤ a1 ∧ a1 ≤ 899) (p2 : 0 ≤ a2 ∧ a2 ≤ 399) (p3 : ptK h a2.toNat) (k1 : ∀ (v : Int) (h' : ja_H), (0 ≤ v ∧ v ≤ 1 ∧ mo_ag FTX h h') → mo_G mo_zr h' → Q (some (0, v)) h') : mM_withinAhead l D cA ad a1 a2 h Q := by
  show mJ l D cA ad 4 cX12_withinAhead 7 (some .int) 0 [(0, (2, ((0 : Nat) : Int))), (1, (0, a1)), (2, (0, a2))] [] h Q
  obtain ⟨pt1, pt2⟩ := p3
  refine ja_aload_n dwithinAhead_0 rfl rfl ?_
  refine fa_places dwithinAhead_1 ?_
  refine ja_aload_n dwithinAhead_4 rfl rfl ?_
  refine fa_nodeToken dwithinAhead_5 ?_
  refine ja_iload_n dwithinAhead_8 rfl rfl ?_
  refine il_nodeToken (v := h 61 (a1).toNat) rfl ⟨by omega, by omega⟩ dwithinAhead_9 ?_
  have f1 := gC_nodeToken g (a1).toNat
  refine il_places (v := h 3 (h 61 (a1).toNat).toNat) rfl ⟨by omega, by omega⟩ dwithinAhead_10 ?_
  have f2 := gC_places g (h 61 (a1).toNat).toNat
  refine ja_iconst dwithinAhead_11 ?_
  refine ja_iadd dwithinAhead_12 ?_
  refine ja_istore_n dwithinAhead_13 rfl (by decide) (L2 := [(3, (0, ((h 3 (h 61 (a1).toNat).toNat) + 1))), (0, (2, ((0 : Nat) : Int))), (1, (0, a1)), (2, (0, a2))]) rfl ?_
  refine ja_aload_n dwithinAhead_14 rfl rfl ?_
  refine fa_nodeA dwithinAhead_15 ?_
  refine ja_iload_n dwithinAhead_18 rfl rfl ?_
  refine il_nodeA (v := h 59 (a1).toNat) rfl ⟨by omega, by omega⟩ dwithinAhead_19 ?_
  have f3 := gC_nodeA g (a1).toNat
  refine ja_istore dwithinAhead_20 (by decide) (L2 := [(4, (0, (h 59 (a1).toNat))), (3, (0, ((h 3 (h 61 (a1).toNat).toNat) + 1))), (0, (2, ((0 : Nat) : Int))), (1, (0, a1)), (2, (0, a2))]) rfl ?_
  refine ja_aload_n dwithinAhead_22 rfl rfl ?_
  refine fa_pointStands dwithinAhead_23 ?_
  refine ja_iload_n dwithinAhead_26 rfl rfl ?_
  refine il_pointStands (v := h 56 (a2).toNat) rfl ⟨by omega, by omega⟩ dwithinAhead_27 ?_
  have f4 := gC_pointStands g (a2).toNat
  refine ja_iconst dwithinAhead_28 ?_
  refine ja_icmp_ne 91 dwithinAhead_29 rfl ⟨by omega, by omega⟩ ⟨by decide, by decide⟩ (fun c29 => ?_) (fun c29 => ?_)
  · refine ja_aload_n dwithinAhead_91 rfl rfl ?_
    refine fa_pointStands dwithinAhead_92 ?_
    refine ja_iload_n dwithinAhead_95 rfl rfl ?_
    refine il_pointStands (v := h 56 (a2).toNat) rfl ⟨by omega, by omega⟩ dwithinAhead_96 ?_
    refine ja_iconst dwithinAhead_97 ?_
    refine ja_icmp_ne 154 dwithinAhead_98 rfl ⟨by omega, by omega⟩ ⟨by decide, by decide⟩ (fun c98 => ?_) (fun c98 => ?_)
    · refine ja_aload_n dwithinAhead_154 rfl rfl ?_
      refine ja_iload_n dwithinAhead_155 rfl rfl ?_
      refine mk_492 dwithinAhead_156 ?_
      refine ja_iconst dwithinAhead_159 ?_
      refine t_goesWord (by decide) (show (0 : Nat) ≤ 8 by decide) dwithinAhead_160 g ⟨by omega, by omega⟩ ⟨by decide, by decide⟩ (show 0 ≤ ((h 3 (h 61 (a1).toNat).toNat) + 1) by omega) (show 0 ≤ 4 ∧ 4 ≤ 6 by omega) ?_
      intro w5 h6 k160_0 g7
      refine ja_if_eq 188 dwithinAhead_163 rfl ⟨by omega, by omega⟩ (fun c163 => ?_) (fun c163 => ?_)
      · refine ja_iconst dwithinAhead_188 ?_
        refine ja_istore dwithinAhead_189 (by decide) (L2 := [(5, (0, 0)), (4, (0, (h 59 (a1).toNat))), (3, (0, ((h 3 (h 61 (a1).toNat).toNat) + 1))), (0, (2, ((0 : Nat) : Int))), (1, (0, a1)), (2, (0, a2))]) rfl ?_
        refine ja_iload dwithinAhead_191 rfl ?_
        refine ja_if_eq 200 dwithinAhead_193 rfl ⟨by decide, by decide⟩ (fun c193 => ?_) (fun c193 => absurd c193 (by omega))
        refine ja_iconst dwithinAhead_200 ?_
        refine ja_ireturn dwithinAhead_201 rfl ?_
        exact mo_fin (by omega) rfl (k1 0 h6 (⟨by omega, by omega, (ag_trans ag_refl k160_0.2.2)⟩) g7)
      · refine ja_iload dwithinAhead_166 rfl ?_
        refine ja_if_lt 184 dwithinAhead_168 rfl ⟨by omega, by omega⟩ (fun c168 => ?_) (fun c168 => ?_)
        · refine ja_iconst dwithinAhead_184 ?_
          refine ja_goto 189 dwithinAhead_185 rfl ?_
          refine ja_istore dwithinAhead_189 (by decide) (L2 := [(5, (0, 1)), (4, (0, (h 59 (a1).toNat))), (3, (0, ((h 3 (h 61 (a1).toNat).toNat) + 1))), (0, (2, ((0 : Nat) : Int))), (1, (0, a1)), (2, (0, a2))]) rfl ?_
          refine ja_iload dwithinAhead_191 rfl ?_
          refine ja_if_eq 200 dwithinAhead_193 rfl ⟨by decide, by decide⟩ (fun c193 => absurd c193 (by omega)) (fun c193 => ?_)
          refine ja_iconst dwithinAhead_196 ?_
          refine ja_goto 201 dwithinAhead_197 rfl ?_
          refine ja_ireturn dwithinAhead_201 rfl ?_
          exact mo_fin (by omega) rfl (k1 1 h6 (⟨by omega, by omega, (ag_trans ag_refl k160_0.2.2)⟩) g7)
        · refine ja_aload_n dwithinAhead_171 rfl rfl ?_
          refine ja_iload dwithinAhead_172 rfl ?_
          refine mk_492 dwithinAhead_174 ?_
          refine ja_iconst dwithinAhead_177 ?_
          refine t_goesWord (by decide) (show (0 : Nat) ≤ 8 by decide) dwithinAhead_178 g7 ⟨by omega, by omega⟩ ⟨by decide, by decide⟩ (show 0 ≤ (h 59 (a1).toNat) by omega) (show 0 ≤ 4 ∧ 4 ≤ 6 by omega) ?_
          intro w8 h9 k178_0 g10
          refine ja_if_eq 188 dwithinAhead_181 rfl ⟨by omega, by omega⟩ (fun c181 => ?_) (fun c181 => ?_)
          · refine ja_iconst dwithinAhead_188 ?_
            refine ja_istore dwithinAhead_189 (by decide) (L2 := [(5, (0, 0)), (4, (0, (h 59 (a1).toNat))), (3, (0, ((h 3 (h 61 (a1).toNat).toNat) + 1))), (0, (2, ((0 : Nat) : Int))), (1, (0, a1)), (2, (0, a2))]) rfl ?_
            refine ja_iload dwithinAhead_191 rfl ?_
            refine ja_if_eq 200 dwithinAhead_193 rfl ⟨by decide, by decide⟩ (fun c193 => ?_) (fun c193 => absurd c193 (by omega))
            refine ja_iconst dwithinAhead_200 ?_
            refine ja_ireturn dwithinAhead_201 rfl ?_
            exact mo_fin (by omega) rfl (k1 0 h9 (⟨by omega, by omega, (ag_trans (ag_trans ag_refl k160_0.2.2) k178_0.2.2)⟩) g10)
          · refine ja_iconst dwithinAhead_184 ?_
            refine ja_goto 189 dwithinAhead_185 rfl ?_
            refine ja_istore dwithinAhead_189 (by decide) (L2 := [(5, (0, 1)), (4, (0, (h 59 (a1).toNat))), (3, (0, ((h 3 (h 61 (a1).toNat).toNat) + 1))), (0, (2, ((0 : Nat) : Int))), (1, (0, a1)), (2, (0, a2))]) rfl ?_
            refine ja_iload dwithinAhead_191 rfl ?_
            refine ja_if_eq 200 dwithinAhead_193 rfl ⟨by decide, by decide⟩ (fun c193 => absurd c193 (by omega)) (fun c193 => ?_)
            refine ja_iconst dwithinAhead_196 ?_
            refine ja_goto 201 dwithinAhead_197 rfl ?_
            refine ja_ireturn dwithinAhead_201 rfl ?_
            exact mo_fin (by omega) rfl (k1 1 h9 (⟨by omega, by omega, (ag_trans (ag_trans ag_refl k160_0.2.2) k178_0.2.2)⟩) g10)
    · refine ja_aload_n dwithinAhead_101 rfl rfl ?_
      refine ja_iload_n dwithinAhead_102 rfl rfl ?_
      refine ja_aload_n dwithinAhead_103 rfl rfl ?_
      refine fa_aspectName dwithinAhead_104 ?_
      refine ja_aload_n dwithinAhead_107 rfl rfl ?_
      refine fa_adviceAspect dwithinAhead_108 ?_
      refine ja_aload_n dwithinAhead_111 rfl rfl ?_
      refine fa_pointWhich dwithinAhead_112 ?_
      refine ja_iload_n dwithinAhead_115 rfl rfl ?_
      refine il_pointWhich (v := h 57 (a2).toNat) rfl ⟨by omega, by omega⟩ dwithinAhead_116 ?_
      have f11 := gC_pointWhich g (a2).toNat
      refine il_adviceAspect (v := h 29 (h 57 (a2).toNat).toNat) rfl ⟨by omega, by omega⟩ dwithinAhead_117 ?_
      have f12 := gC_adviceAspect g (h 57 (a2).toNat).toNat
      refine il_aspectName (v := h 13 (h 29 (h 57 (a2).toNat).toNat).toNat) rfl ⟨by omega, by omega⟩ dwithinAhead_118 ?_
      have f13 := gC_aspectName g (h 29 (h 57 (a2).toNat).toNat).toNat
      refine t_goesName (by decide) (show (0 : Nat) ≤ 8 by decide) dwithinAhead_119 g ⟨by omega, by omega⟩ ⟨by omega, by omega⟩ (show 0 ≤ ((h 3 (h 61 (a1).toNat).toNat) + 1) by omega) (show 0 ≤ (h 13 (h 29 (h 57 (a2).toNat).toNat).toNat) ∧ (h 13 (h 29 (h 57 (a2).toNat).toNat).toNat) ≤ 900 by omega) ?_
      intro w14 k119_0
      refine ja_if_eq 148 dwithinAhead_122 rfl ⟨by omega, by omega⟩ (fun c122 => ?_) (fun c122 => ?_)
      · refine ja_iconst dwithinAhead_148 ?_
        refine ja_istore dwithinAhead_149 (by decide) (L2 := [(5, (0, 0)), (4, (0, (h 59 (a1).toNat))), (3, (0, ((h 3 (h 61 (a1).toNat).toNat) + 1))), (0, (2, ((0 : Nat) : Int))), (1, (0, a1)), (2, (0, a2))]) rfl ?_
        refine ja_goto 191 dwithinAhead_151 rfl ?_
        refine ja_iload dwithinAhead_191 rfl ?_
        refine ja_if_eq 200 dwithinAhead_193 rfl ⟨by decide, by decide⟩ (fun c193 => ?_) (fun c193 => absurd c193 (by omega))
        refine ja_iconst dwithinAhead_200 ?_
        refine ja_ireturn dwithinAhead_201 rfl ?_
        exact mo_fin (by omega) rfl (k1 0 h (⟨by omega, by omega, ag_refl⟩) g)
      · refine ja_iload dwithinAhead_125 rfl ?_
        refine ja_if_lt 144 dwithinAhead_127 rfl ⟨by omega, by omega⟩ (fun c127 => ?_) (fun c127 => ?_)
        · refine ja_iconst dwithinAhead_144 ?_
          refine ja_goto 149 dwithinAhead_145 rfl ?_
          refine ja_istore dwithinAhead_149 (by decide) (L2 := [(5, (0, 1)), (4, (0, (h 59 (a1).toNat))), (3, (0, ((h 3 (h 61 (a1).toNat).toNat) + 1))), (0, (2, ((0 : Nat) : Int))), (1, (0, a1)), (2, (0, a2))]) rfl ?_
          refine ja_goto 191 dwithinAhead_151 rfl ?_
          refine ja_iload dwithinAhead_191 rfl ?_
          refine ja_if_eq 200 dwithinAhead_193 rfl ⟨by decide, by decide⟩ (fun c193 => absurd c193 (by omega)) (fun c193 => ?_)
          refine ja_iconst dwithinAhead_196 ?_
          refine ja_goto 201 dwithinAhead_197 rfl ?_
          refine ja_ireturn dwithinAhead_201 rfl ?_
          exact mo_fin (by omega) rfl (k1 1 h (⟨by omega, by omega, ag_refl⟩) g)
        · refine ja_aload_n dwithinAhead_130 rfl rfl ?_
          refine ja_iload dwithinAhead_131 rfl ?_
          refine mk_948 dwithinAhead_133 ?_
          refine ja_bipush 6 dwithinAhead_136 rfl ?_
          refine t_goesWord (by decide) (show (0 : Nat) ≤ 8 by decide) dwithinAhead_138 g ⟨by omega, by omega⟩ ⟨by decide, by decide⟩ (show 0 ≤ (h 59 (a1).toNat) by omega) (show 0 ≤ 6 ∧ 6 ≤ 6 by omega) ?_
          intro w15 h16 k138_0 g17
          refine ja_if_eq 148 dwithinAhead_141 rfl ⟨by omega, by omega⟩ (fun c141 => ?_) (fun c141 => ?_)
          · refine ja_iconst dwithinAhead_148 ?_
            refine ja_istore dwithinAhead_149 (by decide) (L2 := [(5, (0, 0)), (4, (0, (h 59 (a1).toNat))), (3, (0, ((h 3 (h 61 (a1).toNat).toNat) + 1))), (0, (2, ((0 : Nat) : Int))), (1, (0, a1)), (2, (0, a2))]) rfl ?_
            refine ja_goto 191 dwithinAhead_151 rfl ?_
            refine ja_iload dwithinAhead_191 rfl ?_
            refine ja_if_eq 200 dwithinAhead_193 rfl ⟨by decide, by decide⟩ (fun c193 => ?_) (fun c193 => absurd c193 (by omega))
            refine ja_iconst dwithinAhead_200 ?_
            refine ja_ireturn dwithinAhead_201 rfl ?_
            exact mo_fin (by omega) rfl (k1 0 h16 (⟨by omega, by omega, (ag_trans ag_refl k138_0.2.2)⟩) g17)
          · refine ja_iconst dwithinAhead_144 ?_
            refine ja_goto 149 dwithinAhead_145 rfl ?_
            refine ja_istore dwithinAhead_149 (by decide) (L2 := [(5, (0, 1)), (4, (0, (h 59 (a1).toNat))), (3, (0, ((h 3 (h 61 (a1).toNat).toNat) + 1))), (0, (2, ((0 : Nat) : Int))), (1, (0, a1)), (2, (0, a2))]) rfl ?_
            refine ja_goto 191 dwithinAhead_151 rfl ?_
            refine ja_iload dwithinAhead_191 rfl ?_
            refine ja_if_eq 200 dwithinAhead_193 rfl ⟨by decide, by decide⟩ (fun c193 => absurd c193 (by omega)) (fun c193 => ?_)
            refine ja_iconst dwithinAhead_196 ?_
            refine ja_goto 201 dwithinAhead_197 rfl ?_
            refine ja_ireturn dwithinAhead_201 rfl ?_
            exact mo_fin (by omega) rfl (k1 1 h16 (⟨by omega, by omega, (ag_trans ag_refl k138_0.2.2)⟩) g17)
  · refine ja_aload_n dwithinAhead_32 rfl rfl ?_
    refine fa_pointWhich dwithinAhead_33 ?_
    refine ja_iload_n dwithinAhead_36 rfl rfl ?_
    refine il_pointWhich (v := h 57 (a2).toNat) rfl ⟨by omega, by omega⟩ dwithinAhead_37 ?_
    have f18 := gC_pointWhich g (a2).toNat
    refine ja_istore dwithinAhead_38 (by decide) (L2 := [(6, (0, (h 57 (a2).toNat))), (4, (0, (h 59 (a1).toNat))), (3, (0, ((h 3 (h 61 (a1).toNat).toNat) + 1))), (0, (2, ((0 : Nat) : Int))), (1, (0, a1)), (2, (0, a2))]) rfl ?_
    refine ja_aload_n dwithinAhead_40 rfl rfl ?_
    refine fa_nodeTypes dwithinAhead_41 ?_
    refine ja_iload_n dwithinAhead_44 rfl rfl ?_
    refine il_nodeTypes (v := h 68 (a1).toNat) rfl ⟨by omega, by omega⟩ dwithinAhead_45 ?_
    have f19 := gC_nodeTypes g (a1).toNat
    refine ja_aload_n dwithinAhead_46 rfl rfl ?_
    refine fa_methodClass dwithinAhead_47 ?_
    refine ja_iload dwithinAhead_50 rfl ?_
    refine il_methodClass (v := h 21 (h 57 (a2).toNat).toNat) rfl ⟨by omega, by omega⟩ dwithinAhead_52 ?_
    have f20 := gC_methodClass g (h 57 (a2).toNat).toNat
    refine mo_hishr dwithinAhead_53 (fun v21 rv21 => ?_)
    refine ja_iconst dwithinAhead_54 ?_
    refine mo_iandc dwithinAhead_55 (by decide) (fun v22 rv22 => ?_)
    refine ja_iconst dwithinAhead_56 ?_
    refine ja_icmp_ne 85 dwithinAhead_57 rfl ⟨by omega, by omega⟩ ⟨by decide, by decide⟩ (fun c57 => ?_) (fun c57 => ?_)
    · refine ja_iconst dwithinAhead_85 ?_
      refine ja_istore dwithinAhead_86 (by decide) (L2 := [(5, (0, 0)), (6, (0, (h 57 (a2).toNat))), (4, (0, (h 59 (a1).toNat))), (3, (0, ((h 3 (h 61 (a1).toNat).toNat) + 1))), (0, (2, ((0 : Nat) : Int))), (1, (0, a1)), (2, (0, a2))]) rfl ?_
      refine ja_goto 191 dwithinAhead_88 rfl ?_
      refine ja_iload dwithinAhead_191 rfl ?_
      refine ja_if_eq 200 dwithinAhead_193 rfl ⟨by decide, by decide⟩ (fun c193 => ?_) (fun c193 => absurd c193 (by omega))
      refine ja_iconst dwithinAhead_200 ?_
      refine ja_ireturn dwithinAhead_201 rfl ?_
      exact mo_fin (by omega) rfl (k1 0 h (⟨by omega, by omega, ag_refl⟩) g)
    · refine ja_iload dwithinAhead_60 rfl ?_
      refine ja_if_lt 81 dwithinAhead_62 rfl ⟨by omega, by omega⟩ (fun c62 => ?_) (fun c62 => ?_)
      · refine ja_iconst dwithinAhead_81 ?_
        refine ja_goto 86 dwithinAhead_82 rfl ?_
        refine ja_istore dwithinAhead_86 (by decide) (L2 := [(5, (0, 1)), (6, (0, (h 57 (a2).toNat))), (4, (0, (h 59 (a1).toNat))), (3, (0, ((h 3 (h 61 (a1).toNat).toNat) + 1))), (0, (2, ((0 : Nat) : Int))), (1, (0, a1)), (2, (0, a2))]) rfl ?_
        refine ja_goto 191 dwithinAhead_88 rfl ?_
        refine ja_iload dwithinAhead_191 rfl ?_
        refine ja_if_eq 200 dwithinAhead_193 rfl ⟨by decide, by decide⟩ (fun c193 => absurd c193 (by omega)) (fun c193 => ?_)
        refine ja_iconst dwithinAhead_196 ?_
        refine ja_goto 201 dwithinAhead_197 rfl ?_
        refine ja_ireturn dwithinAhead_201 rfl ?_
        exact mo_fin (by omega) rfl (k1 1 h (⟨by omega, by omega, ag_refl⟩) g)
      · refine ja_aload_n dwithinAhead_65 rfl rfl ?_
        refine ja_iload dwithinAhead_66 rfl ?_
        refine ja_aload_n dwithinAhead_68 rfl rfl ?_
        refine fa_methodName dwithinAhead_69 ?_
        refine ja_iload dwithinAhead_72 rfl ?_
        refine il_methodName (v := h 19 (h 57 (a2).toNat).toNat) rfl ⟨by omega, by omega⟩ dwithinAhead_74 ?_
        have f23 := gC_methodName g (h 57 (a2).toNat).toNat
        refine t_goesName (by decide) (show (0 : Nat) ≤ 8 by decide) dwithinAhead_75 g ⟨by omega, by omega⟩ ⟨by omega, by omega⟩ (show 0 ≤ (h 59 (a1).toNat) by omega) (show 0 ≤ (h 19 (h 57 (a2).toNat).toNat) ∧ (h 19 (h 57 (a2).toNat).toNat) ≤ 900 by omega) ?_
        intro w24 k75_0
        refine ja_if_eq 85 dwithinAhead_78 rfl ⟨by omega, by omega⟩ (fun c78 => ?_) (fun c78 => ?_)
        · refine ja_iconst dwithinAhead_85 ?_
          refine ja_istore dwithinAhead_86 (by decide) (L2 := [(5, (0, 0)), (6, (0, (h 57 (a2).toNat))), (4, (0, (h 59 (a1).toNat))), (3, (0, ((h 3 (h 61 (a1).toNat).toNat) + 1))), (0, (2, ((0 : Nat) : Int))), (1, (0, a1)), (2, (0, a2))]) rfl ?_
          refine ja_goto 191 dwithinAhead_88 rfl ?_
          refine ja_iload dwithinAhead_191 rfl ?_
          refine ja_if_eq 200 dwithinAhead_193 rfl ⟨by decide, by decide⟩ (fun c193 => ?_) (fun c193 => absurd c193 (by omega))
          refine ja_iconst dwithinAhead_200 ?_
          refine ja_ireturn dwithinAhead_201 rfl ?_
          exact mo_fin (by omega) rfl (k1 0 h (⟨by omega, by omega, ag_refl⟩) g)
        · refine ja_iconst dwithinAhead_81 ?_
          refine ja_goto 86 dwithinAhead_82 rfl ?_
          refine ja_istore dwithinAhead_86 (by decide) (L2 := [(5, (0, 1)), (6, (0, (h 57 (a2).toNat))), (4, (0, (h 59 (a1).toNat))), (3, (0, ((h 3 (h 61 (a1).toNat).toNat) + 1))), (0, (2, ((0 : Nat) : Int))), (1, (0, a1)), (2, (0, a2))]) rfl ?_
          refine ja_goto 191 dwithinAhead_88 rfl ?_
          refine ja_iload dwithinAhead_191 rfl ?_
          refine ja_if_eq 200 dwithinAhead_193 rfl ⟨by decide, by decide⟩ (fun c193 => absurd c193 (by omega)) (fun c193 => ?_)
          refine ja_iconst dwithinAhead_196 ?_
          refine ja_goto 201 dwithinAhead_197 rfl ?_
          refine ja_ireturn dwithinAhead_201 rfl ?_
          exact mo_fin (by omega) rfl (k1 1 h (⟨by omega, by omega, ag_refl⟩) g)
theorem t_withinAhead {a1 a2 : Int} {d nL pc : Nat} {cc : ByteArray} {rt : Option FieldType} {L : List (Nat × ja_V)} {S : List ja_V} {h : ja_H} {Q : Option ja_V → ja_H → Prop} (hdd : 4 < d) (hwd : ja_wd S ≤ 8) (hd : decode cc pc = .ok (.invokevirtual 960, 3)) (g : mo_G mo_zr h) (r1 : -2147483648 ≤ a1 ∧ a1 ≤ 2147483647) (r2 : -2147483648 ≤ a2 ∧ a2 ≤ 2147483647) (p1 : 0 ≤ a1 ∧ a1 ≤ 899) (p2 : 0 ≤ a2 ∧ a2 ≤ 399) (p3 : ptK h a2.toNat) (k1 : ∀ (v : Int) (h' : ja_H), (0 ≤ v ∧ v ≤ 1 ∧ mo_ag FTX h h') → mo_G mo_zr h' → mJ l D cA ad d cc nL rt (pc + 3) L ((0, v) :: S) h' Q) : mJ l D cA ad d cc nL rt pc L ((0, a2) :: (0, a1) :: (2, ((0 : Nat) : Int)) :: S) h Q :=
  mc_withinAhead hdd hwd hd (s_withinAhead g r1 r2 p1 p2 p3 k1)
end
theorem dselfAhead_0 : decode cX12_selfAhead 0 = .ok (.aload_n 0, 1) := by decide +kernel
theorem dselfAhead_1 : decode cX12_selfAhead 1 = .ok (.iload_n 2, 1) := by decide +kernel
theorem dselfAhead_2 : decode cX12_selfAhead 2 = .ok (.invokevirtual 954, 3) := by decide +kernel
theorem dselfAhead_5 : decode cX12_selfAhead 5 = .ok (.istore_n 3, 1) := by decide +kernel
theorem dselfAhead_6 : decode cX12_selfAhead 6 = .ok (.iload_n 3, 1) := by decide +kernel
theorem dselfAhead_7 : decode cX12_selfAhead 7 = .ok (.ifCond .ge 5, 3) := by decide +kernel
theorem dselfAhead_10 : decode cX12_selfAhead 10 = .ok (.iconst 0, 1) := by decide +kernel
theorem dselfAhead_11 : decode cX12_selfAhead 11 = .ok (.ireturn, 1) := by decide +kernel
theorem dselfAhead_12 : decode cX12_selfAhead 12 = .ok (.aload_n 0, 1) := by decide +kernel
theorem dselfAhead_13 : decode cX12_selfAhead 13 = .ok (.getfield 185, 3) := by decide +kernel
theorem dselfAhead_16 : decode cX12_selfAhead 16 = .ok (.iload_n 1, 1) := by decide +kernel
theorem dselfAhead_17 : decode cX12_selfAhead 17 = .ok (.iaload, 1) := by decide +kernel
theorem dselfAhead_18 : decode cX12_selfAhead 18 = .ok (.bipush 100, 2) := by decide +kernel
theorem dselfAhead_20 : decode cX12_selfAhead 20 = .ok (.if_icmp .ge 5, 3) := by decide +kernel
theorem dselfAhead_23 : decode cX12_selfAhead 23 = .ok (.iconst 1, 1) := by decide +kernel
theorem dselfAhead_24 : decode cX12_selfAhead 24 = .ok (.ireturn, 1) := by decide +kernel
theorem dselfAhead_25 : decode cX12_selfAhead 25 = .ok (.aload_n 0, 1) := by decide +kernel
theorem dselfAhead_26 : decode cX12_selfAhead 26 = .ok (.getfield 185, 3) := by decide +kernel
theorem dselfAhead_29 : decode cX12_selfAhead 29 = .ok (.iload_n 1, 1) := by decide +kernel
theorem dselfAhead_30 : decode cX12_selfAhead 30 = .ok (.iaload, 1) := by decide +kernel
theorem dselfAhead_31 : decode cX12_selfAhead 31 = .ok (.bipush 100, 2) := by decide +kernel
theorem dselfAhead_33 : decode cX12_selfAhead 33 = .ok (.isub, 1) := by decide +kernel
theorem dselfAhead_34 : decode cX12_selfAhead 34 = .ok (.istore 4, 2) := by decide +kernel
theorem dselfAhead_36 : decode cX12_selfAhead 36 = .ok (.aload_n 0, 1) := by decide +kernel
theorem dselfAhead_37 : decode cX12_selfAhead 37 = .ok (.getfield 261, 3) := by decide +kernel
theorem dselfAhead_40 : decode cX12_selfAhead 40 = .ok (.iload 4, 2) := by decide +kernel
theorem dselfAhead_42 : decode cX12_selfAhead 42 = .ok (.iaload, 1) := by decide +kernel
theorem dselfAhead_43 : decode cX12_selfAhead 43 = .ok (.iload_n 3, 1) := by decide +kernel
theorem dselfAhead_44 : decode cX12_selfAhead 44 = .ok (.ishr, 1) := by decide +kernel
theorem dselfAhead_45 : decode cX12_selfAhead 45 = .ok (.iconst 1, 1) := by decide +kernel
theorem dselfAhead_46 : decode cX12_selfAhead 46 = .ok (.iand, 1) := by decide +kernel
theorem dselfAhead_47 : decode cX12_selfAhead 47 = .ok (.iconst 1, 1) := by decide +kernel
theorem dselfAhead_48 : decode cX12_selfAhead 48 = .ok (.if_icmp .ne 5, 3) := by decide +kernel
theorem dselfAhead_51 : decode cX12_selfAhead 51 = .ok (.iconst 1, 1) := by decide +kernel
theorem dselfAhead_52 : decode cX12_selfAhead 52 = .ok (.ireturn, 1) := by decide +kernel
theorem dselfAhead_53 : decode cX12_selfAhead 53 = .ok (.aload_n 0, 1) := by decide +kernel
theorem dselfAhead_54 : decode cX12_selfAhead 54 = .ok (.getfield 261, 3) := by decide +kernel
theorem dselfAhead_57 : decode cX12_selfAhead 57 = .ok (.iload 4, 2) := by decide +kernel
theorem dselfAhead_59 : decode cX12_selfAhead 59 = .ok (.iaload, 1) := by decide +kernel
theorem dselfAhead_60 : decode cX12_selfAhead 60 = .ok (.aload_n 0, 1) := by decide +kernel
theorem dselfAhead_61 : decode cX12_selfAhead 61 = .ok (.getfield 261, 3) := by decide +kernel
theorem dselfAhead_64 : decode cX12_selfAhead 64 = .ok (.iload_n 3, 1) := by decide +kernel
theorem dselfAhead_65 : decode cX12_selfAhead 65 = .ok (.iaload, 1) := by decide +kernel
theorem dselfAhead_66 : decode cX12_selfAhead 66 = .ok (.iand, 1) := by decide +kernel
theorem dselfAhead_67 : decode cX12_selfAhead 67 = .ok (.ifCond .ne 7, 3) := by decide +kernel
theorem dselfAhead_70 : decode cX12_selfAhead 70 = .ok (.iconst 0, 1) := by decide +kernel
theorem dselfAhead_71 : decode cX12_selfAhead 71 = .ok (.goto 4, 3) := by decide +kernel
theorem dselfAhead_74 : decode cX12_selfAhead 74 = .ok (.iconst 2, 1) := by decide +kernel
theorem dselfAhead_75 : decode cX12_selfAhead 75 = .ok (.ireturn, 1) := by decide +kernel
section
variable {l : Launch} {D : va_G} {cA : Nat → ClassId} {ad : Nat → Nat}
theorem s_selfAhead {a1 a2 : Int} {h : ja_H} {Q : Option ja_V → ja_H → Prop} (g : mo_G mo_zr h) (r1 : -2147483648 ≤ a1 ∧ a1 ≤ 2147483647) (r2 : -2147483648 ≤ a2 ∧ a2 ≤ 2147483647) (p1 : 0 ≤ a1 ∧ a1 ≤ 899) (p2 : 0 ≤ a2 ∧ a2 ≤ 399) (p3 : (h 59 (a1).toNat) ≤ 111) (k1 : ∀ (v : Int), (0 ≤ v ∧ v ≤ 2) → Q (some (0, v)) h) : mM_selfAhead l D cA ad a1 a2 h Q := by
  show mJ l D cA ad 2 cX12_selfAhead 5 (some .int) 0 [(0, (2, ((0 : Nat) : Int))), (1, (0, a1)), (2, (0, a2))] [] h Q
  refine ja_aload_n dselfAhead_0 rfl rfl ?_
  refine ja_iload_n dselfAhead_1 rfl rfl ?_
  refine t_standsIn (by decide) (show (0 : Nat) ≤ 8 by decide) dselfAhead_2 g ⟨by omega, by omega⟩ (show 0 ≤ a2 ∧ a2 ≤ 399 by omega) ?_
  intro w1 k2_0
  refine ja_istore_n dselfAhead_5 rfl (by decide) (L2 := [(3, (0, w1)), (0, (2, ((0 : Nat) : Int))), (1, (0, a1)), (2, (0, a2))]) rfl ?_
  refine ja_iload_n dselfAhead_6 rfl rfl ?_
  refine ja_if_ge 12 dselfAhead_7 rfl ⟨by omega, by omega⟩ (fun c7 => ?_) (fun c7 => ?_)
  · refine ja_aload_n dselfAhead_12 rfl rfl ?_
    refine fa_nodeA dselfAhead_13 ?_
    refine ja_iload_n dselfAhead_16 rfl rfl ?_
    refine il_nodeA (v := h 59 (a1).toNat) rfl ⟨by omega, by omega⟩ dselfAhead_17 ?_
    have f2 := gC_nodeA g (a1).toNat
    refine ja_bipush 100 dselfAhead_18 rfl ?_
    refine ja_icmp_ge 25 dselfAhead_20 rfl ⟨by omega, by omega⟩ ⟨by decide, by decide⟩ (fun c20 => ?_) (fun c20 => ?_)
    · refine ja_aload_n dselfAhead_25 rfl rfl ?_
      refine fa_nodeA dselfAhead_26 ?_
      refine ja_iload_n dselfAhead_29 rfl rfl ?_
      refine il_nodeA (v := h 59 (a1).toNat) rfl ⟨by omega, by omega⟩ dselfAhead_30 ?_
      refine ja_bipush 100 dselfAhead_31 rfl ?_
      refine ja_isub dselfAhead_33 ?_
      refine ja_istore dselfAhead_34 (by decide) (L2 := [(4, (0, ((h 59 (a1).toNat) - 100))), (3, (0, w1)), (0, (2, ((0 : Nat) : Int))), (1, (0, a1)), (2, (0, a2))]) rfl ?_
      refine ja_aload_n dselfAhead_36 rfl rfl ?_
      refine fa_below dselfAhead_37 ?_
      refine ja_iload dselfAhead_40 rfl ?_
      refine il_below (v := h 84 ((h 59 (a1).toNat) - 100).toNat) rfl ⟨by omega, by omega⟩ dselfAhead_42 ?_
      have f3 := gC_below g ((h 59 (a1).toNat) - 100).toNat
      refine ja_iload_n dselfAhead_43 rfl rfl ?_
      refine mo_hishr dselfAhead_44 (fun v4 rv4 => ?_)
      refine ja_iconst dselfAhead_45 ?_
      refine mo_iandc dselfAhead_46 (by decide) (fun v5 rv5 => ?_)
      refine ja_iconst dselfAhead_47 ?_
      refine ja_icmp_ne 53 dselfAhead_48 rfl ⟨by omega, by omega⟩ ⟨by decide, by decide⟩ (fun c48 => ?_) (fun c48 => ?_)
      · refine ja_aload_n dselfAhead_53 rfl rfl ?_
        refine fa_below dselfAhead_54 ?_
        refine ja_iload dselfAhead_57 rfl ?_
        refine il_below (v := h 84 ((h 59 (a1).toNat) - 100).toNat) rfl ⟨by omega, by omega⟩ dselfAhead_59 ?_
        refine ja_aload_n dselfAhead_60 rfl rfl ?_
        refine fa_below dselfAhead_61 ?_
        refine ja_iload_n dselfAhead_64 rfl rfl ?_
        refine il_below (v := h 84 (w1).toNat) rfl ⟨by omega, by omega⟩ dselfAhead_65 ?_
        have f6 := gC_below g (w1).toNat
        refine mo_hiand dselfAhead_66 (fun v7 rv7 => ?_)
        refine ja_if_ne 74 dselfAhead_67 rfl ⟨by omega, by omega⟩ (fun c67 => ?_) (fun c67 => ?_)
        · refine ja_iconst dselfAhead_74 ?_
          refine ja_ireturn dselfAhead_75 rfl ?_
          exact mo_fin (by omega) rfl (k1 2 (by omega))
        · refine ja_iconst dselfAhead_70 ?_
          refine ja_goto 75 dselfAhead_71 rfl ?_
          refine ja_ireturn dselfAhead_75 rfl ?_
          exact mo_fin (by omega) rfl (k1 0 (by omega))
      · refine ja_iconst dselfAhead_51 ?_
        refine ja_ireturn dselfAhead_52 rfl ?_
        exact mo_fin (by omega) rfl (k1 1 (by omega))
    · refine ja_iconst dselfAhead_23 ?_
      refine ja_ireturn dselfAhead_24 rfl ?_
      exact mo_fin (by omega) rfl (k1 1 (by omega))
  · refine ja_iconst dselfAhead_10 ?_
    refine ja_ireturn dselfAhead_11 rfl ?_
    exact mo_fin (by omega) rfl (k1 0 (by omega))
theorem t_selfAhead {a1 a2 : Int} {d nL pc : Nat} {cc : ByteArray} {rt : Option FieldType} {L : List (Nat × ja_V)} {S : List ja_V} {h : ja_H} {Q : Option ja_V → ja_H → Prop} (hdd : 2 < d) (hwd : ja_wd S ≤ 8) (hd : decode cc pc = .ok (.invokevirtual 963, 3)) (g : mo_G mo_zr h) (r1 : -2147483648 ≤ a1 ∧ a1 ≤ 2147483647) (r2 : -2147483648 ≤ a2 ∧ a2 ≤ 2147483647) (p1 : 0 ≤ a1 ∧ a1 ≤ 899) (p2 : 0 ≤ a2 ∧ a2 ≤ 399) (p3 : (h 59 (a1).toNat) ≤ 111) (k1 : ∀ (v : Int), (0 ≤ v ∧ v ≤ 2) → mJ l D cA ad d cc nL rt (pc + 3) L ((0, v) :: S) h Q) : mJ l D cA ad d cc nL rt pc L ((0, a2) :: (0, a1) :: (2, ((0 : Nat) : Int)) :: S) h Q :=
  mc_selfAhead hdd hwd hd (s_selfAhead g r1 r2 p1 p2 p3 k1)
end
theorem dargsAhead_0 : decode cX12_argsAhead 0 = .ok (.aload_n 0, 1) := by decide +kernel
theorem dargsAhead_1 : decode cX12_argsAhead 1 = .ok (.getfield 173, 3) := by decide +kernel
theorem dargsAhead_4 : decode cX12_argsAhead 4 = .ok (.iload_n 2, 1) := by decide +kernel
theorem dargsAhead_5 : decode cX12_argsAhead 5 = .ok (.iaload, 1) := by decide +kernel
theorem dargsAhead_6 : decode cX12_argsAhead 6 = .ok (.aload_n 0, 1) := by decide +kernel
theorem dargsAhead_7 : decode cX12_argsAhead 7 = .ok (.getfield 194, 3) := by decide +kernel
theorem dargsAhead_10 : decode cX12_argsAhead 10 = .ok (.iload_n 1, 1) := by decide +kernel
theorem dargsAhead_11 : decode cX12_argsAhead 11 = .ok (.iaload, 1) := by decide +kernel
theorem dargsAhead_12 : decode cX12_argsAhead 12 = .ok (.if_icmp .eq 5, 3) := by decide +kernel
theorem dargsAhead_15 : decode cX12_argsAhead 15 = .ok (.iconst 0, 1) := by decide +kernel
theorem dargsAhead_16 : decode cX12_argsAhead 16 = .ok (.ireturn, 1) := by decide +kernel
theorem dargsAhead_17 : decode cX12_argsAhead 17 = .ok (.iconst 0, 1) := by decide +kernel
theorem dargsAhead_18 : decode cX12_argsAhead 18 = .ok (.istore_n 3, 1) := by decide +kernel
theorem dargsAhead_19 : decode cX12_argsAhead 19 = .ok (.iconst 0, 1) := by decide +kernel
theorem dargsAhead_20 : decode cX12_argsAhead 20 = .ok (.istore 4, 2) := by decide +kernel
theorem dargsAhead_22 : decode cX12_argsAhead 22 = .ok (.iload 4, 2) := by decide +kernel
theorem dargsAhead_24 : decode cX12_argsAhead 24 = .ok (.aload_n 0, 1) := by decide +kernel
theorem dargsAhead_25 : decode cX12_argsAhead 25 = .ok (.getfield 194, 3) := by decide +kernel
theorem dargsAhead_28 : decode cX12_argsAhead 28 = .ok (.iload_n 1, 1) := by decide +kernel
theorem dargsAhead_29 : decode cX12_argsAhead 29 = .ok (.iaload, 1) := by decide +kernel
theorem dargsAhead_30 : decode cX12_argsAhead 30 = .ok (.if_icmp .ge 36, 3) := by decide +kernel
theorem dargsAhead_33 : decode cX12_argsAhead 33 = .ok (.iload_n 3, 1) := by decide +kernel
theorem dargsAhead_34 : decode cX12_argsAhead 34 = .ok (.ifCond .ne 20, 3) := by decide +kernel
theorem dargsAhead_37 : decode cX12_argsAhead 37 = .ok (.aload_n 0, 1) := by decide +kernel
theorem dargsAhead_38 : decode cX12_argsAhead 38 = .ok (.getfield 197, 3) := by decide +kernel
theorem dargsAhead_41 : decode cX12_argsAhead 41 = .ok (.bipush 7, 2) := by decide +kernel
theorem dargsAhead_43 : decode cX12_argsAhead 43 = .ok (.iload_n 1, 1) := by decide +kernel
theorem dargsAhead_44 : decode cX12_argsAhead 44 = .ok (.imul, 1) := by decide +kernel
theorem dargsAhead_45 : decode cX12_argsAhead 45 = .ok (.iload 4, 2) := by decide +kernel
theorem dargsAhead_47 : decode cX12_argsAhead 47 = .ok (.iadd, 1) := by decide +kernel
theorem dargsAhead_48 : decode cX12_argsAhead 48 = .ok (.iaload, 1) := by decide +kernel
theorem dargsAhead_49 : decode cX12_argsAhead 49 = .ok (.bipush 100, 2) := by decide +kernel
theorem dargsAhead_51 : decode cX12_argsAhead 51 = .ok (.if_icmp .lt 7, 3) := by decide +kernel
theorem dargsAhead_54 : decode cX12_argsAhead 54 = .ok (.iconst 1, 1) := by decide +kernel
theorem dargsAhead_55 : decode cX12_argsAhead 55 = .ok (.goto 4, 3) := by decide +kernel
theorem dargsAhead_58 : decode cX12_argsAhead 58 = .ok (.iconst 0, 1) := by decide +kernel
theorem dargsAhead_59 : decode cX12_argsAhead 59 = .ok (.istore_n 3, 1) := by decide +kernel
theorem dargsAhead_60 : decode cX12_argsAhead 60 = .ok (.iinc 4 1, 3) := by decide +kernel
theorem dargsAhead_63 : decode cX12_argsAhead 63 = .ok (.goto (-41), 3) := by decide +kernel
theorem dargsAhead_66 : decode cX12_argsAhead 66 = .ok (.iload_n 3, 1) := by decide +kernel
theorem dargsAhead_67 : decode cX12_argsAhead 67 = .ok (.ifCond .eq 7, 3) := by decide +kernel
theorem dargsAhead_70 : decode cX12_argsAhead 70 = .ok (.iconst 2, 1) := by decide +kernel
theorem dargsAhead_71 : decode cX12_argsAhead 71 = .ok (.goto 4, 3) := by decide +kernel
theorem dargsAhead_74 : decode cX12_argsAhead 74 = .ok (.iconst 1, 1) := by decide +kernel
theorem dargsAhead_75 : decode cX12_argsAhead 75 = .ok (.ireturn, 1) := by decide +kernel
section
variable {l : Launch} {D : va_G} {cA : Nat → ClassId} {ad : Nat → Nat}
theorem s_argsAhead {a1 a2 : Int} {h : ja_H} {Q : Option ja_V → ja_H → Prop} (g : mo_G mo_zr h) (r1 : -2147483648 ≤ a1 ∧ a1 ≤ 2147483647) (r2 : -2147483648 ≤ a2 ∧ a2 ≤ 2147483647) (p1 : 0 ≤ a1 ∧ a1 ≤ 899) (p2 : 0 ≤ a2 ∧ a2 ≤ 399) (k1 : ∀ (v : Int), (0 ≤ v ∧ v ≤ 2) → Q (some (0, v)) h) : mM_argsAhead l D cA ad a1 a2 h Q := by
  show mJ l D cA ad 1 cX12_argsAhead 5 (some .int) 0 [(0, (2, ((0 : Nat) : Int))), (1, (0, a1)), (2, (0, a2))] [] h Q
  have CUT : ∀ n : Nat, (∀ (x3 x4 : Int), (-2147483648 ≤ x3 ∧ x3 ≤ 2147483647) → (-2147483648 ≤ x4 ∧ x4 ≤ 2147483647) → (0 ≤ x3 ∧ x3 ≤ 1 ∧ 0 ≤ x4) → (((20 : Int) - x4).toNat) = n → mJ l D cA ad 1 cX12_argsAhead 5 (some .int) 22 [(0, (2, ((0 : Nat) : Int))), (1, (0, a1)), (3, (0, x3)), (4, (0, x4))] [] h Q) := by
    intro n
    induction n using Nat.strongRecOn with
    | _ n ih =>
      skip
      · intro x3 x4 qx3 qx4 iv hm
        subst hm
        have kmm := gC_nodeMany g (a1).toNat
        refine ja_iload dargsAhead_22 rfl ?_
        refine ja_aload_n dargsAhead_24 rfl rfl ?_
        refine fa_nodeMany dargsAhead_25 ?_
        refine ja_iload_n dargsAhead_28 rfl rfl ?_
        refine il_nodeMany (v := h 62 (a1).toNat) rfl ⟨by omega, by omega⟩ dargsAhead_29 ?_
        have f1 := gC_nodeMany g (a1).toNat
        refine ja_icmp_ge 66 dargsAhead_30 rfl ⟨by omega, by omega⟩ ⟨by omega, by omega⟩ (fun c30 => ?_) (fun c30 => ?_)
        · refine ja_iload_n dargsAhead_66 rfl rfl ?_
          refine ja_if_eq 74 dargsAhead_67 rfl ⟨by omega, by omega⟩ (fun c67 => ?_) (fun c67 => ?_)
          · refine ja_iconst dargsAhead_74 ?_
            refine ja_ireturn dargsAhead_75 rfl ?_
            exact mo_fin (by omega) rfl (k1 1 (by omega))
          · refine ja_iconst dargsAhead_70 ?_
            refine ja_goto 75 dargsAhead_71 rfl ?_
            refine ja_ireturn dargsAhead_75 rfl ?_
            exact mo_fin (by omega) rfl (k1 2 (by omega))
        · refine ja_iload_n dargsAhead_33 rfl rfl ?_
          refine ja_if_ne 54 dargsAhead_34 rfl ⟨by omega, by omega⟩ (fun c34 => ?_) (fun c34 => ?_)
          · refine ja_iconst dargsAhead_54 ?_
            refine ja_goto 59 dargsAhead_55 rfl ?_
            refine ja_istore_n dargsAhead_59 rfl (by decide) (L2 := [(3, (0, 1)), (0, (2, ((0 : Nat) : Int))), (1, (0, a1)), (4, (0, x4))]) rfl ?_
            refine ja_iinc dargsAhead_60 rfl (by decide) (L2 := [(4, (0, (x4 + 1))), (3, (0, 1)), (0, (2, ((0 : Nat) : Int))), (1, (0, a1))]) rfl ?_
            refine ja_goto 22 dargsAhead_63 rfl ?_
            exact ja_wk (fun q hq => by simp only [List.mem_cons, List.not_mem_nil, or_false] at hq; rcases hq with rfl | rfl | rfl | rfl <;> rfl) ((ih (((20 : Int) - (x4 + 1)).toNat) (by omega)) 1 (x4 + 1)  ⟨by decide, by decide⟩ ⟨by omega, by omega⟩ (show 0 ≤ 1 ∧ 1 ≤ 1 ∧ 0 ≤ (x4 + 1) by omega) rfl)
          · refine ja_aload_n dargsAhead_37 rfl rfl ?_
            refine fa_nodeArg dargsAhead_38 ?_
            refine ja_bipush 7 dargsAhead_41 rfl ?_
            refine ja_iload_n dargsAhead_43 rfl rfl ?_
            refine ja_imul dargsAhead_44 ?_
            refine ja_iload dargsAhead_45 rfl ?_
            refine ja_iadd dargsAhead_47 ?_
            refine il_nodeArg (v := h 63 ((7 * a1) + x4).toNat) rfl ⟨by omega, by omega⟩ dargsAhead_48 ?_
            have f2 := gC_nodeArg g ((7 * a1) + x4).toNat
            refine ja_bipush 100 dargsAhead_49 rfl ?_
            refine ja_icmp_lt 58 dargsAhead_51 rfl ⟨by omega, by omega⟩ ⟨by decide, by decide⟩ (fun c51 => ?_) (fun c51 => ?_)
            · refine ja_iconst dargsAhead_58 ?_
              refine ja_istore_n dargsAhead_59 rfl (by decide) (L2 := [(3, (0, 0)), (0, (2, ((0 : Nat) : Int))), (1, (0, a1)), (4, (0, x4))]) rfl ?_
              refine ja_iinc dargsAhead_60 rfl (by decide) (L2 := [(4, (0, (x4 + 1))), (3, (0, 0)), (0, (2, ((0 : Nat) : Int))), (1, (0, a1))]) rfl ?_
              refine ja_goto 22 dargsAhead_63 rfl ?_
              exact ja_wk (fun q hq => by simp only [List.mem_cons, List.not_mem_nil, or_false] at hq; rcases hq with rfl | rfl | rfl | rfl <;> rfl) ((ih (((20 : Int) - (x4 + 1)).toNat) (by omega)) 0 (x4 + 1)  ⟨by decide, by decide⟩ ⟨by omega, by omega⟩ (show 0 ≤ 0 ∧ 0 ≤ 1 ∧ 0 ≤ (x4 + 1) by omega) rfl)
            · refine ja_iconst dargsAhead_54 ?_
              refine ja_goto 59 dargsAhead_55 rfl ?_
              refine ja_istore_n dargsAhead_59 rfl (by decide) (L2 := [(3, (0, 1)), (0, (2, ((0 : Nat) : Int))), (1, (0, a1)), (4, (0, x4))]) rfl ?_
              refine ja_iinc dargsAhead_60 rfl (by decide) (L2 := [(4, (0, (x4 + 1))), (3, (0, 1)), (0, (2, ((0 : Nat) : Int))), (1, (0, a1))]) rfl ?_
              refine ja_goto 22 dargsAhead_63 rfl ?_
              exact ja_wk (fun q hq => by simp only [List.mem_cons, List.not_mem_nil, or_false] at hq; rcases hq with rfl | rfl | rfl | rfl <;> rfl) ((ih (((20 : Int) - (x4 + 1)).toNat) (by omega)) 1 (x4 + 1)  ⟨by decide, by decide⟩ ⟨by omega, by omega⟩ (show 0 ≤ 1 ∧ 1 ≤ 1 ∧ 0 ≤ (x4 + 1) by omega) rfl)
  have kmm := gC_nodeMany g (a1).toNat
  refine ja_aload_n dargsAhead_0 rfl rfl ?_
  refine fa_pointArgs dargsAhead_1 ?_
  refine ja_iload_n dargsAhead_4 rfl rfl ?_
  refine il_pointArgs (v := h 55 (a2).toNat) rfl ⟨by omega, by omega⟩ dargsAhead_5 ?_
  have f3 := gC_pointArgs g (a2).toNat
  refine ja_aload_n dargsAhead_6 rfl rfl ?_
  refine fa_nodeMany dargsAhead_7 ?_
  refine ja_iload_n dargsAhead_10 rfl rfl ?_
  refine il_nodeMany (v := h 62 (a1).toNat) rfl ⟨by omega, by omega⟩ dargsAhead_11 ?_
  have f4 := gC_nodeMany g (a1).toNat
  refine ja_icmp_eq 17 dargsAhead_12 rfl ⟨by omega, by omega⟩ ⟨by omega, by omega⟩ (fun c12 => ?_) (fun c12 => ?_)
  · refine ja_iconst dargsAhead_17 ?_
    refine ja_istore_n dargsAhead_18 rfl (by decide) (L2 := [(3, (0, 0)), (0, (2, ((0 : Nat) : Int))), (1, (0, a1)), (2, (0, a2))]) rfl ?_
    refine ja_iconst dargsAhead_19 ?_
    refine ja_istore dargsAhead_20 (by decide) (L2 := [(4, (0, 0)), (3, (0, 0)), (0, (2, ((0 : Nat) : Int))), (1, (0, a1)), (2, (0, a2))]) rfl ?_
    exact ja_wk (fun q hq => by simp only [List.mem_cons, List.not_mem_nil, or_false] at hq; rcases hq with rfl | rfl | rfl | rfl <;> rfl) ((CUT _) 0 0  ⟨by decide, by decide⟩ ⟨by decide, by decide⟩ (show 0 ≤ 0 ∧ 0 ≤ 1 ∧ 0 ≤ 0 by omega) rfl)
  · refine ja_iconst dargsAhead_15 ?_
    refine ja_ireturn dargsAhead_16 rfl ?_
    exact mo_fin (by omega) rfl (k1 0 (by omega))
theorem t_argsAhead {a1 a2 : Int} {d nL pc : Nat} {cc : ByteArray} {rt : Option FieldType} {L : List (Nat × ja_V)} {S : List ja_V} {h : ja_H} {Q : Option ja_V → ja_H → Prop} (hdd : 1 < d) (hwd : ja_wd S ≤ 8) (hd : decode cc pc = .ok (.invokevirtual 966, 3)) (g : mo_G mo_zr h) (r1 : -2147483648 ≤ a1 ∧ a1 ≤ 2147483647) (r2 : -2147483648 ≤ a2 ∧ a2 ≤ 2147483647) (p1 : 0 ≤ a1 ∧ a1 ≤ 899) (p2 : 0 ≤ a2 ∧ a2 ≤ 399) (k1 : ∀ (v : Int), (0 ≤ v ∧ v ≤ 2) → mJ l D cA ad d cc nL rt (pc + 3) L ((0, v) :: S) h Q) : mJ l D cA ad d cc nL rt pc L ((0, a2) :: (0, a1) :: (2, ((0 : Nat) : Int)) :: S) h Q :=
  mc_argsAhead hdd hwd hd (s_argsAhead g r1 r2 p1 p2 k1)
end
theorem daheadOf_0 : decode cX12_aheadOf 0 = .ok (.aload_n 0, 1) := by decide +kernel
theorem daheadOf_1 : decode cX12_aheadOf 1 = .ok (.getfield 185, 3) := by decide +kernel
theorem daheadOf_4 : decode cX12_aheadOf 4 = .ok (.iload_n 1, 1) := by decide +kernel
theorem daheadOf_5 : decode cX12_aheadOf 5 = .ok (.iaload, 1) := by decide +kernel
theorem daheadOf_6 : decode cX12_aheadOf 6 = .ok (.istore_n 3, 1) := by decide +kernel
theorem daheadOf_7 : decode cX12_aheadOf 7 = .ok (.aload_n 0, 1) := by decide +kernel
theorem daheadOf_8 : decode cX12_aheadOf 8 = .ok (.getfield 188, 3) := by decide +kernel
theorem daheadOf_11 : decode cX12_aheadOf 11 = .ok (.iload_n 1, 1) := by decide +kernel
theorem daheadOf_12 : decode cX12_aheadOf 12 = .ok (.iaload, 1) := by decide +kernel
theorem daheadOf_13 : decode cX12_aheadOf 13 = .ok (.istore 4, 2) := by decide +kernel
theorem daheadOf_15 : decode cX12_aheadOf 15 = .ok (.aload_n 0, 1) := by decide +kernel
theorem daheadOf_16 : decode cX12_aheadOf 16 = .ok (.getfield 182, 3) := by decide +kernel
theorem daheadOf_19 : decode cX12_aheadOf 19 = .ok (.iload_n 1, 1) := by decide +kernel
theorem daheadOf_20 : decode cX12_aheadOf 20 = .ok (.iaload, 1) := by decide +kernel
theorem daheadOf_21 : decode cX12_aheadOf 21 = .ok (.tableswitch 357 0 15 #[79, 79, 86, 79, 79, 124, 140, 147, 154, 199, 206, 208, 243, 296, 357, 261], 79) := by decide +kernel
theorem daheadOf_100 : decode cX12_aheadOf 100 = .ok (.aload_n 0, 1) := by decide +kernel
theorem daheadOf_101 : decode cX12_aheadOf 101 = .ok (.iload_n 1, 1) := by decide +kernel
theorem daheadOf_102 : decode cX12_aheadOf 102 = .ok (.iload_n 2, 1) := by decide +kernel
theorem daheadOf_103 : decode cX12_aheadOf 103 = .ok (.invokevirtual 957, 3) := by decide +kernel
theorem daheadOf_106 : decode cX12_aheadOf 106 = .ok (.ireturn, 1) := by decide +kernel
theorem daheadOf_107 : decode cX12_aheadOf 107 = .ok (.aload_n 0, 1) := by decide +kernel
theorem daheadOf_108 : decode cX12_aheadOf 108 = .ok (.getfield 164, 3) := by decide +kernel
theorem daheadOf_111 : decode cX12_aheadOf 111 = .ok (.iload_n 2, 1) := by decide +kernel
theorem daheadOf_112 : decode cX12_aheadOf 112 = .ok (.iaload, 1) := by decide +kernel
theorem daheadOf_113 : decode cX12_aheadOf 113 = .ok (.iconst 2, 1) := by decide +kernel
theorem daheadOf_114 : decode cX12_aheadOf 114 = .ok (.if_icmp .ne 29, 3) := by decide +kernel
theorem daheadOf_117 : decode cX12_aheadOf 117 = .ok (.aload_n 0, 1) := by decide +kernel
theorem daheadOf_118 : decode cX12_aheadOf 118 = .ok (.getfield 212, 3) := by decide +kernel
theorem daheadOf_121 : decode cX12_aheadOf 121 = .ok (.iload_n 1, 1) := by decide +kernel
theorem daheadOf_122 : decode cX12_aheadOf 122 = .ok (.iaload, 1) := by decide +kernel
theorem daheadOf_123 : decode cX12_aheadOf 123 = .ok (.aload_n 0, 1) := by decide +kernel
theorem daheadOf_124 : decode cX12_aheadOf 124 = .ok (.aload_n 0, 1) := by decide +kernel
theorem daheadOf_125 : decode cX12_aheadOf 125 = .ok (.aload_n 0, 1) := by decide +kernel
theorem daheadOf_126 : decode cX12_aheadOf 126 = .ok (.getfield 170, 3) := by decide +kernel
theorem daheadOf_129 : decode cX12_aheadOf 129 = .ok (.iload_n 2, 1) := by decide +kernel
theorem daheadOf_130 : decode cX12_aheadOf 130 = .ok (.iaload, 1) := by decide +kernel
theorem daheadOf_131 : decode cX12_aheadOf 131 = .ok (.invokevirtual 716, 3) := by decide +kernel
theorem daheadOf_134 : decode cX12_aheadOf 134 = .ok (.invokevirtual 903, 3) := by decide +kernel
theorem daheadOf_137 : decode cX12_aheadOf 137 = .ok (.ishr, 1) := by decide +kernel
theorem daheadOf_138 : decode cX12_aheadOf 138 = .ok (.iconst 1, 1) := by decide +kernel
theorem daheadOf_139 : decode cX12_aheadOf 139 = .ok (.iand, 1) := by decide +kernel
theorem daheadOf_140 : decode cX12_aheadOf 140 = .ok (.goto 4, 3) := by decide +kernel
theorem daheadOf_143 : decode cX12_aheadOf 143 = .ok (.iconst 0, 1) := by decide +kernel
theorem daheadOf_144 : decode cX12_aheadOf 144 = .ok (.ireturn, 1) := by decide +kernel
theorem daheadOf_145 : decode cX12_aheadOf 145 = .ok (.aload_n 0, 1) := by decide +kernel
theorem daheadOf_146 : decode cX12_aheadOf 146 = .ok (.getfield 164, 3) := by decide +kernel
theorem daheadOf_149 : decode cX12_aheadOf 149 = .ok (.iload_n 2, 1) := by decide +kernel
theorem daheadOf_150 : decode cX12_aheadOf 150 = .ok (.iaload, 1) := by decide +kernel
theorem daheadOf_151 : decode cX12_aheadOf 151 = .ok (.iconst 5, 1) := by decide +kernel
theorem daheadOf_152 : decode cX12_aheadOf 152 = .ok (.if_icmp .ne 7, 3) := by decide +kernel
theorem daheadOf_155 : decode cX12_aheadOf 155 = .ok (.iconst 1, 1) := by decide +kernel
theorem daheadOf_156 : decode cX12_aheadOf 156 = .ok (.goto 4, 3) := by decide +kernel
theorem daheadOf_159 : decode cX12_aheadOf 159 = .ok (.iconst 0, 1) := by decide +kernel
theorem daheadOf_160 : decode cX12_aheadOf 160 = .ok (.ireturn, 1) := by decide +kernel
theorem daheadOf_161 : decode cX12_aheadOf 161 = .ok (.aload_n 0, 1) := by decide +kernel
theorem daheadOf_162 : decode cX12_aheadOf 162 = .ok (.iload_n 1, 1) := by decide +kernel
theorem daheadOf_163 : decode cX12_aheadOf 163 = .ok (.iload_n 2, 1) := by decide +kernel
theorem daheadOf_164 : decode cX12_aheadOf 164 = .ok (.invokevirtual 960, 3) := by decide +kernel
theorem daheadOf_167 : decode cX12_aheadOf 167 = .ok (.ireturn, 1) := by decide +kernel
theorem daheadOf_168 : decode cX12_aheadOf 168 = .ok (.aload_n 0, 1) := by decide +kernel
theorem daheadOf_169 : decode cX12_aheadOf 169 = .ok (.iload_n 1, 1) := by decide +kernel
theorem daheadOf_170 : decode cX12_aheadOf 170 = .ok (.iload_n 2, 1) := by decide +kernel
theorem daheadOf_171 : decode cX12_aheadOf 171 = .ok (.invokevirtual 963, 3) := by decide +kernel
theorem daheadOf_174 : decode cX12_aheadOf 174 = .ok (.ireturn, 1) := by decide +kernel
theorem daheadOf_175 : decode cX12_aheadOf 175 = .ok (.aload_n 0, 1) := by decide +kernel
theorem daheadOf_176 : decode cX12_aheadOf 176 = .ok (.getfield 164, 3) := by decide +kernel
theorem daheadOf_179 : decode cX12_aheadOf 179 = .ok (.iload_n 2, 1) := by decide +kernel
theorem daheadOf_180 : decode cX12_aheadOf 180 = .ok (.iaload, 1) := by decide +kernel
theorem daheadOf_181 : decode cX12_aheadOf 181 = .ok (.iconst 1, 1) := by decide +kernel
theorem daheadOf_182 : decode cX12_aheadOf 182 = .ok (.if_icmp .ne 12, 3) := by decide +kernel
theorem daheadOf_185 : decode cX12_aheadOf 185 = .ok (.aload_n 0, 1) := by decide +kernel
theorem daheadOf_186 : decode cX12_aheadOf 186 = .ok (.iload_n 1, 1) := by decide +kernel
theorem daheadOf_187 : decode cX12_aheadOf 187 = .ok (.iload_n 2, 1) := by decide +kernel
theorem daheadOf_188 : decode cX12_aheadOf 188 = .ok (.invokevirtual 963, 3) := by decide +kernel
theorem daheadOf_191 : decode cX12_aheadOf 191 = .ok (.goto 28, 3) := by decide +kernel
theorem daheadOf_194 : decode cX12_aheadOf 194 = .ok (.aload_n 0, 1) := by decide +kernel
theorem daheadOf_195 : decode cX12_aheadOf 195 = .ok (.getfield 164, 3) := by decide +kernel
theorem daheadOf_198 : decode cX12_aheadOf 198 = .ok (.iload_n 2, 1) := by decide +kernel
theorem daheadOf_199 : decode cX12_aheadOf 199 = .ok (.iaload, 1) := by decide +kernel
theorem daheadOf_200 : decode cX12_aheadOf 200 = .ok (.iconst 2, 1) := by decide +kernel
theorem daheadOf_201 : decode cX12_aheadOf 201 = .ok (.if_icmp .eq 13, 3) := by decide +kernel
theorem daheadOf_204 : decode cX12_aheadOf 204 = .ok (.aload_n 0, 1) := by decide +kernel
theorem daheadOf_205 : decode cX12_aheadOf 205 = .ok (.getfield 164, 3) := by decide +kernel
theorem daheadOf_208 : decode cX12_aheadOf 208 = .ok (.iload_n 2, 1) := by decide +kernel
theorem daheadOf_209 : decode cX12_aheadOf 209 = .ok (.iaload, 1) := by decide +kernel
theorem daheadOf_210 : decode cX12_aheadOf 210 = .ok (.iconst 5, 1) := by decide +kernel
theorem daheadOf_211 : decode cX12_aheadOf 211 = .ok (.if_icmp .ne 7, 3) := by decide +kernel
theorem daheadOf_214 : decode cX12_aheadOf 214 = .ok (.iconst 0, 1) := by decide +kernel
theorem daheadOf_215 : decode cX12_aheadOf 215 = .ok (.goto 4, 3) := by decide +kernel
theorem daheadOf_218 : decode cX12_aheadOf 218 = .ok (.iconst 2, 1) := by decide +kernel
theorem daheadOf_219 : decode cX12_aheadOf 219 = .ok (.ireturn, 1) := by decide +kernel
theorem daheadOf_220 : decode cX12_aheadOf 220 = .ok (.aload_n 0, 1) := by decide +kernel
theorem daheadOf_221 : decode cX12_aheadOf 221 = .ok (.iload_n 1, 1) := by decide +kernel
theorem daheadOf_222 : decode cX12_aheadOf 222 = .ok (.iload_n 2, 1) := by decide +kernel
theorem daheadOf_223 : decode cX12_aheadOf 223 = .ok (.invokevirtual 966, 3) := by decide +kernel
theorem daheadOf_226 : decode cX12_aheadOf 226 = .ok (.ireturn, 1) := by decide +kernel
theorem daheadOf_227 : decode cX12_aheadOf 227 = .ok (.iconst 2, 1) := by decide +kernel
theorem daheadOf_228 : decode cX12_aheadOf 228 = .ok (.ireturn, 1) := by decide +kernel
theorem daheadOf_229 : decode cX12_aheadOf 229 = .ok (.aload_n 0, 1) := by decide +kernel
theorem daheadOf_230 : decode cX12_aheadOf 230 = .ok (.getfield 222, 3) := by decide +kernel
theorem daheadOf_233 : decode cX12_aheadOf 233 = .ok (.sipush 400, 3) := by decide +kernel
theorem daheadOf_236 : decode cX12_aheadOf 236 = .ok (.iload_n 3, 1) := by decide +kernel
theorem daheadOf_237 : decode cX12_aheadOf 237 = .ok (.imul, 1) := by decide +kernel
theorem daheadOf_238 : decode cX12_aheadOf 238 = .ok (.iload_n 2, 1) := by decide +kernel
theorem daheadOf_239 : decode cX12_aheadOf 239 = .ok (.iadd, 1) := by decide +kernel
theorem daheadOf_240 : decode cX12_aheadOf 240 = .ok (.iaload, 1) := by decide +kernel
theorem daheadOf_241 : decode cX12_aheadOf 241 = .ok (.iconst 1, 1) := by decide +kernel
theorem daheadOf_242 : decode cX12_aheadOf 242 = .ok (.if_icmp .ne 7, 3) := by decide +kernel
theorem daheadOf_245 : decode cX12_aheadOf 245 = .ok (.iconst 1, 1) := by decide +kernel
theorem daheadOf_246 : decode cX12_aheadOf 246 = .ok (.goto 17, 3) := by decide +kernel
theorem daheadOf_249 : decode cX12_aheadOf 249 = .ok (.aload_n 0, 1) := by decide +kernel
theorem daheadOf_250 : decode cX12_aheadOf 250 = .ok (.getfield 228, 3) := by decide +kernel
theorem daheadOf_253 : decode cX12_aheadOf 253 = .ok (.iload_n 3, 1) := by decide +kernel
theorem daheadOf_254 : decode cX12_aheadOf 254 = .ok (.baload, 1) := by decide +kernel
theorem daheadOf_255 : decode cX12_aheadOf 255 = .ok (.ifCond .eq 7, 3) := by decide +kernel
theorem daheadOf_258 : decode cX12_aheadOf 258 = .ok (.iconst 0, 1) := by decide +kernel
theorem daheadOf_259 : decode cX12_aheadOf 259 = .ok (.goto 4, 3) := by decide +kernel
theorem daheadOf_262 : decode cX12_aheadOf 262 = .ok (.iconst 2, 1) := by decide +kernel
theorem daheadOf_263 : decode cX12_aheadOf 263 = .ok (.ireturn, 1) := by decide +kernel
theorem daheadOf_264 : decode cX12_aheadOf 264 = .ok (.aload_n 0, 1) := by decide +kernel
theorem daheadOf_265 : decode cX12_aheadOf 265 = .ok (.getfield 222, 3) := by decide +kernel
theorem daheadOf_268 : decode cX12_aheadOf 268 = .ok (.sipush 400, 3) := by decide +kernel
theorem daheadOf_271 : decode cX12_aheadOf 271 = .ok (.aload_n 0, 1) := by decide +kernel
theorem daheadOf_272 : decode cX12_aheadOf 272 = .ok (.getfield 119, 3) := by decide +kernel
theorem daheadOf_275 : decode cX12_aheadOf 275 = .ok (.iload_n 3, 1) := by decide +kernel
theorem daheadOf_276 : decode cX12_aheadOf 276 = .ok (.iaload, 1) := by decide +kernel
theorem daheadOf_277 : decode cX12_aheadOf 277 = .ok (.imul, 1) := by decide +kernel
theorem daheadOf_278 : decode cX12_aheadOf 278 = .ok (.iload_n 2, 1) := by decide +kernel
theorem daheadOf_279 : decode cX12_aheadOf 279 = .ok (.iadd, 1) := by decide +kernel
theorem daheadOf_280 : decode cX12_aheadOf 280 = .ok (.iaload, 1) := by decide +kernel
theorem daheadOf_281 : decode cX12_aheadOf 281 = .ok (.ireturn, 1) := by decide +kernel
theorem daheadOf_282 : decode cX12_aheadOf 282 = .ok (.aload_n 0, 1) := by decide +kernel
theorem daheadOf_283 : decode cX12_aheadOf 283 = .ok (.getfield 222, 3) := by decide +kernel
theorem daheadOf_286 : decode cX12_aheadOf 286 = .ok (.sipush 400, 3) := by decide +kernel
theorem daheadOf_289 : decode cX12_aheadOf 289 = .ok (.iload_n 3, 1) := by decide +kernel
theorem daheadOf_290 : decode cX12_aheadOf 290 = .ok (.imul, 1) := by decide +kernel
theorem daheadOf_291 : decode cX12_aheadOf 291 = .ok (.iload_n 2, 1) := by decide +kernel
theorem daheadOf_292 : decode cX12_aheadOf 292 = .ok (.iadd, 1) := by decide +kernel
theorem daheadOf_293 : decode cX12_aheadOf 293 = .ok (.iaload, 1) := by decide +kernel
theorem daheadOf_294 : decode cX12_aheadOf 294 = .ok (.iconst 2, 1) := by decide +kernel
theorem daheadOf_295 : decode cX12_aheadOf 295 = .ok (.if_icmp .ne 7, 3) := by decide +kernel
theorem daheadOf_298 : decode cX12_aheadOf 298 = .ok (.iconst 2, 1) := by decide +kernel
theorem daheadOf_299 : decode cX12_aheadOf 299 = .ok (.goto 17, 3) := by decide +kernel
theorem daheadOf_302 : decode cX12_aheadOf 302 = .ok (.iconst 1, 1) := by decide +kernel
theorem daheadOf_303 : decode cX12_aheadOf 303 = .ok (.aload_n 0, 1) := by decide +kernel
theorem daheadOf_304 : decode cX12_aheadOf 304 = .ok (.getfield 222, 3) := by decide +kernel
theorem daheadOf_307 : decode cX12_aheadOf 307 = .ok (.sipush 400, 3) := by decide +kernel
theorem daheadOf_310 : decode cX12_aheadOf 310 = .ok (.iload_n 3, 1) := by decide +kernel
theorem daheadOf_311 : decode cX12_aheadOf 311 = .ok (.imul, 1) := by decide +kernel
theorem daheadOf_312 : decode cX12_aheadOf 312 = .ok (.iload_n 2, 1) := by decide +kernel
theorem daheadOf_313 : decode cX12_aheadOf 313 = .ok (.iadd, 1) := by decide +kernel
theorem daheadOf_314 : decode cX12_aheadOf 314 = .ok (.iaload, 1) := by decide +kernel
theorem daheadOf_315 : decode cX12_aheadOf 315 = .ok (.isub, 1) := by decide +kernel
theorem daheadOf_316 : decode cX12_aheadOf 316 = .ok (.ireturn, 1) := by decide +kernel
theorem daheadOf_317 : decode cX12_aheadOf 317 = .ok (.aload_n 0, 1) := by decide +kernel
theorem daheadOf_318 : decode cX12_aheadOf 318 = .ok (.getfield 222, 3) := by decide +kernel
theorem daheadOf_321 : decode cX12_aheadOf 321 = .ok (.sipush 400, 3) := by decide +kernel
theorem daheadOf_324 : decode cX12_aheadOf 324 = .ok (.iload_n 3, 1) := by decide +kernel
theorem daheadOf_325 : decode cX12_aheadOf 325 = .ok (.imul, 1) := by decide +kernel
theorem daheadOf_326 : decode cX12_aheadOf 326 = .ok (.iload_n 2, 1) := by decide +kernel
theorem daheadOf_327 : decode cX12_aheadOf 327 = .ok (.iadd, 1) := by decide +kernel
theorem daheadOf_328 : decode cX12_aheadOf 328 = .ok (.iaload, 1) := by decide +kernel
theorem daheadOf_329 : decode cX12_aheadOf 329 = .ok (.istore 5, 2) := by decide +kernel
theorem daheadOf_331 : decode cX12_aheadOf 331 = .ok (.aload_n 0, 1) := by decide +kernel
theorem daheadOf_332 : decode cX12_aheadOf 332 = .ok (.getfield 222, 3) := by decide +kernel
theorem daheadOf_335 : decode cX12_aheadOf 335 = .ok (.sipush 400, 3) := by decide +kernel
theorem daheadOf_338 : decode cX12_aheadOf 338 = .ok (.iload 4, 2) := by decide +kernel
theorem daheadOf_340 : decode cX12_aheadOf 340 = .ok (.imul, 1) := by decide +kernel
theorem daheadOf_341 : decode cX12_aheadOf 341 = .ok (.iload_n 2, 1) := by decide +kernel
theorem daheadOf_342 : decode cX12_aheadOf 342 = .ok (.iadd, 1) := by decide +kernel
theorem daheadOf_343 : decode cX12_aheadOf 343 = .ok (.iaload, 1) := by decide +kernel
theorem daheadOf_344 : decode cX12_aheadOf 344 = .ok (.istore 6, 2) := by decide +kernel
theorem daheadOf_346 : decode cX12_aheadOf 346 = .ok (.iload 5, 2) := by decide +kernel
theorem daheadOf_348 : decode cX12_aheadOf 348 = .ok (.ifCond .eq 8, 3) := by decide +kernel
theorem daheadOf_351 : decode cX12_aheadOf 351 = .ok (.iload 6, 2) := by decide +kernel
theorem daheadOf_353 : decode cX12_aheadOf 353 = .ok (.ifCond .ne 7, 3) := by decide +kernel
theorem daheadOf_356 : decode cX12_aheadOf 356 = .ok (.iconst 0, 1) := by decide +kernel
theorem daheadOf_357 : decode cX12_aheadOf 357 = .ok (.goto 20, 3) := by decide +kernel
theorem daheadOf_360 : decode cX12_aheadOf 360 = .ok (.iload 5, 2) := by decide +kernel
theorem daheadOf_362 : decode cX12_aheadOf 362 = .ok (.iconst 1, 1) := by decide +kernel
theorem daheadOf_363 : decode cX12_aheadOf 363 = .ok (.if_icmp .ne 13, 3) := by decide +kernel
theorem daheadOf_366 : decode cX12_aheadOf 366 = .ok (.iload 6, 2) := by decide +kernel
theorem daheadOf_368 : decode cX12_aheadOf 368 = .ok (.iconst 1, 1) := by decide +kernel
theorem daheadOf_369 : decode cX12_aheadOf 369 = .ok (.if_icmp .ne 7, 3) := by decide +kernel
theorem daheadOf_372 : decode cX12_aheadOf 372 = .ok (.iconst 1, 1) := by decide +kernel
theorem daheadOf_373 : decode cX12_aheadOf 373 = .ok (.goto 4, 3) := by decide +kernel
theorem daheadOf_376 : decode cX12_aheadOf 376 = .ok (.iconst 2, 1) := by decide +kernel
theorem daheadOf_377 : decode cX12_aheadOf 377 = .ok (.ireturn, 1) := by decide +kernel
theorem daheadOf_378 : decode cX12_aheadOf 378 = .ok (.aload_n 0, 1) := by decide +kernel
theorem daheadOf_379 : decode cX12_aheadOf 379 = .ok (.getfield 222, 3) := by decide +kernel
theorem daheadOf_382 : decode cX12_aheadOf 382 = .ok (.sipush 400, 3) := by decide +kernel
theorem daheadOf_385 : decode cX12_aheadOf 385 = .ok (.iload_n 3, 1) := by decide +kernel
theorem daheadOf_386 : decode cX12_aheadOf 386 = .ok (.imul, 1) := by decide +kernel
theorem daheadOf_387 : decode cX12_aheadOf 387 = .ok (.iload_n 2, 1) := by decide +kernel
theorem daheadOf_388 : decode cX12_aheadOf 388 = .ok (.iadd, 1) := by decide +kernel
theorem daheadOf_389 : decode cX12_aheadOf 389 = .ok (.iaload, 1) := by decide +kernel
theorem daheadOf_390 : decode cX12_aheadOf 390 = .ok (.istore 7, 2) := by decide +kernel
theorem daheadOf_392 : decode cX12_aheadOf 392 = .ok (.aload_n 0, 1) := by decide +kernel
theorem daheadOf_393 : decode cX12_aheadOf 393 = .ok (.getfield 222, 3) := by decide +kernel
theorem daheadOf_396 : decode cX12_aheadOf 396 = .ok (.sipush 400, 3) := by decide +kernel
theorem daheadOf_399 : decode cX12_aheadOf 399 = .ok (.iload 4, 2) := by decide +kernel
theorem daheadOf_401 : decode cX12_aheadOf 401 = .ok (.imul, 1) := by decide +kernel
theorem daheadOf_402 : decode cX12_aheadOf 402 = .ok (.iload_n 2, 1) := by decide +kernel
theorem daheadOf_403 : decode cX12_aheadOf 403 = .ok (.iadd, 1) := by decide +kernel
theorem daheadOf_404 : decode cX12_aheadOf 404 = .ok (.iaload, 1) := by decide +kernel
theorem daheadOf_405 : decode cX12_aheadOf 405 = .ok (.istore 8, 2) := by decide +kernel
theorem daheadOf_407 : decode cX12_aheadOf 407 = .ok (.iload 7, 2) := by decide +kernel
theorem daheadOf_409 : decode cX12_aheadOf 409 = .ok (.iconst 1, 1) := by decide +kernel
theorem daheadOf_410 : decode cX12_aheadOf 410 = .ok (.if_icmp .eq 24, 3) := by decide +kernel
theorem daheadOf_413 : decode cX12_aheadOf 413 = .ok (.iload 8, 2) := by decide +kernel
theorem daheadOf_415 : decode cX12_aheadOf 415 = .ok (.iconst 1, 1) := by decide +kernel
theorem daheadOf_416 : decode cX12_aheadOf 416 = .ok (.if_icmp .ne 22, 3) := by decide +kernel
theorem daheadOf_419 : decode cX12_aheadOf 419 = .ok (.aload_n 0, 1) := by decide +kernel
theorem daheadOf_420 : decode cX12_aheadOf 420 = .ok (.getfield 203, 3) := by decide +kernel
theorem daheadOf_423 : decode cX12_aheadOf 423 = .ok (.iload 4, 2) := by decide +kernel
theorem daheadOf_425 : decode cX12_aheadOf 425 = .ok (.iaload, 1) := by decide +kernel
theorem daheadOf_426 : decode cX12_aheadOf 426 = .ok (.ifCond .eq 8, 3) := by decide +kernel
theorem daheadOf_429 : decode cX12_aheadOf 429 = .ok (.iload 7, 2) := by decide +kernel
theorem daheadOf_431 : decode cX12_aheadOf 431 = .ok (.ifCond .ne 7, 3) := by decide +kernel
theorem daheadOf_434 : decode cX12_aheadOf 434 = .ok (.iconst 1, 1) := by decide +kernel
theorem daheadOf_435 : decode cX12_aheadOf 435 = .ok (.goto 18, 3) := by decide +kernel
theorem daheadOf_438 : decode cX12_aheadOf 438 = .ok (.iload 7, 2) := by decide +kernel
theorem daheadOf_440 : decode cX12_aheadOf 440 = .ok (.ifCond .ne 12, 3) := by decide +kernel
theorem daheadOf_443 : decode cX12_aheadOf 443 = .ok (.iload 8, 2) := by decide +kernel
theorem daheadOf_445 : decode cX12_aheadOf 445 = .ok (.ifCond .ne 7, 3) := by decide +kernel
theorem daheadOf_448 : decode cX12_aheadOf 448 = .ok (.iconst 0, 1) := by decide +kernel
theorem daheadOf_449 : decode cX12_aheadOf 449 = .ok (.goto 4, 3) := by decide +kernel
theorem daheadOf_452 : decode cX12_aheadOf 452 = .ok (.iconst 2, 1) := by decide +kernel
theorem daheadOf_453 : decode cX12_aheadOf 453 = .ok (.ireturn, 1) := by decide +kernel
section
variable {l : Launch} {D : va_G} {cA : Nat → ClassId} {ad : Nat → Nat}
theorem s_aheadOf {a1 a2 : Int} {h : ja_H} {Q : Option ja_V → ja_H → Prop} (g : mo_G mo_zr h) (r1 : -2147483648 ≤ a1 ∧ a1 ≤ 2147483647) (r2 : -2147483648 ≤ a2 ∧ a2 ≤ 2147483647) (p1 : 0 ≤ a1 ∧ a1 ≤ 899) (p2 : 0 ≤ a2 ∧ a2 ≤ 399) (p3 : ndK h a1.toNat) (p4 : ptK h a2.toNat) (k1 : ∀ (v : Int) (h' : ja_H), (0 ≤ v ∧ v ≤ 2 ∧ mo_ag FTX h h') → mo_G mo_zr h' → Q (some (0, v)) h') : mM_aheadOf l D cA ad a1 a2 h Q := by
  show mJ l D cA ad 5 cX12_aheadOf 9 (some .int) 0 [(0, (2, ((0 : Nat) : Int))), (1, (0, a1)), (2, (0, a2))] [] h Q
  obtain ⟨nd1, nd2, nd3, nd4⟩ := p3
  have pt1 := p4.1
  refine ja_aload_n daheadOf_0 rfl rfl ?_
  refine fa_nodeA daheadOf_1 ?_
  refine ja_iload_n daheadOf_4 rfl rfl ?_
  refine il_nodeA (v := h 59 (a1).toNat) rfl ⟨by omega, by omega⟩ daheadOf_5 ?_
  have f1 := gC_nodeA g (a1).toNat
  refine ja_istore_n daheadOf_6 rfl (by decide) (L2 := [(3, (0, (h 59 (a1).toNat))), (0, (2, ((0 : Nat) : Int))), (1, (0, a1)), (2, (0, a2))]) rfl ?_
  refine ja_aload_n daheadOf_7 rfl rfl ?_
  refine fa_nodeB daheadOf_8 ?_
  refine ja_iload_n daheadOf_11 rfl rfl ?_
  refine il_nodeB (v := h 60 (a1).toNat) rfl ⟨by omega, by omega⟩ daheadOf_12 ?_
  have f2 := gC_nodeB g (a1).toNat
  refine ja_istore daheadOf_13 (by decide) (L2 := [(4, (0, (h 60 (a1).toNat))), (3, (0, (h 59 (a1).toNat))), (0, (2, ((0 : Nat) : Int))), (1, (0, a1)), (2, (0, a2))]) rfl ?_
  refine ja_aload_n daheadOf_15 rfl rfl ?_
  refine fa_nodeKind daheadOf_16 ?_
  refine ja_iload_n daheadOf_19 rfl rfl ?_
  refine il_nodeKind (v := h 58 (a1).toNat) rfl ⟨by omega, by omega⟩ daheadOf_20 ?_
  have f3 := gC_nodeKind g (a1).toNat
  have T21_100 : (h 58 (a1).toNat = 0 ∨ h 58 (a1).toNat = 1 ∨ h 58 (a1).toNat = 3 ∨ h 58 (a1).toNat = 4) → mJ l D cA ad 5 cX12_aheadOf 9 (some .int) 100 [(4, (0, (h 60 (a1).toNat))), (3, (0, (h 59 (a1).toNat))), (0, (2, ((0 : Nat) : Int))), (1, (0, a1)), (2, (0, a2))] [] h Q := by
    intro e21
    clear nd1 nd2 nd3 nd4
    refine ja_aload_n daheadOf_100 rfl rfl ?_
    refine ja_iload_n daheadOf_101 rfl rfl ?_
    refine ja_iload_n daheadOf_102 rfl rfl ?_
    refine t_namedAhead (by decide) (show (0 : Nat) ≤ 8 by decide) daheadOf_103 g ⟨by omega, by omega⟩ ⟨by omega, by omega⟩ (show 0 ≤ a1 ∧ a1 ≤ 899 by omega) (show 0 ≤ a2 ∧ a2 ≤ 399 by omega) (p4) ?_
    intro w4 k103_0
    refine ja_ireturn daheadOf_106 rfl ?_
    exact mo_fin (by omega) rfl (k1 w4 h (⟨by omega, by omega, ag_refl⟩) g)
  have T21_107 : (h 58 (a1).toNat = 2) → mJ l D cA ad 5 cX12_aheadOf 9 (some .int) 107 [(4, (0, (h 60 (a1).toNat))), (3, (0, (h 59 (a1).toNat))), (0, (2, ((0 : Nat) : Int))), (1, (0, a1)), (2, (0, a2))] [] h Q := by
    intro e21
    clear nd1 nd2 nd3 nd4
    refine ja_aload_n daheadOf_107 rfl rfl ?_
    refine fa_pointKind daheadOf_108 ?_
    refine ja_iload_n daheadOf_111 rfl rfl ?_
    refine il_pointKind (v := h 52 (a2).toNat) rfl ⟨by omega, by omega⟩ daheadOf_112 ?_
    have f5 := gC_pointKind g (a2).toNat
    refine ja_iconst daheadOf_113 ?_
    refine ja_icmp_ne 143 daheadOf_114 rfl ⟨by omega, by omega⟩ ⟨by decide, by decide⟩ (fun c114 => ?_) (fun c114 => ?_)
    · refine ja_iconst daheadOf_143 ?_
      refine ja_ireturn daheadOf_144 rfl ?_
      exact mo_fin (by omega) rfl (k1 0 h (⟨by omega, by omega, ag_refl⟩) g)
    · refine ja_aload_n daheadOf_117 rfl rfl ?_
      refine fa_nodeTypes daheadOf_118 ?_
      refine ja_iload_n daheadOf_121 rfl rfl ?_
      refine il_nodeTypes (v := h 68 (a1).toNat) rfl ⟨by omega, by omega⟩ daheadOf_122 ?_
      have f6 := gC_nodeTypes g (a1).toNat
      refine ja_aload_n daheadOf_123 rfl rfl ?_
      refine ja_aload_n daheadOf_124 rfl rfl ?_
      refine ja_aload_n daheadOf_125 rfl rfl ?_
      refine fa_pointName daheadOf_126 ?_
      refine ja_iload_n daheadOf_129 rfl rfl ?_
      refine il_pointName (v := h 54 (a2).toNat) rfl ⟨by omega, by omega⟩ daheadOf_130 ?_
      have f7 := gC_pointName g (a2).toNat
      refine t_id (by decide) (show (2 : Nat) ≤ 8 by decide) daheadOf_131 g ⟨by omega, by omega⟩ (show 0 ≤ (h 54 (a2).toNat) ∧ (h 54 (a2).toNat) ≤ 900 by omega) ?_
      intro k131_0
      refine t_classOf2 (by decide) (show (1 : Nat) ≤ 8 by decide) daheadOf_134 g ⟨by omega, by omega⟩ ?_ ?_
      · intro w8 k134_0
        refine mo_hishr daheadOf_137 (fun v9 rv9 => ?_)
        refine ja_iconst daheadOf_138 ?_
        refine mo_iandc daheadOf_139 (by decide) (fun v10 rv10 => ?_)
        refine ja_goto 144 daheadOf_140 rfl ?_
        refine ja_ireturn daheadOf_144 rfl ?_
        exact mo_fin (by omega) rfl (k1 v10 h (⟨by omega, by omega, ag_refl⟩) g)
      · intro k134_1
        refine mo_hishr daheadOf_137 (fun v11 rv11 => ?_)
        refine ja_iconst daheadOf_138 ?_
        refine mo_iandc daheadOf_139 (by decide) (fun v12 rv12 => ?_)
        refine ja_goto 144 daheadOf_140 rfl ?_
        refine ja_ireturn daheadOf_144 rfl ?_
        exact mo_fin (by omega) rfl (k1 v12 h (⟨by omega, by omega, ag_refl⟩) g)
  have T21_145 : (h 58 (a1).toNat = 5) → mJ l D cA ad 5 cX12_aheadOf 9 (some .int) 145 [(4, (0, (h 60 (a1).toNat))), (3, (0, (h 59 (a1).toNat))), (0, (2, ((0 : Nat) : Int))), (1, (0, a1)), (2, (0, a2))] [] h Q := by
    intro e21
    clear nd1 nd2 nd3 nd4
    refine ja_aload_n daheadOf_145 rfl rfl ?_
    refine fa_pointKind daheadOf_146 ?_
    refine ja_iload_n daheadOf_149 rfl rfl ?_
    refine il_pointKind (v := h 52 (a2).toNat) rfl ⟨by omega, by omega⟩ daheadOf_150 ?_
    have f13 := gC_pointKind g (a2).toNat
    refine ja_iconst daheadOf_151 ?_
    refine ja_icmp_ne 159 daheadOf_152 rfl ⟨by omega, by omega⟩ ⟨by decide, by decide⟩ (fun c152 => ?_) (fun c152 => ?_)
    · refine ja_iconst daheadOf_159 ?_
      refine ja_ireturn daheadOf_160 rfl ?_
      exact mo_fin (by omega) rfl (k1 0 h (⟨by omega, by omega, ag_refl⟩) g)
    · refine ja_iconst daheadOf_155 ?_
      refine ja_goto 160 daheadOf_156 rfl ?_
      refine ja_ireturn daheadOf_160 rfl ?_
      exact mo_fin (by omega) rfl (k1 1 h (⟨by omega, by omega, ag_refl⟩) g)
  have T21_161 : (h 58 (a1).toNat = 6) → mJ l D cA ad 5 cX12_aheadOf 9 (some .int) 161 [(4, (0, (h 60 (a1).toNat))), (3, (0, (h 59 (a1).toNat))), (0, (2, ((0 : Nat) : Int))), (1, (0, a1)), (2, (0, a2))] [] h Q := by
    intro e21
    clear nd1 nd2 nd3 nd4
    refine ja_aload_n daheadOf_161 rfl rfl ?_
    refine ja_iload_n daheadOf_162 rfl rfl ?_
    refine ja_iload_n daheadOf_163 rfl rfl ?_
    refine t_withinAhead (by decide) (show (0 : Nat) ≤ 8 by decide) daheadOf_164 g ⟨by omega, by omega⟩ ⟨by omega, by omega⟩ (show 0 ≤ a1 ∧ a1 ≤ 899 by omega) (show 0 ≤ a2 ∧ a2 ≤ 399 by omega) (p4) ?_
    intro w14 h15 k164_0 g16
    refine ja_ireturn daheadOf_167 rfl ?_
    exact mo_fin (by omega) rfl (k1 w14 h15 (⟨by omega, by omega, (ag_trans ag_refl k164_0.2.2)⟩) g16)
  have T21_168 : (h 58 (a1).toNat = 7) → mJ l D cA ad 5 cX12_aheadOf 9 (some .int) 168 [(4, (0, (h 60 (a1).toNat))), (3, (0, (h 59 (a1).toNat))), (0, (2, ((0 : Nat) : Int))), (1, (0, a1)), (2, (0, a2))] [] h Q := by
    intro e21
    have nq1 := nd1 (by omega)
    clear nd1 nd2 nd3 nd4
    refine ja_aload_n daheadOf_168 rfl rfl ?_
    refine ja_iload_n daheadOf_169 rfl rfl ?_
    refine ja_iload_n daheadOf_170 rfl rfl ?_
    refine t_selfAhead (by decide) (show (0 : Nat) ≤ 8 by decide) daheadOf_171 g ⟨by omega, by omega⟩ ⟨by omega, by omega⟩ (show 0 ≤ a1 ∧ a1 ≤ 899 by omega) (show 0 ≤ a2 ∧ a2 ≤ 399 by omega) (show (h 59 (a1).toNat) ≤ 111 by omega) ?_
    intro w17 k171_0
    refine ja_ireturn daheadOf_174 rfl ?_
    exact mo_fin (by omega) rfl (k1 w17 h (⟨by omega, by omega, ag_refl⟩) g)
  have T21_175 : (h 58 (a1).toNat = 8) → mJ l D cA ad 5 cX12_aheadOf 9 (some .int) 175 [(4, (0, (h 60 (a1).toNat))), (3, (0, (h 59 (a1).toNat))), (0, (2, ((0 : Nat) : Int))), (1, (0, a1)), (2, (0, a2))] [] h Q := by
    intro e21
    have nq1 := nd1 (by omega)
    clear nd1 nd2 nd3 nd4
    refine ja_aload_n daheadOf_175 rfl rfl ?_
    refine fa_pointKind daheadOf_176 ?_
    refine ja_iload_n daheadOf_179 rfl rfl ?_
    refine il_pointKind (v := h 52 (a2).toNat) rfl ⟨by omega, by omega⟩ daheadOf_180 ?_
    have f18 := gC_pointKind g (a2).toNat
    refine ja_iconst daheadOf_181 ?_
    refine ja_icmp_ne 194 daheadOf_182 rfl ⟨by omega, by omega⟩ ⟨by decide, by decide⟩ (fun c182 => ?_) (fun c182 => ?_)
    · refine ja_aload_n daheadOf_194 rfl rfl ?_
      refine fa_pointKind daheadOf_195 ?_
      refine ja_iload_n daheadOf_198 rfl rfl ?_
      refine il_pointKind (v := h 52 (a2).toNat) rfl ⟨by omega, by omega⟩ daheadOf_199 ?_
      refine ja_iconst daheadOf_200 ?_
      refine ja_icmp_eq 214 daheadOf_201 rfl ⟨by omega, by omega⟩ ⟨by decide, by decide⟩ (fun c201 => ?_) (fun c201 => ?_)
      · refine ja_iconst daheadOf_214 ?_
        refine ja_goto 219 daheadOf_215 rfl ?_
        refine ja_ireturn daheadOf_219 rfl ?_
        exact mo_fin (by omega) rfl (k1 0 h (⟨by omega, by omega, ag_refl⟩) g)
      · refine ja_aload_n daheadOf_204 rfl rfl ?_
        refine fa_pointKind daheadOf_205 ?_
        refine ja_iload_n daheadOf_208 rfl rfl ?_
        refine il_pointKind (v := h 52 (a2).toNat) rfl ⟨by omega, by omega⟩ daheadOf_209 ?_
        refine ja_iconst daheadOf_210 ?_
        refine ja_icmp_ne 218 daheadOf_211 rfl ⟨by omega, by omega⟩ ⟨by decide, by decide⟩ (fun c211 => ?_) (fun c211 => ?_)
        · refine ja_iconst daheadOf_218 ?_
          refine ja_ireturn daheadOf_219 rfl ?_
          exact mo_fin (by omega) rfl (k1 2 h (⟨by omega, by omega, ag_refl⟩) g)
        · refine ja_iconst daheadOf_214 ?_
          refine ja_goto 219 daheadOf_215 rfl ?_
          refine ja_ireturn daheadOf_219 rfl ?_
          exact mo_fin (by omega) rfl (k1 0 h (⟨by omega, by omega, ag_refl⟩) g)
    · refine ja_aload_n daheadOf_185 rfl rfl ?_
      refine ja_iload_n daheadOf_186 rfl rfl ?_
      refine ja_iload_n daheadOf_187 rfl rfl ?_
      refine t_selfAhead (by decide) (show (0 : Nat) ≤ 8 by decide) daheadOf_188 g ⟨by omega, by omega⟩ ⟨by omega, by omega⟩ (show 0 ≤ a1 ∧ a1 ≤ 899 by omega) (show 0 ≤ a2 ∧ a2 ≤ 399 by omega) (show (h 59 (a1).toNat) ≤ 111 by omega) ?_
      intro w19 k188_0
      refine ja_goto 219 daheadOf_191 rfl ?_
      refine ja_ireturn daheadOf_219 rfl ?_
      exact mo_fin (by omega) rfl (k1 w19 h (⟨by omega, by omega, ag_refl⟩) g)
  have T21_220 : (h 58 (a1).toNat = 9) → mJ l D cA ad 5 cX12_aheadOf 9 (some .int) 220 [(4, (0, (h 60 (a1).toNat))), (3, (0, (h 59 (a1).toNat))), (0, (2, ((0 : Nat) : Int))), (1, (0, a1)), (2, (0, a2))] [] h Q := by
    intro e21
    clear nd1 nd2 nd3 nd4
    refine ja_aload_n daheadOf_220 rfl rfl ?_
    refine ja_iload_n daheadOf_221 rfl rfl ?_
    refine ja_iload_n daheadOf_222 rfl rfl ?_
    refine t_argsAhead (by decide) (show (0 : Nat) ≤ 8 by decide) daheadOf_223 g ⟨by omega, by omega⟩ ⟨by omega, by omega⟩ (show 0 ≤ a1 ∧ a1 ≤ 899 by omega) (show 0 ≤ a2 ∧ a2 ≤ 399 by omega) ?_
    intro w20 k223_0
    refine ja_ireturn daheadOf_226 rfl ?_
    exact mo_fin (by omega) rfl (k1 w20 h (⟨by omega, by omega, ag_refl⟩) g)
  have T21_227 : (h 58 (a1).toNat = 10) → mJ l D cA ad 5 cX12_aheadOf 9 (some .int) 227 [(4, (0, (h 60 (a1).toNat))), (3, (0, (h 59 (a1).toNat))), (0, (2, ((0 : Nat) : Int))), (1, (0, a1)), (2, (0, a2))] [] h Q := by
    intro e21
    clear nd1 nd2 nd3 nd4
    refine ja_iconst daheadOf_227 ?_
    refine ja_ireturn daheadOf_228 rfl ?_
    exact mo_fin (by omega) rfl (k1 2 h (⟨by omega, by omega, ag_refl⟩) g)
  have T21_229 : (h 58 (a1).toNat = 11) → mJ l D cA ad 5 cX12_aheadOf 9 (some .int) 229 [(4, (0, (h 60 (a1).toNat))), (3, (0, (h 59 (a1).toNat))), (0, (2, ((0 : Nat) : Int))), (1, (0, a1)), (2, (0, a2))] [] h Q := by
    intro e21
    have nq2 := nd2 (by omega)
    clear nd1 nd2 nd3 nd4
    refine ja_aload_n daheadOf_229 rfl rfl ?_
    refine fa_ahead daheadOf_230 ?_
    refine ja_sipush 400 daheadOf_233 rfl ?_
    refine ja_iload_n daheadOf_236 rfl rfl ?_
    refine ja_imul daheadOf_237 ?_
    refine ja_iload_n daheadOf_238 rfl rfl ?_
    refine ja_iadd daheadOf_239 ?_
    refine il_ahead (v := h 71 ((400 * (h 59 (a1).toNat)) + a2).toNat) rfl ⟨by omega, by omega⟩ daheadOf_240 ?_
    have f21 := gC_ahead g ((400 * (h 59 (a1).toNat)) + a2).toNat
    refine ja_iconst daheadOf_241 ?_
    refine ja_icmp_ne 249 daheadOf_242 rfl ⟨by omega, by omega⟩ ⟨by decide, by decide⟩ (fun c242 => ?_) (fun c242 => ?_)
    · refine ja_aload_n daheadOf_249 rfl rfl ?_
      refine fa_never daheadOf_250 ?_
      refine ja_iload_n daheadOf_253 rfl rfl ?_
      refine il_never (v := h 73 (h 59 (a1).toNat).toNat) rfl ⟨by omega, by omega⟩ daheadOf_254 ?_
      have f22 := gC_never g (h 59 (a1).toNat).toNat
      refine ja_if_eq 262 daheadOf_255 rfl ⟨by omega, by omega⟩ (fun c255 => ?_) (fun c255 => ?_)
      · refine ja_iconst daheadOf_262 ?_
        refine ja_ireturn daheadOf_263 rfl ?_
        exact mo_fin (by omega) rfl (k1 2 h (⟨by omega, by omega, ag_refl⟩) g)
      · refine ja_iconst daheadOf_258 ?_
        refine ja_goto 263 daheadOf_259 rfl ?_
        refine ja_ireturn daheadOf_263 rfl ?_
        exact mo_fin (by omega) rfl (k1 0 h (⟨by omega, by omega, ag_refl⟩) g)
    · refine ja_iconst daheadOf_245 ?_
      refine ja_goto 263 daheadOf_246 rfl ?_
      refine ja_ireturn daheadOf_263 rfl ?_
      exact mo_fin (by omega) rfl (k1 1 h (⟨by omega, by omega, ag_refl⟩) g)
  have T21_264 : (h 58 (a1).toNat = 12) → mJ l D cA ad 5 cX12_aheadOf 9 (some .int) 264 [(4, (0, (h 60 (a1).toNat))), (3, (0, (h 59 (a1).toNat))), (0, (2, ((0 : Nat) : Int))), (1, (0, a1)), (2, (0, a2))] [] h Q := by
    intro e21
    have nq4 := nd4 (by omega)
    clear nd1 nd2 nd3 nd4
    refine ja_aload_n daheadOf_264 rfl rfl ?_
    refine fa_ahead daheadOf_265 ?_
    refine ja_sipush 400 daheadOf_268 rfl ?_
    refine ja_aload_n daheadOf_271 rfl rfl ?_
    refine fa_pickRoot daheadOf_272 ?_
    refine ja_iload_n daheadOf_275 rfl rfl ?_
    refine il_pickRoot (v := h 37 (h 59 (a1).toNat).toNat) rfl ⟨by omega, by omega⟩ daheadOf_276 ?_
    have f23 := gC_pickRoot g (h 59 (a1).toNat).toNat
    refine ja_imul daheadOf_277 ?_
    refine ja_iload_n daheadOf_278 rfl rfl ?_
    refine ja_iadd daheadOf_279 ?_
    refine il_ahead (v := h 71 ((400 * (h 37 (h 59 (a1).toNat).toNat)) + a2).toNat) rfl ⟨by omega, by omega⟩ daheadOf_280 ?_
    have f24 := gC_ahead g ((400 * (h 37 (h 59 (a1).toNat).toNat)) + a2).toNat
    refine ja_ireturn daheadOf_281 rfl ?_
    exact mo_fin (by omega) rfl (k1 (h 71 ((400 * (h 37 (h 59 (a1).toNat).toNat)) + a2).toNat) h (⟨by omega, by omega, ag_refl⟩) g)
  have T21_317 : (h 58 (a1).toNat = 13) → mJ l D cA ad 5 cX12_aheadOf 9 (some .int) 317 [(4, (0, (h 60 (a1).toNat))), (3, (0, (h 59 (a1).toNat))), (0, (2, ((0 : Nat) : Int))), (1, (0, a1)), (2, (0, a2))] [] h Q := by
    intro e21
    have nq2 := nd2 (by omega)
    have nq3 := nd3 (by omega)
    clear nd1 nd2 nd3 nd4
    refine ja_aload_n daheadOf_317 rfl rfl ?_
    refine fa_ahead daheadOf_318 ?_
    refine ja_sipush 400 daheadOf_321 rfl ?_
    refine ja_iload_n daheadOf_324 rfl rfl ?_
    refine ja_imul daheadOf_325 ?_
    refine ja_iload_n daheadOf_326 rfl rfl ?_
    refine ja_iadd daheadOf_327 ?_
    refine il_ahead (v := h 71 ((400 * (h 59 (a1).toNat)) + a2).toNat) rfl ⟨by omega, by omega⟩ daheadOf_328 ?_
    have f25 := gC_ahead g ((400 * (h 59 (a1).toNat)) + a2).toNat
    refine ja_istore daheadOf_329 (by decide) (L2 := [(5, (0, (h 71 ((400 * (h 59 (a1).toNat)) + a2).toNat))), (4, (0, (h 60 (a1).toNat))), (3, (0, (h 59 (a1).toNat))), (0, (2, ((0 : Nat) : Int))), (1, (0, a1)), (2, (0, a2))]) rfl ?_
    refine ja_aload_n daheadOf_331 rfl rfl ?_
    refine fa_ahead daheadOf_332 ?_
    refine ja_sipush 400 daheadOf_335 rfl ?_
    refine ja_iload daheadOf_338 rfl ?_
    refine ja_imul daheadOf_340 ?_
    refine ja_iload_n daheadOf_341 rfl rfl ?_
    refine ja_iadd daheadOf_342 ?_
    refine il_ahead (v := h 71 ((400 * (h 60 (a1).toNat)) + a2).toNat) rfl ⟨by omega, by omega⟩ daheadOf_343 ?_
    have f26 := gC_ahead g ((400 * (h 60 (a1).toNat)) + a2).toNat
    refine ja_istore daheadOf_344 (by decide) (L2 := [(6, (0, (h 71 ((400 * (h 60 (a1).toNat)) + a2).toNat))), (5, (0, (h 71 ((400 * (h 59 (a1).toNat)) + a2).toNat))), (4, (0, (h 60 (a1).toNat))), (3, (0, (h 59 (a1).toNat))), (0, (2, ((0 : Nat) : Int))), (1, (0, a1)), (2, (0, a2))]) rfl ?_
    refine ja_iload daheadOf_346 rfl ?_
    refine ja_if_eq 356 daheadOf_348 rfl ⟨by omega, by omega⟩ (fun c348 => ?_) (fun c348 => ?_)
    · refine ja_iconst daheadOf_356 ?_
      refine ja_goto 377 daheadOf_357 rfl ?_
      refine ja_ireturn daheadOf_377 rfl ?_
      exact mo_fin (by omega) rfl (k1 0 h (⟨by omega, by omega, ag_refl⟩) g)
    · refine ja_iload daheadOf_351 rfl ?_
      refine ja_if_ne 360 daheadOf_353 rfl ⟨by omega, by omega⟩ (fun c353 => ?_) (fun c353 => ?_)
      · refine ja_iload daheadOf_360 rfl ?_
        refine ja_iconst daheadOf_362 ?_
        refine ja_icmp_ne 376 daheadOf_363 rfl ⟨by omega, by omega⟩ ⟨by decide, by decide⟩ (fun c363 => ?_) (fun c363 => ?_)
        · refine ja_iconst daheadOf_376 ?_
          refine ja_ireturn daheadOf_377 rfl ?_
          exact mo_fin (by omega) rfl (k1 2 h (⟨by omega, by omega, ag_refl⟩) g)
        · refine ja_iload daheadOf_366 rfl ?_
          refine ja_iconst daheadOf_368 ?_
          refine ja_icmp_ne 376 daheadOf_369 rfl ⟨by omega, by omega⟩ ⟨by decide, by decide⟩ (fun c369 => ?_) (fun c369 => ?_)
          · refine ja_iconst daheadOf_376 ?_
            refine ja_ireturn daheadOf_377 rfl ?_
            exact mo_fin (by omega) rfl (k1 2 h (⟨by omega, by omega, ag_refl⟩) g)
          · refine ja_iconst daheadOf_372 ?_
            refine ja_goto 377 daheadOf_373 rfl ?_
            refine ja_ireturn daheadOf_377 rfl ?_
            exact mo_fin (by omega) rfl (k1 1 h (⟨by omega, by omega, ag_refl⟩) g)
      · refine ja_iconst daheadOf_356 ?_
        refine ja_goto 377 daheadOf_357 rfl ?_
        refine ja_ireturn daheadOf_377 rfl ?_
        exact mo_fin (by omega) rfl (k1 0 h (⟨by omega, by omega, ag_refl⟩) g)
  have T21_282 : (h 58 (a1).toNat = 15) → mJ l D cA ad 5 cX12_aheadOf 9 (some .int) 282 [(4, (0, (h 60 (a1).toNat))), (3, (0, (h 59 (a1).toNat))), (0, (2, ((0 : Nat) : Int))), (1, (0, a1)), (2, (0, a2))] [] h Q := by
    intro e21
    have nq2 := nd2 (by omega)
    clear nd1 nd2 nd3 nd4
    refine ja_aload_n daheadOf_282 rfl rfl ?_
    refine fa_ahead daheadOf_283 ?_
    refine ja_sipush 400 daheadOf_286 rfl ?_
    refine ja_iload_n daheadOf_289 rfl rfl ?_
    refine ja_imul daheadOf_290 ?_
    refine ja_iload_n daheadOf_291 rfl rfl ?_
    refine ja_iadd daheadOf_292 ?_
    refine il_ahead (v := h 71 ((400 * (h 59 (a1).toNat)) + a2).toNat) rfl ⟨by omega, by omega⟩ daheadOf_293 ?_
    have f27 := gC_ahead g ((400 * (h 59 (a1).toNat)) + a2).toNat
    refine ja_iconst daheadOf_294 ?_
    refine ja_icmp_ne 302 daheadOf_295 rfl ⟨by omega, by omega⟩ ⟨by decide, by decide⟩ (fun c295 => ?_) (fun c295 => ?_)
    · refine ja_iconst daheadOf_302 ?_
      refine ja_aload_n daheadOf_303 rfl rfl ?_
      refine fa_ahead daheadOf_304 ?_
      refine ja_sipush 400 daheadOf_307 rfl ?_
      refine ja_iload_n daheadOf_310 rfl rfl ?_
      refine ja_imul daheadOf_311 ?_
      refine ja_iload_n daheadOf_312 rfl rfl ?_
      refine ja_iadd daheadOf_313 ?_
      refine il_ahead (v := h 71 ((400 * (h 59 (a1).toNat)) + a2).toNat) rfl ⟨by omega, by omega⟩ daheadOf_314 ?_
      refine ja_isub daheadOf_315 ?_
      refine ja_ireturn daheadOf_316 rfl ?_
      exact mo_fin (by omega) rfl (k1 (1 - (h 71 ((400 * (h 59 (a1).toNat)) + a2).toNat)) h (⟨by omega, by omega, ag_refl⟩) g)
    · refine ja_iconst daheadOf_298 ?_
      refine ja_goto 316 daheadOf_299 rfl ?_
      refine ja_ireturn daheadOf_316 rfl ?_
      exact mo_fin (by omega) rfl (k1 2 h (⟨by omega, by omega, ag_refl⟩) g)
  have T21_378 : (h 58 (a1).toNat < 0 ∨ 15 < h 58 (a1).toNat ∨ h 58 (a1).toNat = 14) → mJ l D cA ad 5 cX12_aheadOf 9 (some .int) 378 [(4, (0, (h 60 (a1).toNat))), (3, (0, (h 59 (a1).toNat))), (0, (2, ((0 : Nat) : Int))), (1, (0, a1)), (2, (0, a2))] [] h Q := by
    intro e21
    have nq2 := nd2 (by omega)
    have nq3 := nd3 (by omega)
    clear nd1 nd2 nd3 nd4
    refine ja_aload_n daheadOf_378 rfl rfl ?_
    refine fa_ahead daheadOf_379 ?_
    refine ja_sipush 400 daheadOf_382 rfl ?_
    refine ja_iload_n daheadOf_385 rfl rfl ?_
    refine ja_imul daheadOf_386 ?_
    refine ja_iload_n daheadOf_387 rfl rfl ?_
    refine ja_iadd daheadOf_388 ?_
    refine il_ahead (v := h 71 ((400 * (h 59 (a1).toNat)) + a2).toNat) rfl ⟨by omega, by omega⟩ daheadOf_389 ?_
    have f28 := gC_ahead g ((400 * (h 59 (a1).toNat)) + a2).toNat
    refine ja_istore daheadOf_390 (by decide) (L2 := [(7, (0, (h 71 ((400 * (h 59 (a1).toNat)) + a2).toNat))), (4, (0, (h 60 (a1).toNat))), (3, (0, (h 59 (a1).toNat))), (0, (2, ((0 : Nat) : Int))), (1, (0, a1)), (2, (0, a2))]) rfl ?_
    refine ja_aload_n daheadOf_392 rfl rfl ?_
    refine fa_ahead daheadOf_393 ?_
    refine ja_sipush 400 daheadOf_396 rfl ?_
    refine ja_iload daheadOf_399 rfl ?_
    refine ja_imul daheadOf_401 ?_
    refine ja_iload_n daheadOf_402 rfl rfl ?_
    refine ja_iadd daheadOf_403 ?_
    refine il_ahead (v := h 71 ((400 * (h 60 (a1).toNat)) + a2).toNat) rfl ⟨by omega, by omega⟩ daheadOf_404 ?_
    have f29 := gC_ahead g ((400 * (h 60 (a1).toNat)) + a2).toNat
    refine ja_istore daheadOf_405 (by decide) (L2 := [(8, (0, (h 71 ((400 * (h 60 (a1).toNat)) + a2).toNat))), (7, (0, (h 71 ((400 * (h 59 (a1).toNat)) + a2).toNat))), (4, (0, (h 60 (a1).toNat))), (3, (0, (h 59 (a1).toNat))), (0, (2, ((0 : Nat) : Int))), (1, (0, a1)), (2, (0, a2))]) rfl ?_
    refine ja_iload daheadOf_407 rfl ?_
    refine ja_iconst daheadOf_409 ?_
    refine ja_icmp_eq 434 daheadOf_410 rfl ⟨by omega, by omega⟩ ⟨by decide, by decide⟩ (fun c410 => ?_) (fun c410 => ?_)
    · refine ja_iconst daheadOf_434 ?_
      refine ja_goto 453 daheadOf_435 rfl ?_
      refine ja_ireturn daheadOf_453 rfl ?_
      exact mo_fin (by omega) rfl (k1 1 h (⟨by omega, by omega, ag_refl⟩) g)
    · refine ja_iload daheadOf_413 rfl ?_
      refine ja_iconst daheadOf_415 ?_
      refine ja_icmp_ne 438 daheadOf_416 rfl ⟨by omega, by omega⟩ ⟨by decide, by decide⟩ (fun c416 => ?_) (fun c416 => ?_)
      · refine ja_iload daheadOf_438 rfl ?_
        refine ja_if_ne 452 daheadOf_440 rfl ⟨by omega, by omega⟩ (fun c440 => ?_) (fun c440 => ?_)
        · refine ja_iconst daheadOf_452 ?_
          refine ja_ireturn daheadOf_453 rfl ?_
          exact mo_fin (by omega) rfl (k1 2 h (⟨by omega, by omega, ag_refl⟩) g)
        · refine ja_iload daheadOf_443 rfl ?_
          refine ja_if_ne 452 daheadOf_445 rfl ⟨by omega, by omega⟩ (fun c445 => ?_) (fun c445 => ?_)
          · refine ja_iconst daheadOf_452 ?_
            refine ja_ireturn daheadOf_453 rfl ?_
            exact mo_fin (by omega) rfl (k1 2 h (⟨by omega, by omega, ag_refl⟩) g)
          · refine ja_iconst daheadOf_448 ?_
            refine ja_goto 453 daheadOf_449 rfl ?_
            refine ja_ireturn daheadOf_453 rfl ?_
            exact mo_fin (by omega) rfl (k1 0 h (⟨by omega, by omega, ag_refl⟩) g)
      · refine ja_aload_n daheadOf_419 rfl rfl ?_
        refine fa_nodeBinds daheadOf_420 ?_
        refine ja_iload daheadOf_423 rfl ?_
        refine il_nodeBinds (v := h 65 (h 60 (a1).toNat).toNat) rfl ⟨by omega, by omega⟩ daheadOf_425 ?_
        have f30 := gC_nodeBinds g (h 60 (a1).toNat).toNat
        refine ja_if_eq 434 daheadOf_426 rfl ⟨by omega, by omega⟩ (fun c426 => ?_) (fun c426 => ?_)
        · refine ja_iconst daheadOf_434 ?_
          refine ja_goto 453 daheadOf_435 rfl ?_
          refine ja_ireturn daheadOf_453 rfl ?_
          exact mo_fin (by omega) rfl (k1 1 h (⟨by omega, by omega, ag_refl⟩) g)
        · refine ja_iload daheadOf_429 rfl ?_
          refine ja_if_ne 438 daheadOf_431 rfl ⟨by omega, by omega⟩ (fun c431 => ?_) (fun c431 => ?_)
          · refine ja_iload daheadOf_438 rfl ?_
            refine ja_if_ne 452 daheadOf_440 rfl ⟨by omega, by omega⟩ (fun c440 => ?_) (fun c440 => ?_)
            · refine ja_iconst daheadOf_452 ?_
              refine ja_ireturn daheadOf_453 rfl ?_
              exact mo_fin (by omega) rfl (k1 2 h (⟨by omega, by omega, ag_refl⟩) g)
            · refine ja_iload daheadOf_443 rfl ?_
              refine ja_if_ne 452 daheadOf_445 rfl ⟨by omega, by omega⟩ (fun c445 => ?_) (fun c445 => ?_)
              · refine ja_iconst daheadOf_452 ?_
                refine ja_ireturn daheadOf_453 rfl ?_
                exact mo_fin (by omega) rfl (k1 2 h (⟨by omega, by omega, ag_refl⟩) g)
              · refine ja_iconst daheadOf_448 ?_
                refine ja_goto 453 daheadOf_449 rfl ?_
                refine ja_ireturn daheadOf_453 rfl ?_
                exact mo_fin (by omega) rfl (k1 0 h (⟨by omega, by omega, ag_refl⟩) g)
          · refine ja_iconst daheadOf_434 ?_
            refine ja_goto 453 daheadOf_435 rfl ?_
            refine ja_ireturn daheadOf_453 rfl ?_
            exact mo_fin (by omega) rfl (k1 1 h (⟨by omega, by omega, ag_refl⟩) g)
  rcases (by omega : h 58 (a1).toNat = 0 ∨ h 58 (a1).toNat = 1 ∨ h 58 (a1).toNat = 2 ∨ h 58 (a1).toNat = 3 ∨ h 58 (a1).toNat = 4 ∨ h 58 (a1).toNat = 5 ∨ h 58 (a1).toNat = 6 ∨ h 58 (a1).toNat = 7 ∨ h 58 (a1).toNat = 8 ∨ h 58 (a1).toNat = 9 ∨ h 58 (a1).toNat = 10 ∨ h 58 (a1).toNat = 11 ∨ h 58 (a1).toNat = 12 ∨ h 58 (a1).toNat = 13 ∨ h 58 (a1).toNat = 14 ∨ h 58 (a1).toNat = 15 ∨ (h 58 (a1).toNat < 0 ∨ 15 < h 58 (a1).toNat)) with e | e | e | e | e | e | e | e | e | e | e | e | e | e | e | e | e
  · exact ja_tableIn 100 daheadOf_21 ⟨by omega, by omega⟩ (by omega) (by omega) (by rw [e]; rfl) rfl (T21_100 (by omega))
  · exact ja_tableIn 100 daheadOf_21 ⟨by omega, by omega⟩ (by omega) (by omega) (by rw [e]; rfl) rfl (T21_100 (by omega))
  · exact ja_tableIn 107 daheadOf_21 ⟨by omega, by omega⟩ (by omega) (by omega) (by rw [e]; rfl) rfl (T21_107 (by omega))
  · exact ja_tableIn 100 daheadOf_21 ⟨by omega, by omega⟩ (by omega) (by omega) (by rw [e]; rfl) rfl (T21_100 (by omega))
  · exact ja_tableIn 100 daheadOf_21 ⟨by omega, by omega⟩ (by omega) (by omega) (by rw [e]; rfl) rfl (T21_100 (by omega))
  · exact ja_tableIn 145 daheadOf_21 ⟨by omega, by omega⟩ (by omega) (by omega) (by rw [e]; rfl) rfl (T21_145 (by omega))
  · exact ja_tableIn 161 daheadOf_21 ⟨by omega, by omega⟩ (by omega) (by omega) (by rw [e]; rfl) rfl (T21_161 (by omega))
  · exact ja_tableIn 168 daheadOf_21 ⟨by omega, by omega⟩ (by omega) (by omega) (by rw [e]; rfl) rfl (T21_168 (by omega))
  · exact ja_tableIn 175 daheadOf_21 ⟨by omega, by omega⟩ (by omega) (by omega) (by rw [e]; rfl) rfl (T21_175 (by omega))
  · exact ja_tableIn 220 daheadOf_21 ⟨by omega, by omega⟩ (by omega) (by omega) (by rw [e]; rfl) rfl (T21_220 (by omega))
  · exact ja_tableIn 227 daheadOf_21 ⟨by omega, by omega⟩ (by omega) (by omega) (by rw [e]; rfl) rfl (T21_227 (by omega))
  · exact ja_tableIn 229 daheadOf_21 ⟨by omega, by omega⟩ (by omega) (by omega) (by rw [e]; rfl) rfl (T21_229 (by omega))
  · exact ja_tableIn 264 daheadOf_21 ⟨by omega, by omega⟩ (by omega) (by omega) (by rw [e]; rfl) rfl (T21_264 (by omega))
  · exact ja_tableIn 317 daheadOf_21 ⟨by omega, by omega⟩ (by omega) (by omega) (by rw [e]; rfl) rfl (T21_317 (by omega))
  · exact ja_tableIn 378 daheadOf_21 ⟨by omega, by omega⟩ (by omega) (by omega) (by rw [e]; rfl) rfl (T21_378 (by omega))
  · exact ja_tableIn 282 daheadOf_21 ⟨by omega, by omega⟩ (by omega) (by omega) (by rw [e]; rfl) rfl (T21_282 (by omega))
  · exact ja_tableOut 378 daheadOf_21 ⟨by omega, by omega⟩ (by omega) rfl (T21_378 (by omega))
theorem t_aheadOf {a1 a2 : Int} {d nL pc : Nat} {cc : ByteArray} {rt : Option FieldType} {L : List (Nat × ja_V)} {S : List ja_V} {h : ja_H} {Q : Option ja_V → ja_H → Prop} (hdd : 5 < d) (hwd : ja_wd S ≤ 8) (hd : decode cc pc = .ok (.invokevirtual 969, 3)) (g : mo_G mo_zr h) (r1 : -2147483648 ≤ a1 ∧ a1 ≤ 2147483647) (r2 : -2147483648 ≤ a2 ∧ a2 ≤ 2147483647) (p1 : 0 ≤ a1 ∧ a1 ≤ 899) (p2 : 0 ≤ a2 ∧ a2 ≤ 399) (p3 : ndK h a1.toNat) (p4 : ptK h a2.toNat) (k1 : ∀ (v : Int) (h' : ja_H), (0 ≤ v ∧ v ≤ 2 ∧ mo_ag FTX h h') → mo_G mo_zr h' → mJ l D cA ad d cc nL rt (pc + 3) L ((0, v) :: S) h' Q) : mJ l D cA ad d cc nL rt pc L ((0, a2) :: (0, a1) :: (2, ((0 : Nat) : Int)) :: S) h Q :=
  mc_aheadOf hdd hwd hd (s_aheadOf g r1 r2 p1 p2 p3 p4 k1)
end
theorem dforesee_0 : decode cX12_foresee 0 = .ok (.aload_n 0, 1) := by decide +kernel
theorem dforesee_1 : decode cX12_foresee 1 = .ok (.getfield 228, 3) := by decide +kernel
theorem dforesee_4 : decode cX12_foresee 4 = .ok (.iload_n 1, 1) := by decide +kernel
theorem dforesee_5 : decode cX12_foresee 5 = .ok (.iconst 1, 1) := by decide +kernel
theorem dforesee_6 : decode cX12_foresee 6 = .ok (.bastore, 1) := by decide +kernel
theorem dforesee_7 : decode cX12_foresee 7 = .ok (.iconst 0, 1) := by decide +kernel
theorem dforesee_8 : decode cX12_foresee 8 = .ok (.istore_n 2, 1) := by decide +kernel
theorem dforesee_9 : decode cX12_foresee 9 = .ok (.iload_n 2, 1) := by decide +kernel
theorem dforesee_10 : decode cX12_foresee 10 = .ok (.aload_n 0, 1) := by decide +kernel
theorem dforesee_11 : decode cX12_foresee 11 = .ok (.getfield 617, 3) := by decide +kernel
theorem dforesee_14 : decode cX12_foresee 14 = .ok (.if_icmp .ge 241, 3) := by decide +kernel
theorem dforesee_17 : decode cX12_foresee 17 = .ok (.aload_n 0, 1) := by decide +kernel
theorem dforesee_18 : decode cX12_foresee 18 = .ok (.iload_n 1, 1) := by decide +kernel
theorem dforesee_19 : decode cX12_foresee 19 = .ok (.iload_n 2, 1) := by decide +kernel
theorem dforesee_20 : decode cX12_foresee 20 = .ok (.invokevirtual 969, 3) := by decide +kernel
theorem dforesee_23 : decode cX12_foresee 23 = .ok (.istore_n 3, 1) := by decide +kernel
theorem dforesee_24 : decode cX12_foresee 24 = .ok (.aload_n 0, 1) := by decide +kernel
theorem dforesee_25 : decode cX12_foresee 25 = .ok (.getfield 222, 3) := by decide +kernel
theorem dforesee_28 : decode cX12_foresee 28 = .ok (.sipush 400, 3) := by decide +kernel
theorem dforesee_31 : decode cX12_foresee 31 = .ok (.iload_n 1, 1) := by decide +kernel
theorem dforesee_32 : decode cX12_foresee 32 = .ok (.imul, 1) := by decide +kernel
theorem dforesee_33 : decode cX12_foresee 33 = .ok (.iload_n 2, 1) := by decide +kernel
theorem dforesee_34 : decode cX12_foresee 34 = .ok (.iadd, 1) := by decide +kernel
theorem dforesee_35 : decode cX12_foresee 35 = .ok (.iload_n 3, 1) := by decide +kernel
theorem dforesee_36 : decode cX12_foresee 36 = .ok (.iastore, 1) := by decide +kernel
theorem dforesee_37 : decode cX12_foresee 37 = .ok (.aload_n 0, 1) := by decide +kernel
theorem dforesee_38 : decode cX12_foresee 38 = .ok (.getfield 228, 3) := by decide +kernel
theorem dforesee_41 : decode cX12_foresee 41 = .ok (.iload_n 1, 1) := by decide +kernel
theorem dforesee_42 : decode cX12_foresee 42 = .ok (.aload_n 0, 1) := by decide +kernel
theorem dforesee_43 : decode cX12_foresee 43 = .ok (.getfield 228, 3) := by decide +kernel
theorem dforesee_46 : decode cX12_foresee 46 = .ok (.iload_n 1, 1) := by decide +kernel
theorem dforesee_47 : decode cX12_foresee 47 = .ok (.baload, 1) := by decide +kernel
theorem dforesee_48 : decode cX12_foresee 48 = .ok (.ifCond .eq 11, 3) := by decide +kernel
theorem dforesee_51 : decode cX12_foresee 51 = .ok (.iload_n 3, 1) := by decide +kernel
theorem dforesee_52 : decode cX12_foresee 52 = .ok (.ifCond .ne 7, 3) := by decide +kernel
theorem dforesee_55 : decode cX12_foresee 55 = .ok (.iconst 1, 1) := by decide +kernel
theorem dforesee_56 : decode cX12_foresee 56 = .ok (.goto 4, 3) := by decide +kernel
theorem dforesee_59 : decode cX12_foresee 59 = .ok (.iconst 0, 1) := by decide +kernel
theorem dforesee_60 : decode cX12_foresee 60 = .ok (.bastore, 1) := by decide +kernel
theorem dforesee_61 : decode cX12_foresee 61 = .ok (.iconst 0, 1) := by decide +kernel
theorem dforesee_62 : decode cX12_foresee 62 = .ok (.istore 4, 2) := by decide +kernel
theorem dforesee_64 : decode cX12_foresee 64 = .ok (.aload_n 0, 1) := by decide +kernel
theorem dforesee_65 : decode cX12_foresee 65 = .ok (.getfield 182, 3) := by decide +kernel
theorem dforesee_68 : decode cX12_foresee 68 = .ok (.iload_n 1, 1) := by decide +kernel
theorem dforesee_69 : decode cX12_foresee 69 = .ok (.iaload, 1) := by decide +kernel
theorem dforesee_70 : decode cX12_foresee 70 = .ok (.istore 5, 2) := by decide +kernel
theorem dforesee_72 : decode cX12_foresee 72 = .ok (.iload_n 3, 1) := by decide +kernel
theorem dforesee_73 : decode cX12_foresee 73 = .ok (.iconst 2, 1) := by decide +kernel
theorem dforesee_74 : decode cX12_foresee 74 = .ok (.if_icmp .ne 161, 3) := by decide +kernel
theorem dforesee_77 : decode cX12_foresee 77 = .ok (.iload 5, 2) := by decide +kernel
theorem dforesee_79 : decode cX12_foresee 79 = .ok (.bipush 13, 2) := by decide +kernel
theorem dforesee_81 : decode cX12_foresee 81 = .ok (.if_icmp .eq 10, 3) := by decide +kernel
theorem dforesee_84 : decode cX12_foresee 84 = .ok (.iload 5, 2) := by decide +kernel
theorem dforesee_86 : decode cX12_foresee 86 = .ok (.bipush 14, 2) := by decide +kernel
theorem dforesee_88 : decode cX12_foresee 88 = .ok (.if_icmp .ne 81, 3) := by decide +kernel
theorem dforesee_91 : decode cX12_foresee 91 = .ok (.sipush 400, 3) := by decide +kernel
theorem dforesee_94 : decode cX12_foresee 94 = .ok (.aload_n 0, 1) := by decide +kernel
theorem dforesee_95 : decode cX12_foresee 95 = .ok (.getfield 185, 3) := by decide +kernel
theorem dforesee_98 : decode cX12_foresee 98 = .ok (.iload_n 1, 1) := by decide +kernel
theorem dforesee_99 : decode cX12_foresee 99 = .ok (.iaload, 1) := by decide +kernel
theorem dforesee_100 : decode cX12_foresee 100 = .ok (.imul, 1) := by decide +kernel
theorem dforesee_101 : decode cX12_foresee 101 = .ok (.iload_n 2, 1) := by decide +kernel
theorem dforesee_102 : decode cX12_foresee 102 = .ok (.iadd, 1) := by decide +kernel
theorem dforesee_103 : decode cX12_foresee 103 = .ok (.istore 6, 2) := by decide +kernel
theorem dforesee_105 : decode cX12_foresee 105 = .ok (.sipush 400, 3) := by decide +kernel
theorem dforesee_108 : decode cX12_foresee 108 = .ok (.aload_n 0, 1) := by decide +kernel
theorem dforesee_109 : decode cX12_foresee 109 = .ok (.getfield 188, 3) := by decide +kernel
theorem dforesee_112 : decode cX12_foresee 112 = .ok (.iload_n 1, 1) := by decide +kernel
theorem dforesee_113 : decode cX12_foresee 113 = .ok (.iaload, 1) := by decide +kernel
theorem dforesee_114 : decode cX12_foresee 114 = .ok (.imul, 1) := by decide +kernel
theorem dforesee_115 : decode cX12_foresee 115 = .ok (.iload_n 2, 1) := by decide +kernel
theorem dforesee_116 : decode cX12_foresee 116 = .ok (.iadd, 1) := by decide +kernel
theorem dforesee_117 : decode cX12_foresee 117 = .ok (.istore 7, 2) := by decide +kernel
theorem dforesee_119 : decode cX12_foresee 119 = .ok (.aload_n 0, 1) := by decide +kernel
theorem dforesee_120 : decode cX12_foresee 120 = .ok (.getfield 222, 3) := by decide +kernel
theorem dforesee_123 : decode cX12_foresee 123 = .ok (.iload 6, 2) := by decide +kernel
theorem dforesee_125 : decode cX12_foresee 125 = .ok (.iaload, 1) := by decide +kernel
theorem dforesee_126 : decode cX12_foresee 126 = .ok (.iconst 2, 1) := by decide +kernel
theorem dforesee_127 : decode cX12_foresee 127 = .ok (.if_icmp .ne 13, 3) := by decide +kernel
theorem dforesee_130 : decode cX12_foresee 130 = .ok (.aload_n 0, 1) := by decide +kernel
theorem dforesee_131 : decode cX12_foresee 131 = .ok (.getfield 225, 3) := by decide +kernel
theorem dforesee_134 : decode cX12_foresee 134 = .ok (.iload 6, 2) := by decide +kernel
theorem dforesee_136 : decode cX12_foresee 136 = .ok (.iaload, 1) := by decide +kernel
theorem dforesee_137 : decode cX12_foresee 137 = .ok (.goto 4, 3) := by decide +kernel
theorem dforesee_140 : decode cX12_foresee 140 = .ok (.iconst 0, 1) := by decide +kernel
theorem dforesee_141 : decode cX12_foresee 141 = .ok (.aload_n 0, 1) := by decide +kernel
theorem dforesee_142 : decode cX12_foresee 142 = .ok (.getfield 222, 3) := by decide +kernel
theorem dforesee_145 : decode cX12_foresee 145 = .ok (.iload 7, 2) := by decide +kernel
theorem dforesee_147 : decode cX12_foresee 147 = .ok (.iaload, 1) := by decide +kernel
theorem dforesee_148 : decode cX12_foresee 148 = .ok (.iconst 2, 1) := by decide +kernel
theorem dforesee_149 : decode cX12_foresee 149 = .ok (.if_icmp .ne 13, 3) := by decide +kernel
theorem dforesee_152 : decode cX12_foresee 152 = .ok (.aload_n 0, 1) := by decide +kernel
theorem dforesee_153 : decode cX12_foresee 153 = .ok (.getfield 225, 3) := by decide +kernel
theorem dforesee_156 : decode cX12_foresee 156 = .ok (.iload 7, 2) := by decide +kernel
theorem dforesee_158 : decode cX12_foresee 158 = .ok (.iaload, 1) := by decide +kernel
theorem dforesee_159 : decode cX12_foresee 159 = .ok (.goto 4, 3) := by decide +kernel
theorem dforesee_162 : decode cX12_foresee 162 = .ok (.iconst 0, 1) := by decide +kernel
theorem dforesee_163 : decode cX12_foresee 163 = .ok (.iadd, 1) := by decide +kernel
theorem dforesee_164 : decode cX12_foresee 164 = .ok (.istore 4, 2) := by decide +kernel
theorem dforesee_166 : decode cX12_foresee 166 = .ok (.goto 69, 3) := by decide +kernel
theorem dforesee_169 : decode cX12_foresee 169 = .ok (.iload 5, 2) := by decide +kernel
theorem dforesee_171 : decode cX12_foresee 171 = .ok (.bipush 15, 2) := by decide +kernel
theorem dforesee_173 : decode cX12_foresee 173 = .ok (.if_icmp .ne 25, 3) := by decide +kernel
theorem dforesee_176 : decode cX12_foresee 176 = .ok (.aload_n 0, 1) := by decide +kernel
theorem dforesee_177 : decode cX12_foresee 177 = .ok (.getfield 225, 3) := by decide +kernel
theorem dforesee_180 : decode cX12_foresee 180 = .ok (.sipush 400, 3) := by decide +kernel
theorem dforesee_183 : decode cX12_foresee 183 = .ok (.aload_n 0, 1) := by decide +kernel
theorem dforesee_184 : decode cX12_foresee 184 = .ok (.getfield 185, 3) := by decide +kernel
theorem dforesee_187 : decode cX12_foresee 187 = .ok (.iload_n 1, 1) := by decide +kernel
theorem dforesee_188 : decode cX12_foresee 188 = .ok (.iaload, 1) := by decide +kernel
theorem dforesee_189 : decode cX12_foresee 189 = .ok (.imul, 1) := by decide +kernel
theorem dforesee_190 : decode cX12_foresee 190 = .ok (.iload_n 2, 1) := by decide +kernel
theorem dforesee_191 : decode cX12_foresee 191 = .ok (.iadd, 1) := by decide +kernel
theorem dforesee_192 : decode cX12_foresee 192 = .ok (.iaload, 1) := by decide +kernel
theorem dforesee_193 : decode cX12_foresee 193 = .ok (.istore 4, 2) := by decide +kernel
theorem dforesee_195 : decode cX12_foresee 195 = .ok (.goto 40, 3) := by decide +kernel
theorem dforesee_198 : decode cX12_foresee 198 = .ok (.iload 5, 2) := by decide +kernel
theorem dforesee_200 : decode cX12_foresee 200 = .ok (.bipush 12, 2) := by decide +kernel
theorem dforesee_202 : decode cX12_foresee 202 = .ok (.if_icmp .ne 30, 3) := by decide +kernel
theorem dforesee_205 : decode cX12_foresee 205 = .ok (.aload_n 0, 1) := by decide +kernel
theorem dforesee_206 : decode cX12_foresee 206 = .ok (.getfield 225, 3) := by decide +kernel
theorem dforesee_209 : decode cX12_foresee 209 = .ok (.sipush 400, 3) := by decide +kernel
theorem dforesee_212 : decode cX12_foresee 212 = .ok (.aload_n 0, 1) := by decide +kernel
theorem dforesee_213 : decode cX12_foresee 213 = .ok (.getfield 119, 3) := by decide +kernel
theorem dforesee_216 : decode cX12_foresee 216 = .ok (.aload_n 0, 1) := by decide +kernel
theorem dforesee_217 : decode cX12_foresee 217 = .ok (.getfield 185, 3) := by decide +kernel
theorem dforesee_220 : decode cX12_foresee 220 = .ok (.iload_n 1, 1) := by decide +kernel
theorem dforesee_221 : decode cX12_foresee 221 = .ok (.iaload, 1) := by decide +kernel
theorem dforesee_222 : decode cX12_foresee 222 = .ok (.iaload, 1) := by decide +kernel
theorem dforesee_223 : decode cX12_foresee 223 = .ok (.imul, 1) := by decide +kernel
theorem dforesee_224 : decode cX12_foresee 224 = .ok (.iload_n 2, 1) := by decide +kernel
theorem dforesee_225 : decode cX12_foresee 225 = .ok (.iadd, 1) := by decide +kernel
theorem dforesee_226 : decode cX12_foresee 226 = .ok (.iaload, 1) := by decide +kernel
theorem dforesee_227 : decode cX12_foresee 227 = .ok (.istore 4, 2) := by decide +kernel
theorem dforesee_229 : decode cX12_foresee 229 = .ok (.goto 6, 3) := by decide +kernel
theorem dforesee_232 : decode cX12_foresee 232 = .ok (.iconst 1, 1) := by decide +kernel
theorem dforesee_233 : decode cX12_foresee 233 = .ok (.istore 4, 2) := by decide +kernel
theorem dforesee_235 : decode cX12_foresee 235 = .ok (.aload_n 0, 1) := by decide +kernel
theorem dforesee_236 : decode cX12_foresee 236 = .ok (.getfield 225, 3) := by decide +kernel
theorem dforesee_239 : decode cX12_foresee 239 = .ok (.sipush 400, 3) := by decide +kernel
theorem dforesee_242 : decode cX12_foresee 242 = .ok (.iload_n 1, 1) := by decide +kernel
theorem dforesee_243 : decode cX12_foresee 243 = .ok (.imul, 1) := by decide +kernel
theorem dforesee_244 : decode cX12_foresee 244 = .ok (.iload_n 2, 1) := by decide +kernel
theorem dforesee_245 : decode cX12_foresee 245 = .ok (.iadd, 1) := by decide +kernel
theorem dforesee_246 : decode cX12_foresee 246 = .ok (.iload 4, 2) := by decide +kernel
theorem dforesee_248 : decode cX12_foresee 248 = .ok (.iastore, 1) := by decide +kernel
theorem dforesee_249 : decode cX12_foresee 249 = .ok (.iinc 2 1, 3) := by decide +kernel
theorem dforesee_252 : decode cX12_foresee 252 = .ok (.goto (-243), 3) := by decide +kernel
theorem dforesee_255 : decode cX12_foresee 255 = .ok (.return_, 1) := by decide +kernel
section
variable {l : Launch} {D : va_G} {cA : Nat → ClassId} {ad : Nat → Nat}
theorem s_foresee {a1 : Int} {h : ja_H} {Q : Option ja_V → ja_H → Prop} (g : mo_G mo_zr h) (r1 : -2147483648 ≤ a1 ∧ a1 ≤ 2147483647) (p1 : 0 ≤ a1 ∧ a1 ≤ 899) (p2 : ndK h a1.toNat) (p3 : ∀ p : Nat, (p : Int) < (h 0 88) → ptK h p) (k1 : ∀ (h' : ja_H), (mo_ag FFO h h') → mo_G mo_zr h' → Q none h') : mM_foresee l D cA ad a1 h Q := by
  show mJ l D cA ad 6 cX12_foresee 8 none 0 [(0, (2, ((0 : Nat) : Int))), (1, (0, a1))] [] h Q
  have kn_points := gF_points g
  have CUT : ∀ n : Nat, (∀ (x2 : Int) (u : ja_H), mo_G mo_zr u → (-2147483648 ≤ x2 ∧ x2 ≤ 2147483647) → (mo_ag FFO h u ∧ 0 ≤ x2 ∧ x2 ≤ (h 0 88)) → (((3 : Int) * ((1000 : Int) - x2)).toNat) = n → mJ l D cA ad 6 cX12_foresee 8 none 9 [(0, (2, ((0 : Nat) : Int))), (1, (0, a1)), (2, (0, x2))] [] u Q) ∧ (∀ (x2 x3 : Int) (u : ja_H), mo_G mo_zr u → (-2147483648 ≤ x2 ∧ x2 ≤ 2147483647) → (-2147483648 ≤ x3 ∧ x3 ≤ 2147483647) → (mo_ag FFO h u ∧ 0 ≤ x2 ∧ x2 < (h 0 88) ∧ 0 ≤ x3 ∧ x3 ≤ 2) → (((3 : Int) * ((1000 : Int) - x2) - 1).toNat) = n → mJ l D cA ad 6 cX12_foresee 8 none 61 [(0, (2, ((0 : Nat) : Int))), (1, (0, a1)), (2, (0, x2)), (3, (0, x3))] [] u Q) ∧ (∀ (x2 x4 : Int) (u : ja_H), mo_G mo_zr u → (-2147483648 ≤ x2 ∧ x2 ≤ 2147483647) → (-2147483648 ≤ x4 ∧ x4 ≤ 2147483647) → (mo_ag FFO h u ∧ 0 ≤ x2 ∧ x2 < (h 0 88)) → (((3 : Int) * ((1000 : Int) - x2) - 2).toNat) = n → mJ l D cA ad 6 cX12_foresee 8 none 235 [(0, (2, ((0 : Nat) : Int))), (1, (0, a1)), (2, (0, x2)), (4, (0, x4))] [] u Q) := by
    intro n
    induction n using Nat.strongRecOn with
    | _ n ih =>
      refine ⟨?_, ?_, ?_⟩
      · intro x2 u gu qx2 iv hm
        subst hm
        have ku_points := gF_points gu
        obtain ⟨ag, i2, i3⟩ := iv
        have nd := nd_ag (ag_sub (X_sub (by decide) (by decide)) ag) p2
        obtain ⟨nd1, nd2, nd3, nd4⟩ := nd
        have e_points : (u 0 88) = (h 0 88) := ag 0 88 rfl
        refine ja_iload_n dforesee_9 rfl rfl ?_
        refine ja_aload_n dforesee_10 rfl rfl ?_
        refine fg_points (v := u 0 88) rfl dforesee_11 ?_
        have f1 := gF_points gu
        refine ja_icmp_ge 255 dforesee_14 rfl ⟨by omega, by omega⟩ ⟨by omega, by omega⟩ (fun c14 => ?_) (fun c14 => ?_)
        · refine ja_return dforesee_255 rfl ?_
          exact k1 u (ag) gu
        · refine ja_aload_n dforesee_17 rfl rfl ?_
          refine ja_iload_n dforesee_18 rfl rfl ?_
          refine ja_iload_n dforesee_19 rfl rfl ?_
          refine t_aheadOf (by decide) (show (0 : Nat) ≤ 8 by decide) dforesee_20 gu ⟨by omega, by omega⟩ ⟨by omega, by omega⟩ (show 0 ≤ a1 ∧ a1 ≤ 899 by omega) (show 0 ≤ x2 ∧ x2 ≤ 399 by omega) ((nd_ag (ag_sub (X_sub (by decide) (by decide)) ag) p2)) ((ptK_ag (ag_sub (X_sub (by decide) (by decide)) ag) (p3 (x2).toNat (by omega)))) ?_
          intro w2 h3 k20_0 g4
          refine ja_istore_n dforesee_23 rfl (by decide) (L2 := [(3, (0, w2)), (0, (2, ((0 : Nat) : Int))), (1, (0, a1)), (2, (0, x2))]) rfl ?_
          refine ja_aload_n dforesee_24 rfl rfl ?_
          refine fa_ahead dforesee_25 ?_
          refine ja_sipush 400 dforesee_28 rfl ?_
          refine ja_iload_n dforesee_31 rfl rfl ?_
          refine ja_imul dforesee_32 ?_
          refine ja_iload_n dforesee_33 rfl rfl ?_
          refine ja_iadd dforesee_34 ?_
          refine ja_iload_n dforesee_35 rfl rfl ?_
          have g5 := gW_ahead g4 ((400 * a1) + x2).toNat (x := w2) ⟨by omega, by omega⟩
          refine is_ahead ⟨by omega, by omega⟩ dforesee_36 ?_
          refine ja_aload_n dforesee_37 rfl rfl ?_
          refine fa_never dforesee_38 ?_
          refine ja_iload_n dforesee_41 rfl rfl ?_
          refine ja_aload_n dforesee_42 rfl rfl ?_
          refine fa_never dforesee_43 ?_
          refine ja_iload_n dforesee_46 rfl rfl ?_
          refine il_never (v := h3 73 (a1).toNat) rfl ⟨by omega, by omega⟩ dforesee_47 ?_
          have f6 := gC_never g4 (a1).toNat
          refine ja_if_eq 59 dforesee_48 rfl ⟨by omega, by omega⟩ (fun c48 => ?_) (fun c48 => ?_)
          · refine ja_iconst dforesee_59 ?_
            have g7 := gW_never g5 (a1).toNat (x := 0) ⟨by decide, by decide⟩
            refine is_never ⟨by omega, by omega⟩ (by omega) dforesee_60 ?_
            exact ja_wk (fun q hq => by simp only [List.mem_cons, List.not_mem_nil, or_false] at hq; rcases hq with rfl | rfl | rfl | rfl <;> rfl) ((ih (((3 : Int) * ((1000 : Int) - x2) - 1).toNat) (by omega)).2.1 x2 w2 (ja_up (ja_up h3 71 (((400 * a1) + x2).toNat) w2) 73 ((a1).toNat) 0) g7 ⟨by omega, by omega⟩ ⟨by omega, by omega⟩ (⟨(ag_trans ag (ag_trans (ag_sub (X_X (by decide) (by decide)) k20_0.2.2) (by (repeat (first | exact ag_refl | refine ag_up rfl ?_))))), by omega⟩) rfl)
          · refine ja_iload_n dforesee_51 rfl rfl ?_
            refine ja_if_ne 59 dforesee_52 rfl ⟨by omega, by omega⟩ (fun c52 => ?_) (fun c52 => ?_)
            · refine ja_iconst dforesee_59 ?_
              have g8 := gW_never g5 (a1).toNat (x := 0) ⟨by decide, by decide⟩
              refine is_never ⟨by omega, by omega⟩ (by omega) dforesee_60 ?_
              exact ja_wk (fun q hq => by simp only [List.mem_cons, List.not_mem_nil, or_false] at hq; rcases hq with rfl | rfl | rfl | rfl <;> rfl) ((ih (((3 : Int) * ((1000 : Int) - x2) - 1).toNat) (by omega)).2.1 x2 w2 (ja_up (ja_up h3 71 (((400 * a1) + x2).toNat) w2) 73 ((a1).toNat) 0) g8 ⟨by omega, by omega⟩ ⟨by omega, by omega⟩ (⟨(ag_trans ag (ag_trans (ag_sub (X_X (by decide) (by decide)) k20_0.2.2) (by (repeat (first | exact ag_refl | refine ag_up rfl ?_))))), by omega⟩) rfl)
            · refine ja_iconst dforesee_55 ?_
              refine ja_goto 60 dforesee_56 rfl ?_
              have g9 := gW_never g5 (a1).toNat (x := 1) ⟨by decide, by decide⟩
              refine is_never ⟨by omega, by omega⟩ (by omega) dforesee_60 ?_
              exact ja_wk (fun q hq => by simp only [List.mem_cons, List.not_mem_nil, or_false] at hq; rcases hq with rfl | rfl | rfl | rfl <;> rfl) ((ih (((3 : Int) * ((1000 : Int) - x2) - 1).toNat) (by omega)).2.1 x2 w2 (ja_up (ja_up h3 71 (((400 * a1) + x2).toNat) w2) 73 ((a1).toNat) 1) g9 ⟨by omega, by omega⟩ ⟨by omega, by omega⟩ (⟨(ag_trans ag (ag_trans (ag_sub (X_X (by decide) (by decide)) k20_0.2.2) (by (repeat (first | exact ag_refl | refine ag_up rfl ?_))))), by omega⟩) rfl)
      · intro x2 x3 u gu qx2 qx3 iv hm
        subst hm
        have ku_points := gF_points gu
        obtain ⟨ag, i2, i3, i4, i5⟩ := iv
        have nd := nd_ag (ag_sub (X_sub (by decide) (by decide)) ag) p2
        obtain ⟨nd1, nd2, nd3, nd4⟩ := nd
        have e_points : (u 0 88) = (h 0 88) := ag 0 88 rfl
        refine ja_iconst dforesee_61 ?_
        refine ja_istore dforesee_62 (by decide) (L2 := [(4, (0, 0)), (0, (2, ((0 : Nat) : Int))), (1, (0, a1)), (2, (0, x2)), (3, (0, x3))]) rfl ?_
        refine ja_aload_n dforesee_64 rfl rfl ?_
        refine fa_nodeKind dforesee_65 ?_
        refine ja_iload_n dforesee_68 rfl rfl ?_
        refine il_nodeKind (v := u 58 (a1).toNat) rfl ⟨by omega, by omega⟩ dforesee_69 ?_
        have f10 := gC_nodeKind gu (a1).toNat
        refine ja_istore dforesee_70 (by decide) (L2 := [(5, (0, (u 58 (a1).toNat))), (4, (0, 0)), (0, (2, ((0 : Nat) : Int))), (1, (0, a1)), (2, (0, x2)), (3, (0, x3))]) rfl ?_
        refine ja_iload_n dforesee_72 rfl rfl ?_
        refine ja_iconst dforesee_73 ?_
        refine ja_icmp_ne 235 dforesee_74 rfl ⟨by omega, by omega⟩ ⟨by decide, by decide⟩ (fun c74 => ?_) (fun c74 => ?_)
        · exact ja_wk (fun q hq => by simp only [List.mem_cons, List.not_mem_nil, or_false] at hq; rcases hq with rfl | rfl | rfl | rfl <;> rfl) ((ih (((3 : Int) * ((1000 : Int) - x2) - 2).toNat) (by omega)).2.2 x2 0 u gu ⟨by omega, by omega⟩ ⟨by decide, by decide⟩ (⟨(ag_trans ag (by (repeat (first | exact ag_refl | refine ag_up rfl ?_)))), by omega⟩) rfl)
        · refine ja_iload dforesee_77 rfl ?_
          refine ja_bipush 13 dforesee_79 rfl ?_
          refine ja_icmp_eq 91 dforesee_81 rfl ⟨by omega, by omega⟩ ⟨by decide, by decide⟩ (fun c81 => ?_) (fun c81 => ?_)
          · refine ja_sipush 400 dforesee_91 rfl ?_
            refine ja_aload_n dforesee_94 rfl rfl ?_
            refine fa_nodeA dforesee_95 ?_
            refine ja_iload_n dforesee_98 rfl rfl ?_
            refine il_nodeA (v := u 59 (a1).toNat) rfl ⟨by omega, by omega⟩ dforesee_99 ?_
            have f11 := gC_nodeA gu (a1).toNat
            refine ja_imul dforesee_100 ?_
            refine ja_iload_n dforesee_101 rfl rfl ?_
            refine ja_iadd dforesee_102 ?_
            refine ja_istore dforesee_103 (by decide) (L2 := [(6, (0, ((400 * (u 59 (a1).toNat)) + x2))), (5, (0, (u 58 (a1).toNat))), (4, (0, 0)), (0, (2, ((0 : Nat) : Int))), (1, (0, a1)), (2, (0, x2)), (3, (0, x3))]) rfl ?_
            refine ja_sipush 400 dforesee_105 rfl ?_
            refine ja_aload_n dforesee_108 rfl rfl ?_
            refine fa_nodeB dforesee_109 ?_
            refine ja_iload_n dforesee_112 rfl rfl ?_
            refine il_nodeB (v := u 60 (a1).toNat) rfl ⟨by omega, by omega⟩ dforesee_113 ?_
            have f12 := gC_nodeB gu (a1).toNat
            refine ja_imul dforesee_114 ?_
            refine ja_iload_n dforesee_115 rfl rfl ?_
            refine ja_iadd dforesee_116 ?_
            refine ja_istore dforesee_117 (by decide) (L2 := [(7, (0, ((400 * (u 60 (a1).toNat)) + x2))), (6, (0, ((400 * (u 59 (a1).toNat)) + x2))), (5, (0, (u 58 (a1).toNat))), (4, (0, 0)), (0, (2, ((0 : Nat) : Int))), (1, (0, a1)), (2, (0, x2)), (3, (0, x3))]) rfl ?_
            refine ja_aload_n dforesee_119 rfl rfl ?_
            refine fa_ahead dforesee_120 ?_
            refine ja_iload dforesee_123 rfl ?_
            refine il_ahead (v := u 71 ((400 * (u 59 (a1).toNat)) + x2).toNat) rfl ⟨by omega, by omega⟩ dforesee_125 ?_
            have f13 := gC_ahead gu ((400 * (u 59 (a1).toNat)) + x2).toNat
            refine ja_iconst dforesee_126 ?_
            refine ja_icmp_ne 140 dforesee_127 rfl ⟨by omega, by omega⟩ ⟨by decide, by decide⟩ (fun c127 => ?_) (fun c127 => ?_)
            · refine ja_iconst dforesee_140 ?_
              refine ja_aload_n dforesee_141 rfl rfl ?_
              refine fa_ahead dforesee_142 ?_
              refine ja_iload dforesee_145 rfl ?_
              refine il_ahead (v := u 71 ((400 * (u 60 (a1).toNat)) + x2).toNat) rfl ⟨by omega, by omega⟩ dforesee_147 ?_
              have f14 := gC_ahead gu ((400 * (u 60 (a1).toNat)) + x2).toNat
              refine ja_iconst dforesee_148 ?_
              refine ja_icmp_ne 162 dforesee_149 rfl ⟨by omega, by omega⟩ ⟨by decide, by decide⟩ (fun c149 => ?_) (fun c149 => ?_)
              · refine ja_iconst dforesee_162 ?_
                refine mo_hiadd dforesee_163 (fun v15 rv15 => ?_)
                refine ja_istore dforesee_164 (by decide) (L2 := [(4, (0, v15)), (7, (0, ((400 * (u 60 (a1).toNat)) + x2))), (6, (0, ((400 * (u 59 (a1).toNat)) + x2))), (5, (0, (u 58 (a1).toNat))), (0, (2, ((0 : Nat) : Int))), (1, (0, a1)), (2, (0, x2)), (3, (0, x3))]) rfl ?_
                refine ja_goto 235 dforesee_166 rfl ?_
                exact ja_wk (fun q hq => by simp only [List.mem_cons, List.not_mem_nil, or_false] at hq; rcases hq with rfl | rfl | rfl | rfl <;> rfl) ((ih (((3 : Int) * ((1000 : Int) - x2) - 2).toNat) (by omega)).2.2 x2 v15 u gu ⟨by omega, by omega⟩ ⟨by omega, by omega⟩ (⟨(ag_trans ag (by (repeat (first | exact ag_refl | refine ag_up rfl ?_)))), by omega⟩) rfl)
              · refine ja_aload_n dforesee_152 rfl rfl ?_
                refine fa_left dforesee_153 ?_
                refine ja_iload dforesee_156 rfl ?_
                refine il_left (v := u 72 ((400 * (u 60 (a1).toNat)) + x2).toNat) rfl ⟨by omega, by omega⟩ dforesee_158 ?_
                have f16 := gC_left gu ((400 * (u 60 (a1).toNat)) + x2).toNat
                refine ja_goto 163 dforesee_159 rfl ?_
                refine mo_hiadd dforesee_163 (fun v17 rv17 => ?_)
                refine ja_istore dforesee_164 (by decide) (L2 := [(4, (0, v17)), (7, (0, ((400 * (u 60 (a1).toNat)) + x2))), (6, (0, ((400 * (u 59 (a1).toNat)) + x2))), (5, (0, (u 58 (a1).toNat))), (0, (2, ((0 : Nat) : Int))), (1, (0, a1)), (2, (0, x2)), (3, (0, x3))]) rfl ?_
                refine ja_goto 235 dforesee_166 rfl ?_
                exact ja_wk (fun q hq => by simp only [List.mem_cons, List.not_mem_nil, or_false] at hq; rcases hq with rfl | rfl | rfl | rfl <;> rfl) ((ih (((3 : Int) * ((1000 : Int) - x2) - 2).toNat) (by omega)).2.2 x2 v17 u gu ⟨by omega, by omega⟩ ⟨by omega, by omega⟩ (⟨(ag_trans ag (by (repeat (first | exact ag_refl | refine ag_up rfl ?_)))), by omega⟩) rfl)
            · refine ja_aload_n dforesee_130 rfl rfl ?_
              refine fa_left dforesee_131 ?_
              refine ja_iload dforesee_134 rfl ?_
              refine il_left (v := u 72 ((400 * (u 59 (a1).toNat)) + x2).toNat) rfl ⟨by omega, by omega⟩ dforesee_136 ?_
              have f18 := gC_left gu ((400 * (u 59 (a1).toNat)) + x2).toNat
              refine ja_goto 141 dforesee_137 rfl ?_
              refine ja_aload_n dforesee_141 rfl rfl ?_
              refine fa_ahead dforesee_142 ?_
              refine ja_iload dforesee_145 rfl ?_
              refine il_ahead (v := u 71 ((400 * (u 60 (a1).toNat)) + x2).toNat) rfl ⟨by omega, by omega⟩ dforesee_147 ?_
              have f19 := gC_ahead gu ((400 * (u 60 (a1).toNat)) + x2).toNat
              refine ja_iconst dforesee_148 ?_
              refine ja_icmp_ne 162 dforesee_149 rfl ⟨by omega, by omega⟩ ⟨by decide, by decide⟩ (fun c149 => ?_) (fun c149 => ?_)
              · refine ja_iconst dforesee_162 ?_
                refine mo_hiadd dforesee_163 (fun v20 rv20 => ?_)
                refine ja_istore dforesee_164 (by decide) (L2 := [(4, (0, v20)), (7, (0, ((400 * (u 60 (a1).toNat)) + x2))), (6, (0, ((400 * (u 59 (a1).toNat)) + x2))), (5, (0, (u 58 (a1).toNat))), (0, (2, ((0 : Nat) : Int))), (1, (0, a1)), (2, (0, x2)), (3, (0, x3))]) rfl ?_
                refine ja_goto 235 dforesee_166 rfl ?_
                exact ja_wk (fun q hq => by simp only [List.mem_cons, List.not_mem_nil, or_false] at hq; rcases hq with rfl | rfl | rfl | rfl <;> rfl) ((ih (((3 : Int) * ((1000 : Int) - x2) - 2).toNat) (by omega)).2.2 x2 v20 u gu ⟨by omega, by omega⟩ ⟨by omega, by omega⟩ (⟨(ag_trans ag (by (repeat (first | exact ag_refl | refine ag_up rfl ?_)))), by omega⟩) rfl)
              · refine ja_aload_n dforesee_152 rfl rfl ?_
                refine fa_left dforesee_153 ?_
                refine ja_iload dforesee_156 rfl ?_
                refine il_left (v := u 72 ((400 * (u 60 (a1).toNat)) + x2).toNat) rfl ⟨by omega, by omega⟩ dforesee_158 ?_
                have f21 := gC_left gu ((400 * (u 60 (a1).toNat)) + x2).toNat
                refine ja_goto 163 dforesee_159 rfl ?_
                refine mo_hiadd dforesee_163 (fun v22 rv22 => ?_)
                refine ja_istore dforesee_164 (by decide) (L2 := [(4, (0, v22)), (7, (0, ((400 * (u 60 (a1).toNat)) + x2))), (6, (0, ((400 * (u 59 (a1).toNat)) + x2))), (5, (0, (u 58 (a1).toNat))), (0, (2, ((0 : Nat) : Int))), (1, (0, a1)), (2, (0, x2)), (3, (0, x3))]) rfl ?_
                refine ja_goto 235 dforesee_166 rfl ?_
                exact ja_wk (fun q hq => by simp only [List.mem_cons, List.not_mem_nil, or_false] at hq; rcases hq with rfl | rfl | rfl | rfl <;> rfl) ((ih (((3 : Int) * ((1000 : Int) - x2) - 2).toNat) (by omega)).2.2 x2 v22 u gu ⟨by omega, by omega⟩ ⟨by omega, by omega⟩ (⟨(ag_trans ag (by (repeat (first | exact ag_refl | refine ag_up rfl ?_)))), by omega⟩) rfl)
          · refine ja_iload dforesee_84 rfl ?_
            refine ja_bipush 14 dforesee_86 rfl ?_
            refine ja_icmp_ne 169 dforesee_88 rfl ⟨by omega, by omega⟩ ⟨by decide, by decide⟩ (fun c88 => ?_) (fun c88 => ?_)
            · refine ja_iload dforesee_169 rfl ?_
              refine ja_bipush 15 dforesee_171 rfl ?_
              refine ja_icmp_ne 198 dforesee_173 rfl ⟨by omega, by omega⟩ ⟨by decide, by decide⟩ (fun c173 => ?_) (fun c173 => ?_)
              · refine ja_iload dforesee_198 rfl ?_
                refine ja_bipush 12 dforesee_200 rfl ?_
                refine ja_icmp_ne 232 dforesee_202 rfl ⟨by omega, by omega⟩ ⟨by decide, by decide⟩ (fun c202 => ?_) (fun c202 => ?_)
                · refine ja_iconst dforesee_232 ?_
                  refine ja_istore dforesee_233 (by decide) (L2 := [(4, (0, 1)), (5, (0, (u 58 (a1).toNat))), (0, (2, ((0 : Nat) : Int))), (1, (0, a1)), (2, (0, x2)), (3, (0, x3))]) rfl ?_
                  exact ja_wk (fun q hq => by simp only [List.mem_cons, List.not_mem_nil, or_false] at hq; rcases hq with rfl | rfl | rfl | rfl <;> rfl) ((ih (((3 : Int) * ((1000 : Int) - x2) - 2).toNat) (by omega)).2.2 x2 1 u gu ⟨by omega, by omega⟩ ⟨by decide, by decide⟩ (⟨(ag_trans ag (by (repeat (first | exact ag_refl | refine ag_up rfl ?_)))), by omega⟩) rfl)
                · refine ja_aload_n dforesee_205 rfl rfl ?_
                  refine fa_left dforesee_206 ?_
                  refine ja_sipush 400 dforesee_209 rfl ?_
                  refine ja_aload_n dforesee_212 rfl rfl ?_
                  refine fa_pickRoot dforesee_213 ?_
                  refine ja_aload_n dforesee_216 rfl rfl ?_
                  refine fa_nodeA dforesee_217 ?_
                  refine ja_iload_n dforesee_220 rfl rfl ?_
                  refine il_nodeA (v := u 59 (a1).toNat) rfl ⟨by omega, by omega⟩ dforesee_221 ?_
                  have f23 := gC_nodeA gu (a1).toNat
                  refine il_pickRoot (v := u 37 (u 59 (a1).toNat).toNat) rfl ⟨by omega, by omega⟩ dforesee_222 ?_
                  have f24 := gC_pickRoot gu (u 59 (a1).toNat).toNat
                  refine ja_imul dforesee_223 ?_
                  refine ja_iload_n dforesee_224 rfl rfl ?_
                  refine ja_iadd dforesee_225 ?_
                  refine il_left (v := u 72 ((400 * (u 37 (u 59 (a1).toNat).toNat)) + x2).toNat) rfl ⟨by omega, by omega⟩ dforesee_226 ?_
                  have f25 := gC_left gu ((400 * (u 37 (u 59 (a1).toNat).toNat)) + x2).toNat
                  refine ja_istore dforesee_227 (by decide) (L2 := [(4, (0, (u 72 ((400 * (u 37 (u 59 (a1).toNat).toNat)) + x2).toNat))), (5, (0, (u 58 (a1).toNat))), (0, (2, ((0 : Nat) : Int))), (1, (0, a1)), (2, (0, x2)), (3, (0, x3))]) rfl ?_
                  refine ja_goto 235 dforesee_229 rfl ?_
                  exact ja_wk (fun q hq => by simp only [List.mem_cons, List.not_mem_nil, or_false] at hq; rcases hq with rfl | rfl | rfl | rfl <;> rfl) ((ih (((3 : Int) * ((1000 : Int) - x2) - 2).toNat) (by omega)).2.2 x2 (u 72 ((400 * (u 37 (u 59 (a1).toNat).toNat)) + x2).toNat) u gu ⟨by omega, by omega⟩ ⟨by omega, by omega⟩ (⟨(ag_trans ag (by (repeat (first | exact ag_refl | refine ag_up rfl ?_)))), by omega⟩) rfl)
              · refine ja_aload_n dforesee_176 rfl rfl ?_
                refine fa_left dforesee_177 ?_
                refine ja_sipush 400 dforesee_180 rfl ?_
                refine ja_aload_n dforesee_183 rfl rfl ?_
                refine fa_nodeA dforesee_184 ?_
                refine ja_iload_n dforesee_187 rfl rfl ?_
                refine il_nodeA (v := u 59 (a1).toNat) rfl ⟨by omega, by omega⟩ dforesee_188 ?_
                have f26 := gC_nodeA gu (a1).toNat
                refine ja_imul dforesee_189 ?_
                refine ja_iload_n dforesee_190 rfl rfl ?_
                refine ja_iadd dforesee_191 ?_
                refine il_left (v := u 72 ((400 * (u 59 (a1).toNat)) + x2).toNat) rfl ⟨by omega, by omega⟩ dforesee_192 ?_
                have f27 := gC_left gu ((400 * (u 59 (a1).toNat)) + x2).toNat
                refine ja_istore dforesee_193 (by decide) (L2 := [(4, (0, (u 72 ((400 * (u 59 (a1).toNat)) + x2).toNat))), (5, (0, (u 58 (a1).toNat))), (0, (2, ((0 : Nat) : Int))), (1, (0, a1)), (2, (0, x2)), (3, (0, x3))]) rfl ?_
                refine ja_goto 235 dforesee_195 rfl ?_
                exact ja_wk (fun q hq => by simp only [List.mem_cons, List.not_mem_nil, or_false] at hq; rcases hq with rfl | rfl | rfl | rfl <;> rfl) ((ih (((3 : Int) * ((1000 : Int) - x2) - 2).toNat) (by omega)).2.2 x2 (u 72 ((400 * (u 59 (a1).toNat)) + x2).toNat) u gu ⟨by omega, by omega⟩ ⟨by omega, by omega⟩ (⟨(ag_trans ag (by (repeat (first | exact ag_refl | refine ag_up rfl ?_)))), by omega⟩) rfl)
            · refine ja_sipush 400 dforesee_91 rfl ?_
              refine ja_aload_n dforesee_94 rfl rfl ?_
              refine fa_nodeA dforesee_95 ?_
              refine ja_iload_n dforesee_98 rfl rfl ?_
              refine il_nodeA (v := u 59 (a1).toNat) rfl ⟨by omega, by omega⟩ dforesee_99 ?_
              have f28 := gC_nodeA gu (a1).toNat
              refine ja_imul dforesee_100 ?_
              refine ja_iload_n dforesee_101 rfl rfl ?_
              refine ja_iadd dforesee_102 ?_
              refine ja_istore dforesee_103 (by decide) (L2 := [(6, (0, ((400 * (u 59 (a1).toNat)) + x2))), (5, (0, (u 58 (a1).toNat))), (4, (0, 0)), (0, (2, ((0 : Nat) : Int))), (1, (0, a1)), (2, (0, x2)), (3, (0, x3))]) rfl ?_
              refine ja_sipush 400 dforesee_105 rfl ?_
              refine ja_aload_n dforesee_108 rfl rfl ?_
              refine fa_nodeB dforesee_109 ?_
              refine ja_iload_n dforesee_112 rfl rfl ?_
              refine il_nodeB (v := u 60 (a1).toNat) rfl ⟨by omega, by omega⟩ dforesee_113 ?_
              have f29 := gC_nodeB gu (a1).toNat
              refine ja_imul dforesee_114 ?_
              refine ja_iload_n dforesee_115 rfl rfl ?_
              refine ja_iadd dforesee_116 ?_
              refine ja_istore dforesee_117 (by decide) (L2 := [(7, (0, ((400 * (u 60 (a1).toNat)) + x2))), (6, (0, ((400 * (u 59 (a1).toNat)) + x2))), (5, (0, (u 58 (a1).toNat))), (4, (0, 0)), (0, (2, ((0 : Nat) : Int))), (1, (0, a1)), (2, (0, x2)), (3, (0, x3))]) rfl ?_
              refine ja_aload_n dforesee_119 rfl rfl ?_
              refine fa_ahead dforesee_120 ?_
              refine ja_iload dforesee_123 rfl ?_
              refine il_ahead (v := u 71 ((400 * (u 59 (a1).toNat)) + x2).toNat) rfl ⟨by omega, by omega⟩ dforesee_125 ?_
              have f30 := gC_ahead gu ((400 * (u 59 (a1).toNat)) + x2).toNat
              refine ja_iconst dforesee_126 ?_
              refine ja_icmp_ne 140 dforesee_127 rfl ⟨by omega, by omega⟩ ⟨by decide, by decide⟩ (fun c127 => ?_) (fun c127 => ?_)
              · refine ja_iconst dforesee_140 ?_
                refine ja_aload_n dforesee_141 rfl rfl ?_
                refine fa_ahead dforesee_142 ?_
                refine ja_iload dforesee_145 rfl ?_
                refine il_ahead (v := u 71 ((400 * (u 60 (a1).toNat)) + x2).toNat) rfl ⟨by omega, by omega⟩ dforesee_147 ?_
                have f31 := gC_ahead gu ((400 * (u 60 (a1).toNat)) + x2).toNat
                refine ja_iconst dforesee_148 ?_
                refine ja_icmp_ne 162 dforesee_149 rfl ⟨by omega, by omega⟩ ⟨by decide, by decide⟩ (fun c149 => ?_) (fun c149 => ?_)
                · refine ja_iconst dforesee_162 ?_
                  refine mo_hiadd dforesee_163 (fun v32 rv32 => ?_)
                  refine ja_istore dforesee_164 (by decide) (L2 := [(4, (0, v32)), (7, (0, ((400 * (u 60 (a1).toNat)) + x2))), (6, (0, ((400 * (u 59 (a1).toNat)) + x2))), (5, (0, (u 58 (a1).toNat))), (0, (2, ((0 : Nat) : Int))), (1, (0, a1)), (2, (0, x2)), (3, (0, x3))]) rfl ?_
                  refine ja_goto 235 dforesee_166 rfl ?_
                  exact ja_wk (fun q hq => by simp only [List.mem_cons, List.not_mem_nil, or_false] at hq; rcases hq with rfl | rfl | rfl | rfl <;> rfl) ((ih (((3 : Int) * ((1000 : Int) - x2) - 2).toNat) (by omega)).2.2 x2 v32 u gu ⟨by omega, by omega⟩ ⟨by omega, by omega⟩ (⟨(ag_trans ag (by (repeat (first | exact ag_refl | refine ag_up rfl ?_)))), by omega⟩) rfl)
                · refine ja_aload_n dforesee_152 rfl rfl ?_
                  refine fa_left dforesee_153 ?_
                  refine ja_iload dforesee_156 rfl ?_
                  refine il_left (v := u 72 ((400 * (u 60 (a1).toNat)) + x2).toNat) rfl ⟨by omega, by omega⟩ dforesee_158 ?_
                  have f33 := gC_left gu ((400 * (u 60 (a1).toNat)) + x2).toNat
                  refine ja_goto 163 dforesee_159 rfl ?_
                  refine mo_hiadd dforesee_163 (fun v34 rv34 => ?_)
                  refine ja_istore dforesee_164 (by decide) (L2 := [(4, (0, v34)), (7, (0, ((400 * (u 60 (a1).toNat)) + x2))), (6, (0, ((400 * (u 59 (a1).toNat)) + x2))), (5, (0, (u 58 (a1).toNat))), (0, (2, ((0 : Nat) : Int))), (1, (0, a1)), (2, (0, x2)), (3, (0, x3))]) rfl ?_
                  refine ja_goto 235 dforesee_166 rfl ?_
                  exact ja_wk (fun q hq => by simp only [List.mem_cons, List.not_mem_nil, or_false] at hq; rcases hq with rfl | rfl | rfl | rfl <;> rfl) ((ih (((3 : Int) * ((1000 : Int) - x2) - 2).toNat) (by omega)).2.2 x2 v34 u gu ⟨by omega, by omega⟩ ⟨by omega, by omega⟩ (⟨(ag_trans ag (by (repeat (first | exact ag_refl | refine ag_up rfl ?_)))), by omega⟩) rfl)
              · refine ja_aload_n dforesee_130 rfl rfl ?_
                refine fa_left dforesee_131 ?_
                refine ja_iload dforesee_134 rfl ?_
                refine il_left (v := u 72 ((400 * (u 59 (a1).toNat)) + x2).toNat) rfl ⟨by omega, by omega⟩ dforesee_136 ?_
                have f35 := gC_left gu ((400 * (u 59 (a1).toNat)) + x2).toNat
                refine ja_goto 141 dforesee_137 rfl ?_
                refine ja_aload_n dforesee_141 rfl rfl ?_
                refine fa_ahead dforesee_142 ?_
                refine ja_iload dforesee_145 rfl ?_
                refine il_ahead (v := u 71 ((400 * (u 60 (a1).toNat)) + x2).toNat) rfl ⟨by omega, by omega⟩ dforesee_147 ?_
                have f36 := gC_ahead gu ((400 * (u 60 (a1).toNat)) + x2).toNat
                refine ja_iconst dforesee_148 ?_
                refine ja_icmp_ne 162 dforesee_149 rfl ⟨by omega, by omega⟩ ⟨by decide, by decide⟩ (fun c149 => ?_) (fun c149 => ?_)
                · refine ja_iconst dforesee_162 ?_
                  refine mo_hiadd dforesee_163 (fun v37 rv37 => ?_)
                  refine ja_istore dforesee_164 (by decide) (L2 := [(4, (0, v37)), (7, (0, ((400 * (u 60 (a1).toNat)) + x2))), (6, (0, ((400 * (u 59 (a1).toNat)) + x2))), (5, (0, (u 58 (a1).toNat))), (0, (2, ((0 : Nat) : Int))), (1, (0, a1)), (2, (0, x2)), (3, (0, x3))]) rfl ?_
                  refine ja_goto 235 dforesee_166 rfl ?_
                  exact ja_wk (fun q hq => by simp only [List.mem_cons, List.not_mem_nil, or_false] at hq; rcases hq with rfl | rfl | rfl | rfl <;> rfl) ((ih (((3 : Int) * ((1000 : Int) - x2) - 2).toNat) (by omega)).2.2 x2 v37 u gu ⟨by omega, by omega⟩ ⟨by omega, by omega⟩ (⟨(ag_trans ag (by (repeat (first | exact ag_refl | refine ag_up rfl ?_)))), by omega⟩) rfl)
                · refine ja_aload_n dforesee_152 rfl rfl ?_
                  refine fa_left dforesee_153 ?_
                  refine ja_iload dforesee_156 rfl ?_
                  refine il_left (v := u 72 ((400 * (u 60 (a1).toNat)) + x2).toNat) rfl ⟨by omega, by omega⟩ dforesee_158 ?_
                  have f38 := gC_left gu ((400 * (u 60 (a1).toNat)) + x2).toNat
                  refine ja_goto 163 dforesee_159 rfl ?_
                  refine mo_hiadd dforesee_163 (fun v39 rv39 => ?_)
                  refine ja_istore dforesee_164 (by decide) (L2 := [(4, (0, v39)), (7, (0, ((400 * (u 60 (a1).toNat)) + x2))), (6, (0, ((400 * (u 59 (a1).toNat)) + x2))), (5, (0, (u 58 (a1).toNat))), (0, (2, ((0 : Nat) : Int))), (1, (0, a1)), (2, (0, x2)), (3, (0, x3))]) rfl ?_
                  refine ja_goto 235 dforesee_166 rfl ?_
                  exact ja_wk (fun q hq => by simp only [List.mem_cons, List.not_mem_nil, or_false] at hq; rcases hq with rfl | rfl | rfl | rfl <;> rfl) ((ih (((3 : Int) * ((1000 : Int) - x2) - 2).toNat) (by omega)).2.2 x2 v39 u gu ⟨by omega, by omega⟩ ⟨by omega, by omega⟩ (⟨(ag_trans ag (by (repeat (first | exact ag_refl | refine ag_up rfl ?_)))), by omega⟩) rfl)
      · intro x2 x4 u gu qx2 qx4 iv hm
        subst hm
        have ku_points := gF_points gu
        obtain ⟨ag, i2, i3⟩ := iv
        have nd := nd_ag (ag_sub (X_sub (by decide) (by decide)) ag) p2
        obtain ⟨nd1, nd2, nd3, nd4⟩ := nd
        have e_points : (u 0 88) = (h 0 88) := ag 0 88 rfl
        refine ja_aload_n dforesee_235 rfl rfl ?_
        refine fa_left dforesee_236 ?_
        refine ja_sipush 400 dforesee_239 rfl ?_
        refine ja_iload_n dforesee_242 rfl rfl ?_
        refine ja_imul dforesee_243 ?_
        refine ja_iload_n dforesee_244 rfl rfl ?_
        refine ja_iadd dforesee_245 ?_
        refine ja_iload dforesee_246 rfl ?_
        have g40 := gW_left gu ((400 * a1) + x2).toNat (x := x4) ⟨by omega, by omega⟩
        refine is_left ⟨by omega, by omega⟩ dforesee_248 ?_
        refine ja_iinc dforesee_249 rfl (by decide) (L2 := [(2, (0, (x2 + 1))), (0, (2, ((0 : Nat) : Int))), (1, (0, a1)), (4, (0, x4))]) rfl ?_
        refine ja_goto 9 dforesee_252 rfl ?_
        exact ja_wk (fun q hq => by simp only [List.mem_cons, List.not_mem_nil, or_false] at hq; rcases hq with rfl | rfl | rfl <;> rfl) ((ih (((3 : Int) * ((1000 : Int) - (x2 + 1))).toNat) (by omega)).1 (x2 + 1) (ja_up u 72 (((400 * a1) + x2).toNat) x4) g40 ⟨by omega, by omega⟩ (⟨(ag_trans ag (by (repeat (first | exact ag_refl | refine ag_up rfl ?_)))), by omega⟩) rfl)
  refine ja_aload_n dforesee_0 rfl rfl ?_
  refine fa_never dforesee_1 ?_
  refine ja_iload_n dforesee_4 rfl rfl ?_
  refine ja_iconst dforesee_5 ?_
  have g41 := gW_never g (a1).toNat (x := 1) ⟨by decide, by decide⟩
  refine is_never ⟨by omega, by omega⟩ (by omega) dforesee_6 ?_
  refine ja_iconst dforesee_7 ?_
  refine ja_istore_n dforesee_8 rfl (by decide) (L2 := [(2, (0, 0)), (0, (2, ((0 : Nat) : Int))), (1, (0, a1))]) rfl ?_
  exact ja_wk (fun q hq => by simp only [List.mem_cons, List.not_mem_nil, or_false] at hq; rcases hq with rfl | rfl | rfl <;> rfl) ((CUT _).1 0 (ja_up h 73 ((a1).toNat) 1) g41 ⟨by decide, by decide⟩ (⟨(by (repeat (first | exact ag_refl | refine ag_up rfl ?_))), by omega⟩) rfl)
theorem t_foresee {a1 : Int} {d nL pc : Nat} {cc : ByteArray} {rt : Option FieldType} {L : List (Nat × ja_V)} {S : List ja_V} {h : ja_H} {Q : Option ja_V → ja_H → Prop} (hdd : 6 < d) (hwd : ja_wd S ≤ 8) (hd : decode cc pc = .ok (.invokevirtual 936, 3)) (g : mo_G mo_zr h) (r1 : -2147483648 ≤ a1 ∧ a1 ≤ 2147483647) (p1 : 0 ≤ a1 ∧ a1 ≤ 899) (p2 : ndK h a1.toNat) (p3 : ∀ p : Nat, (p : Int) < (h 0 88) → ptK h p) (k1 : ∀ (h' : ja_H), (mo_ag FFO h h') → mo_G mo_zr h' → mJ l D cA ad d cc nL rt (pc + 3) L S h' Q) : mJ l D cA ad d cc nL rt pc L ((0, a1) :: (2, ((0 : Nat) : Int)) :: S) h Q :=
  mc_foresee hdd hwd hd (s_foresee g r1 p1 p2 p3 k1)
end
