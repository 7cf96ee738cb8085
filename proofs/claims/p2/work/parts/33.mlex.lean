/-! the reference: its lexer (written by a program) -/
variable {Zz : Zc}
theorem dlineOf_0 : decode cX12_lineOf 0 = .ok (.iconst 1, 1) := by decide +kernel
theorem dlineOf_1 : decode cX12_lineOf 1 = .ok (.istore_n 2, 1) := by decide +kernel
theorem dlineOf_2 : decode cX12_lineOf 2 = .ok (.iconst 0, 1) := by decide +kernel
theorem dlineOf_3 : decode cX12_lineOf 3 = .ok (.istore_n 3, 1) := by decide +kernel
theorem dlineOf_4 : decode cX12_lineOf 4 = .ok (.iload_n 3, 1) := by decide +kernel
theorem dlineOf_5 : decode cX12_lineOf 5 = .ok (.iload_n 1, 1) := by decide +kernel
theorem dlineOf_6 : decode cX12_lineOf 6 = .ok (.if_icmp .ge 36, 3) := by decide +kernel
theorem dlineOf_9 : decode cX12_lineOf 9 = .ok (.iload_n 3, 1) := by decide +kernel
theorem dlineOf_10 : decode cX12_lineOf 10 = .ok (.aload_n 0, 1) := by decide +kernel
theorem dlineOf_11 : decode cX12_lineOf 11 = .ok (.getfield 427, 3) := by decide +kernel
theorem dlineOf_14 : decode cX12_lineOf 14 = .ok (.if_icmp .ge 28, 3) := by decide +kernel
theorem dlineOf_17 : decode cX12_lineOf 17 = .ok (.aload_n 0, 1) := by decide +kernel
theorem dlineOf_18 : decode cX12_lineOf 18 = .ok (.getfield 7, 3) := by decide +kernel
theorem dlineOf_21 : decode cX12_lineOf 21 = .ok (.iload_n 3, 1) := by decide +kernel
theorem dlineOf_22 : decode cX12_lineOf 22 = .ok (.iaload, 1) := by decide +kernel
theorem dlineOf_23 : decode cX12_lineOf 23 = .ok (.bipush 10, 2) := by decide +kernel
theorem dlineOf_25 : decode cX12_lineOf 25 = .ok (.if_icmp .ne 9, 3) := by decide +kernel
theorem dlineOf_28 : decode cX12_lineOf 28 = .ok (.iload_n 2, 1) := by decide +kernel
theorem dlineOf_29 : decode cX12_lineOf 29 = .ok (.iconst 1, 1) := by decide +kernel
theorem dlineOf_30 : decode cX12_lineOf 30 = .ok (.iadd, 1) := by decide +kernel
theorem dlineOf_31 : decode cX12_lineOf 31 = .ok (.goto 4, 3) := by decide +kernel
theorem dlineOf_34 : decode cX12_lineOf 34 = .ok (.iload_n 2, 1) := by decide +kernel
theorem dlineOf_35 : decode cX12_lineOf 35 = .ok (.istore_n 2, 1) := by decide +kernel
theorem dlineOf_36 : decode cX12_lineOf 36 = .ok (.iinc 3 1, 3) := by decide +kernel
theorem dlineOf_39 : decode cX12_lineOf 39 = .ok (.goto (-35), 3) := by decide +kernel
theorem dlineOf_42 : decode cX12_lineOf 42 = .ok (.iload_n 2, 1) := by decide +kernel
theorem dlineOf_43 : decode cX12_lineOf 43 = .ok (.ireturn, 1) := by decide +kernel
section
variable {l : Launch} {D : va_G} {cA : Nat → ClassId} {ad : Nat → Nat}
theorem s_lineOf {a1 : Int} {h : ja_H} {Q : Option ja_V → ja_H → Prop} (g : mo_G Zz h) (r1 : -2147483648 ≤ a1 ∧ a1 ≤ 2147483647) (k1 : ∀ (v : Int), (1 ≤ v ∧ v ≤ 5001) → Q (some (0, v)) h) : mM_lineOf l D cA ad a1 h Q := by
  show mJ l D cA ad 1 cX12_lineOf 4 (some .int) 0 [(0, (2, ((0 : Nat) : Int))), (1, (0, a1))] [] h Q
  have kn_size := gF_size g
  have CUT : ∀ n : Nat, (∀ (x2 x3 : Int), (-2147483648 ≤ x2 ∧ x2 ≤ 2147483647) → (-2147483648 ≤ x3 ∧ x3 ≤ 2147483647) → (0 ≤ x3 ∧ x3 ≤ 5000 ∧ 1 ≤ x2 ∧ x2 ≤ x3 + 1) → ((5001 - x3).toNat) = n → mJ l D cA ad 1 cX12_lineOf 4 (some .int) 4 [(0, (2, ((0 : Nat) : Int))), (1, (0, a1)), (2, (0, x2)), (3, (0, x3))] [] h Q) := by
    intro n
    induction n using Nat.strongRecOn with
    | _ n ih =>
      skip
      · intro x2 x3 qx2 qx3 iv hm
        subst hm
        refine ja_iload_n dlineOf_4 rfl rfl ?_
        refine ja_iload_n dlineOf_5 rfl rfl ?_
        refine ja_icmp_ge 42 dlineOf_6 rfl ⟨by omega, by omega⟩ ⟨by omega, by omega⟩ (fun c6 => ?_) (fun c6 => ?_)
        · refine ja_iload_n dlineOf_42 rfl rfl ?_
          refine ja_ireturn dlineOf_43 rfl ?_
          exact mo_fin (by omega) rfl (k1 x2 (by omega))
        · refine ja_iload_n dlineOf_9 rfl rfl ?_
          refine ja_aload_n dlineOf_10 rfl rfl ?_
          refine fg_size (v := h 0 1) rfl dlineOf_11 ?_
          have f1 := gF_size g
          refine ja_icmp_ge 42 dlineOf_14 rfl ⟨by omega, by omega⟩ ⟨by omega, by omega⟩ (fun c14 => ?_) (fun c14 => ?_)
          · refine ja_iload_n dlineOf_42 rfl rfl ?_
            refine ja_ireturn dlineOf_43 rfl ?_
            exact mo_fin (by omega) rfl (k1 x2 (by omega))
          · refine ja_aload_n dlineOf_17 rfl rfl ?_
            refine fa_text dlineOf_18 ?_
            refine ja_iload_n dlineOf_21 rfl rfl ?_
            refine il_text (v := h 1 (x3).toNat) rfl ⟨by omega, by omega⟩ dlineOf_22 ?_
            have f2 := gC_text g (x3).toNat
            refine ja_bipush 10 dlineOf_23 rfl ?_
            refine ja_icmp_ne 34 dlineOf_25 rfl ⟨by omega, by omega⟩ ⟨by decide, by decide⟩ (fun c25 => ?_) (fun c25 => ?_)
            · refine ja_iload_n dlineOf_34 rfl rfl ?_
              refine ja_istore_n dlineOf_35 rfl (by decide) (L2 := [(2, (0, x2)), (0, (2, ((0 : Nat) : Int))), (1, (0, a1)), (3, (0, x3))]) rfl ?_
              refine ja_iinc dlineOf_36 rfl (by decide) (L2 := [(3, (0, (x3 + 1))), (2, (0, x2)), (0, (2, ((0 : Nat) : Int))), (1, (0, a1))]) rfl ?_
              refine ja_goto 4 dlineOf_39 rfl ?_
              exact ja_wk (fun q hq => by simp only [List.mem_cons, List.not_mem_nil, or_false] at hq; rcases hq with rfl | rfl | rfl | rfl <;> rfl) ((ih ((5001 - (x3 + 1)).toNat) (by omega)) x2 (x3 + 1)  ⟨by omega, by omega⟩ ⟨by omega, by omega⟩ (show 0 ≤ (x3 + 1) ∧ (x3 + 1) ≤ 5000 ∧ 1 ≤ x2 ∧ x2 ≤ (x3 + 1) + 1 by omega) rfl)
            · refine ja_iload_n dlineOf_28 rfl rfl ?_
              refine ja_iconst dlineOf_29 ?_
              refine ja_iadd dlineOf_30 ?_
              refine ja_goto 35 dlineOf_31 rfl ?_
              refine ja_istore_n dlineOf_35 rfl (by decide) (L2 := [(2, (0, (x2 + 1))), (0, (2, ((0 : Nat) : Int))), (1, (0, a1)), (3, (0, x3))]) rfl ?_
              refine ja_iinc dlineOf_36 rfl (by decide) (L2 := [(3, (0, (x3 + 1))), (2, (0, (x2 + 1))), (0, (2, ((0 : Nat) : Int))), (1, (0, a1))]) rfl ?_
              refine ja_goto 4 dlineOf_39 rfl ?_
              exact ja_wk (fun q hq => by simp only [List.mem_cons, List.not_mem_nil, or_false] at hq; rcases hq with rfl | rfl | rfl | rfl <;> rfl) ((ih ((5001 - (x3 + 1)).toNat) (by omega)) (x2 + 1) (x3 + 1)  ⟨by omega, by omega⟩ ⟨by omega, by omega⟩ (show 0 ≤ (x3 + 1) ∧ (x3 + 1) ≤ 5000 ∧ 1 ≤ (x2 + 1) ∧ (x2 + 1) ≤ (x3 + 1) + 1 by omega) rfl)
  refine ja_iconst dlineOf_0 ?_
  refine ja_istore_n dlineOf_1 rfl (by decide) (L2 := [(2, (0, 1)), (0, (2, ((0 : Nat) : Int))), (1, (0, a1))]) rfl ?_
  refine ja_iconst dlineOf_2 ?_
  refine ja_istore_n dlineOf_3 rfl (by decide) (L2 := [(3, (0, 0)), (2, (0, 1)), (0, (2, ((0 : Nat) : Int))), (1, (0, a1))]) rfl ?_
  exact ja_wk (fun q hq => by simp only [List.mem_cons, List.not_mem_nil, or_false] at hq; rcases hq with rfl | rfl | rfl | rfl <;> rfl) ((CUT _) 1 0  ⟨by decide, by decide⟩ ⟨by decide, by decide⟩ (show 0 ≤ 0 ∧ 0 ≤ 5000 ∧ 1 ≤ 1 ∧ 1 ≤ 0 + 1 by omega) rfl)
theorem t_lineOf {a1 : Int} {d nL pc : Nat} {cc : ByteArray} {rt : Option FieldType} {L : List (Nat × ja_V)} {S : List ja_V} {h : ja_H} {Q : Option ja_V → ja_H → Prop} (hdd : 1 < d) (hwd : ja_wd S ≤ 8) (hd : decode cc pc = .ok (.invokevirtual 641, 3)) (g : mo_G Zz h) (r1 : -2147483648 ≤ a1 ∧ a1 ≤ 2147483647) (k1 : ∀ (v : Int), (1 ≤ v ∧ v ≤ 5001) → mJ l D cA ad d cc nL rt (pc + 3) L ((0, v) :: S) h Q) : mJ l D cA ad d cc nL rt pc L ((0, a1) :: (2, ((0 : Nat) : Int)) :: S) h Q :=
  mc_lineOf hdd hwd hd (s_lineOf g r1 k1)
end
theorem dskip_0 : decode cX12_skip 0 = .ok (.iload_n 1, 1) := by decide +kernel
theorem dskip_1 : decode cX12_skip 1 = .ok (.istore_n 2, 1) := by decide +kernel
theorem dskip_2 : decode cX12_skip 2 = .ok (.iconst 1, 1) := by decide +kernel
theorem dskip_3 : decode cX12_skip 3 = .ok (.istore_n 3, 1) := by decide +kernel
theorem dskip_4 : decode cX12_skip 4 = .ok (.iload_n 3, 1) := by decide +kernel
theorem dskip_5 : decode cX12_skip 5 = .ok (.ifCond .eq 93, 3) := by decide +kernel
theorem dskip_8 : decode cX12_skip 8 = .ok (.aload_n 0, 1) := by decide +kernel
theorem dskip_9 : decode cX12_skip 9 = .ok (.iload_n 2, 1) := by decide +kernel
theorem dskip_10 : decode cX12_skip 10 = .ok (.invokevirtual 437, 3) := by decide +kernel
theorem dskip_13 : decode cX12_skip 13 = .ok (.istore 4, 2) := by decide +kernel
theorem dskip_15 : decode cX12_skip 15 = .ok (.iload 4, 2) := by decide +kernel
theorem dskip_17 : decode cX12_skip 17 = .ok (.bipush 32, 2) := by decide +kernel
theorem dskip_19 : decode cX12_skip 19 = .ok (.if_icmp .eq 24, 3) := by decide +kernel
theorem dskip_22 : decode cX12_skip 22 = .ok (.iload 4, 2) := by decide +kernel
theorem dskip_24 : decode cX12_skip 24 = .ok (.bipush 9, 2) := by decide +kernel
theorem dskip_26 : decode cX12_skip 26 = .ok (.if_icmp .eq 17, 3) := by decide +kernel
theorem dskip_29 : decode cX12_skip 29 = .ok (.iload 4, 2) := by decide +kernel
theorem dskip_31 : decode cX12_skip 31 = .ok (.bipush 13, 2) := by decide +kernel
theorem dskip_33 : decode cX12_skip 33 = .ok (.if_icmp .eq 10, 3) := by decide +kernel
theorem dskip_36 : decode cX12_skip 36 = .ok (.iload 4, 2) := by decide +kernel
theorem dskip_38 : decode cX12_skip 38 = .ok (.bipush 10, 2) := by decide +kernel
theorem dskip_40 : decode cX12_skip 40 = .ok (.if_icmp .ne 9, 3) := by decide +kernel
theorem dskip_43 : decode cX12_skip 43 = .ok (.iinc 2 1, 3) := by decide +kernel
theorem dskip_46 : decode cX12_skip 46 = .ok (.goto 49, 3) := by decide +kernel
theorem dskip_49 : decode cX12_skip 49 = .ok (.iload 4, 2) := by decide +kernel
theorem dskip_51 : decode cX12_skip 51 = .ok (.bipush 47, 2) := by decide +kernel
theorem dskip_53 : decode cX12_skip 53 = .ok (.if_icmp .ne 40, 3) := by decide +kernel
theorem dskip_56 : decode cX12_skip 56 = .ok (.aload_n 0, 1) := by decide +kernel
theorem dskip_57 : decode cX12_skip 57 = .ok (.iload_n 2, 1) := by decide +kernel
theorem dskip_58 : decode cX12_skip 58 = .ok (.iconst 1, 1) := by decide +kernel
theorem dskip_59 : decode cX12_skip 59 = .ok (.iadd, 1) := by decide +kernel
theorem dskip_60 : decode cX12_skip 60 = .ok (.invokevirtual 437, 3) := by decide +kernel
theorem dskip_63 : decode cX12_skip 63 = .ok (.bipush 47, 2) := by decide +kernel
theorem dskip_65 : decode cX12_skip 65 = .ok (.if_icmp .ne 28, 3) := by decide +kernel
theorem dskip_68 : decode cX12_skip 68 = .ok (.iload_n 2, 1) := by decide +kernel
theorem dskip_69 : decode cX12_skip 69 = .ok (.aload_n 0, 1) := by decide +kernel
theorem dskip_70 : decode cX12_skip 70 = .ok (.getfield 427, 3) := by decide +kernel
theorem dskip_73 : decode cX12_skip 73 = .ok (.if_icmp .ge 22, 3) := by decide +kernel
theorem dskip_76 : decode cX12_skip 76 = .ok (.aload_n 0, 1) := by decide +kernel
theorem dskip_77 : decode cX12_skip 77 = .ok (.getfield 7, 3) := by decide +kernel
theorem dskip_80 : decode cX12_skip 80 = .ok (.iload_n 2, 1) := by decide +kernel
theorem dskip_81 : decode cX12_skip 81 = .ok (.iaload, 1) := by decide +kernel
theorem dskip_82 : decode cX12_skip 82 = .ok (.bipush 10, 2) := by decide +kernel
theorem dskip_84 : decode cX12_skip 84 = .ok (.if_icmp .eq 11, 3) := by decide +kernel
theorem dskip_87 : decode cX12_skip 87 = .ok (.iinc 2 1, 3) := by decide +kernel
theorem dskip_90 : decode cX12_skip 90 = .ok (.goto (-22), 3) := by decide +kernel
theorem dskip_93 : decode cX12_skip 93 = .ok (.iconst 0, 1) := by decide +kernel
theorem dskip_94 : decode cX12_skip 94 = .ok (.istore_n 3, 1) := by decide +kernel
theorem dskip_95 : decode cX12_skip 95 = .ok (.goto (-91), 3) := by decide +kernel
theorem dskip_98 : decode cX12_skip 98 = .ok (.iload_n 2, 1) := by decide +kernel
theorem dskip_99 : decode cX12_skip 99 = .ok (.ireturn, 1) := by decide +kernel
section
variable {l : Launch} {D : va_G} {cA : Nat → ClassId} {ad : Nat → Nat}
theorem s_skip {a1 : Int} {h : ja_H} {Q : Option ja_V → ja_H → Prop} (g : mo_G Zz h) (r1 : -2147483648 ≤ a1 ∧ a1 ≤ 2147483647) (p1 : 0 ≤ a1 ∧ a1 ≤ 5001) (k1 : ∀ (v : Int), (a1 ≤ v ∧ v ≤ 5001) → Q (some (0, v)) h) : mM_skip l D cA ad a1 h Q := by
  show mJ l D cA ad 2 cX12_skip 5 (some .int) 0 [(0, (2, ((0 : Nat) : Int))), (1, (0, a1))] [] h Q
  have kn_size := gF_size g
  have CUT : ∀ n : Nat, (∀ (x2 x3 : Int), (-2147483648 ≤ x2 ∧ x2 ≤ 2147483647) → (-2147483648 ≤ x3 ∧ x3 ≤ 2147483647) → (0 ≤ x3 ∧ x3 ≤ 1 ∧ a1 ≤ x2 ∧ x2 ≤ 5001) → ((3 * (5002 - x2) + x3).toNat) = n → mJ l D cA ad 2 cX12_skip 5 (some .int) 4 [(0, (2, ((0 : Nat) : Int))), (2, (0, x2)), (3, (0, x3))] [] h Q) ∧ (∀ (x2 x3 : Int), (-2147483648 ≤ x2 ∧ x2 ≤ 2147483647) → (-2147483648 ≤ x3 ∧ x3 ≤ 2147483647) → (x3 = 1 ∧ a1 ≤ x2 ∧ x2 ≤ 5001) → ((3 * (5002 - x2) + (if x2 < (h 0 1) ∧ (h 1 (x2).toNat) ≠ 10 then 0 else 2)).toNat) = n → mJ l D cA ad 2 cX12_skip 5 (some .int) 68 [(0, (2, ((0 : Nat) : Int))), (2, (0, x2)), (3, (0, x3))] [] h Q) := by
    intro n
    induction n using Nat.strongRecOn with
    | _ n ih =>
      refine ⟨?_, ?_⟩
      · intro x2 x3 qx2 qx3 iv hm
        subst hm
        refine ja_iload_n dskip_4 rfl rfl ?_
        refine ja_if_eq 98 dskip_5 rfl ⟨by omega, by omega⟩ (fun c5 => ?_) (fun c5 => ?_)
        · refine ja_iload_n dskip_98 rfl rfl ?_
          refine ja_ireturn dskip_99 rfl ?_
          exact mo_fin (by omega) rfl (k1 x2 (by omega))
        · refine ja_aload_n dskip_8 rfl rfl ?_
          refine ja_iload_n dskip_9 rfl rfl ?_
          refine t_byteAt (by decide) (show (0 : Nat) ≤ 8 by decide) dskip_10 g ⟨by omega, by omega⟩ (show 0 ≤ x2 by omega) ?_
          intro w1 k10_0
          refine ja_istore dskip_13 (by decide) (L2 := [(4, (0, w1)), (0, (2, ((0 : Nat) : Int))), (2, (0, x2)), (3, (0, x3))]) rfl ?_
          refine ja_iload dskip_15 rfl ?_
          refine ja_bipush 32 dskip_17 rfl ?_
          refine ja_icmp_eq 43 dskip_19 rfl ⟨by omega, by omega⟩ ⟨by decide, by decide⟩ (fun c19 => ?_) (fun c19 => ?_)
          · refine ja_iinc dskip_43 rfl (by decide) (L2 := [(2, (0, (x2 + 1))), (4, (0, w1)), (0, (2, ((0 : Nat) : Int))), (3, (0, x3))]) rfl ?_
            refine ja_goto 95 dskip_46 rfl ?_
            refine ja_goto 4 dskip_95 rfl ?_
            exact ja_wk (fun q hq => by simp only [List.mem_cons, List.not_mem_nil, or_false] at hq; rcases hq with rfl | rfl | rfl <;> rfl) ((ih ((3 * (5002 - (x2 + 1)) + x3).toNat) (by omega)).1 (x2 + 1) x3  ⟨by omega, by omega⟩ ⟨by omega, by omega⟩ (show 0 ≤ x3 ∧ x3 ≤ 1 ∧ a1 ≤ (x2 + 1) ∧ (x2 + 1) ≤ 5001 by omega) rfl)
          · refine ja_iload dskip_22 rfl ?_
            refine ja_bipush 9 dskip_24 rfl ?_
            refine ja_icmp_eq 43 dskip_26 rfl ⟨by omega, by omega⟩ ⟨by decide, by decide⟩ (fun c26 => ?_) (fun c26 => ?_)
            · refine ja_iinc dskip_43 rfl (by decide) (L2 := [(2, (0, (x2 + 1))), (4, (0, w1)), (0, (2, ((0 : Nat) : Int))), (3, (0, x3))]) rfl ?_
              refine ja_goto 95 dskip_46 rfl ?_
              refine ja_goto 4 dskip_95 rfl ?_
              exact ja_wk (fun q hq => by simp only [List.mem_cons, List.not_mem_nil, or_false] at hq; rcases hq with rfl | rfl | rfl <;> rfl) ((ih ((3 * (5002 - (x2 + 1)) + x3).toNat) (by omega)).1 (x2 + 1) x3  ⟨by omega, by omega⟩ ⟨by omega, by omega⟩ (show 0 ≤ x3 ∧ x3 ≤ 1 ∧ a1 ≤ (x2 + 1) ∧ (x2 + 1) ≤ 5001 by omega) rfl)
            · refine ja_iload dskip_29 rfl ?_
              refine ja_bipush 13 dskip_31 rfl ?_
              refine ja_icmp_eq 43 dskip_33 rfl ⟨by omega, by omega⟩ ⟨by decide, by decide⟩ (fun c33 => ?_) (fun c33 => ?_)
              · refine ja_iinc dskip_43 rfl (by decide) (L2 := [(2, (0, (x2 + 1))), (4, (0, w1)), (0, (2, ((0 : Nat) : Int))), (3, (0, x3))]) rfl ?_
                refine ja_goto 95 dskip_46 rfl ?_
                refine ja_goto 4 dskip_95 rfl ?_
                exact ja_wk (fun q hq => by simp only [List.mem_cons, List.not_mem_nil, or_false] at hq; rcases hq with rfl | rfl | rfl <;> rfl) ((ih ((3 * (5002 - (x2 + 1)) + x3).toNat) (by omega)).1 (x2 + 1) x3  ⟨by omega, by omega⟩ ⟨by omega, by omega⟩ (show 0 ≤ x3 ∧ x3 ≤ 1 ∧ a1 ≤ (x2 + 1) ∧ (x2 + 1) ≤ 5001 by omega) rfl)
              · refine ja_iload dskip_36 rfl ?_
                refine ja_bipush 10 dskip_38 rfl ?_
                refine ja_icmp_ne 49 dskip_40 rfl ⟨by omega, by omega⟩ ⟨by decide, by decide⟩ (fun c40 => ?_) (fun c40 => ?_)
                · refine ja_iload dskip_49 rfl ?_
                  refine ja_bipush 47 dskip_51 rfl ?_
                  refine ja_icmp_ne 93 dskip_53 rfl ⟨by omega, by omega⟩ ⟨by decide, by decide⟩ (fun c53 => ?_) (fun c53 => ?_)
                  · refine ja_iconst dskip_93 ?_
                    refine ja_istore_n dskip_94 rfl (by decide) (L2 := [(3, (0, 0)), (4, (0, w1)), (0, (2, ((0 : Nat) : Int))), (2, (0, x2))]) rfl ?_
                    refine ja_goto 4 dskip_95 rfl ?_
                    exact ja_wk (fun q hq => by simp only [List.mem_cons, List.not_mem_nil, or_false] at hq; rcases hq with rfl | rfl | rfl <;> rfl) ((ih ((3 * (5002 - x2) + 0).toNat) (by omega)).1 x2 0  ⟨by omega, by omega⟩ ⟨by decide, by decide⟩ (show 0 ≤ 0 ∧ 0 ≤ 1 ∧ a1 ≤ x2 ∧ x2 ≤ 5001 by omega) rfl)
                  · refine ja_aload_n dskip_56 rfl rfl ?_
                    refine ja_iload_n dskip_57 rfl rfl ?_
                    refine ja_iconst dskip_58 ?_
                    refine ja_iadd dskip_59 ?_
                    refine t_byteAt (by decide) (show (0 : Nat) ≤ 8 by decide) dskip_60 g ⟨by omega, by omega⟩ (show 0 ≤ (x2 + 1) by omega) ?_
                    intro w2 k60_0
                    refine ja_bipush 47 dskip_63 rfl ?_
                    refine ja_icmp_ne 93 dskip_65 rfl ⟨by omega, by omega⟩ ⟨by decide, by decide⟩ (fun c65 => ?_) (fun c65 => ?_)
                    · refine ja_iconst dskip_93 ?_
                      refine ja_istore_n dskip_94 rfl (by decide) (L2 := [(3, (0, 0)), (4, (0, w1)), (0, (2, ((0 : Nat) : Int))), (2, (0, x2))]) rfl ?_
                      refine ja_goto 4 dskip_95 rfl ?_
                      exact ja_wk (fun q hq => by simp only [List.mem_cons, List.not_mem_nil, or_false] at hq; rcases hq with rfl | rfl | rfl <;> rfl) ((ih ((3 * (5002 - x2) + 0).toNat) (by omega)).1 x2 0  ⟨by omega, by omega⟩ ⟨by decide, by decide⟩ (show 0 ≤ 0 ∧ 0 ≤ 1 ∧ a1 ≤ x2 ∧ x2 ≤ 5001 by omega) rfl)
                    · exact ja_wk (fun q hq => by simp only [List.mem_cons, List.not_mem_nil, or_false] at hq; rcases hq with rfl | rfl | rfl <;> rfl) ((ih ((3 * (5002 - x2) + (if x2 < (h 0 1) ∧ (h 1 (x2).toNat) ≠ 10 then 0 else 2)).toNat) (by (repeat' split) <;> omega)).2 x2 x3  ⟨by omega, by omega⟩ ⟨by omega, by omega⟩ (show x3 = 1 ∧ a1 ≤ x2 ∧ x2 ≤ 5001 by omega) rfl)
                · refine ja_iinc dskip_43 rfl (by decide) (L2 := [(2, (0, (x2 + 1))), (4, (0, w1)), (0, (2, ((0 : Nat) : Int))), (3, (0, x3))]) rfl ?_
                  refine ja_goto 95 dskip_46 rfl ?_
                  refine ja_goto 4 dskip_95 rfl ?_
                  exact ja_wk (fun q hq => by simp only [List.mem_cons, List.not_mem_nil, or_false] at hq; rcases hq with rfl | rfl | rfl <;> rfl) ((ih ((3 * (5002 - (x2 + 1)) + x3).toNat) (by omega)).1 (x2 + 1) x3  ⟨by omega, by omega⟩ ⟨by omega, by omega⟩ (show 0 ≤ x3 ∧ x3 ≤ 1 ∧ a1 ≤ (x2 + 1) ∧ (x2 + 1) ≤ 5001 by omega) rfl)
      · intro x2 x3 qx2 qx3 iv hm
        subst hm
        refine ja_iload_n dskip_68 rfl rfl ?_
        refine ja_aload_n dskip_69 rfl rfl ?_
        refine fg_size (v := h 0 1) rfl dskip_70 ?_
        have f3 := gF_size g
        refine ja_icmp_ge 95 dskip_73 rfl ⟨by omega, by omega⟩ ⟨by omega, by omega⟩ (fun c73 => ?_) (fun c73 => ?_)
        · refine ja_goto 4 dskip_95 rfl ?_
          exact ja_wk (fun q hq => by simp only [List.mem_cons, List.not_mem_nil, or_false] at hq; rcases hq with rfl | rfl | rfl <;> rfl) ((ih ((3 * (5002 - x2) + x3).toNat) (by omega)).1 x2 x3  ⟨by omega, by omega⟩ ⟨by omega, by omega⟩ (show 0 ≤ x3 ∧ x3 ≤ 1 ∧ a1 ≤ x2 ∧ x2 ≤ 5001 by omega) rfl)
        · refine ja_aload_n dskip_76 rfl rfl ?_
          refine fa_text dskip_77 ?_
          refine ja_iload_n dskip_80 rfl rfl ?_
          refine il_text (v := h 1 (x2).toNat) rfl ⟨by omega, by omega⟩ dskip_81 ?_
          have f4 := gC_text g (x2).toNat
          refine ja_bipush 10 dskip_82 rfl ?_
          refine ja_icmp_eq 95 dskip_84 rfl ⟨by omega, by omega⟩ ⟨by decide, by decide⟩ (fun c84 => ?_) (fun c84 => ?_)
          · refine ja_goto 4 dskip_95 rfl ?_
            exact ja_wk (fun q hq => by simp only [List.mem_cons, List.not_mem_nil, or_false] at hq; rcases hq with rfl | rfl | rfl <;> rfl) ((ih ((3 * (5002 - x2) + x3).toNat) (by omega)).1 x2 x3  ⟨by omega, by omega⟩ ⟨by omega, by omega⟩ (show 0 ≤ x3 ∧ x3 ≤ 1 ∧ a1 ≤ x2 ∧ x2 ≤ 5001 by omega) rfl)
          · refine ja_iinc dskip_87 rfl (by decide) (L2 := [(2, (0, (x2 + 1))), (0, (2, ((0 : Nat) : Int))), (3, (0, x3))]) rfl ?_
            refine ja_goto 68 dskip_90 rfl ?_
            exact ja_wk (fun q hq => by simp only [List.mem_cons, List.not_mem_nil, or_false] at hq; rcases hq with rfl | rfl | rfl <;> rfl) ((ih ((3 * (5002 - (x2 + 1)) + (if (x2 + 1) < (h 0 1) ∧ (h 1 (x2 + 1).toNat) ≠ 10 then 0 else 2)).toNat) (by (repeat' split) <;> omega)).2 (x2 + 1) x3  ⟨by omega, by omega⟩ ⟨by omega, by omega⟩ (show x3 = 1 ∧ a1 ≤ (x2 + 1) ∧ (x2 + 1) ≤ 5001 by omega) rfl)
  refine ja_iload_n dskip_0 rfl rfl ?_
  refine ja_istore_n dskip_1 rfl (by decide) (L2 := [(2, (0, a1)), (0, (2, ((0 : Nat) : Int))), (1, (0, a1))]) rfl ?_
  refine ja_iconst dskip_2 ?_
  refine ja_istore_n dskip_3 rfl (by decide) (L2 := [(3, (0, 1)), (2, (0, a1)), (0, (2, ((0 : Nat) : Int))), (1, (0, a1))]) rfl ?_
  exact ja_wk (fun q hq => by simp only [List.mem_cons, List.not_mem_nil, or_false] at hq; rcases hq with rfl | rfl | rfl <;> rfl) ((CUT _).1 a1 1  ⟨by omega, by omega⟩ ⟨by decide, by decide⟩ (show 0 ≤ 1 ∧ 1 ≤ 1 ∧ a1 ≤ a1 ∧ a1 ≤ 5001 by omega) rfl)
theorem t_skip {a1 : Int} {d nL pc : Nat} {cc : ByteArray} {rt : Option FieldType} {L : List (Nat × ja_V)} {S : List ja_V} {h : ja_H} {Q : Option ja_V → ja_H → Prop} (hdd : 2 < d) (hwd : ja_wd S ≤ 8) (hd : decode cc pc = .ok (.invokevirtual 558, 3)) (g : mo_G Zz h) (r1 : -2147483648 ≤ a1 ∧ a1 ≤ 2147483647) (p1 : 0 ≤ a1 ∧ a1 ≤ 5001) (k1 : ∀ (v : Int), (a1 ≤ v ∧ v ≤ 5001) → mJ l D cA ad d cc nL rt (pc + 3) L ((0, v) :: S) h Q) : mJ l D cA ad d cc nL rt pc L ((0, a1) :: (2, ((0 : Nat) : Int)) :: S) h Q :=
  mc_skip hdd hwd hd (s_skip g r1 p1 k1)
end
theorem dfirstWords_0 : decode cX12_firstWords 0 = .ok (.lload_n 0, 1) := by decide +kernel
theorem dfirstWords_1 : decode cX12_firstWords 1 = .ok (.ldc2_w 448, 3) := by decide +kernel
theorem dfirstWords_4 : decode cX12_firstWords 4 = .ok (.lcmp, 1) := by decide +kernel
theorem dfirstWords_5 : decode cX12_firstWords 5 = .ok (.ifCond .ne 5, 3) := by decide +kernel
theorem dfirstWords_8 : decode cX12_firstWords 8 = .ok (.iconst 1, 1) := by decide +kernel
theorem dfirstWords_9 : decode cX12_firstWords 9 = .ok (.ireturn, 1) := by decide +kernel
theorem dfirstWords_10 : decode cX12_firstWords 10 = .ok (.lload_n 0, 1) := by decide +kernel
theorem dfirstWords_11 : decode cX12_firstWords 11 = .ok (.ldc2_w 450, 3) := by decide +kernel
theorem dfirstWords_14 : decode cX12_firstWords 14 = .ok (.lcmp, 1) := by decide +kernel
theorem dfirstWords_15 : decode cX12_firstWords 15 = .ok (.ifCond .ne 5, 3) := by decide +kernel
theorem dfirstWords_18 : decode cX12_firstWords 18 = .ok (.iconst 2, 1) := by decide +kernel
theorem dfirstWords_19 : decode cX12_firstWords 19 = .ok (.ireturn, 1) := by decide +kernel
theorem dfirstWords_20 : decode cX12_firstWords 20 = .ok (.lload_n 0, 1) := by decide +kernel
theorem dfirstWords_21 : decode cX12_firstWords 21 = .ok (.ldc2_w 452, 3) := by decide +kernel
theorem dfirstWords_24 : decode cX12_firstWords 24 = .ok (.lcmp, 1) := by decide +kernel
theorem dfirstWords_25 : decode cX12_firstWords 25 = .ok (.ifCond .ne 5, 3) := by decide +kernel
theorem dfirstWords_28 : decode cX12_firstWords 28 = .ok (.iconst 3, 1) := by decide +kernel
theorem dfirstWords_29 : decode cX12_firstWords 29 = .ok (.ireturn, 1) := by decide +kernel
theorem dfirstWords_30 : decode cX12_firstWords 30 = .ok (.lload_n 0, 1) := by decide +kernel
theorem dfirstWords_31 : decode cX12_firstWords 31 = .ok (.ldc2_w 454, 3) := by decide +kernel
theorem dfirstWords_34 : decode cX12_firstWords 34 = .ok (.lcmp, 1) := by decide +kernel
theorem dfirstWords_35 : decode cX12_firstWords 35 = .ok (.ifCond .ne 5, 3) := by decide +kernel
theorem dfirstWords_38 : decode cX12_firstWords 38 = .ok (.iconst 4, 1) := by decide +kernel
theorem dfirstWords_39 : decode cX12_firstWords 39 = .ok (.ireturn, 1) := by decide +kernel
theorem dfirstWords_40 : decode cX12_firstWords 40 = .ok (.lload_n 0, 1) := by decide +kernel
theorem dfirstWords_41 : decode cX12_firstWords 41 = .ok (.ldc2_w 456, 3) := by decide +kernel
theorem dfirstWords_44 : decode cX12_firstWords 44 = .ok (.lcmp, 1) := by decide +kernel
theorem dfirstWords_45 : decode cX12_firstWords 45 = .ok (.ifCond .ne 5, 3) := by decide +kernel
theorem dfirstWords_48 : decode cX12_firstWords 48 = .ok (.iconst 5, 1) := by decide +kernel
theorem dfirstWords_49 : decode cX12_firstWords 49 = .ok (.ireturn, 1) := by decide +kernel
theorem dfirstWords_50 : decode cX12_firstWords 50 = .ok (.lload_n 0, 1) := by decide +kernel
theorem dfirstWords_51 : decode cX12_firstWords 51 = .ok (.ldc2_w 458, 3) := by decide +kernel
theorem dfirstWords_54 : decode cX12_firstWords 54 = .ok (.lcmp, 1) := by decide +kernel
theorem dfirstWords_55 : decode cX12_firstWords 55 = .ok (.ifCond .ne 6, 3) := by decide +kernel
theorem dfirstWords_58 : decode cX12_firstWords 58 = .ok (.bipush 6, 2) := by decide +kernel
theorem dfirstWords_60 : decode cX12_firstWords 60 = .ok (.ireturn, 1) := by decide +kernel
theorem dfirstWords_61 : decode cX12_firstWords 61 = .ok (.lload_n 0, 1) := by decide +kernel
theorem dfirstWords_62 : decode cX12_firstWords 62 = .ok (.ldc2_w 460, 3) := by decide +kernel
theorem dfirstWords_65 : decode cX12_firstWords 65 = .ok (.lcmp, 1) := by decide +kernel
theorem dfirstWords_66 : decode cX12_firstWords 66 = .ok (.ifCond .ne 6, 3) := by decide +kernel
theorem dfirstWords_69 : decode cX12_firstWords 69 = .ok (.bipush 7, 2) := by decide +kernel
theorem dfirstWords_71 : decode cX12_firstWords 71 = .ok (.ireturn, 1) := by decide +kernel
theorem dfirstWords_72 : decode cX12_firstWords 72 = .ok (.lload_n 0, 1) := by decide +kernel
theorem dfirstWords_73 : decode cX12_firstWords 73 = .ok (.ldc2_w 462, 3) := by decide +kernel
theorem dfirstWords_76 : decode cX12_firstWords 76 = .ok (.lcmp, 1) := by decide +kernel
theorem dfirstWords_77 : decode cX12_firstWords 77 = .ok (.ifCond .ne 6, 3) := by decide +kernel
theorem dfirstWords_80 : decode cX12_firstWords 80 = .ok (.bipush 8, 2) := by decide +kernel
theorem dfirstWords_82 : decode cX12_firstWords 82 = .ok (.ireturn, 1) := by decide +kernel
theorem dfirstWords_83 : decode cX12_firstWords 83 = .ok (.lload_n 0, 1) := by decide +kernel
theorem dfirstWords_84 : decode cX12_firstWords 84 = .ok (.ldc2_w 464, 3) := by decide +kernel
theorem dfirstWords_87 : decode cX12_firstWords 87 = .ok (.lcmp, 1) := by decide +kernel
theorem dfirstWords_88 : decode cX12_firstWords 88 = .ok (.ifCond .ne 6, 3) := by decide +kernel
theorem dfirstWords_91 : decode cX12_firstWords 91 = .ok (.bipush 9, 2) := by decide +kernel
theorem dfirstWords_93 : decode cX12_firstWords 93 = .ok (.ireturn, 1) := by decide +kernel
theorem dfirstWords_94 : decode cX12_firstWords 94 = .ok (.lload_n 0, 1) := by decide +kernel
theorem dfirstWords_95 : decode cX12_firstWords 95 = .ok (.ldc2_w 466, 3) := by decide +kernel
theorem dfirstWords_98 : decode cX12_firstWords 98 = .ok (.lcmp, 1) := by decide +kernel
theorem dfirstWords_99 : decode cX12_firstWords 99 = .ok (.ifCond .ne 6, 3) := by decide +kernel
theorem dfirstWords_102 : decode cX12_firstWords 102 = .ok (.bipush 10, 2) := by decide +kernel
theorem dfirstWords_104 : decode cX12_firstWords 104 = .ok (.ireturn, 1) := by decide +kernel
theorem dfirstWords_105 : decode cX12_firstWords 105 = .ok (.lload_n 0, 1) := by decide +kernel
theorem dfirstWords_106 : decode cX12_firstWords 106 = .ok (.ldc2_w 468, 3) := by decide +kernel
theorem dfirstWords_109 : decode cX12_firstWords 109 = .ok (.lcmp, 1) := by decide +kernel
theorem dfirstWords_110 : decode cX12_firstWords 110 = .ok (.ifCond .ne 6, 3) := by decide +kernel
theorem dfirstWords_113 : decode cX12_firstWords 113 = .ok (.bipush 11, 2) := by decide +kernel
theorem dfirstWords_115 : decode cX12_firstWords 115 = .ok (.ireturn, 1) := by decide +kernel
theorem dfirstWords_116 : decode cX12_firstWords 116 = .ok (.lload_n 0, 1) := by decide +kernel
theorem dfirstWords_117 : decode cX12_firstWords 117 = .ok (.ldc2_w 470, 3) := by decide +kernel
theorem dfirstWords_120 : decode cX12_firstWords 120 = .ok (.lcmp, 1) := by decide +kernel
theorem dfirstWords_121 : decode cX12_firstWords 121 = .ok (.ifCond .ne 6, 3) := by decide +kernel
theorem dfirstWords_124 : decode cX12_firstWords 124 = .ok (.bipush 12, 2) := by decide +kernel
theorem dfirstWords_126 : decode cX12_firstWords 126 = .ok (.ireturn, 1) := by decide +kernel
theorem dfirstWords_127 : decode cX12_firstWords 127 = .ok (.lload_n 0, 1) := by decide +kernel
theorem dfirstWords_128 : decode cX12_firstWords 128 = .ok (.ldc2_w 472, 3) := by decide +kernel
theorem dfirstWords_131 : decode cX12_firstWords 131 = .ok (.lcmp, 1) := by decide +kernel
theorem dfirstWords_132 : decode cX12_firstWords 132 = .ok (.ifCond .ne 6, 3) := by decide +kernel
theorem dfirstWords_135 : decode cX12_firstWords 135 = .ok (.bipush 13, 2) := by decide +kernel
theorem dfirstWords_137 : decode cX12_firstWords 137 = .ok (.ireturn, 1) := by decide +kernel
theorem dfirstWords_138 : decode cX12_firstWords 138 = .ok (.lload_n 0, 1) := by decide +kernel
theorem dfirstWords_139 : decode cX12_firstWords 139 = .ok (.ldc2_w 474, 3) := by decide +kernel
theorem dfirstWords_142 : decode cX12_firstWords 142 = .ok (.lcmp, 1) := by decide +kernel
theorem dfirstWords_143 : decode cX12_firstWords 143 = .ok (.ifCond .ne 6, 3) := by decide +kernel
theorem dfirstWords_146 : decode cX12_firstWords 146 = .ok (.bipush 14, 2) := by decide +kernel
theorem dfirstWords_148 : decode cX12_firstWords 148 = .ok (.ireturn, 1) := by decide +kernel
theorem dfirstWords_149 : decode cX12_firstWords 149 = .ok (.lload_n 0, 1) := by decide +kernel
theorem dfirstWords_150 : decode cX12_firstWords 150 = .ok (.ldc2_w 476, 3) := by decide +kernel
theorem dfirstWords_153 : decode cX12_firstWords 153 = .ok (.lcmp, 1) := by decide +kernel
theorem dfirstWords_154 : decode cX12_firstWords 154 = .ok (.ifCond .ne 6, 3) := by decide +kernel
theorem dfirstWords_157 : decode cX12_firstWords 157 = .ok (.bipush 15, 2) := by decide +kernel
theorem dfirstWords_159 : decode cX12_firstWords 159 = .ok (.ireturn, 1) := by decide +kernel
theorem dfirstWords_160 : decode cX12_firstWords 160 = .ok (.lload_n 0, 1) := by decide +kernel
theorem dfirstWords_161 : decode cX12_firstWords 161 = .ok (.ldc2_w 478, 3) := by decide +kernel
theorem dfirstWords_164 : decode cX12_firstWords 164 = .ok (.lcmp, 1) := by decide +kernel
theorem dfirstWords_165 : decode cX12_firstWords 165 = .ok (.ifCond .ne 6, 3) := by decide +kernel
theorem dfirstWords_168 : decode cX12_firstWords 168 = .ok (.bipush 16, 2) := by decide +kernel
theorem dfirstWords_170 : decode cX12_firstWords 170 = .ok (.ireturn, 1) := by decide +kernel
theorem dfirstWords_171 : decode cX12_firstWords 171 = .ok (.lload_n 0, 1) := by decide +kernel
theorem dfirstWords_172 : decode cX12_firstWords 172 = .ok (.ldc2_w 480, 3) := by decide +kernel
theorem dfirstWords_175 : decode cX12_firstWords 175 = .ok (.lcmp, 1) := by decide +kernel
theorem dfirstWords_176 : decode cX12_firstWords 176 = .ok (.ifCond .ne 6, 3) := by decide +kernel
theorem dfirstWords_179 : decode cX12_firstWords 179 = .ok (.bipush 17, 2) := by decide +kernel
theorem dfirstWords_181 : decode cX12_firstWords 181 = .ok (.ireturn, 1) := by decide +kernel
theorem dfirstWords_182 : decode cX12_firstWords 182 = .ok (.lload_n 0, 1) := by decide +kernel
theorem dfirstWords_183 : decode cX12_firstWords 183 = .ok (.ldc2_w 482, 3) := by decide +kernel
theorem dfirstWords_186 : decode cX12_firstWords 186 = .ok (.lcmp, 1) := by decide +kernel
theorem dfirstWords_187 : decode cX12_firstWords 187 = .ok (.ifCond .ne 6, 3) := by decide +kernel
theorem dfirstWords_190 : decode cX12_firstWords 190 = .ok (.bipush 18, 2) := by decide +kernel
theorem dfirstWords_192 : decode cX12_firstWords 192 = .ok (.ireturn, 1) := by decide +kernel
theorem dfirstWords_193 : decode cX12_firstWords 193 = .ok (.lload_n 0, 1) := by decide +kernel
theorem dfirstWords_194 : decode cX12_firstWords 194 = .ok (.ldc2_w 484, 3) := by decide +kernel
theorem dfirstWords_197 : decode cX12_firstWords 197 = .ok (.lcmp, 1) := by decide +kernel
theorem dfirstWords_198 : decode cX12_firstWords 198 = .ok (.ifCond .ne 6, 3) := by decide +kernel
theorem dfirstWords_201 : decode cX12_firstWords 201 = .ok (.bipush 19, 2) := by decide +kernel
theorem dfirstWords_203 : decode cX12_firstWords 203 = .ok (.ireturn, 1) := by decide +kernel
theorem dfirstWords_204 : decode cX12_firstWords 204 = .ok (.lload_n 0, 1) := by decide +kernel
theorem dfirstWords_205 : decode cX12_firstWords 205 = .ok (.ldc2_w 486, 3) := by decide +kernel
theorem dfirstWords_208 : decode cX12_firstWords 208 = .ok (.lcmp, 1) := by decide +kernel
theorem dfirstWords_209 : decode cX12_firstWords 209 = .ok (.ifCond .ne 6, 3) := by decide +kernel
theorem dfirstWords_212 : decode cX12_firstWords 212 = .ok (.bipush 20, 2) := by decide +kernel
theorem dfirstWords_214 : decode cX12_firstWords 214 = .ok (.ireturn, 1) := by decide +kernel
theorem dfirstWords_215 : decode cX12_firstWords 215 = .ok (.lload_n 0, 1) := by decide +kernel
theorem dfirstWords_216 : decode cX12_firstWords 216 = .ok (.ldc2_w 488, 3) := by decide +kernel
theorem dfirstWords_219 : decode cX12_firstWords 219 = .ok (.lcmp, 1) := by decide +kernel
theorem dfirstWords_220 : decode cX12_firstWords 220 = .ok (.ifCond .ne 6, 3) := by decide +kernel
theorem dfirstWords_223 : decode cX12_firstWords 223 = .ok (.bipush 21, 2) := by decide +kernel
theorem dfirstWords_225 : decode cX12_firstWords 225 = .ok (.ireturn, 1) := by decide +kernel
theorem dfirstWords_226 : decode cX12_firstWords 226 = .ok (.lload_n 0, 1) := by decide +kernel
theorem dfirstWords_227 : decode cX12_firstWords 227 = .ok (.ldc2_w 490, 3) := by decide +kernel
theorem dfirstWords_230 : decode cX12_firstWords 230 = .ok (.lcmp, 1) := by decide +kernel
theorem dfirstWords_231 : decode cX12_firstWords 231 = .ok (.ifCond .ne 8, 3) := by decide +kernel
theorem dfirstWords_234 : decode cX12_firstWords 234 = .ok (.bipush 22, 2) := by decide +kernel
theorem dfirstWords_236 : decode cX12_firstWords 236 = .ok (.goto 4, 3) := by decide +kernel
theorem dfirstWords_239 : decode cX12_firstWords 239 = .ok (.iconst 0, 1) := by decide +kernel
theorem dfirstWords_240 : decode cX12_firstWords 240 = .ok (.ireturn, 1) := by decide +kernel
section
variable {l : Launch} {D : va_G} {cA : Nat → ClassId} {ad : Nat → Nat}
theorem s_firstWords {a1 : Int} {h : ja_H} {Q : Option ja_V → ja_H → Prop} (g : mo_G Zz h) (k1 : ∀ (v : Int), (0 ≤ v ∧ v ≤ 44) → Q (some (0, v)) h) : mM_firstWords l D cA ad a1 h Q := by
  show mJ l D cA ad 1 cX12_firstWords 2 (some .int) 0 [(0, (1, a1))] [] h Q
  have kn_size := gF_size g
  refine ja_lload_n dfirstWords_0 rfl rfl ?_
  refine mk_448 dfirstWords_1 ?_
  refine mo_lcmp dfirstWords_4 (fun v1 rv1 => ?_)
  refine ja_if_ne 10 dfirstWords_5 rfl ⟨by omega, by omega⟩ (fun c5 => ?_) (fun c5 => ?_)
  · refine ja_lload_n dfirstWords_10 rfl rfl ?_
    refine mk_450 dfirstWords_11 ?_
    refine mo_lcmp dfirstWords_14 (fun v2 rv2 => ?_)
    refine ja_if_ne 20 dfirstWords_15 rfl ⟨by omega, by omega⟩ (fun c15 => ?_) (fun c15 => ?_)
    · refine ja_lload_n dfirstWords_20 rfl rfl ?_
      refine mk_452 dfirstWords_21 ?_
      refine mo_lcmp dfirstWords_24 (fun v3 rv3 => ?_)
      refine ja_if_ne 30 dfirstWords_25 rfl ⟨by omega, by omega⟩ (fun c25 => ?_) (fun c25 => ?_)
      · refine ja_lload_n dfirstWords_30 rfl rfl ?_
        refine mk_454 dfirstWords_31 ?_
        refine mo_lcmp dfirstWords_34 (fun v4 rv4 => ?_)
        refine ja_if_ne 40 dfirstWords_35 rfl ⟨by omega, by omega⟩ (fun c35 => ?_) (fun c35 => ?_)
        · refine ja_lload_n dfirstWords_40 rfl rfl ?_
          refine mk_456 dfirstWords_41 ?_
          refine mo_lcmp dfirstWords_44 (fun v5 rv5 => ?_)
          refine ja_if_ne 50 dfirstWords_45 rfl ⟨by omega, by omega⟩ (fun c45 => ?_) (fun c45 => ?_)
          · refine ja_lload_n dfirstWords_50 rfl rfl ?_
            refine mk_458 dfirstWords_51 ?_
            refine mo_lcmp dfirstWords_54 (fun v6 rv6 => ?_)
            refine ja_if_ne 61 dfirstWords_55 rfl ⟨by omega, by omega⟩ (fun c55 => ?_) (fun c55 => ?_)
            · refine ja_lload_n dfirstWords_61 rfl rfl ?_
              refine mk_460 dfirstWords_62 ?_
              refine mo_lcmp dfirstWords_65 (fun v7 rv7 => ?_)
              refine ja_if_ne 72 dfirstWords_66 rfl ⟨by omega, by omega⟩ (fun c66 => ?_) (fun c66 => ?_)
              · refine ja_lload_n dfirstWords_72 rfl rfl ?_
                refine mk_462 dfirstWords_73 ?_
                refine mo_lcmp dfirstWords_76 (fun v8 rv8 => ?_)
                refine ja_if_ne 83 dfirstWords_77 rfl ⟨by omega, by omega⟩ (fun c77 => ?_) (fun c77 => ?_)
                · refine ja_lload_n dfirstWords_83 rfl rfl ?_
                  refine mk_464 dfirstWords_84 ?_
                  refine mo_lcmp dfirstWords_87 (fun v9 rv9 => ?_)
                  refine ja_if_ne 94 dfirstWords_88 rfl ⟨by omega, by omega⟩ (fun c88 => ?_) (fun c88 => ?_)
                  · refine ja_lload_n dfirstWords_94 rfl rfl ?_
                    refine mk_466 dfirstWords_95 ?_
                    refine mo_lcmp dfirstWords_98 (fun v10 rv10 => ?_)
                    refine ja_if_ne 105 dfirstWords_99 rfl ⟨by omega, by omega⟩ (fun c99 => ?_) (fun c99 => ?_)
                    · refine ja_lload_n dfirstWords_105 rfl rfl ?_
                      refine mk_468 dfirstWords_106 ?_
                      refine mo_lcmp dfirstWords_109 (fun v11 rv11 => ?_)
                      refine ja_if_ne 116 dfirstWords_110 rfl ⟨by omega, by omega⟩ (fun c110 => ?_) (fun c110 => ?_)
                      · refine ja_lload_n dfirstWords_116 rfl rfl ?_
                        refine mk_470 dfirstWords_117 ?_
                        refine mo_lcmp dfirstWords_120 (fun v12 rv12 => ?_)
                        refine ja_if_ne 127 dfirstWords_121 rfl ⟨by omega, by omega⟩ (fun c121 => ?_) (fun c121 => ?_)
                        · refine ja_lload_n dfirstWords_127 rfl rfl ?_
                          refine mk_472 dfirstWords_128 ?_
                          refine mo_lcmp dfirstWords_131 (fun v13 rv13 => ?_)
                          refine ja_if_ne 138 dfirstWords_132 rfl ⟨by omega, by omega⟩ (fun c132 => ?_) (fun c132 => ?_)
                          · refine ja_lload_n dfirstWords_138 rfl rfl ?_
                            refine mk_474 dfirstWords_139 ?_
                            refine mo_lcmp dfirstWords_142 (fun v14 rv14 => ?_)
                            refine ja_if_ne 149 dfirstWords_143 rfl ⟨by omega, by omega⟩ (fun c143 => ?_) (fun c143 => ?_)
                            · refine ja_lload_n dfirstWords_149 rfl rfl ?_
                              refine mk_476 dfirstWords_150 ?_
                              refine mo_lcmp dfirstWords_153 (fun v15 rv15 => ?_)
                              refine ja_if_ne 160 dfirstWords_154 rfl ⟨by omega, by omega⟩ (fun c154 => ?_) (fun c154 => ?_)
                              · refine ja_lload_n dfirstWords_160 rfl rfl ?_
                                refine mk_478 dfirstWords_161 ?_
                                refine mo_lcmp dfirstWords_164 (fun v16 rv16 => ?_)
                                refine ja_if_ne 171 dfirstWords_165 rfl ⟨by omega, by omega⟩ (fun c165 => ?_) (fun c165 => ?_)
                                · refine ja_lload_n dfirstWords_171 rfl rfl ?_
                                  refine mk_480 dfirstWords_172 ?_
                                  refine mo_lcmp dfirstWords_175 (fun v17 rv17 => ?_)
                                  refine ja_if_ne 182 dfirstWords_176 rfl ⟨by omega, by omega⟩ (fun c176 => ?_) (fun c176 => ?_)
                                  · refine ja_lload_n dfirstWords_182 rfl rfl ?_
                                    refine mk_482 dfirstWords_183 ?_
                                    refine mo_lcmp dfirstWords_186 (fun v18 rv18 => ?_)
                                    refine ja_if_ne 193 dfirstWords_187 rfl ⟨by omega, by omega⟩ (fun c187 => ?_) (fun c187 => ?_)
                                    · refine ja_lload_n dfirstWords_193 rfl rfl ?_
                                      refine mk_484 dfirstWords_194 ?_
                                      refine mo_lcmp dfirstWords_197 (fun v19 rv19 => ?_)
                                      refine ja_if_ne 204 dfirstWords_198 rfl ⟨by omega, by omega⟩ (fun c198 => ?_) (fun c198 => ?_)
                                      · refine ja_lload_n dfirstWords_204 rfl rfl ?_
                                        refine mk_486 dfirstWords_205 ?_
                                        refine mo_lcmp dfirstWords_208 (fun v20 rv20 => ?_)
                                        refine ja_if_ne 215 dfirstWords_209 rfl ⟨by omega, by omega⟩ (fun c209 => ?_) (fun c209 => ?_)
                                        · refine ja_lload_n dfirstWords_215 rfl rfl ?_
                                          refine mk_488 dfirstWords_216 ?_
                                          refine mo_lcmp dfirstWords_219 (fun v21 rv21 => ?_)
                                          refine ja_if_ne 226 dfirstWords_220 rfl ⟨by omega, by omega⟩ (fun c220 => ?_) (fun c220 => ?_)
                                          · refine ja_lload_n dfirstWords_226 rfl rfl ?_
                                            refine mk_490 dfirstWords_227 ?_
                                            refine mo_lcmp dfirstWords_230 (fun v22 rv22 => ?_)
                                            refine ja_if_ne 239 dfirstWords_231 rfl ⟨by omega, by omega⟩ (fun c231 => ?_) (fun c231 => ?_)
                                            · refine ja_iconst dfirstWords_239 ?_
                                              refine ja_ireturn dfirstWords_240 rfl ?_
                                              exact mo_fin (by omega) rfl (k1 0 (by omega))
                                            · refine ja_bipush 22 dfirstWords_234 rfl ?_
                                              refine ja_goto 240 dfirstWords_236 rfl ?_
                                              refine ja_ireturn dfirstWords_240 rfl ?_
                                              exact mo_fin (by omega) rfl (k1 22 (by omega))
                                          · refine ja_bipush 21 dfirstWords_223 rfl ?_
                                            refine ja_ireturn dfirstWords_225 rfl ?_
                                            exact mo_fin (by omega) rfl (k1 21 (by omega))
                                        · refine ja_bipush 20 dfirstWords_212 rfl ?_
                                          refine ja_ireturn dfirstWords_214 rfl ?_
                                          exact mo_fin (by omega) rfl (k1 20 (by omega))
                                      · refine ja_bipush 19 dfirstWords_201 rfl ?_
                                        refine ja_ireturn dfirstWords_203 rfl ?_
                                        exact mo_fin (by omega) rfl (k1 19 (by omega))
                                    · refine ja_bipush 18 dfirstWords_190 rfl ?_
                                      refine ja_ireturn dfirstWords_192 rfl ?_
                                      exact mo_fin (by omega) rfl (k1 18 (by omega))
                                  · refine ja_bipush 17 dfirstWords_179 rfl ?_
                                    refine ja_ireturn dfirstWords_181 rfl ?_
                                    exact mo_fin (by omega) rfl (k1 17 (by omega))
                                · refine ja_bipush 16 dfirstWords_168 rfl ?_
                                  refine ja_ireturn dfirstWords_170 rfl ?_
                                  exact mo_fin (by omega) rfl (k1 16 (by omega))
                              · refine ja_bipush 15 dfirstWords_157 rfl ?_
                                refine ja_ireturn dfirstWords_159 rfl ?_
                                exact mo_fin (by omega) rfl (k1 15 (by omega))
                            · refine ja_bipush 14 dfirstWords_146 rfl ?_
                              refine ja_ireturn dfirstWords_148 rfl ?_
                              exact mo_fin (by omega) rfl (k1 14 (by omega))
                          · refine ja_bipush 13 dfirstWords_135 rfl ?_
                            refine ja_ireturn dfirstWords_137 rfl ?_
                            exact mo_fin (by omega) rfl (k1 13 (by omega))
                        · refine ja_bipush 12 dfirstWords_124 rfl ?_
                          refine ja_ireturn dfirstWords_126 rfl ?_
                          exact mo_fin (by omega) rfl (k1 12 (by omega))
                      · refine ja_bipush 11 dfirstWords_113 rfl ?_
                        refine ja_ireturn dfirstWords_115 rfl ?_
                        exact mo_fin (by omega) rfl (k1 11 (by omega))
                    · refine ja_bipush 10 dfirstWords_102 rfl ?_
                      refine ja_ireturn dfirstWords_104 rfl ?_
                      exact mo_fin (by omega) rfl (k1 10 (by omega))
                  · refine ja_bipush 9 dfirstWords_91 rfl ?_
                    refine ja_ireturn dfirstWords_93 rfl ?_
                    exact mo_fin (by omega) rfl (k1 9 (by omega))
                · refine ja_bipush 8 dfirstWords_80 rfl ?_
                  refine ja_ireturn dfirstWords_82 rfl ?_
                  exact mo_fin (by omega) rfl (k1 8 (by omega))
              · refine ja_bipush 7 dfirstWords_69 rfl ?_
                refine ja_ireturn dfirstWords_71 rfl ?_
                exact mo_fin (by omega) rfl (k1 7 (by omega))
            · refine ja_bipush 6 dfirstWords_58 rfl ?_
              refine ja_ireturn dfirstWords_60 rfl ?_
              exact mo_fin (by omega) rfl (k1 6 (by omega))
          · refine ja_iconst dfirstWords_48 ?_
            refine ja_ireturn dfirstWords_49 rfl ?_
            exact mo_fin (by omega) rfl (k1 5 (by omega))
        · refine ja_iconst dfirstWords_38 ?_
          refine ja_ireturn dfirstWords_39 rfl ?_
          exact mo_fin (by omega) rfl (k1 4 (by omega))
      · refine ja_iconst dfirstWords_28 ?_
        refine ja_ireturn dfirstWords_29 rfl ?_
        exact mo_fin (by omega) rfl (k1 3 (by omega))
    · refine ja_iconst dfirstWords_18 ?_
      refine ja_ireturn dfirstWords_19 rfl ?_
      exact mo_fin (by omega) rfl (k1 2 (by omega))
  · refine ja_iconst dfirstWords_8 ?_
    refine ja_ireturn dfirstWords_9 rfl ?_
    exact mo_fin (by omega) rfl (k1 1 (by omega))
theorem t_firstWords {a1 : Int} {d nL pc : Nat} {cc : ByteArray} {rt : Option FieldType} {L : List (Nat × ja_V)} {S : List ja_V} {h : ja_H} {Q : Option ja_V → ja_H → Prop} (hdd : 1 < d) (hwd : ja_wd S ≤ 8) (hd : decode cc pc = .ok (.invokestatic 441, 3)) (g : mo_G Zz h) (k1 : ∀ (v : Int), (0 ≤ v ∧ v ≤ 44) → mJ l D cA ad d cc nL rt (pc + 3) L ((0, v) :: S) h Q) : mJ l D cA ad d cc nL rt pc L ((1, a1) :: S) h Q :=
  mc_firstWords hdd hwd hd (s_firstWords g k1)
end
theorem dlastWords_0 : decode cX12_lastWords 0 = .ok (.lload_n 0, 1) := by decide +kernel
theorem dlastWords_1 : decode cX12_lastWords 1 = .ok (.ldc2_w 492, 3) := by decide +kernel
theorem dlastWords_4 : decode cX12_lastWords 4 = .ok (.lcmp, 1) := by decide +kernel
theorem dlastWords_5 : decode cX12_lastWords 5 = .ok (.ifCond .ne 6, 3) := by decide +kernel
theorem dlastWords_8 : decode cX12_lastWords 8 = .ok (.bipush 23, 2) := by decide +kernel
theorem dlastWords_10 : decode cX12_lastWords 10 = .ok (.ireturn, 1) := by decide +kernel
theorem dlastWords_11 : decode cX12_lastWords 11 = .ok (.lload_n 0, 1) := by decide +kernel
theorem dlastWords_12 : decode cX12_lastWords 12 = .ok (.ldc2_w 494, 3) := by decide +kernel
theorem dlastWords_15 : decode cX12_lastWords 15 = .ok (.lcmp, 1) := by decide +kernel
theorem dlastWords_16 : decode cX12_lastWords 16 = .ok (.ifCond .ne 6, 3) := by decide +kernel
theorem dlastWords_19 : decode cX12_lastWords 19 = .ok (.bipush 24, 2) := by decide +kernel
theorem dlastWords_21 : decode cX12_lastWords 21 = .ok (.ireturn, 1) := by decide +kernel
theorem dlastWords_22 : decode cX12_lastWords 22 = .ok (.lload_n 0, 1) := by decide +kernel
theorem dlastWords_23 : decode cX12_lastWords 23 = .ok (.ldc2_w 496, 3) := by decide +kernel
theorem dlastWords_26 : decode cX12_lastWords 26 = .ok (.lcmp, 1) := by decide +kernel
theorem dlastWords_27 : decode cX12_lastWords 27 = .ok (.ifCond .ne 6, 3) := by decide +kernel
theorem dlastWords_30 : decode cX12_lastWords 30 = .ok (.bipush 25, 2) := by decide +kernel
theorem dlastWords_32 : decode cX12_lastWords 32 = .ok (.ireturn, 1) := by decide +kernel
theorem dlastWords_33 : decode cX12_lastWords 33 = .ok (.lload_n 0, 1) := by decide +kernel
theorem dlastWords_34 : decode cX12_lastWords 34 = .ok (.ldc2_w 498, 3) := by decide +kernel
theorem dlastWords_37 : decode cX12_lastWords 37 = .ok (.lcmp, 1) := by decide +kernel
theorem dlastWords_38 : decode cX12_lastWords 38 = .ok (.ifCond .ne 6, 3) := by decide +kernel
theorem dlastWords_41 : decode cX12_lastWords 41 = .ok (.bipush 26, 2) := by decide +kernel
theorem dlastWords_43 : decode cX12_lastWords 43 = .ok (.ireturn, 1) := by decide +kernel
theorem dlastWords_44 : decode cX12_lastWords 44 = .ok (.lload_n 0, 1) := by decide +kernel
theorem dlastWords_45 : decode cX12_lastWords 45 = .ok (.ldc2_w 500, 3) := by decide +kernel
theorem dlastWords_48 : decode cX12_lastWords 48 = .ok (.lcmp, 1) := by decide +kernel
theorem dlastWords_49 : decode cX12_lastWords 49 = .ok (.ifCond .ne 6, 3) := by decide +kernel
theorem dlastWords_52 : decode cX12_lastWords 52 = .ok (.bipush 27, 2) := by decide +kernel
theorem dlastWords_54 : decode cX12_lastWords 54 = .ok (.ireturn, 1) := by decide +kernel
theorem dlastWords_55 : decode cX12_lastWords 55 = .ok (.lload_n 0, 1) := by decide +kernel
theorem dlastWords_56 : decode cX12_lastWords 56 = .ok (.ldc2_w 502, 3) := by decide +kernel
theorem dlastWords_59 : decode cX12_lastWords 59 = .ok (.lcmp, 1) := by decide +kernel
theorem dlastWords_60 : decode cX12_lastWords 60 = .ok (.ifCond .ne 6, 3) := by decide +kernel
theorem dlastWords_63 : decode cX12_lastWords 63 = .ok (.bipush 28, 2) := by decide +kernel
theorem dlastWords_65 : decode cX12_lastWords 65 = .ok (.ireturn, 1) := by decide +kernel
theorem dlastWords_66 : decode cX12_lastWords 66 = .ok (.lload_n 0, 1) := by decide +kernel
theorem dlastWords_67 : decode cX12_lastWords 67 = .ok (.ldc2_w 504, 3) := by decide +kernel
theorem dlastWords_70 : decode cX12_lastWords 70 = .ok (.lcmp, 1) := by decide +kernel
theorem dlastWords_71 : decode cX12_lastWords 71 = .ok (.ifCond .ne 6, 3) := by decide +kernel
theorem dlastWords_74 : decode cX12_lastWords 74 = .ok (.bipush 29, 2) := by decide +kernel
theorem dlastWords_76 : decode cX12_lastWords 76 = .ok (.ireturn, 1) := by decide +kernel
theorem dlastWords_77 : decode cX12_lastWords 77 = .ok (.lload_n 0, 1) := by decide +kernel
theorem dlastWords_78 : decode cX12_lastWords 78 = .ok (.ldc2_w 506, 3) := by decide +kernel
theorem dlastWords_81 : decode cX12_lastWords 81 = .ok (.lcmp, 1) := by decide +kernel
theorem dlastWords_82 : decode cX12_lastWords 82 = .ok (.ifCond .ne 6, 3) := by decide +kernel
theorem dlastWords_85 : decode cX12_lastWords 85 = .ok (.bipush 30, 2) := by decide +kernel
theorem dlastWords_87 : decode cX12_lastWords 87 = .ok (.ireturn, 1) := by decide +kernel
theorem dlastWords_88 : decode cX12_lastWords 88 = .ok (.lload_n 0, 1) := by decide +kernel
theorem dlastWords_89 : decode cX12_lastWords 89 = .ok (.ldc2_w 508, 3) := by decide +kernel
theorem dlastWords_92 : decode cX12_lastWords 92 = .ok (.lcmp, 1) := by decide +kernel
theorem dlastWords_93 : decode cX12_lastWords 93 = .ok (.ifCond .ne 6, 3) := by decide +kernel
theorem dlastWords_96 : decode cX12_lastWords 96 = .ok (.bipush 31, 2) := by decide +kernel
theorem dlastWords_98 : decode cX12_lastWords 98 = .ok (.ireturn, 1) := by decide +kernel
theorem dlastWords_99 : decode cX12_lastWords 99 = .ok (.lload_n 0, 1) := by decide +kernel
theorem dlastWords_100 : decode cX12_lastWords 100 = .ok (.ldc2_w 510, 3) := by decide +kernel
theorem dlastWords_103 : decode cX12_lastWords 103 = .ok (.lcmp, 1) := by decide +kernel
theorem dlastWords_104 : decode cX12_lastWords 104 = .ok (.ifCond .ne 6, 3) := by decide +kernel
theorem dlastWords_107 : decode cX12_lastWords 107 = .ok (.bipush 32, 2) := by decide +kernel
theorem dlastWords_109 : decode cX12_lastWords 109 = .ok (.ireturn, 1) := by decide +kernel
theorem dlastWords_110 : decode cX12_lastWords 110 = .ok (.lload_n 0, 1) := by decide +kernel
theorem dlastWords_111 : decode cX12_lastWords 111 = .ok (.ldc2_w 512, 3) := by decide +kernel
theorem dlastWords_114 : decode cX12_lastWords 114 = .ok (.lcmp, 1) := by decide +kernel
theorem dlastWords_115 : decode cX12_lastWords 115 = .ok (.ifCond .ne 6, 3) := by decide +kernel
theorem dlastWords_118 : decode cX12_lastWords 118 = .ok (.bipush 33, 2) := by decide +kernel
theorem dlastWords_120 : decode cX12_lastWords 120 = .ok (.ireturn, 1) := by decide +kernel
theorem dlastWords_121 : decode cX12_lastWords 121 = .ok (.lload_n 0, 1) := by decide +kernel
theorem dlastWords_122 : decode cX12_lastWords 122 = .ok (.ldc2_w 514, 3) := by decide +kernel
theorem dlastWords_125 : decode cX12_lastWords 125 = .ok (.lcmp, 1) := by decide +kernel
theorem dlastWords_126 : decode cX12_lastWords 126 = .ok (.ifCond .ne 6, 3) := by decide +kernel
theorem dlastWords_129 : decode cX12_lastWords 129 = .ok (.bipush 34, 2) := by decide +kernel
theorem dlastWords_131 : decode cX12_lastWords 131 = .ok (.ireturn, 1) := by decide +kernel
theorem dlastWords_132 : decode cX12_lastWords 132 = .ok (.lload_n 0, 1) := by decide +kernel
theorem dlastWords_133 : decode cX12_lastWords 133 = .ok (.ldc2_w 516, 3) := by decide +kernel
theorem dlastWords_136 : decode cX12_lastWords 136 = .ok (.lcmp, 1) := by decide +kernel
theorem dlastWords_137 : decode cX12_lastWords 137 = .ok (.ifCond .ne 6, 3) := by decide +kernel
theorem dlastWords_140 : decode cX12_lastWords 140 = .ok (.bipush 35, 2) := by decide +kernel
theorem dlastWords_142 : decode cX12_lastWords 142 = .ok (.ireturn, 1) := by decide +kernel
theorem dlastWords_143 : decode cX12_lastWords 143 = .ok (.lload_n 0, 1) := by decide +kernel
theorem dlastWords_144 : decode cX12_lastWords 144 = .ok (.ldc2_w 518, 3) := by decide +kernel
theorem dlastWords_147 : decode cX12_lastWords 147 = .ok (.lcmp, 1) := by decide +kernel
theorem dlastWords_148 : decode cX12_lastWords 148 = .ok (.ifCond .ne 6, 3) := by decide +kernel
theorem dlastWords_151 : decode cX12_lastWords 151 = .ok (.bipush 36, 2) := by decide +kernel
theorem dlastWords_153 : decode cX12_lastWords 153 = .ok (.ireturn, 1) := by decide +kernel
theorem dlastWords_154 : decode cX12_lastWords 154 = .ok (.lload_n 0, 1) := by decide +kernel
theorem dlastWords_155 : decode cX12_lastWords 155 = .ok (.ldc2_w 520, 3) := by decide +kernel
theorem dlastWords_158 : decode cX12_lastWords 158 = .ok (.lcmp, 1) := by decide +kernel
theorem dlastWords_159 : decode cX12_lastWords 159 = .ok (.ifCond .ne 6, 3) := by decide +kernel
theorem dlastWords_162 : decode cX12_lastWords 162 = .ok (.bipush 37, 2) := by decide +kernel
theorem dlastWords_164 : decode cX12_lastWords 164 = .ok (.ireturn, 1) := by decide +kernel
theorem dlastWords_165 : decode cX12_lastWords 165 = .ok (.lload_n 0, 1) := by decide +kernel
theorem dlastWords_166 : decode cX12_lastWords 166 = .ok (.ldc2_w 522, 3) := by decide +kernel
theorem dlastWords_169 : decode cX12_lastWords 169 = .ok (.lcmp, 1) := by decide +kernel
theorem dlastWords_170 : decode cX12_lastWords 170 = .ok (.ifCond .ne 6, 3) := by decide +kernel
theorem dlastWords_173 : decode cX12_lastWords 173 = .ok (.bipush 38, 2) := by decide +kernel
theorem dlastWords_175 : decode cX12_lastWords 175 = .ok (.ireturn, 1) := by decide +kernel
theorem dlastWords_176 : decode cX12_lastWords 176 = .ok (.lload_n 0, 1) := by decide +kernel
theorem dlastWords_177 : decode cX12_lastWords 177 = .ok (.ldc2_w 524, 3) := by decide +kernel
theorem dlastWords_180 : decode cX12_lastWords 180 = .ok (.lcmp, 1) := by decide +kernel
theorem dlastWords_181 : decode cX12_lastWords 181 = .ok (.ifCond .ne 6, 3) := by decide +kernel
theorem dlastWords_184 : decode cX12_lastWords 184 = .ok (.bipush 39, 2) := by decide +kernel
theorem dlastWords_186 : decode cX12_lastWords 186 = .ok (.ireturn, 1) := by decide +kernel
theorem dlastWords_187 : decode cX12_lastWords 187 = .ok (.lload_n 0, 1) := by decide +kernel
theorem dlastWords_188 : decode cX12_lastWords 188 = .ok (.ldc2_w 526, 3) := by decide +kernel
theorem dlastWords_191 : decode cX12_lastWords 191 = .ok (.lcmp, 1) := by decide +kernel
theorem dlastWords_192 : decode cX12_lastWords 192 = .ok (.ifCond .ne 6, 3) := by decide +kernel
theorem dlastWords_195 : decode cX12_lastWords 195 = .ok (.bipush 40, 2) := by decide +kernel
theorem dlastWords_197 : decode cX12_lastWords 197 = .ok (.ireturn, 1) := by decide +kernel
theorem dlastWords_198 : decode cX12_lastWords 198 = .ok (.lload_n 0, 1) := by decide +kernel
theorem dlastWords_199 : decode cX12_lastWords 199 = .ok (.ldc2_w 528, 3) := by decide +kernel
theorem dlastWords_202 : decode cX12_lastWords 202 = .ok (.lcmp, 1) := by decide +kernel
theorem dlastWords_203 : decode cX12_lastWords 203 = .ok (.ifCond .ne 6, 3) := by decide +kernel
theorem dlastWords_206 : decode cX12_lastWords 206 = .ok (.bipush 41, 2) := by decide +kernel
theorem dlastWords_208 : decode cX12_lastWords 208 = .ok (.ireturn, 1) := by decide +kernel
theorem dlastWords_209 : decode cX12_lastWords 209 = .ok (.lload_n 0, 1) := by decide +kernel
theorem dlastWords_210 : decode cX12_lastWords 210 = .ok (.ldc2_w 530, 3) := by decide +kernel
theorem dlastWords_213 : decode cX12_lastWords 213 = .ok (.lcmp, 1) := by decide +kernel
theorem dlastWords_214 : decode cX12_lastWords 214 = .ok (.ifCond .ne 6, 3) := by decide +kernel
theorem dlastWords_217 : decode cX12_lastWords 217 = .ok (.bipush 42, 2) := by decide +kernel
theorem dlastWords_219 : decode cX12_lastWords 219 = .ok (.ireturn, 1) := by decide +kernel
theorem dlastWords_220 : decode cX12_lastWords 220 = .ok (.lload_n 0, 1) := by decide +kernel
theorem dlastWords_221 : decode cX12_lastWords 221 = .ok (.ldc2_w 532, 3) := by decide +kernel
theorem dlastWords_224 : decode cX12_lastWords 224 = .ok (.lcmp, 1) := by decide +kernel
theorem dlastWords_225 : decode cX12_lastWords 225 = .ok (.ifCond .ne 6, 3) := by decide +kernel
theorem dlastWords_228 : decode cX12_lastWords 228 = .ok (.bipush 43, 2) := by decide +kernel
theorem dlastWords_230 : decode cX12_lastWords 230 = .ok (.ireturn, 1) := by decide +kernel
theorem dlastWords_231 : decode cX12_lastWords 231 = .ok (.lload_n 0, 1) := by decide +kernel
theorem dlastWords_232 : decode cX12_lastWords 232 = .ok (.ldc2_w 534, 3) := by decide +kernel
theorem dlastWords_235 : decode cX12_lastWords 235 = .ok (.lcmp, 1) := by decide +kernel
theorem dlastWords_236 : decode cX12_lastWords 236 = .ok (.ifCond .ne 8, 3) := by decide +kernel
theorem dlastWords_239 : decode cX12_lastWords 239 = .ok (.bipush 44, 2) := by decide +kernel
theorem dlastWords_241 : decode cX12_lastWords 241 = .ok (.goto 4, 3) := by decide +kernel
theorem dlastWords_244 : decode cX12_lastWords 244 = .ok (.iconst 0, 1) := by decide +kernel
theorem dlastWords_245 : decode cX12_lastWords 245 = .ok (.ireturn, 1) := by decide +kernel
section
variable {l : Launch} {D : va_G} {cA : Nat → ClassId} {ad : Nat → Nat}
theorem s_lastWords {a1 : Int} {h : ja_H} {Q : Option ja_V → ja_H → Prop} (g : mo_G Zz h) (k1 : ∀ (v : Int), (0 ≤ v ∧ v ≤ 44) → Q (some (0, v)) h) : mM_lastWords l D cA ad a1 h Q := by
  show mJ l D cA ad 1 cX12_lastWords 2 (some .int) 0 [(0, (1, a1))] [] h Q
  have kn_size := gF_size g
  refine ja_lload_n dlastWords_0 rfl rfl ?_
  refine mk_492 dlastWords_1 ?_
  refine mo_lcmp dlastWords_4 (fun v1 rv1 => ?_)
  refine ja_if_ne 11 dlastWords_5 rfl ⟨by omega, by omega⟩ (fun c5 => ?_) (fun c5 => ?_)
  · refine ja_lload_n dlastWords_11 rfl rfl ?_
    refine mk_494 dlastWords_12 ?_
    refine mo_lcmp dlastWords_15 (fun v2 rv2 => ?_)
    refine ja_if_ne 22 dlastWords_16 rfl ⟨by omega, by omega⟩ (fun c16 => ?_) (fun c16 => ?_)
    · refine ja_lload_n dlastWords_22 rfl rfl ?_
      refine mk_496 dlastWords_23 ?_
      refine mo_lcmp dlastWords_26 (fun v3 rv3 => ?_)
      refine ja_if_ne 33 dlastWords_27 rfl ⟨by omega, by omega⟩ (fun c27 => ?_) (fun c27 => ?_)
      · refine ja_lload_n dlastWords_33 rfl rfl ?_
        refine mk_498 dlastWords_34 ?_
        refine mo_lcmp dlastWords_37 (fun v4 rv4 => ?_)
        refine ja_if_ne 44 dlastWords_38 rfl ⟨by omega, by omega⟩ (fun c38 => ?_) (fun c38 => ?_)
        · refine ja_lload_n dlastWords_44 rfl rfl ?_
          refine mk_500 dlastWords_45 ?_
          refine mo_lcmp dlastWords_48 (fun v5 rv5 => ?_)
          refine ja_if_ne 55 dlastWords_49 rfl ⟨by omega, by omega⟩ (fun c49 => ?_) (fun c49 => ?_)
          · refine ja_lload_n dlastWords_55 rfl rfl ?_
            refine mk_502 dlastWords_56 ?_
            refine mo_lcmp dlastWords_59 (fun v6 rv6 => ?_)
            refine ja_if_ne 66 dlastWords_60 rfl ⟨by omega, by omega⟩ (fun c60 => ?_) (fun c60 => ?_)
            · refine ja_lload_n dlastWords_66 rfl rfl ?_
              refine mk_504 dlastWords_67 ?_
              refine mo_lcmp dlastWords_70 (fun v7 rv7 => ?_)
              refine ja_if_ne 77 dlastWords_71 rfl ⟨by omega, by omega⟩ (fun c71 => ?_) (fun c71 => ?_)
              · refine ja_lload_n dlastWords_77 rfl rfl ?_
                refine mk_506 dlastWords_78 ?_
                refine mo_lcmp dlastWords_81 (fun v8 rv8 => ?_)
                refine ja_if_ne 88 dlastWords_82 rfl ⟨by omega, by omega⟩ (fun c82 => ?_) (fun c82 => ?_)
                · refine ja_lload_n dlastWords_88 rfl rfl ?_
                  refine mk_508 dlastWords_89 ?_
                  refine mo_lcmp dlastWords_92 (fun v9 rv9 => ?_)
                  refine ja_if_ne 99 dlastWords_93 rfl ⟨by omega, by omega⟩ (fun c93 => ?_) (fun c93 => ?_)
                  · refine ja_lload_n dlastWords_99 rfl rfl ?_
                    refine mk_510 dlastWords_100 ?_
                    refine mo_lcmp dlastWords_103 (fun v10 rv10 => ?_)
                    refine ja_if_ne 110 dlastWords_104 rfl ⟨by omega, by omega⟩ (fun c104 => ?_) (fun c104 => ?_)
                    · refine ja_lload_n dlastWords_110 rfl rfl ?_
                      refine mk_512 dlastWords_111 ?_
                      refine mo_lcmp dlastWords_114 (fun v11 rv11 => ?_)
                      refine ja_if_ne 121 dlastWords_115 rfl ⟨by omega, by omega⟩ (fun c115 => ?_) (fun c115 => ?_)
                      · refine ja_lload_n dlastWords_121 rfl rfl ?_
                        refine mk_514 dlastWords_122 ?_
                        refine mo_lcmp dlastWords_125 (fun v12 rv12 => ?_)
                        refine ja_if_ne 132 dlastWords_126 rfl ⟨by omega, by omega⟩ (fun c126 => ?_) (fun c126 => ?_)
                        · refine ja_lload_n dlastWords_132 rfl rfl ?_
                          refine mk_516 dlastWords_133 ?_
                          refine mo_lcmp dlastWords_136 (fun v13 rv13 => ?_)
                          refine ja_if_ne 143 dlastWords_137 rfl ⟨by omega, by omega⟩ (fun c137 => ?_) (fun c137 => ?_)
                          · refine ja_lload_n dlastWords_143 rfl rfl ?_
                            refine mk_518 dlastWords_144 ?_
                            refine mo_lcmp dlastWords_147 (fun v14 rv14 => ?_)
                            refine ja_if_ne 154 dlastWords_148 rfl ⟨by omega, by omega⟩ (fun c148 => ?_) (fun c148 => ?_)
                            · refine ja_lload_n dlastWords_154 rfl rfl ?_
                              refine mk_520 dlastWords_155 ?_
                              refine mo_lcmp dlastWords_158 (fun v15 rv15 => ?_)
                              refine ja_if_ne 165 dlastWords_159 rfl ⟨by omega, by omega⟩ (fun c159 => ?_) (fun c159 => ?_)
                              · refine ja_lload_n dlastWords_165 rfl rfl ?_
                                refine mk_522 dlastWords_166 ?_
                                refine mo_lcmp dlastWords_169 (fun v16 rv16 => ?_)
                                refine ja_if_ne 176 dlastWords_170 rfl ⟨by omega, by omega⟩ (fun c170 => ?_) (fun c170 => ?_)
                                · refine ja_lload_n dlastWords_176 rfl rfl ?_
                                  refine mk_524 dlastWords_177 ?_
                                  refine mo_lcmp dlastWords_180 (fun v17 rv17 => ?_)
                                  refine ja_if_ne 187 dlastWords_181 rfl ⟨by omega, by omega⟩ (fun c181 => ?_) (fun c181 => ?_)
                                  · refine ja_lload_n dlastWords_187 rfl rfl ?_
                                    refine mk_526 dlastWords_188 ?_
                                    refine mo_lcmp dlastWords_191 (fun v18 rv18 => ?_)
                                    refine ja_if_ne 198 dlastWords_192 rfl ⟨by omega, by omega⟩ (fun c192 => ?_) (fun c192 => ?_)
                                    · refine ja_lload_n dlastWords_198 rfl rfl ?_
                                      refine mk_528 dlastWords_199 ?_
                                      refine mo_lcmp dlastWords_202 (fun v19 rv19 => ?_)
                                      refine ja_if_ne 209 dlastWords_203 rfl ⟨by omega, by omega⟩ (fun c203 => ?_) (fun c203 => ?_)
                                      · refine ja_lload_n dlastWords_209 rfl rfl ?_
                                        refine mk_530 dlastWords_210 ?_
                                        refine mo_lcmp dlastWords_213 (fun v20 rv20 => ?_)
                                        refine ja_if_ne 220 dlastWords_214 rfl ⟨by omega, by omega⟩ (fun c214 => ?_) (fun c214 => ?_)
                                        · refine ja_lload_n dlastWords_220 rfl rfl ?_
                                          refine mk_532 dlastWords_221 ?_
                                          refine mo_lcmp dlastWords_224 (fun v21 rv21 => ?_)
                                          refine ja_if_ne 231 dlastWords_225 rfl ⟨by omega, by omega⟩ (fun c225 => ?_) (fun c225 => ?_)
                                          · refine ja_lload_n dlastWords_231 rfl rfl ?_
                                            refine mk_534 dlastWords_232 ?_
                                            refine mo_lcmp dlastWords_235 (fun v22 rv22 => ?_)
                                            refine ja_if_ne 244 dlastWords_236 rfl ⟨by omega, by omega⟩ (fun c236 => ?_) (fun c236 => ?_)
                                            · refine ja_iconst dlastWords_244 ?_
                                              refine ja_ireturn dlastWords_245 rfl ?_
                                              exact mo_fin (by omega) rfl (k1 0 (by omega))
                                            · refine ja_bipush 44 dlastWords_239 rfl ?_
                                              refine ja_goto 245 dlastWords_241 rfl ?_
                                              refine ja_ireturn dlastWords_245 rfl ?_
                                              exact mo_fin (by omega) rfl (k1 44 (by omega))
                                          · refine ja_bipush 43 dlastWords_228 rfl ?_
                                            refine ja_ireturn dlastWords_230 rfl ?_
                                            exact mo_fin (by omega) rfl (k1 43 (by omega))
                                        · refine ja_bipush 42 dlastWords_217 rfl ?_
                                          refine ja_ireturn dlastWords_219 rfl ?_
                                          exact mo_fin (by omega) rfl (k1 42 (by omega))
                                      · refine ja_bipush 41 dlastWords_206 rfl ?_
                                        refine ja_ireturn dlastWords_208 rfl ?_
                                        exact mo_fin (by omega) rfl (k1 41 (by omega))
                                    · refine ja_bipush 40 dlastWords_195 rfl ?_
                                      refine ja_ireturn dlastWords_197 rfl ?_
                                      exact mo_fin (by omega) rfl (k1 40 (by omega))
                                  · refine ja_bipush 39 dlastWords_184 rfl ?_
                                    refine ja_ireturn dlastWords_186 rfl ?_
                                    exact mo_fin (by omega) rfl (k1 39 (by omega))
                                · refine ja_bipush 38 dlastWords_173 rfl ?_
                                  refine ja_ireturn dlastWords_175 rfl ?_
                                  exact mo_fin (by omega) rfl (k1 38 (by omega))
                              · refine ja_bipush 37 dlastWords_162 rfl ?_
                                refine ja_ireturn dlastWords_164 rfl ?_
                                exact mo_fin (by omega) rfl (k1 37 (by omega))
                            · refine ja_bipush 36 dlastWords_151 rfl ?_
                              refine ja_ireturn dlastWords_153 rfl ?_
                              exact mo_fin (by omega) rfl (k1 36 (by omega))
                          · refine ja_bipush 35 dlastWords_140 rfl ?_
                            refine ja_ireturn dlastWords_142 rfl ?_
                            exact mo_fin (by omega) rfl (k1 35 (by omega))
                        · refine ja_bipush 34 dlastWords_129 rfl ?_
                          refine ja_ireturn dlastWords_131 rfl ?_
                          exact mo_fin (by omega) rfl (k1 34 (by omega))
                      · refine ja_bipush 33 dlastWords_118 rfl ?_
                        refine ja_ireturn dlastWords_120 rfl ?_
                        exact mo_fin (by omega) rfl (k1 33 (by omega))
                    · refine ja_bipush 32 dlastWords_107 rfl ?_
                      refine ja_ireturn dlastWords_109 rfl ?_
                      exact mo_fin (by omega) rfl (k1 32 (by omega))
                  · refine ja_bipush 31 dlastWords_96 rfl ?_
                    refine ja_ireturn dlastWords_98 rfl ?_
                    exact mo_fin (by omega) rfl (k1 31 (by omega))
                · refine ja_bipush 30 dlastWords_85 rfl ?_
                  refine ja_ireturn dlastWords_87 rfl ?_
                  exact mo_fin (by omega) rfl (k1 30 (by omega))
              · refine ja_bipush 29 dlastWords_74 rfl ?_
                refine ja_ireturn dlastWords_76 rfl ?_
                exact mo_fin (by omega) rfl (k1 29 (by omega))
            · refine ja_bipush 28 dlastWords_63 rfl ?_
              refine ja_ireturn dlastWords_65 rfl ?_
              exact mo_fin (by omega) rfl (k1 28 (by omega))
          · refine ja_bipush 27 dlastWords_52 rfl ?_
            refine ja_ireturn dlastWords_54 rfl ?_
            exact mo_fin (by omega) rfl (k1 27 (by omega))
        · refine ja_bipush 26 dlastWords_41 rfl ?_
          refine ja_ireturn dlastWords_43 rfl ?_
          exact mo_fin (by omega) rfl (k1 26 (by omega))
      · refine ja_bipush 25 dlastWords_30 rfl ?_
        refine ja_ireturn dlastWords_32 rfl ?_
        exact mo_fin (by omega) rfl (k1 25 (by omega))
    · refine ja_bipush 24 dlastWords_19 rfl ?_
      refine ja_ireturn dlastWords_21 rfl ?_
      exact mo_fin (by omega) rfl (k1 24 (by omega))
  · refine ja_bipush 23 dlastWords_8 rfl ?_
    refine ja_ireturn dlastWords_10 rfl ?_
    exact mo_fin (by omega) rfl (k1 23 (by omega))
theorem t_lastWords {a1 : Int} {d nL pc : Nat} {cc : ByteArray} {rt : Option FieldType} {L : List (Nat × ja_V)} {S : List ja_V} {h : ja_H} {Q : Option ja_V → ja_H → Prop} (hdd : 1 < d) (hwd : ja_wd S ≤ 8) (hd : decode cc pc = .ok (.invokestatic 445, 3)) (g : mo_G Zz h) (k1 : ∀ (v : Int), (0 ≤ v ∧ v ≤ 44) → mJ l D cA ad d cc nL rt (pc + 3) L ((0, v) :: S) h Q) : mJ l D cA ad d cc nL rt pc L ((1, a1) :: S) h Q :=
  mc_lastWords hdd hwd hd (s_lastWords g k1)
end
theorem dwordOf_0 : decode cX12_wordOf 0 = .ok (.lload_n 0, 1) := by decide +kernel
theorem dwordOf_1 : decode cX12_wordOf 1 = .ok (.invokestatic 441, 3) := by decide +kernel
theorem dwordOf_4 : decode cX12_wordOf 4 = .ok (.istore_n 2, 1) := by decide +kernel
theorem dwordOf_5 : decode cX12_wordOf 5 = .ok (.iload_n 2, 1) := by decide +kernel
theorem dwordOf_6 : decode cX12_wordOf 6 = .ok (.ifCond .le 7, 3) := by decide +kernel
theorem dwordOf_9 : decode cX12_wordOf 9 = .ok (.iload_n 2, 1) := by decide +kernel
theorem dwordOf_10 : decode cX12_wordOf 10 = .ok (.goto 7, 3) := by decide +kernel
theorem dwordOf_13 : decode cX12_wordOf 13 = .ok (.lload_n 0, 1) := by decide +kernel
theorem dwordOf_14 : decode cX12_wordOf 14 = .ok (.invokestatic 445, 3) := by decide +kernel
theorem dwordOf_17 : decode cX12_wordOf 17 = .ok (.ireturn, 1) := by decide +kernel
section
variable {l : Launch} {D : va_G} {cA : Nat → ClassId} {ad : Nat → Nat}
theorem s_wordOf {a1 : Int} {h : ja_H} {Q : Option ja_V → ja_H → Prop} (g : mo_G Zz h) (k1 : ∀ (v : Int), (0 ≤ v ∧ v ≤ 44) → Q (some (0, v)) h) : mM_wordOf l D cA ad a1 h Q := by
  show mJ l D cA ad 2 cX12_wordOf 3 (some .int) 0 [(0, (1, a1))] [] h Q
  have kn_size := gF_size g
  refine ja_lload_n dwordOf_0 rfl rfl ?_
  refine t_firstWords (by decide) (show (0 : Nat) ≤ 8 by decide) dwordOf_1 g  ?_
  intro w1 k1_0
  refine ja_istore_n dwordOf_4 rfl (by decide) (L2 := [(2, (0, w1)), (0, (1, a1))]) rfl ?_
  refine ja_iload_n dwordOf_5 rfl rfl ?_
  refine ja_if_le 13 dwordOf_6 rfl ⟨by omega, by omega⟩ (fun c6 => ?_) (fun c6 => ?_)
  · refine ja_lload_n dwordOf_13 rfl rfl ?_
    refine t_lastWords (by decide) (show (0 : Nat) ≤ 8 by decide) dwordOf_14 g  ?_
    intro w2 k14_0
    refine ja_ireturn dwordOf_17 rfl ?_
    exact mo_fin (by omega) rfl (k1 w2 (by omega))
  · refine ja_iload_n dwordOf_9 rfl rfl ?_
    refine ja_goto 17 dwordOf_10 rfl ?_
    refine ja_ireturn dwordOf_17 rfl ?_
    exact mo_fin (by omega) rfl (k1 w1 (by omega))
theorem t_wordOf {a1 : Int} {d nL pc : Nat} {cc : ByteArray} {rt : Option FieldType} {L : List (Nat × ja_V)} {S : List ja_V} {h : ja_H} {Q : Option ja_V → ja_H → Prop} (hdd : 2 < d) (hwd : ja_wd S ≤ 8) (hd : decode cc pc = .ok (.invokestatic 548, 3)) (g : mo_G Zz h) (k1 : ∀ (v : Int), (0 ≤ v ∧ v ≤ 44) → mJ l D cA ad d cc nL rt (pc + 3) L ((0, v) :: S) h Q) : mJ l D cA ad d cc nL rt pc L ((1, a1) :: S) h Q :=
  mc_wordOf hdd hwd hd (s_wordOf g k1)
end
theorem dpartEnd_0 : decode cX12_partEnd 0 = .ok (.iload_n 1, 1) := by decide +kernel
theorem dpartEnd_1 : decode cX12_partEnd 1 = .ok (.istore_n 2, 1) := by decide +kernel
theorem dpartEnd_2 : decode cX12_partEnd 2 = .ok (.aload_n 0, 1) := by decide +kernel
theorem dpartEnd_3 : decode cX12_partEnd 3 = .ok (.iload_n 2, 1) := by decide +kernel
theorem dpartEnd_4 : decode cX12_partEnd 4 = .ok (.invokevirtual 437, 3) := by decide +kernel
theorem dpartEnd_7 : decode cX12_partEnd 7 = .ok (.invokestatic 539, 3) := by decide +kernel
theorem dpartEnd_10 : decode cX12_partEnd 10 = .ok (.ifCond .ne 24, 3) := by decide +kernel
theorem dpartEnd_13 : decode cX12_partEnd 13 = .ok (.aload_n 0, 1) := by decide +kernel
theorem dpartEnd_14 : decode cX12_partEnd 14 = .ok (.iload_n 2, 1) := by decide +kernel
theorem dpartEnd_15 : decode cX12_partEnd 15 = .ok (.invokevirtual 437, 3) := by decide +kernel
theorem dpartEnd_18 : decode cX12_partEnd 18 = .ok (.invokestatic 543, 3) := by decide +kernel
theorem dpartEnd_21 : decode cX12_partEnd 21 = .ok (.ifCond .ne 13, 3) := by decide +kernel
theorem dpartEnd_24 : decode cX12_partEnd 24 = .ok (.aload_n 0, 1) := by decide +kernel
theorem dpartEnd_25 : decode cX12_partEnd 25 = .ok (.iload_n 2, 1) := by decide +kernel
theorem dpartEnd_26 : decode cX12_partEnd 26 = .ok (.invokevirtual 437, 3) := by decide +kernel
theorem dpartEnd_29 : decode cX12_partEnd 29 = .ok (.bipush 42, 2) := by decide +kernel
theorem dpartEnd_31 : decode cX12_partEnd 31 = .ok (.if_icmp .ne 9, 3) := by decide +kernel
theorem dpartEnd_34 : decode cX12_partEnd 34 = .ok (.iinc 2 1, 3) := by decide +kernel
theorem dpartEnd_37 : decode cX12_partEnd 37 = .ok (.goto (-35), 3) := by decide +kernel
theorem dpartEnd_40 : decode cX12_partEnd 40 = .ok (.iload_n 2, 1) := by decide +kernel
theorem dpartEnd_41 : decode cX12_partEnd 41 = .ok (.ireturn, 1) := by decide +kernel
section
variable {l : Launch} {D : va_G} {cA : Nat → ClassId} {ad : Nat → Nat}
theorem s_partEnd {a1 : Int} {h : ja_H} {Q : Option ja_V → ja_H → Prop} (g : mo_G Zz h) (r1 : -2147483648 ≤ a1 ∧ a1 ≤ 2147483647) (p1 : 0 ≤ a1) (k1 : ∀ (v : Int), (a1 ≤ v ∧ (v ≤ (h 0 1) ∨ v = a1)) → Q (some (0, v)) h) : mM_partEnd l D cA ad a1 h Q := by
  show mJ l D cA ad 2 cX12_partEnd 3 (some .int) 0 [(0, (2, ((0 : Nat) : Int))), (1, (0, a1))] [] h Q
  have kn_size := gF_size g
  have CUT : ∀ n : Nat, (∀ (x2 : Int), (-2147483648 ≤ x2 ∧ x2 ≤ 2147483647) → (a1 ≤ x2 ∧ (x2 ≤ (h 0 1) ∨ x2 = a1)) → ((5002 - x2).toNat) = n → mJ l D cA ad 2 cX12_partEnd 3 (some .int) 2 [(0, (2, ((0 : Nat) : Int))), (2, (0, x2))] [] h Q) := by
    intro n
    induction n using Nat.strongRecOn with
    | _ n ih =>
      skip
      · intro x2 qx2 iv hm
        subst hm
        refine ja_aload_n dpartEnd_2 rfl rfl ?_
        refine ja_iload_n dpartEnd_3 rfl rfl ?_
        refine t_byteAt (by decide) (show (0 : Nat) ≤ 8 by decide) dpartEnd_4 g ⟨by omega, by omega⟩ (show 0 ≤ x2 by omega) ?_
        intro w1 k4_0
        refine t_isLetter (by decide) (show (0 : Nat) ≤ 8 by decide) dpartEnd_7 g ⟨by omega, by omega⟩ ?_
        intro w2 k7_0
        refine ja_if_ne 34 dpartEnd_10 rfl ⟨by omega, by omega⟩ (fun c10 => ?_) (fun c10 => ?_)
        · refine ja_iinc dpartEnd_34 rfl (by decide) (L2 := [(2, (0, (x2 + 1))), (0, (2, ((0 : Nat) : Int)))]) rfl ?_
          refine ja_goto 2 dpartEnd_37 rfl ?_
          exact ja_wk (fun q hq => by simp only [List.mem_cons, List.not_mem_nil, or_false] at hq; rcases hq with rfl | rfl <;> rfl) ((ih ((5002 - (x2 + 1)).toNat) (by omega)) (x2 + 1)  ⟨by omega, by omega⟩ (show a1 ≤ (x2 + 1) ∧ ((x2 + 1) ≤ (h 0 1) ∨ (x2 + 1) = a1) by omega) rfl)
        · refine ja_aload_n dpartEnd_13 rfl rfl ?_
          refine ja_iload_n dpartEnd_14 rfl rfl ?_
          refine t_byteAt (by decide) (show (0 : Nat) ≤ 8 by decide) dpartEnd_15 g ⟨by omega, by omega⟩ (show 0 ≤ x2 by omega) ?_
          intro w3 k15_0
          refine t_isDigit (by decide) (show (0 : Nat) ≤ 8 by decide) dpartEnd_18 g ⟨by omega, by omega⟩ ?_
          intro w4 k18_0
          refine ja_if_ne 34 dpartEnd_21 rfl ⟨by omega, by omega⟩ (fun c21 => ?_) (fun c21 => ?_)
          · refine ja_iinc dpartEnd_34 rfl (by decide) (L2 := [(2, (0, (x2 + 1))), (0, (2, ((0 : Nat) : Int)))]) rfl ?_
            refine ja_goto 2 dpartEnd_37 rfl ?_
            exact ja_wk (fun q hq => by simp only [List.mem_cons, List.not_mem_nil, or_false] at hq; rcases hq with rfl | rfl <;> rfl) ((ih ((5002 - (x2 + 1)).toNat) (by omega)) (x2 + 1)  ⟨by omega, by omega⟩ (show a1 ≤ (x2 + 1) ∧ ((x2 + 1) ≤ (h 0 1) ∨ (x2 + 1) = a1) by omega) rfl)
          · refine ja_aload_n dpartEnd_24 rfl rfl ?_
            refine ja_iload_n dpartEnd_25 rfl rfl ?_
            refine t_byteAt (by decide) (show (0 : Nat) ≤ 8 by decide) dpartEnd_26 g ⟨by omega, by omega⟩ (show 0 ≤ x2 by omega) ?_
            intro w5 k26_0
            refine ja_bipush 42 dpartEnd_29 rfl ?_
            refine ja_icmp_ne 40 dpartEnd_31 rfl ⟨by omega, by omega⟩ ⟨by decide, by decide⟩ (fun c31 => ?_) (fun c31 => ?_)
            · refine ja_iload_n dpartEnd_40 rfl rfl ?_
              refine ja_ireturn dpartEnd_41 rfl ?_
              exact mo_fin (by omega) rfl (k1 x2 (by omega))
            · refine ja_iinc dpartEnd_34 rfl (by decide) (L2 := [(2, (0, (x2 + 1))), (0, (2, ((0 : Nat) : Int)))]) rfl ?_
              refine ja_goto 2 dpartEnd_37 rfl ?_
              exact ja_wk (fun q hq => by simp only [List.mem_cons, List.not_mem_nil, or_false] at hq; rcases hq with rfl | rfl <;> rfl) ((ih ((5002 - (x2 + 1)).toNat) (by omega)) (x2 + 1)  ⟨by omega, by omega⟩ (show a1 ≤ (x2 + 1) ∧ ((x2 + 1) ≤ (h 0 1) ∨ (x2 + 1) = a1) by omega) rfl)
  refine ja_iload_n dpartEnd_0 rfl rfl ?_
  refine ja_istore_n dpartEnd_1 rfl (by decide) (L2 := [(2, (0, a1)), (0, (2, ((0 : Nat) : Int))), (1, (0, a1))]) rfl ?_
  exact ja_wk (fun q hq => by simp only [List.mem_cons, List.not_mem_nil, or_false] at hq; rcases hq with rfl | rfl <;> rfl) ((CUT _) a1  ⟨by omega, by omega⟩ (show a1 ≤ a1 ∧ (a1 ≤ (h 0 1) ∨ a1 = a1) by omega) rfl)
theorem t_partEnd {a1 : Int} {d nL pc : Nat} {cc : ByteArray} {rt : Option FieldType} {L : List (Nat × ja_V)} {S : List ja_V} {h : ja_H} {Q : Option ja_V → ja_H → Prop} (hdd : 2 < d) (hwd : ja_wd S ≤ 8) (hd : decode cc pc = .ok (.invokevirtual 555, 3)) (g : mo_G Zz h) (r1 : -2147483648 ≤ a1 ∧ a1 ≤ 2147483647) (p1 : 0 ≤ a1) (k1 : ∀ (v : Int), (a1 ≤ v ∧ (v ≤ (h 0 1) ∨ v = a1)) → mJ l D cA ad d cc nL rt (pc + 3) L ((0, v) :: S) h Q) : mJ l D cA ad d cc nL rt pc L ((0, a1) :: (2, ((0 : Nat) : Int)) :: S) h Q :=
  mc_partEnd hdd hwd hd (s_partEnd g r1 p1 k1)
end
theorem dnameOf_0 : decode cX12_nameOf 0 = .ok (.iconst 0, 1) := by decide +kernel
theorem dnameOf_1 : decode cX12_nameOf 1 = .ok (.istore_n 3, 1) := by decide +kernel
theorem dnameOf_2 : decode cX12_nameOf 2 = .ok (.iload_n 3, 1) := by decide +kernel
theorem dnameOf_3 : decode cX12_nameOf 3 = .ok (.aload_n 0, 1) := by decide +kernel
theorem dnameOf_4 : decode cX12_nameOf 4 = .ok (.getfield 536, 3) := by decide +kernel
theorem dnameOf_7 : decode cX12_nameOf 7 = .ok (.if_icmp .ge 107, 3) := by decide +kernel
theorem dnameOf_10 : decode cX12_nameOf 10 = .ok (.aload_n 0, 1) := by decide +kernel
theorem dnameOf_11 : decode cX12_nameOf 11 = .ok (.getfield 13, 3) := by decide +kernel
theorem dnameOf_14 : decode cX12_nameOf 14 = .ok (.iload_n 3, 1) := by decide +kernel
theorem dnameOf_15 : decode cX12_nameOf 15 = .ok (.iaload, 1) := by decide +kernel
theorem dnameOf_16 : decode cX12_nameOf 16 = .ok (.iconst 2, 1) := by decide +kernel
theorem dnameOf_17 : decode cX12_nameOf 17 = .ok (.if_icmp .ne 26, 3) := by decide +kernel
theorem dnameOf_20 : decode cX12_nameOf 20 = .ok (.aload_n 0, 1) := by decide +kernel
theorem dnameOf_21 : decode cX12_nameOf 21 = .ok (.getfield 19, 3) := by decide +kernel
theorem dnameOf_24 : decode cX12_nameOf 24 = .ok (.iload_n 3, 1) := by decide +kernel
theorem dnameOf_25 : decode cX12_nameOf 25 = .ok (.iaload, 1) := by decide +kernel
theorem dnameOf_26 : decode cX12_nameOf 26 = .ok (.aload_n 0, 1) := by decide +kernel
theorem dnameOf_27 : decode cX12_nameOf 27 = .ok (.getfield 16, 3) := by decide +kernel
theorem dnameOf_30 : decode cX12_nameOf 30 = .ok (.iload_n 3, 1) := by decide +kernel
theorem dnameOf_31 : decode cX12_nameOf 31 = .ok (.iaload, 1) := by decide +kernel
theorem dnameOf_32 : decode cX12_nameOf 32 = .ok (.isub, 1) := by decide +kernel
theorem dnameOf_33 : decode cX12_nameOf 33 = .ok (.iload_n 2, 1) := by decide +kernel
theorem dnameOf_34 : decode cX12_nameOf 34 = .ok (.iload_n 1, 1) := by decide +kernel
theorem dnameOf_35 : decode cX12_nameOf 35 = .ok (.isub, 1) := by decide +kernel
theorem dnameOf_36 : decode cX12_nameOf 36 = .ok (.if_icmp .ne 7, 3) := by decide +kernel
theorem dnameOf_39 : decode cX12_nameOf 39 = .ok (.iconst 1, 1) := by decide +kernel
theorem dnameOf_40 : decode cX12_nameOf 40 = .ok (.goto 4, 3) := by decide +kernel
theorem dnameOf_43 : decode cX12_nameOf 43 = .ok (.iconst 0, 1) := by decide +kernel
theorem dnameOf_44 : decode cX12_nameOf 44 = .ok (.istore 4, 2) := by decide +kernel
theorem dnameOf_46 : decode cX12_nameOf 46 = .ok (.iconst 0, 1) := by decide +kernel
theorem dnameOf_47 : decode cX12_nameOf 47 = .ok (.istore 5, 2) := by decide +kernel
theorem dnameOf_49 : decode cX12_nameOf 49 = .ok (.iload 5, 2) := by decide +kernel
theorem dnameOf_51 : decode cX12_nameOf 51 = .ok (.iload_n 2, 1) := by decide +kernel
theorem dnameOf_52 : decode cX12_nameOf 52 = .ok (.iload_n 1, 1) := by decide +kernel
theorem dnameOf_53 : decode cX12_nameOf 53 = .ok (.isub, 1) := by decide +kernel
theorem dnameOf_54 : decode cX12_nameOf 54 = .ok (.if_icmp .ge 47, 3) := by decide +kernel
theorem dnameOf_57 : decode cX12_nameOf 57 = .ok (.iload 4, 2) := by decide +kernel
theorem dnameOf_59 : decode cX12_nameOf 59 = .ok (.ifCond .eq 42, 3) := by decide +kernel
theorem dnameOf_62 : decode cX12_nameOf 62 = .ok (.aload_n 0, 1) := by decide +kernel
theorem dnameOf_63 : decode cX12_nameOf 63 = .ok (.getfield 7, 3) := by decide +kernel
theorem dnameOf_66 : decode cX12_nameOf 66 = .ok (.aload_n 0, 1) := by decide +kernel
theorem dnameOf_67 : decode cX12_nameOf 67 = .ok (.getfield 16, 3) := by decide +kernel
theorem dnameOf_70 : decode cX12_nameOf 70 = .ok (.iload_n 3, 1) := by decide +kernel
theorem dnameOf_71 : decode cX12_nameOf 71 = .ok (.iaload, 1) := by decide +kernel
theorem dnameOf_72 : decode cX12_nameOf 72 = .ok (.iload 5, 2) := by decide +kernel
theorem dnameOf_74 : decode cX12_nameOf 74 = .ok (.iadd, 1) := by decide +kernel
theorem dnameOf_75 : decode cX12_nameOf 75 = .ok (.iaload, 1) := by decide +kernel
theorem dnameOf_76 : decode cX12_nameOf 76 = .ok (.aload_n 0, 1) := by decide +kernel
theorem dnameOf_77 : decode cX12_nameOf 77 = .ok (.getfield 7, 3) := by decide +kernel
theorem dnameOf_80 : decode cX12_nameOf 80 = .ok (.iload_n 1, 1) := by decide +kernel
theorem dnameOf_81 : decode cX12_nameOf 81 = .ok (.iload 5, 2) := by decide +kernel
theorem dnameOf_83 : decode cX12_nameOf 83 = .ok (.iadd, 1) := by decide +kernel
theorem dnameOf_84 : decode cX12_nameOf 84 = .ok (.iaload, 1) := by decide +kernel
theorem dnameOf_85 : decode cX12_nameOf 85 = .ok (.if_icmp .ne 7, 3) := by decide +kernel
theorem dnameOf_88 : decode cX12_nameOf 88 = .ok (.iconst 1, 1) := by decide +kernel
theorem dnameOf_89 : decode cX12_nameOf 89 = .ok (.goto 4, 3) := by decide +kernel
theorem dnameOf_92 : decode cX12_nameOf 92 = .ok (.iconst 0, 1) := by decide +kernel
theorem dnameOf_93 : decode cX12_nameOf 93 = .ok (.istore 4, 2) := by decide +kernel
theorem dnameOf_95 : decode cX12_nameOf 95 = .ok (.iinc 5 1, 3) := by decide +kernel
theorem dnameOf_98 : decode cX12_nameOf 98 = .ok (.goto (-49), 3) := by decide +kernel
theorem dnameOf_101 : decode cX12_nameOf 101 = .ok (.iload 4, 2) := by decide +kernel
theorem dnameOf_103 : decode cX12_nameOf 103 = .ok (.ifCond .eq 5, 3) := by decide +kernel
theorem dnameOf_106 : decode cX12_nameOf 106 = .ok (.iload_n 3, 1) := by decide +kernel
theorem dnameOf_107 : decode cX12_nameOf 107 = .ok (.ireturn, 1) := by decide +kernel
theorem dnameOf_108 : decode cX12_nameOf 108 = .ok (.iinc 3 1, 3) := by decide +kernel
theorem dnameOf_111 : decode cX12_nameOf 111 = .ok (.goto (-109), 3) := by decide +kernel
theorem dnameOf_114 : decode cX12_nameOf 114 = .ok (.aload_n 0, 1) := by decide +kernel
theorem dnameOf_115 : decode cX12_nameOf 115 = .ok (.getfield 536, 3) := by decide +kernel
theorem dnameOf_118 : decode cX12_nameOf 118 = .ok (.ireturn, 1) := by decide +kernel
section
variable {l : Launch} {D : va_G} {cA : Nat → ClassId} {ad : Nat → Nat}
theorem s_nameOf {a1 a2 : Int} {h : ja_H} {Q : Option ja_V → ja_H → Prop} (g : mo_G Zz h) (r1 : -2147483648 ≤ a1 ∧ a1 ≤ 2147483647) (r2 : -2147483648 ≤ a2 ∧ a2 ≤ 2147483647) (p1 : 0 ≤ a1 ∧ a1 ≤ a2 ∧ a2 ≤ 5001) (k1 : ∀ (v : Int), (0 ≤ v ∧ v ≤ 901) → Q (some (0, v)) h) : mM_nameOf l D cA ad a1 a2 h Q := by
  show mJ l D cA ad 1 cX12_nameOf 6 (some .int) 0 [(0, (2, ((0 : Nat) : Int))), (1, (0, a1)), (2, (0, a2))] [] h Q
  have kn_size := gF_size g
  have kn_tokens := gF_tokens g
  have CUT : ∀ n : Nat, (∀ (x3 : Int), (-2147483648 ≤ x3 ∧ x3 ≤ 2147483647) → (0 ≤ x3 ∧ x3 ≤ (h 0 6)) → ((20000 * ((h 0 6) - x3) + 10000).toNat) = n → mJ l D cA ad 1 cX12_nameOf 6 (some .int) 2 [(0, (2, ((0 : Nat) : Int))), (1, (0, a1)), (2, (0, a2)), (3, (0, x3))] [] h Q) ∧ (∀ (x3 x4 x5 : Int), (-2147483648 ≤ x3 ∧ x3 ≤ 2147483647) → (-2147483648 ≤ x4 ∧ x4 ≤ 2147483647) → (-2147483648 ≤ x5 ∧ x5 ≤ 2147483647) → (0 ≤ x3 ∧ x3 < (h 0 6) ∧ 0 ≤ x5 ∧ x5 ≤ a2 - a1 ∧ 0 ≤ x4 ∧ x4 ≤ 1 ∧ (x4 = 1 → (h 4 (x3).toNat) - (h 3 (x3).toNat) = a2 - a1)) → ((20000 * ((h 0 6) - x3) + (a2 - a1 - x5)).toNat) = n → mJ l D cA ad 1 cX12_nameOf 6 (some .int) 49 [(0, (2, ((0 : Nat) : Int))), (1, (0, a1)), (2, (0, a2)), (3, (0, x3)), (4, (0, x4)), (5, (0, x5))] [] h Q) := by
    intro n
    induction n using Nat.strongRecOn with
    | _ n ih =>
      refine ⟨?_, ?_⟩
      · intro x3 qx3 iv hm
        subst hm
        refine ja_iload_n dnameOf_2 rfl rfl ?_
        refine ja_aload_n dnameOf_3 rfl rfl ?_
        refine fg_tokens (v := h 0 6) rfl dnameOf_4 ?_
        have f1 := gF_tokens g
        refine ja_icmp_ge 114 dnameOf_7 rfl ⟨by omega, by omega⟩ ⟨by omega, by omega⟩ (fun c7 => ?_) (fun c7 => ?_)
        · refine ja_aload_n dnameOf_114 rfl rfl ?_
          refine fg_tokens (v := h 0 6) rfl dnameOf_115 ?_
          refine ja_ireturn dnameOf_118 rfl ?_
          exact mo_fin (by omega) rfl (k1 (h 0 6) (by omega))
        · refine ja_aload_n dnameOf_10 rfl rfl ?_
          refine fa_kinds dnameOf_11 ?_
          refine ja_iload_n dnameOf_14 rfl rfl ?_
          refine il_kinds (v := h 2 (x3).toNat) rfl ⟨by omega, by omega⟩ dnameOf_15 ?_
          have f2 := gC_kinds g (x3).toNat
          refine ja_iconst dnameOf_16 ?_
          refine ja_icmp_ne 43 dnameOf_17 rfl ⟨by omega, by omega⟩ ⟨by decide, by decide⟩ (fun c17 => ?_) (fun c17 => ?_)
          · refine ja_iconst dnameOf_43 ?_
            refine ja_istore dnameOf_44 (by decide) (L2 := [(4, (0, 0)), (0, (2, ((0 : Nat) : Int))), (1, (0, a1)), (2, (0, a2)), (3, (0, x3))]) rfl ?_
            refine ja_iconst dnameOf_46 ?_
            refine ja_istore dnameOf_47 (by decide) (L2 := [(5, (0, 0)), (4, (0, 0)), (0, (2, ((0 : Nat) : Int))), (1, (0, a1)), (2, (0, a2)), (3, (0, x3))]) rfl ?_
            exact ja_wk (fun q hq => by simp only [List.mem_cons, List.not_mem_nil, or_false] at hq; rcases hq with rfl | rfl | rfl | rfl | rfl | rfl <;> rfl) ((ih ((20000 * ((h 0 6) - x3) + (a2 - a1 - 0)).toNat) (by omega)).2 x3 0 0  ⟨by omega, by omega⟩ ⟨by decide, by decide⟩ ⟨by decide, by decide⟩ (show 0 ≤ x3 ∧ x3 < (h 0 6) ∧ 0 ≤ 0 ∧ 0 ≤ a2 - a1 ∧ 0 ≤ 0 ∧ 0 ≤ 1 ∧ (0 = 1 → (h 4 (x3).toNat) - (h 3 (x3).toNat) = a2 - a1) by omega) rfl)
          · refine ja_aload_n dnameOf_20 rfl rfl ?_
            refine fa_ends dnameOf_21 ?_
            refine ja_iload_n dnameOf_24 rfl rfl ?_
            refine il_ends (v := h 4 (x3).toNat) rfl ⟨by omega, by omega⟩ dnameOf_25 ?_
            have f3 := gC_ends g (x3).toNat
            refine ja_aload_n dnameOf_26 rfl rfl ?_
            refine fa_places dnameOf_27 ?_
            refine ja_iload_n dnameOf_30 rfl rfl ?_
            refine il_places (v := h 3 (x3).toNat) rfl ⟨by omega, by omega⟩ dnameOf_31 ?_
            have f4 := gC_places g (x3).toNat
            refine ja_isub dnameOf_32 ?_
            refine ja_iload_n dnameOf_33 rfl rfl ?_
            refine ja_iload_n dnameOf_34 rfl rfl ?_
            refine ja_isub dnameOf_35 ?_
            refine ja_icmp_ne 43 dnameOf_36 rfl ⟨by omega, by omega⟩ ⟨by omega, by omega⟩ (fun c36 => ?_) (fun c36 => ?_)
            · refine ja_iconst dnameOf_43 ?_
              refine ja_istore dnameOf_44 (by decide) (L2 := [(4, (0, 0)), (0, (2, ((0 : Nat) : Int))), (1, (0, a1)), (2, (0, a2)), (3, (0, x3))]) rfl ?_
              refine ja_iconst dnameOf_46 ?_
              refine ja_istore dnameOf_47 (by decide) (L2 := [(5, (0, 0)), (4, (0, 0)), (0, (2, ((0 : Nat) : Int))), (1, (0, a1)), (2, (0, a2)), (3, (0, x3))]) rfl ?_
              exact ja_wk (fun q hq => by simp only [List.mem_cons, List.not_mem_nil, or_false] at hq; rcases hq with rfl | rfl | rfl | rfl | rfl | rfl <;> rfl) ((ih ((20000 * ((h 0 6) - x3) + (a2 - a1 - 0)).toNat) (by omega)).2 x3 0 0  ⟨by omega, by omega⟩ ⟨by decide, by decide⟩ ⟨by decide, by decide⟩ (show 0 ≤ x3 ∧ x3 < (h 0 6) ∧ 0 ≤ 0 ∧ 0 ≤ a2 - a1 ∧ 0 ≤ 0 ∧ 0 ≤ 1 ∧ (0 = 1 → (h 4 (x3).toNat) - (h 3 (x3).toNat) = a2 - a1) by omega) rfl)
            · refine ja_iconst dnameOf_39 ?_
              refine ja_goto 44 dnameOf_40 rfl ?_
              refine ja_istore dnameOf_44 (by decide) (L2 := [(4, (0, 1)), (0, (2, ((0 : Nat) : Int))), (1, (0, a1)), (2, (0, a2)), (3, (0, x3))]) rfl ?_
              refine ja_iconst dnameOf_46 ?_
              refine ja_istore dnameOf_47 (by decide) (L2 := [(5, (0, 0)), (4, (0, 1)), (0, (2, ((0 : Nat) : Int))), (1, (0, a1)), (2, (0, a2)), (3, (0, x3))]) rfl ?_
              exact ja_wk (fun q hq => by simp only [List.mem_cons, List.not_mem_nil, or_false] at hq; rcases hq with rfl | rfl | rfl | rfl | rfl | rfl <;> rfl) ((ih ((20000 * ((h 0 6) - x3) + (a2 - a1 - 0)).toNat) (by omega)).2 x3 1 0  ⟨by omega, by omega⟩ ⟨by decide, by decide⟩ ⟨by decide, by decide⟩ (show 0 ≤ x3 ∧ x3 < (h 0 6) ∧ 0 ≤ 0 ∧ 0 ≤ a2 - a1 ∧ 0 ≤ 1 ∧ 1 ≤ 1 ∧ (1 = 1 → (h 4 (x3).toNat) - (h 3 (x3).toNat) = a2 - a1) by omega) rfl)
      · intro x3 x4 x5 qx3 qx4 qx5 iv hm
        subst hm
        have q1 := gC_ends g x3.toNat
        refine ja_iload dnameOf_49 rfl ?_
        refine ja_iload_n dnameOf_51 rfl rfl ?_
        refine ja_iload_n dnameOf_52 rfl rfl ?_
        refine ja_isub dnameOf_53 ?_
        refine ja_icmp_ge 101 dnameOf_54 rfl ⟨by omega, by omega⟩ ⟨by omega, by omega⟩ (fun c54 => ?_) (fun c54 => ?_)
        · refine ja_iload dnameOf_101 rfl ?_
          refine ja_if_eq 108 dnameOf_103 rfl ⟨by omega, by omega⟩ (fun c103 => ?_) (fun c103 => ?_)
          · refine ja_iinc dnameOf_108 rfl (by decide) (L2 := [(3, (0, (x3 + 1))), (0, (2, ((0 : Nat) : Int))), (1, (0, a1)), (2, (0, a2)), (4, (0, x4)), (5, (0, x5))]) rfl ?_
            refine ja_goto 2 dnameOf_111 rfl ?_
            exact ja_wk (fun q hq => by simp only [List.mem_cons, List.not_mem_nil, or_false] at hq; rcases hq with rfl | rfl | rfl | rfl <;> rfl) ((ih ((20000 * ((h 0 6) - (x3 + 1)) + 10000).toNat) (by omega)).1 (x3 + 1)  ⟨by omega, by omega⟩ (show 0 ≤ (x3 + 1) ∧ (x3 + 1) ≤ (h 0 6) by omega) rfl)
          · refine ja_iload_n dnameOf_106 rfl rfl ?_
            refine ja_ireturn dnameOf_107 rfl ?_
            exact mo_fin (by omega) rfl (k1 x3 (by omega))
        · refine ja_iload dnameOf_57 rfl ?_
          refine ja_if_eq 101 dnameOf_59 rfl ⟨by omega, by omega⟩ (fun c59 => ?_) (fun c59 => ?_)
          · refine ja_iload dnameOf_101 rfl ?_
            refine ja_if_eq 108 dnameOf_103 rfl ⟨by omega, by omega⟩ (fun c103 => ?_) (fun c103 => ?_)
            · refine ja_iinc dnameOf_108 rfl (by decide) (L2 := [(3, (0, (x3 + 1))), (0, (2, ((0 : Nat) : Int))), (1, (0, a1)), (2, (0, a2)), (4, (0, x4)), (5, (0, x5))]) rfl ?_
              refine ja_goto 2 dnameOf_111 rfl ?_
              exact ja_wk (fun q hq => by simp only [List.mem_cons, List.not_mem_nil, or_false] at hq; rcases hq with rfl | rfl | rfl | rfl <;> rfl) ((ih ((20000 * ((h 0 6) - (x3 + 1)) + 10000).toNat) (by omega)).1 (x3 + 1)  ⟨by omega, by omega⟩ (show 0 ≤ (x3 + 1) ∧ (x3 + 1) ≤ (h 0 6) by omega) rfl)
            · refine ja_iload_n dnameOf_106 rfl rfl ?_
              refine ja_ireturn dnameOf_107 rfl ?_
              exact mo_fin (by omega) rfl (k1 x3 (by omega))
          · refine ja_aload_n dnameOf_62 rfl rfl ?_
            refine fa_text dnameOf_63 ?_
            refine ja_aload_n dnameOf_66 rfl rfl ?_
            refine fa_places dnameOf_67 ?_
            refine ja_iload_n dnameOf_70 rfl rfl ?_
            refine il_places (v := h 3 (x3).toNat) rfl ⟨by omega, by omega⟩ dnameOf_71 ?_
            have f5 := gC_places g (x3).toNat
            refine ja_iload dnameOf_72 rfl ?_
            refine ja_iadd dnameOf_74 ?_
            refine il_text (v := h 1 ((h 3 (x3).toNat) + x5).toNat) rfl ⟨by omega, by omega⟩ dnameOf_75 ?_
            have f6 := gC_text g ((h 3 (x3).toNat) + x5).toNat
            refine ja_aload_n dnameOf_76 rfl rfl ?_
            refine fa_text dnameOf_77 ?_
            refine ja_iload_n dnameOf_80 rfl rfl ?_
            refine ja_iload dnameOf_81 rfl ?_
            refine ja_iadd dnameOf_83 ?_
            refine il_text (v := h 1 (a1 + x5).toNat) rfl ⟨by omega, by omega⟩ dnameOf_84 ?_
            have f7 := gC_text g (a1 + x5).toNat
            refine ja_icmp_ne 92 dnameOf_85 rfl ⟨by omega, by omega⟩ ⟨by omega, by omega⟩ (fun c85 => ?_) (fun c85 => ?_)
            · refine ja_iconst dnameOf_92 ?_
              refine ja_istore dnameOf_93 (by decide) (L2 := [(4, (0, 0)), (0, (2, ((0 : Nat) : Int))), (1, (0, a1)), (2, (0, a2)), (3, (0, x3)), (5, (0, x5))]) rfl ?_
              refine ja_iinc dnameOf_95 rfl (by decide) (L2 := [(5, (0, (x5 + 1))), (4, (0, 0)), (0, (2, ((0 : Nat) : Int))), (1, (0, a1)), (2, (0, a2)), (3, (0, x3))]) rfl ?_
              refine ja_goto 49 dnameOf_98 rfl ?_
              exact ja_wk (fun q hq => by simp only [List.mem_cons, List.not_mem_nil, or_false] at hq; rcases hq with rfl | rfl | rfl | rfl | rfl | rfl <;> rfl) ((ih ((20000 * ((h 0 6) - x3) + (a2 - a1 - (x5 + 1))).toNat) (by omega)).2 x3 0 (x5 + 1)  ⟨by omega, by omega⟩ ⟨by decide, by decide⟩ ⟨by omega, by omega⟩ (show 0 ≤ x3 ∧ x3 < (h 0 6) ∧ 0 ≤ (x5 + 1) ∧ (x5 + 1) ≤ a2 - a1 ∧ 0 ≤ 0 ∧ 0 ≤ 1 ∧ (0 = 1 → (h 4 (x3).toNat) - (h 3 (x3).toNat) = a2 - a1) by omega) rfl)
            · refine ja_iconst dnameOf_88 ?_
              refine ja_goto 93 dnameOf_89 rfl ?_
              refine ja_istore dnameOf_93 (by decide) (L2 := [(4, (0, 1)), (0, (2, ((0 : Nat) : Int))), (1, (0, a1)), (2, (0, a2)), (3, (0, x3)), (5, (0, x5))]) rfl ?_
              refine ja_iinc dnameOf_95 rfl (by decide) (L2 := [(5, (0, (x5 + 1))), (4, (0, 1)), (0, (2, ((0 : Nat) : Int))), (1, (0, a1)), (2, (0, a2)), (3, (0, x3))]) rfl ?_
              refine ja_goto 49 dnameOf_98 rfl ?_
              exact ja_wk (fun q hq => by simp only [List.mem_cons, List.not_mem_nil, or_false] at hq; rcases hq with rfl | rfl | rfl | rfl | rfl | rfl <;> rfl) ((ih ((20000 * ((h 0 6) - x3) + (a2 - a1 - (x5 + 1))).toNat) (by omega)).2 x3 1 (x5 + 1)  ⟨by omega, by omega⟩ ⟨by decide, by decide⟩ ⟨by omega, by omega⟩ (show 0 ≤ x3 ∧ x3 < (h 0 6) ∧ 0 ≤ (x5 + 1) ∧ (x5 + 1) ≤ a2 - a1 ∧ 0 ≤ 1 ∧ 1 ≤ 1 ∧ (1 = 1 → (h 4 (x3).toNat) - (h 3 (x3).toNat) = a2 - a1) by omega) rfl)
  refine ja_iconst dnameOf_0 ?_
  refine ja_istore_n dnameOf_1 rfl (by decide) (L2 := [(3, (0, 0)), (0, (2, ((0 : Nat) : Int))), (1, (0, a1)), (2, (0, a2))]) rfl ?_
  exact ja_wk (fun q hq => by simp only [List.mem_cons, List.not_mem_nil, or_false] at hq; rcases hq with rfl | rfl | rfl | rfl <;> rfl) ((CUT _).1 0  ⟨by decide, by decide⟩ (show 0 ≤ 0 ∧ 0 ≤ (h 0 6) by omega) rfl)
theorem t_nameOf {a1 a2 : Int} {d nL pc : Nat} {cc : ByteArray} {rt : Option FieldType} {L : List (Nat × ja_V)} {S : List ja_V} {h : ja_H} {Q : Option ja_V → ja_H → Prop} (hdd : 1 < d) (hwd : ja_wd S ≤ 8) (hd : decode cc pc = .ok (.invokevirtual 551, 3)) (g : mo_G Zz h) (r1 : -2147483648 ≤ a1 ∧ a1 ≤ 2147483647) (r2 : -2147483648 ≤ a2 ∧ a2 ≤ 2147483647) (p1 : 0 ≤ a1 ∧ a1 ≤ a2 ∧ a2 ≤ 5001) (k1 : ∀ (v : Int), (0 ≤ v ∧ v ≤ 901) → mJ l D cA ad d cc nL rt (pc + 3) L ((0, v) :: S) h Q) : mJ l D cA ad d cc nL rt pc L ((0, a2) :: (0, a1) :: (2, ((0 : Nat) : Int)) :: S) h Q :=
  mc_nameOf hdd hwd hd (s_nameOf g r1 r2 p1 k1)
end
theorem dtokenName_0 : decode cX12_tokenName 0 = .ok (.iload_n 1, 1) := by decide +kernel
theorem dtokenName_1 : decode cX12_tokenName 1 = .ok (.istore_n 2, 1) := by decide +kernel
theorem dtokenName_2 : decode cX12_tokenName 2 = .ok (.lconst 0, 1) := by decide +kernel
theorem dtokenName_3 : decode cX12_tokenName 3 = .ok (.lstore_n 3, 1) := by decide +kernel
theorem dtokenName_4 : decode cX12_tokenName 4 = .ok (.aload_n 0, 1) := by decide +kernel
theorem dtokenName_5 : decode cX12_tokenName 5 = .ok (.iload_n 2, 1) := by decide +kernel
theorem dtokenName_6 : decode cX12_tokenName 6 = .ok (.invokevirtual 437, 3) := by decide +kernel
theorem dtokenName_9 : decode cX12_tokenName 9 = .ok (.invokestatic 539, 3) := by decide +kernel
theorem dtokenName_12 : decode cX12_tokenName 12 = .ok (.ifCond .ne 14, 3) := by decide +kernel
theorem dtokenName_15 : decode cX12_tokenName 15 = .ok (.aload_n 0, 1) := by decide +kernel
theorem dtokenName_16 : decode cX12_tokenName 16 = .ok (.iload_n 2, 1) := by decide +kernel
theorem dtokenName_17 : decode cX12_tokenName 17 = .ok (.invokevirtual 437, 3) := by decide +kernel
theorem dtokenName_20 : decode cX12_tokenName 20 = .ok (.invokestatic 543, 3) := by decide +kernel
theorem dtokenName_23 : decode cX12_tokenName 23 = .ok (.ifCond .eq 36, 3) := by decide +kernel
theorem dtokenName_26 : decode cX12_tokenName 26 = .ok (.iload_n 2, 1) := by decide +kernel
theorem dtokenName_27 : decode cX12_tokenName 27 = .ok (.iload_n 1, 1) := by decide +kernel
theorem dtokenName_28 : decode cX12_tokenName 28 = .ok (.isub, 1) := by decide +kernel
theorem dtokenName_29 : decode cX12_tokenName 29 = .ok (.bipush 7, 2) := by decide +kernel
theorem dtokenName_31 : decode cX12_tokenName 31 = .ok (.if_icmp .ge 18, 3) := by decide +kernel
theorem dtokenName_34 : decode cX12_tokenName 34 = .ok (.lload_n 3, 1) := by decide +kernel
theorem dtokenName_35 : decode cX12_tokenName 35 = .ok (.bipush 8, 2) := by decide +kernel
theorem dtokenName_37 : decode cX12_tokenName 37 = .ok (.lshl, 1) := by decide +kernel
theorem dtokenName_38 : decode cX12_tokenName 38 = .ok (.aload_n 0, 1) := by decide +kernel
theorem dtokenName_39 : decode cX12_tokenName 39 = .ok (.getfield 7, 3) := by decide +kernel
theorem dtokenName_42 : decode cX12_tokenName 42 = .ok (.iload_n 2, 1) := by decide +kernel
theorem dtokenName_43 : decode cX12_tokenName 43 = .ok (.iaload, 1) := by decide +kernel
theorem dtokenName_44 : decode cX12_tokenName 44 = .ok (.i2l, 1) := by decide +kernel
theorem dtokenName_45 : decode cX12_tokenName 45 = .ok (.lor, 1) := by decide +kernel
theorem dtokenName_46 : decode cX12_tokenName 46 = .ok (.goto 6, 3) := by decide +kernel
theorem dtokenName_49 : decode cX12_tokenName 49 = .ok (.ldc2_w 546, 3) := by decide +kernel
theorem dtokenName_52 : decode cX12_tokenName 52 = .ok (.lstore_n 3, 1) := by decide +kernel
theorem dtokenName_53 : decode cX12_tokenName 53 = .ok (.iinc 2 1, 3) := by decide +kernel
theorem dtokenName_56 : decode cX12_tokenName 56 = .ok (.goto (-52), 3) := by decide +kernel
theorem dtokenName_59 : decode cX12_tokenName 59 = .ok (.lload_n 3, 1) := by decide +kernel
theorem dtokenName_60 : decode cX12_tokenName 60 = .ok (.lconst 0, 1) := by decide +kernel
theorem dtokenName_61 : decode cX12_tokenName 61 = .ok (.lcmp, 1) := by decide +kernel
theorem dtokenName_62 : decode cX12_tokenName 62 = .ok (.ifCond .ge 7, 3) := by decide +kernel
theorem dtokenName_65 : decode cX12_tokenName 65 = .ok (.iconst 0, 1) := by decide +kernel
theorem dtokenName_66 : decode cX12_tokenName 66 = .ok (.goto 7, 3) := by decide +kernel
theorem dtokenName_69 : decode cX12_tokenName 69 = .ok (.lload_n 3, 1) := by decide +kernel
theorem dtokenName_70 : decode cX12_tokenName 70 = .ok (.invokestatic 548, 3) := by decide +kernel
theorem dtokenName_73 : decode cX12_tokenName 73 = .ok (.istore 5, 2) := by decide +kernel
theorem dtokenName_75 : decode cX12_tokenName 75 = .ok (.aload_n 0, 1) := by decide +kernel
theorem dtokenName_76 : decode cX12_tokenName 76 = .ok (.getfield 13, 3) := by decide +kernel
theorem dtokenName_79 : decode cX12_tokenName 79 = .ok (.aload_n 0, 1) := by decide +kernel
theorem dtokenName_80 : decode cX12_tokenName 80 = .ok (.getfield 536, 3) := by decide +kernel
theorem dtokenName_83 : decode cX12_tokenName 83 = .ok (.iload 5, 2) := by decide +kernel
theorem dtokenName_85 : decode cX12_tokenName 85 = .ok (.ifCond .le 7, 3) := by decide +kernel
theorem dtokenName_88 : decode cX12_tokenName 88 = .ok (.iconst 1, 1) := by decide +kernel
theorem dtokenName_89 : decode cX12_tokenName 89 = .ok (.goto 17, 3) := by decide +kernel
theorem dtokenName_92 : decode cX12_tokenName 92 = .ok (.iload_n 2, 1) := by decide +kernel
theorem dtokenName_93 : decode cX12_tokenName 93 = .ok (.iload_n 1, 1) := by decide +kernel
theorem dtokenName_94 : decode cX12_tokenName 94 = .ok (.isub, 1) := by decide +kernel
theorem dtokenName_95 : decode cX12_tokenName 95 = .ok (.bipush 12, 2) := by decide +kernel
theorem dtokenName_97 : decode cX12_tokenName 97 = .ok (.if_icmp .le 8, 3) := by decide +kernel
theorem dtokenName_100 : decode cX12_tokenName 100 = .ok (.bipush 7, 2) := by decide +kernel
theorem dtokenName_102 : decode cX12_tokenName 102 = .ok (.goto 4, 3) := by decide +kernel
theorem dtokenName_105 : decode cX12_tokenName 105 = .ok (.iconst 2, 1) := by decide +kernel
theorem dtokenName_106 : decode cX12_tokenName 106 = .ok (.iastore, 1) := by decide +kernel
theorem dtokenName_107 : decode cX12_tokenName 107 = .ok (.aload_n 0, 1) := by decide +kernel
theorem dtokenName_108 : decode cX12_tokenName 108 = .ok (.getfield 19, 3) := by decide +kernel
theorem dtokenName_111 : decode cX12_tokenName 111 = .ok (.aload_n 0, 1) := by decide +kernel
theorem dtokenName_112 : decode cX12_tokenName 112 = .ok (.getfield 536, 3) := by decide +kernel
theorem dtokenName_115 : decode cX12_tokenName 115 = .ok (.iload_n 2, 1) := by decide +kernel
theorem dtokenName_116 : decode cX12_tokenName 116 = .ok (.iastore, 1) := by decide +kernel
theorem dtokenName_117 : decode cX12_tokenName 117 = .ok (.aload_n 0, 1) := by decide +kernel
theorem dtokenName_118 : decode cX12_tokenName 118 = .ok (.getfield 22, 3) := by decide +kernel
theorem dtokenName_121 : decode cX12_tokenName 121 = .ok (.aload_n 0, 1) := by decide +kernel
theorem dtokenName_122 : decode cX12_tokenName 122 = .ok (.getfield 536, 3) := by decide +kernel
theorem dtokenName_125 : decode cX12_tokenName 125 = .ok (.iload 5, 2) := by decide +kernel
theorem dtokenName_127 : decode cX12_tokenName 127 = .ok (.ifCond .le 8, 3) := by decide +kernel
theorem dtokenName_130 : decode cX12_tokenName 130 = .ok (.iload 5, 2) := by decide +kernel
theorem dtokenName_132 : decode cX12_tokenName 132 = .ok (.goto 9, 3) := by decide +kernel
theorem dtokenName_135 : decode cX12_tokenName 135 = .ok (.aload_n 0, 1) := by decide +kernel
theorem dtokenName_136 : decode cX12_tokenName 136 = .ok (.iload_n 1, 1) := by decide +kernel
theorem dtokenName_137 : decode cX12_tokenName 137 = .ok (.iload_n 2, 1) := by decide +kernel
theorem dtokenName_138 : decode cX12_tokenName 138 = .ok (.invokevirtual 551, 3) := by decide +kernel
theorem dtokenName_141 : decode cX12_tokenName 141 = .ok (.iastore, 1) := by decide +kernel
theorem dtokenName_142 : decode cX12_tokenName 142 = .ok (.return_, 1) := by decide +kernel
section
variable {l : Launch} {D : va_G} {cA : Nat → ClassId} {ad : Nat → Nat}
theorem s_tokenName {a1 : Int} {h : ja_H} {Q : Option ja_V → ja_H → Prop} (g : mo_G Zz h) (r1 : -2147483648 ≤ a1 ∧ a1 ≤ 2147483647) (p1 : 0 ≤ a1 ∧ a1 < (h 0 1)) (p2 : (h 0 6) ≤ 900) (k1 : ∀ (h' : ja_H), ((h' 0 1) = (h 0 1) ∧ (h' 0 118) = (h 0 118) ∧ (h' 0 127) = (h 0 127) ∧ (h' 0 6) = (h 0 6)) → mo_G Zz h' → Q none h') : mM_tokenName l D cA ad a1 h Q := by
  show mJ l D cA ad 3 cX12_tokenName 6 none 0 [(0, (2, ((0 : Nat) : Int))), (1, (0, a1))] [] h Q
  have kn_size := gF_size g
  have CUT : ∀ n : Nat, (∀ (x2 x3 : Int), (-2147483648 ≤ x2 ∧ x2 ≤ 2147483647) → (a1 ≤ x2 ∧ x2 ≤ (h 0 1)) → ((5002 - x2).toNat) = n → mJ l D cA ad 3 cX12_tokenName 6 none 4 [(0, (2, ((0 : Nat) : Int))), (1, (0, a1)), (2, (0, x2)), (3, (1, x3))] [] h Q) ∧ (∀ (x2 s0 : Int), (-2147483648 ≤ x2 ∧ x2 ≤ 2147483647) → (-2147483648 ≤ s0 ∧ s0 ≤ 2147483647) → (a1 ≤ x2 ∧ x2 ≤ (h 0 1) ∧ 0 ≤ s0 ∧ s0 ≤ 44) → (0) = n → mJ l D cA ad 3 cX12_tokenName 6 none 73 [(0, (2, ((0 : Nat) : Int))), (1, (0, a1)), (2, (0, x2))] [(0, s0)] h Q) := by
    intro n
    induction n using Nat.strongRecOn with
    | _ n ih =>
      refine ⟨?_, ?_⟩
      · intro x2 x3 qx2 iv hm
        subst hm
        refine ja_aload_n dtokenName_4 rfl rfl ?_
        refine ja_iload_n dtokenName_5 rfl rfl ?_
        refine t_byteAt (by decide) (show (0 : Nat) ≤ 8 by decide) dtokenName_6 g ⟨by omega, by omega⟩ (show 0 ≤ x2 by omega) ?_
        intro w1 k6_0
        refine t_isLetter (by decide) (show (0 : Nat) ≤ 8 by decide) dtokenName_9 g ⟨by omega, by omega⟩ ?_
        intro w2 k9_0
        refine ja_if_ne 26 dtokenName_12 rfl ⟨by omega, by omega⟩ (fun c12 => ?_) (fun c12 => ?_)
        · refine ja_iload_n dtokenName_26 rfl rfl ?_
          refine ja_iload_n dtokenName_27 rfl rfl ?_
          refine ja_isub dtokenName_28 ?_
          refine ja_bipush 7 dtokenName_29 rfl ?_
          refine ja_icmp_ge 49 dtokenName_31 rfl ⟨by omega, by omega⟩ ⟨by decide, by decide⟩ (fun c31 => ?_) (fun c31 => ?_)
          · refine mk_546 dtokenName_49 ?_
            refine ja_lstore_n dtokenName_52 rfl (by decide) (L2 := [(3, (1, (-1))), (0, (2, ((0 : Nat) : Int))), (1, (0, a1)), (2, (0, x2))]) rfl ?_
            refine ja_iinc dtokenName_53 rfl (by decide) (L2 := [(2, (0, (x2 + 1))), (3, (1, (-1))), (0, (2, ((0 : Nat) : Int))), (1, (0, a1))]) rfl ?_
            refine ja_goto 4 dtokenName_56 rfl ?_
            exact ja_wk (fun q hq => by simp only [List.mem_cons, List.not_mem_nil, or_false] at hq; rcases hq with rfl | rfl | rfl | rfl <;> rfl) ((ih ((5002 - (x2 + 1)).toNat) (by omega)).1 (x2 + 1) (-1)  ⟨by omega, by omega⟩ (show a1 ≤ (x2 + 1) ∧ (x2 + 1) ≤ (h 0 1) by omega) rfl)
          · refine ja_lload_n dtokenName_34 rfl rfl ?_
            refine ja_bipush 8 dtokenName_35 rfl ?_
            refine mo_lshl dtokenName_37 (fun v3 => ?_)
            refine ja_aload_n dtokenName_38 rfl rfl ?_
            refine fa_text dtokenName_39 ?_
            refine ja_iload_n dtokenName_42 rfl rfl ?_
            refine il_text (v := h 1 (x2).toNat) rfl ⟨by omega, by omega⟩ dtokenName_43 ?_
            have f4 := gC_text g (x2).toNat
            refine mo_i2l dtokenName_44 (fun v5 => ?_)
            refine mo_lor dtokenName_45 (fun v6 => ?_)
            refine ja_goto 52 dtokenName_46 rfl ?_
            refine ja_lstore_n dtokenName_52 rfl (by decide) (L2 := [(3, (1, v6)), (0, (2, ((0 : Nat) : Int))), (1, (0, a1)), (2, (0, x2))]) rfl ?_
            refine ja_iinc dtokenName_53 rfl (by decide) (L2 := [(2, (0, (x2 + 1))), (3, (1, v6)), (0, (2, ((0 : Nat) : Int))), (1, (0, a1))]) rfl ?_
            refine ja_goto 4 dtokenName_56 rfl ?_
            exact ja_wk (fun q hq => by simp only [List.mem_cons, List.not_mem_nil, or_false] at hq; rcases hq with rfl | rfl | rfl | rfl <;> rfl) ((ih ((5002 - (x2 + 1)).toNat) (by omega)).1 (x2 + 1) v6  ⟨by omega, by omega⟩ (show a1 ≤ (x2 + 1) ∧ (x2 + 1) ≤ (h 0 1) by omega) rfl)
        · refine ja_aload_n dtokenName_15 rfl rfl ?_
          refine ja_iload_n dtokenName_16 rfl rfl ?_
          refine t_byteAt (by decide) (show (0 : Nat) ≤ 8 by decide) dtokenName_17 g ⟨by omega, by omega⟩ (show 0 ≤ x2 by omega) ?_
          intro w7 k17_0
          refine t_isDigit (by decide) (show (0 : Nat) ≤ 8 by decide) dtokenName_20 g ⟨by omega, by omega⟩ ?_
          intro w8 k20_0
          refine ja_if_eq 59 dtokenName_23 rfl ⟨by omega, by omega⟩ (fun c23 => ?_) (fun c23 => ?_)
          · refine ja_lload_n dtokenName_59 rfl rfl ?_
            refine ja_lconst 0 dtokenName_60 rfl ?_
            refine mo_lcmp dtokenName_61 (fun v9 rv9 => ?_)
            refine ja_if_ge 69 dtokenName_62 rfl ⟨by omega, by omega⟩ (fun c62 => ?_) (fun c62 => ?_)
            · refine ja_lload_n dtokenName_69 rfl rfl ?_
              refine t_wordOf (by decide) (show (0 : Nat) ≤ 8 by decide) dtokenName_70 g  ?_
              intro w10 k70_0
              exact ja_wk (fun q hq => by simp only [List.mem_cons, List.not_mem_nil, or_false] at hq; rcases hq with rfl | rfl | rfl <;> rfl) ((ih (0) (by omega)).2 x2 w10  ⟨by omega, by omega⟩ ⟨by omega, by omega⟩ (show a1 ≤ x2 ∧ x2 ≤ (h 0 1) ∧ 0 ≤ w10 ∧ w10 ≤ 44 by omega) rfl)
            · refine ja_iconst dtokenName_65 ?_
              refine ja_goto 73 dtokenName_66 rfl ?_
              exact ja_wk (fun q hq => by simp only [List.mem_cons, List.not_mem_nil, or_false] at hq; rcases hq with rfl | rfl | rfl <;> rfl) ((ih (0) (by omega)).2 x2 0  ⟨by omega, by omega⟩ ⟨by decide, by decide⟩ (show a1 ≤ x2 ∧ x2 ≤ (h 0 1) ∧ 0 ≤ 0 ∧ 0 ≤ 44 by omega) rfl)
          · refine ja_iload_n dtokenName_26 rfl rfl ?_
            refine ja_iload_n dtokenName_27 rfl rfl ?_
            refine ja_isub dtokenName_28 ?_
            refine ja_bipush 7 dtokenName_29 rfl ?_
            refine ja_icmp_ge 49 dtokenName_31 rfl ⟨by omega, by omega⟩ ⟨by decide, by decide⟩ (fun c31 => ?_) (fun c31 => ?_)
            · refine mk_546 dtokenName_49 ?_
              refine ja_lstore_n dtokenName_52 rfl (by decide) (L2 := [(3, (1, (-1))), (0, (2, ((0 : Nat) : Int))), (1, (0, a1)), (2, (0, x2))]) rfl ?_
              refine ja_iinc dtokenName_53 rfl (by decide) (L2 := [(2, (0, (x2 + 1))), (3, (1, (-1))), (0, (2, ((0 : Nat) : Int))), (1, (0, a1))]) rfl ?_
              refine ja_goto 4 dtokenName_56 rfl ?_
              exact ja_wk (fun q hq => by simp only [List.mem_cons, List.not_mem_nil, or_false] at hq; rcases hq with rfl | rfl | rfl | rfl <;> rfl) ((ih ((5002 - (x2 + 1)).toNat) (by omega)).1 (x2 + 1) (-1)  ⟨by omega, by omega⟩ (show a1 ≤ (x2 + 1) ∧ (x2 + 1) ≤ (h 0 1) by omega) rfl)
            · refine ja_lload_n dtokenName_34 rfl rfl ?_
              refine ja_bipush 8 dtokenName_35 rfl ?_
              refine mo_lshl dtokenName_37 (fun v11 => ?_)
              refine ja_aload_n dtokenName_38 rfl rfl ?_
              refine fa_text dtokenName_39 ?_
              refine ja_iload_n dtokenName_42 rfl rfl ?_
              refine il_text (v := h 1 (x2).toNat) rfl ⟨by omega, by omega⟩ dtokenName_43 ?_
              have f12 := gC_text g (x2).toNat
              refine mo_i2l dtokenName_44 (fun v13 => ?_)
              refine mo_lor dtokenName_45 (fun v14 => ?_)
              refine ja_goto 52 dtokenName_46 rfl ?_
              refine ja_lstore_n dtokenName_52 rfl (by decide) (L2 := [(3, (1, v14)), (0, (2, ((0 : Nat) : Int))), (1, (0, a1)), (2, (0, x2))]) rfl ?_
              refine ja_iinc dtokenName_53 rfl (by decide) (L2 := [(2, (0, (x2 + 1))), (3, (1, v14)), (0, (2, ((0 : Nat) : Int))), (1, (0, a1))]) rfl ?_
              refine ja_goto 4 dtokenName_56 rfl ?_
              exact ja_wk (fun q hq => by simp only [List.mem_cons, List.not_mem_nil, or_false] at hq; rcases hq with rfl | rfl | rfl | rfl <;> rfl) ((ih ((5002 - (x2 + 1)).toNat) (by omega)).1 (x2 + 1) v14  ⟨by omega, by omega⟩ (show a1 ≤ (x2 + 1) ∧ (x2 + 1) ≤ (h 0 1) by omega) rfl)
      · intro x2 s0 qx2 qs0 iv hm
        subst hm
        refine ja_istore dtokenName_73 (by decide) (L2 := [(5, (0, s0)), (0, (2, ((0 : Nat) : Int))), (1, (0, a1)), (2, (0, x2))]) rfl ?_
        refine ja_aload_n dtokenName_75 rfl rfl ?_
        refine fa_kinds dtokenName_76 ?_
        refine ja_aload_n dtokenName_79 rfl rfl ?_
        refine fg_tokens (v := h 0 6) rfl dtokenName_80 ?_
        have f15 := gF_tokens g
        refine ja_iload dtokenName_83 rfl ?_
        refine ja_if_le 92 dtokenName_85 rfl ⟨by omega, by omega⟩ (fun c85 => ?_) (fun c85 => ?_)
        · refine ja_iload_n dtokenName_92 rfl rfl ?_
          refine ja_iload_n dtokenName_93 rfl rfl ?_
          refine ja_isub dtokenName_94 ?_
          refine ja_bipush 12 dtokenName_95 rfl ?_
          refine ja_icmp_le 105 dtokenName_97 rfl ⟨by omega, by omega⟩ ⟨by decide, by decide⟩ (fun c97 => ?_) (fun c97 => ?_)
          · refine ja_iconst dtokenName_105 ?_
            have g16 := gW_kinds g (h 0 6).toNat (x := 2) ⟨by decide, by decide⟩
            refine is_kinds ⟨by omega, by omega⟩ dtokenName_106 ?_
            refine ja_aload_n dtokenName_107 rfl rfl ?_
            refine fa_ends dtokenName_108 ?_
            refine ja_aload_n dtokenName_111 rfl rfl ?_
            refine fg_tokens (v := h 0 6) rfl dtokenName_112 ?_
            refine ja_iload_n dtokenName_115 rfl rfl ?_
            have g17 := gW_ends g16 (h 0 6).toNat (x := x2) ⟨by omega, by omega⟩
            refine is_ends ⟨by omega, by omega⟩ dtokenName_116 ?_
            refine ja_aload_n dtokenName_117 rfl rfl ?_
            refine fa_worths dtokenName_118 ?_
            refine ja_aload_n dtokenName_121 rfl rfl ?_
            refine fg_tokens (v := h 0 6) rfl dtokenName_122 ?_
            refine ja_iload dtokenName_125 rfl ?_
            refine ja_if_le 135 dtokenName_127 rfl ⟨by omega, by omega⟩ (fun c127 => ?_) (fun c127 => ?_)
            · refine ja_aload_n dtokenName_135 rfl rfl ?_
              refine ja_iload_n dtokenName_136 rfl rfl ?_
              refine ja_iload_n dtokenName_137 rfl rfl ?_
              refine t_nameOf (by decide) (show (2 : Nat) ≤ 8 by decide) dtokenName_138 g17 ⟨by omega, by omega⟩ ⟨by omega, by omega⟩ (show 0 ≤ a1 ∧ a1 ≤ x2 ∧ x2 ≤ 5001 by omega) ?_
              intro w18 k138_0
              replace k138_0 : 0 ≤ w18 ∧ w18 ≤ 901 := k138_0
              have g19 := gW_worths g17 (h 0 6).toNat (x := w18) ⟨by omega, by omega⟩
              refine is_worths ⟨by omega, by omega⟩ dtokenName_141 ?_
              refine ja_return dtokenName_142 rfl ?_
              exact k1 (ja_up (ja_up (ja_up h 2 ((h 0 6).toNat) 2) 4 ((h 0 6).toNat) x2) 5 ((h 0 6).toNat) w18) (by simp [ja_up]) g19
            · refine ja_iload dtokenName_130 rfl ?_
              refine ja_goto 141 dtokenName_132 rfl ?_
              have g20 := gW_worths g17 (h 0 6).toNat (x := s0) ⟨by omega, by omega⟩
              refine is_worths ⟨by omega, by omega⟩ dtokenName_141 ?_
              refine ja_return dtokenName_142 rfl ?_
              exact k1 (ja_up (ja_up (ja_up h 2 ((h 0 6).toNat) 2) 4 ((h 0 6).toNat) x2) 5 ((h 0 6).toNat) s0) (by simp [ja_up]) g20
          · refine ja_bipush 7 dtokenName_100 rfl ?_
            refine ja_goto 106 dtokenName_102 rfl ?_
            have g21 := gW_kinds g (h 0 6).toNat (x := 7) ⟨by decide, by decide⟩
            refine is_kinds ⟨by omega, by omega⟩ dtokenName_106 ?_
            refine ja_aload_n dtokenName_107 rfl rfl ?_
            refine fa_ends dtokenName_108 ?_
            refine ja_aload_n dtokenName_111 rfl rfl ?_
            refine fg_tokens (v := h 0 6) rfl dtokenName_112 ?_
            refine ja_iload_n dtokenName_115 rfl rfl ?_
            have g22 := gW_ends g21 (h 0 6).toNat (x := x2) ⟨by omega, by omega⟩
            refine is_ends ⟨by omega, by omega⟩ dtokenName_116 ?_
            refine ja_aload_n dtokenName_117 rfl rfl ?_
            refine fa_worths dtokenName_118 ?_
            refine ja_aload_n dtokenName_121 rfl rfl ?_
            refine fg_tokens (v := h 0 6) rfl dtokenName_122 ?_
            refine ja_iload dtokenName_125 rfl ?_
            refine ja_if_le 135 dtokenName_127 rfl ⟨by omega, by omega⟩ (fun c127 => ?_) (fun c127 => ?_)
            · refine ja_aload_n dtokenName_135 rfl rfl ?_
              refine ja_iload_n dtokenName_136 rfl rfl ?_
              refine ja_iload_n dtokenName_137 rfl rfl ?_
              refine t_nameOf (by decide) (show (2 : Nat) ≤ 8 by decide) dtokenName_138 g22 ⟨by omega, by omega⟩ ⟨by omega, by omega⟩ (show 0 ≤ a1 ∧ a1 ≤ x2 ∧ x2 ≤ 5001 by omega) ?_
              intro w23 k138_0
              replace k138_0 : 0 ≤ w23 ∧ w23 ≤ 901 := k138_0
              have g24 := gW_worths g22 (h 0 6).toNat (x := w23) ⟨by omega, by omega⟩
              refine is_worths ⟨by omega, by omega⟩ dtokenName_141 ?_
              refine ja_return dtokenName_142 rfl ?_
              exact k1 (ja_up (ja_up (ja_up h 2 ((h 0 6).toNat) 7) 4 ((h 0 6).toNat) x2) 5 ((h 0 6).toNat) w23) (by simp [ja_up]) g24
            · refine ja_iload dtokenName_130 rfl ?_
              refine ja_goto 141 dtokenName_132 rfl ?_
              have g25 := gW_worths g22 (h 0 6).toNat (x := s0) ⟨by omega, by omega⟩
              refine is_worths ⟨by omega, by omega⟩ dtokenName_141 ?_
              refine ja_return dtokenName_142 rfl ?_
              exact k1 (ja_up (ja_up (ja_up h 2 ((h 0 6).toNat) 7) 4 ((h 0 6).toNat) x2) 5 ((h 0 6).toNat) s0) (by simp [ja_up]) g25
        · refine ja_iconst dtokenName_88 ?_
          refine ja_goto 106 dtokenName_89 rfl ?_
          have g26 := gW_kinds g (h 0 6).toNat (x := 1) ⟨by decide, by decide⟩
          refine is_kinds ⟨by omega, by omega⟩ dtokenName_106 ?_
          refine ja_aload_n dtokenName_107 rfl rfl ?_
          refine fa_ends dtokenName_108 ?_
          refine ja_aload_n dtokenName_111 rfl rfl ?_
          refine fg_tokens (v := h 0 6) rfl dtokenName_112 ?_
          refine ja_iload_n dtokenName_115 rfl rfl ?_
          have g27 := gW_ends g26 (h 0 6).toNat (x := x2) ⟨by omega, by omega⟩
          refine is_ends ⟨by omega, by omega⟩ dtokenName_116 ?_
          refine ja_aload_n dtokenName_117 rfl rfl ?_
          refine fa_worths dtokenName_118 ?_
          refine ja_aload_n dtokenName_121 rfl rfl ?_
          refine fg_tokens (v := h 0 6) rfl dtokenName_122 ?_
          refine ja_iload dtokenName_125 rfl ?_
          refine ja_if_le 135 dtokenName_127 rfl ⟨by omega, by omega⟩ (fun c127 => ?_) (fun c127 => ?_)
          · refine ja_aload_n dtokenName_135 rfl rfl ?_
            refine ja_iload_n dtokenName_136 rfl rfl ?_
            refine ja_iload_n dtokenName_137 rfl rfl ?_
            refine t_nameOf (by decide) (show (2 : Nat) ≤ 8 by decide) dtokenName_138 g27 ⟨by omega, by omega⟩ ⟨by omega, by omega⟩ (show 0 ≤ a1 ∧ a1 ≤ x2 ∧ x2 ≤ 5001 by omega) ?_
            intro w28 k138_0
            replace k138_0 : 0 ≤ w28 ∧ w28 ≤ 901 := k138_0
            have g29 := gW_worths g27 (h 0 6).toNat (x := w28) ⟨by omega, by omega⟩
            refine is_worths ⟨by omega, by omega⟩ dtokenName_141 ?_
            refine ja_return dtokenName_142 rfl ?_
            exact k1 (ja_up (ja_up (ja_up h 2 ((h 0 6).toNat) 1) 4 ((h 0 6).toNat) x2) 5 ((h 0 6).toNat) w28) (by simp [ja_up]) g29
          · refine ja_iload dtokenName_130 rfl ?_
            refine ja_goto 141 dtokenName_132 rfl ?_
            have g30 := gW_worths g27 (h 0 6).toNat (x := s0) ⟨by omega, by omega⟩
            refine is_worths ⟨by omega, by omega⟩ dtokenName_141 ?_
            refine ja_return dtokenName_142 rfl ?_
            exact k1 (ja_up (ja_up (ja_up h 2 ((h 0 6).toNat) 1) 4 ((h 0 6).toNat) x2) 5 ((h 0 6).toNat) s0) (by simp [ja_up]) g30
  refine ja_iload_n dtokenName_0 rfl rfl ?_
  refine ja_istore_n dtokenName_1 rfl (by decide) (L2 := [(2, (0, a1)), (0, (2, ((0 : Nat) : Int))), (1, (0, a1))]) rfl ?_
  refine ja_lconst 0 dtokenName_2 rfl ?_
  refine ja_lstore_n dtokenName_3 rfl (by decide) (L2 := [(3, (1, 0)), (2, (0, a1)), (0, (2, ((0 : Nat) : Int))), (1, (0, a1))]) rfl ?_
  exact ja_wk (fun q hq => by simp only [List.mem_cons, List.not_mem_nil, or_false] at hq; rcases hq with rfl | rfl | rfl | rfl <;> rfl) ((CUT _).1 a1 0  ⟨by omega, by omega⟩ (show a1 ≤ a1 ∧ a1 ≤ (h 0 1) by omega) rfl)
theorem t_tokenName {a1 : Int} {d nL pc : Nat} {cc : ByteArray} {rt : Option FieldType} {L : List (Nat × ja_V)} {S : List ja_V} {h : ja_H} {Q : Option ja_V → ja_H → Prop} (hdd : 3 < d) (hwd : ja_wd S ≤ 8) (hd : decode cc pc = .ok (.invokevirtual 561, 3)) (g : mo_G Zz h) (r1 : -2147483648 ≤ a1 ∧ a1 ≤ 2147483647) (p1 : 0 ≤ a1 ∧ a1 < (h 0 1)) (p2 : (h 0 6) ≤ 900) (k1 : ∀ (h' : ja_H), ((h' 0 1) = (h 0 1) ∧ (h' 0 118) = (h 0 118) ∧ (h' 0 127) = (h 0 127) ∧ (h' 0 6) = (h 0 6)) → mo_G Zz h' → mJ l D cA ad d cc nL rt (pc + 3) L S h' Q) : mJ l D cA ad d cc nL rt pc L ((0, a1) :: (2, ((0 : Nat) : Int)) :: S) h Q :=
  mc_tokenName hdd hwd hd (s_tokenName g r1 p1 p2 k1)
end
theorem dtokenWhole_0 : decode cX12_tokenWhole 0 = .ok (.iload_n 1, 1) := by decide +kernel
theorem dtokenWhole_1 : decode cX12_tokenWhole 1 = .ok (.istore_n 2, 1) := by decide +kernel
theorem dtokenWhole_2 : decode cX12_tokenWhole 2 = .ok (.iconst 0, 1) := by decide +kernel
theorem dtokenWhole_3 : decode cX12_tokenWhole 3 = .ok (.istore_n 3, 1) := by decide +kernel
theorem dtokenWhole_4 : decode cX12_tokenWhole 4 = .ok (.aload_n 0, 1) := by decide +kernel
theorem dtokenWhole_5 : decode cX12_tokenWhole 5 = .ok (.iload_n 2, 1) := by decide +kernel
theorem dtokenWhole_6 : decode cX12_tokenWhole 6 = .ok (.invokevirtual 437, 3) := by decide +kernel
theorem dtokenWhole_9 : decode cX12_tokenWhole 9 = .ok (.invokestatic 543, 3) := by decide +kernel
theorem dtokenWhole_12 : decode cX12_tokenWhole 12 = .ok (.ifCond .eq 36, 3) := by decide +kernel
theorem dtokenWhole_15 : decode cX12_tokenWhole 15 = .ok (.iload_n 2, 1) := by decide +kernel
theorem dtokenWhole_16 : decode cX12_tokenWhole 16 = .ok (.iload_n 1, 1) := by decide +kernel
theorem dtokenWhole_17 : decode cX12_tokenWhole 17 = .ok (.isub, 1) := by decide +kernel
theorem dtokenWhole_18 : decode cX12_tokenWhole 18 = .ok (.bipush 9, 2) := by decide +kernel
theorem dtokenWhole_20 : decode cX12_tokenWhole 20 = .ok (.if_icmp .ge 20, 3) := by decide +kernel
theorem dtokenWhole_23 : decode cX12_tokenWhole 23 = .ok (.bipush 10, 2) := by decide +kernel
theorem dtokenWhole_25 : decode cX12_tokenWhole 25 = .ok (.iload_n 3, 1) := by decide +kernel
theorem dtokenWhole_26 : decode cX12_tokenWhole 26 = .ok (.imul, 1) := by decide +kernel
theorem dtokenWhole_27 : decode cX12_tokenWhole 27 = .ok (.aload_n 0, 1) := by decide +kernel
theorem dtokenWhole_28 : decode cX12_tokenWhole 28 = .ok (.getfield 7, 3) := by decide +kernel
theorem dtokenWhole_31 : decode cX12_tokenWhole 31 = .ok (.iload_n 2, 1) := by decide +kernel
theorem dtokenWhole_32 : decode cX12_tokenWhole 32 = .ok (.iaload, 1) := by decide +kernel
theorem dtokenWhole_33 : decode cX12_tokenWhole 33 = .ok (.iadd, 1) := by decide +kernel
theorem dtokenWhole_34 : decode cX12_tokenWhole 34 = .ok (.bipush 48, 2) := by decide +kernel
theorem dtokenWhole_36 : decode cX12_tokenWhole 36 = .ok (.isub, 1) := by decide +kernel
theorem dtokenWhole_37 : decode cX12_tokenWhole 37 = .ok (.goto 4, 3) := by decide +kernel
theorem dtokenWhole_40 : decode cX12_tokenWhole 40 = .ok (.iload_n 3, 1) := by decide +kernel
theorem dtokenWhole_41 : decode cX12_tokenWhole 41 = .ok (.istore_n 3, 1) := by decide +kernel
theorem dtokenWhole_42 : decode cX12_tokenWhole 42 = .ok (.iinc 2 1, 3) := by decide +kernel
theorem dtokenWhole_45 : decode cX12_tokenWhole 45 = .ok (.goto (-41), 3) := by decide +kernel
theorem dtokenWhole_48 : decode cX12_tokenWhole 48 = .ok (.aload_n 0, 1) := by decide +kernel
theorem dtokenWhole_49 : decode cX12_tokenWhole 49 = .ok (.getfield 13, 3) := by decide +kernel
theorem dtokenWhole_52 : decode cX12_tokenWhole 52 = .ok (.aload_n 0, 1) := by decide +kernel
theorem dtokenWhole_53 : decode cX12_tokenWhole 53 = .ok (.getfield 536, 3) := by decide +kernel
theorem dtokenWhole_56 : decode cX12_tokenWhole 56 = .ok (.iload_n 2, 1) := by decide +kernel
theorem dtokenWhole_57 : decode cX12_tokenWhole 57 = .ok (.iload_n 1, 1) := by decide +kernel
theorem dtokenWhole_58 : decode cX12_tokenWhole 58 = .ok (.isub, 1) := by decide +kernel
theorem dtokenWhole_59 : decode cX12_tokenWhole 59 = .ok (.bipush 9, 2) := by decide +kernel
theorem dtokenWhole_61 : decode cX12_tokenWhole 61 = .ok (.if_icmp .gt 14, 3) := by decide +kernel
theorem dtokenWhole_64 : decode cX12_tokenWhole 64 = .ok (.aload_n 0, 1) := by decide +kernel
theorem dtokenWhole_65 : decode cX12_tokenWhole 65 = .ok (.iload_n 2, 1) := by decide +kernel
theorem dtokenWhole_66 : decode cX12_tokenWhole 66 = .ok (.invokevirtual 437, 3) := by decide +kernel
theorem dtokenWhole_69 : decode cX12_tokenWhole 69 = .ok (.invokestatic 539, 3) := by decide +kernel
theorem dtokenWhole_72 : decode cX12_tokenWhole 72 = .ok (.ifCond .eq 8, 3) := by decide +kernel
theorem dtokenWhole_75 : decode cX12_tokenWhole 75 = .ok (.bipush 7, 2) := by decide +kernel
theorem dtokenWhole_77 : decode cX12_tokenWhole 77 = .ok (.goto 4, 3) := by decide +kernel
theorem dtokenWhole_80 : decode cX12_tokenWhole 80 = .ok (.iconst 3, 1) := by decide +kernel
theorem dtokenWhole_81 : decode cX12_tokenWhole 81 = .ok (.iastore, 1) := by decide +kernel
theorem dtokenWhole_82 : decode cX12_tokenWhole 82 = .ok (.aload_n 0, 1) := by decide +kernel
theorem dtokenWhole_83 : decode cX12_tokenWhole 83 = .ok (.getfield 19, 3) := by decide +kernel
theorem dtokenWhole_86 : decode cX12_tokenWhole 86 = .ok (.aload_n 0, 1) := by decide +kernel
theorem dtokenWhole_87 : decode cX12_tokenWhole 87 = .ok (.getfield 536, 3) := by decide +kernel
theorem dtokenWhole_90 : decode cX12_tokenWhole 90 = .ok (.iload_n 2, 1) := by decide +kernel
theorem dtokenWhole_91 : decode cX12_tokenWhole 91 = .ok (.iastore, 1) := by decide +kernel
theorem dtokenWhole_92 : decode cX12_tokenWhole 92 = .ok (.aload_n 0, 1) := by decide +kernel
theorem dtokenWhole_93 : decode cX12_tokenWhole 93 = .ok (.getfield 22, 3) := by decide +kernel
theorem dtokenWhole_96 : decode cX12_tokenWhole 96 = .ok (.aload_n 0, 1) := by decide +kernel
theorem dtokenWhole_97 : decode cX12_tokenWhole 97 = .ok (.getfield 536, 3) := by decide +kernel
theorem dtokenWhole_100 : decode cX12_tokenWhole 100 = .ok (.iload_n 3, 1) := by decide +kernel
theorem dtokenWhole_101 : decode cX12_tokenWhole 101 = .ok (.iastore, 1) := by decide +kernel
theorem dtokenWhole_102 : decode cX12_tokenWhole 102 = .ok (.return_, 1) := by decide +kernel
section
variable {l : Launch} {D : va_G} {cA : Nat → ClassId} {ad : Nat → Nat}
theorem s_tokenWhole {a1 : Int} {h : ja_H} {Q : Option ja_V → ja_H → Prop} (g : mo_G Zz h) (r1 : -2147483648 ≤ a1 ∧ a1 ≤ 2147483647) (p1 : 0 ≤ a1 ∧ a1 < (h 0 1)) (p2 : (h 0 6) ≤ 900) (k1 : ∀ (h' : ja_H), ((h' 0 1) = (h 0 1) ∧ (h' 0 118) = (h 0 118) ∧ (h' 0 127) = (h 0 127) ∧ (h' 0 6) = (h 0 6)) → mo_G Zz h' → Q none h') : mM_tokenWhole l D cA ad a1 h Q := by
  show mJ l D cA ad 2 cX12_tokenWhole 4 none 0 [(0, (2, ((0 : Nat) : Int))), (1, (0, a1))] [] h Q
  have kn_size := gF_size g
  have CUT : ∀ n : Nat, (∀ (x2 x3 : Int), (-2147483648 ≤ x2 ∧ x2 ≤ 2147483647) → (-2147483648 ≤ x3 ∧ x3 ≤ 2147483647) → (a1 ≤ x2 ∧ x2 ≤ (h 0 1)) → ((5002 - x2).toNat) = n → mJ l D cA ad 2 cX12_tokenWhole 4 none 4 [(0, (2, ((0 : Nat) : Int))), (1, (0, a1)), (2, (0, x2)), (3, (0, x3))] [] h Q) := by
    intro n
    induction n using Nat.strongRecOn with
    | _ n ih =>
      skip
      · intro x2 x3 qx2 qx3 iv hm
        subst hm
        refine ja_aload_n dtokenWhole_4 rfl rfl ?_
        refine ja_iload_n dtokenWhole_5 rfl rfl ?_
        refine t_byteAt (by decide) (show (0 : Nat) ≤ 8 by decide) dtokenWhole_6 g ⟨by omega, by omega⟩ (show 0 ≤ x2 by omega) ?_
        intro w1 k6_0
        refine t_isDigit (by decide) (show (0 : Nat) ≤ 8 by decide) dtokenWhole_9 g ⟨by omega, by omega⟩ ?_
        intro w2 k9_0
        refine ja_if_eq 48 dtokenWhole_12 rfl ⟨by omega, by omega⟩ (fun c12 => ?_) (fun c12 => ?_)
        · refine ja_aload_n dtokenWhole_48 rfl rfl ?_
          refine fa_kinds dtokenWhole_49 ?_
          refine ja_aload_n dtokenWhole_52 rfl rfl ?_
          refine fg_tokens (v := h 0 6) rfl dtokenWhole_53 ?_
          have f3 := gF_tokens g
          refine ja_iload_n dtokenWhole_56 rfl rfl ?_
          refine ja_iload_n dtokenWhole_57 rfl rfl ?_
          refine ja_isub dtokenWhole_58 ?_
          refine ja_bipush 9 dtokenWhole_59 rfl ?_
          refine ja_icmp_gt 75 dtokenWhole_61 rfl ⟨by omega, by omega⟩ ⟨by decide, by decide⟩ (fun c61 => ?_) (fun c61 => ?_)
          · refine ja_bipush 7 dtokenWhole_75 rfl ?_
            refine ja_goto 81 dtokenWhole_77 rfl ?_
            have g4 := gW_kinds g (h 0 6).toNat (x := 7) ⟨by decide, by decide⟩
            refine is_kinds ⟨by omega, by omega⟩ dtokenWhole_81 ?_
            refine ja_aload_n dtokenWhole_82 rfl rfl ?_
            refine fa_ends dtokenWhole_83 ?_
            refine ja_aload_n dtokenWhole_86 rfl rfl ?_
            refine fg_tokens (v := h 0 6) rfl dtokenWhole_87 ?_
            refine ja_iload_n dtokenWhole_90 rfl rfl ?_
            have g5 := gW_ends g4 (h 0 6).toNat (x := x2) ⟨by omega, by omega⟩
            refine is_ends ⟨by omega, by omega⟩ dtokenWhole_91 ?_
            refine ja_aload_n dtokenWhole_92 rfl rfl ?_
            refine fa_worths dtokenWhole_93 ?_
            refine ja_aload_n dtokenWhole_96 rfl rfl ?_
            refine fg_tokens (v := h 0 6) rfl dtokenWhole_97 ?_
            refine ja_iload_n dtokenWhole_100 rfl rfl ?_
            have g6 := gW_worths g5 (h 0 6).toNat (x := x3) ⟨by omega, by omega⟩
            refine is_worths ⟨by omega, by omega⟩ dtokenWhole_101 ?_
            refine ja_return dtokenWhole_102 rfl ?_
            exact k1 (ja_up (ja_up (ja_up h 2 ((h 0 6).toNat) 7) 4 ((h 0 6).toNat) x2) 5 ((h 0 6).toNat) x3) (by simp [ja_up]) g6
          · refine ja_aload_n dtokenWhole_64 rfl rfl ?_
            refine ja_iload_n dtokenWhole_65 rfl rfl ?_
            refine t_byteAt (by decide) (show (2 : Nat) ≤ 8 by decide) dtokenWhole_66 g ⟨by omega, by omega⟩ (show 0 ≤ x2 by omega) ?_
            intro w7 k66_0
            refine t_isLetter (by decide) (show (2 : Nat) ≤ 8 by decide) dtokenWhole_69 g ⟨by omega, by omega⟩ ?_
            intro w8 k69_0
            refine ja_if_eq 80 dtokenWhole_72 rfl ⟨by omega, by omega⟩ (fun c72 => ?_) (fun c72 => ?_)
            · refine ja_iconst dtokenWhole_80 ?_
              have g9 := gW_kinds g (h 0 6).toNat (x := 3) ⟨by decide, by decide⟩
              refine is_kinds ⟨by omega, by omega⟩ dtokenWhole_81 ?_
              refine ja_aload_n dtokenWhole_82 rfl rfl ?_
              refine fa_ends dtokenWhole_83 ?_
              refine ja_aload_n dtokenWhole_86 rfl rfl ?_
              refine fg_tokens (v := h 0 6) rfl dtokenWhole_87 ?_
              refine ja_iload_n dtokenWhole_90 rfl rfl ?_
              have g10 := gW_ends g9 (h 0 6).toNat (x := x2) ⟨by omega, by omega⟩
              refine is_ends ⟨by omega, by omega⟩ dtokenWhole_91 ?_
              refine ja_aload_n dtokenWhole_92 rfl rfl ?_
              refine fa_worths dtokenWhole_93 ?_
              refine ja_aload_n dtokenWhole_96 rfl rfl ?_
              refine fg_tokens (v := h 0 6) rfl dtokenWhole_97 ?_
              refine ja_iload_n dtokenWhole_100 rfl rfl ?_
              have g11 := gW_worths g10 (h 0 6).toNat (x := x3) ⟨by omega, by omega⟩
              refine is_worths ⟨by omega, by omega⟩ dtokenWhole_101 ?_
              refine ja_return dtokenWhole_102 rfl ?_
              exact k1 (ja_up (ja_up (ja_up h 2 ((h 0 6).toNat) 3) 4 ((h 0 6).toNat) x2) 5 ((h 0 6).toNat) x3) (by simp [ja_up]) g11
            · refine ja_bipush 7 dtokenWhole_75 rfl ?_
              refine ja_goto 81 dtokenWhole_77 rfl ?_
              have g12 := gW_kinds g (h 0 6).toNat (x := 7) ⟨by decide, by decide⟩
              refine is_kinds ⟨by omega, by omega⟩ dtokenWhole_81 ?_
              refine ja_aload_n dtokenWhole_82 rfl rfl ?_
              refine fa_ends dtokenWhole_83 ?_
              refine ja_aload_n dtokenWhole_86 rfl rfl ?_
              refine fg_tokens (v := h 0 6) rfl dtokenWhole_87 ?_
              refine ja_iload_n dtokenWhole_90 rfl rfl ?_
              have g13 := gW_ends g12 (h 0 6).toNat (x := x2) ⟨by omega, by omega⟩
              refine is_ends ⟨by omega, by omega⟩ dtokenWhole_91 ?_
              refine ja_aload_n dtokenWhole_92 rfl rfl ?_
              refine fa_worths dtokenWhole_93 ?_
              refine ja_aload_n dtokenWhole_96 rfl rfl ?_
              refine fg_tokens (v := h 0 6) rfl dtokenWhole_97 ?_
              refine ja_iload_n dtokenWhole_100 rfl rfl ?_
              have g14 := gW_worths g13 (h 0 6).toNat (x := x3) ⟨by omega, by omega⟩
              refine is_worths ⟨by omega, by omega⟩ dtokenWhole_101 ?_
              refine ja_return dtokenWhole_102 rfl ?_
              exact k1 (ja_up (ja_up (ja_up h 2 ((h 0 6).toNat) 7) 4 ((h 0 6).toNat) x2) 5 ((h 0 6).toNat) x3) (by simp [ja_up]) g14
        · refine ja_iload_n dtokenWhole_15 rfl rfl ?_
          refine ja_iload_n dtokenWhole_16 rfl rfl ?_
          refine ja_isub dtokenWhole_17 ?_
          refine ja_bipush 9 dtokenWhole_18 rfl ?_
          refine ja_icmp_ge 40 dtokenWhole_20 rfl ⟨by omega, by omega⟩ ⟨by decide, by decide⟩ (fun c20 => ?_) (fun c20 => ?_)
          · refine ja_iload_n dtokenWhole_40 rfl rfl ?_
            refine ja_istore_n dtokenWhole_41 rfl (by decide) (L2 := [(3, (0, x3)), (0, (2, ((0 : Nat) : Int))), (1, (0, a1)), (2, (0, x2))]) rfl ?_
            refine ja_iinc dtokenWhole_42 rfl (by decide) (L2 := [(2, (0, (x2 + 1))), (3, (0, x3)), (0, (2, ((0 : Nat) : Int))), (1, (0, a1))]) rfl ?_
            refine ja_goto 4 dtokenWhole_45 rfl ?_
            exact ja_wk (fun q hq => by simp only [List.mem_cons, List.not_mem_nil, or_false] at hq; rcases hq with rfl | rfl | rfl | rfl <;> rfl) ((ih ((5002 - (x2 + 1)).toNat) (by omega)) (x2 + 1) x3  ⟨by omega, by omega⟩ ⟨by omega, by omega⟩ (show a1 ≤ (x2 + 1) ∧ (x2 + 1) ≤ (h 0 1) by omega) rfl)
          · refine ja_bipush 10 dtokenWhole_23 rfl ?_
            refine ja_iload_n dtokenWhole_25 rfl rfl ?_
            refine mo_himul dtokenWhole_26 (fun v15 rv15 => ?_)
            refine ja_aload_n dtokenWhole_27 rfl rfl ?_
            refine fa_text dtokenWhole_28 ?_
            refine ja_iload_n dtokenWhole_31 rfl rfl ?_
            refine il_text (v := h 1 (x2).toNat) rfl ⟨by omega, by omega⟩ dtokenWhole_32 ?_
            have f16 := gC_text g (x2).toNat
            refine mo_hiadd dtokenWhole_33 (fun v17 rv17 => ?_)
            refine ja_bipush 48 dtokenWhole_34 rfl ?_
            refine mo_hisub dtokenWhole_36 (fun v18 rv18 => ?_)
            refine ja_goto 41 dtokenWhole_37 rfl ?_
            refine ja_istore_n dtokenWhole_41 rfl (by decide) (L2 := [(3, (0, v18)), (0, (2, ((0 : Nat) : Int))), (1, (0, a1)), (2, (0, x2))]) rfl ?_
            refine ja_iinc dtokenWhole_42 rfl (by decide) (L2 := [(2, (0, (x2 + 1))), (3, (0, v18)), (0, (2, ((0 : Nat) : Int))), (1, (0, a1))]) rfl ?_
            refine ja_goto 4 dtokenWhole_45 rfl ?_
            exact ja_wk (fun q hq => by simp only [List.mem_cons, List.not_mem_nil, or_false] at hq; rcases hq with rfl | rfl | rfl | rfl <;> rfl) ((ih ((5002 - (x2 + 1)).toNat) (by omega)) (x2 + 1) v18  ⟨by omega, by omega⟩ ⟨by omega, by omega⟩ (show a1 ≤ (x2 + 1) ∧ (x2 + 1) ≤ (h 0 1) by omega) rfl)
  refine ja_iload_n dtokenWhole_0 rfl rfl ?_
  refine ja_istore_n dtokenWhole_1 rfl (by decide) (L2 := [(2, (0, a1)), (0, (2, ((0 : Nat) : Int))), (1, (0, a1))]) rfl ?_
  refine ja_iconst dtokenWhole_2 ?_
  refine ja_istore_n dtokenWhole_3 rfl (by decide) (L2 := [(3, (0, 0)), (2, (0, a1)), (0, (2, ((0 : Nat) : Int))), (1, (0, a1))]) rfl ?_
  exact ja_wk (fun q hq => by simp only [List.mem_cons, List.not_mem_nil, or_false] at hq; rcases hq with rfl | rfl | rfl | rfl <;> rfl) ((CUT _) a1 0  ⟨by omega, by omega⟩ ⟨by decide, by decide⟩ (show a1 ≤ a1 ∧ a1 ≤ (h 0 1) by omega) rfl)
theorem t_tokenWhole {a1 : Int} {d nL pc : Nat} {cc : ByteArray} {rt : Option FieldType} {L : List (Nat × ja_V)} {S : List ja_V} {h : ja_H} {Q : Option ja_V → ja_H → Prop} (hdd : 2 < d) (hwd : ja_wd S ≤ 8) (hd : decode cc pc = .ok (.invokevirtual 565, 3)) (g : mo_G Zz h) (r1 : -2147483648 ≤ a1 ∧ a1 ≤ 2147483647) (p1 : 0 ≤ a1 ∧ a1 < (h 0 1)) (p2 : (h 0 6) ≤ 900) (k1 : ∀ (h' : ja_H), ((h' 0 1) = (h 0 1) ∧ (h' 0 118) = (h 0 118) ∧ (h' 0 127) = (h 0 127) ∧ (h' 0 6) = (h 0 6)) → mo_G Zz h' → mJ l D cA ad d cc nL rt (pc + 3) L S h' Q) : mJ l D cA ad d cc nL rt pc L ((0, a1) :: (2, ((0 : Nat) : Int)) :: S) h Q :=
  mc_tokenWhole hdd hwd hd (s_tokenWhole g r1 p1 p2 k1)
end
theorem dtokenPattern_0 : decode cX12_tokenPattern 0 = .ok (.aload_n 0, 1) := by decide +kernel
theorem dtokenPattern_1 : decode cX12_tokenPattern 1 = .ok (.iload_n 1, 1) := by decide +kernel
theorem dtokenPattern_2 : decode cX12_tokenPattern 2 = .ok (.iconst 1, 1) := by decide +kernel
theorem dtokenPattern_3 : decode cX12_tokenPattern 3 = .ok (.iadd, 1) := by decide +kernel
theorem dtokenPattern_4 : decode cX12_tokenPattern 4 = .ok (.invokevirtual 555, 3) := by decide +kernel
theorem dtokenPattern_7 : decode cX12_tokenPattern 7 = .ok (.istore_n 2, 1) := by decide +kernel
theorem dtokenPattern_8 : decode cX12_tokenPattern 8 = .ok (.iload_n 2, 1) := by decide +kernel
theorem dtokenPattern_9 : decode cX12_tokenPattern 9 = .ok (.iload_n 1, 1) := by decide +kernel
theorem dtokenPattern_10 : decode cX12_tokenPattern 10 = .ok (.iconst 1, 1) := by decide +kernel
theorem dtokenPattern_11 : decode cX12_tokenPattern 11 = .ok (.iadd, 1) := by decide +kernel
theorem dtokenPattern_12 : decode cX12_tokenPattern 12 = .ok (.if_icmp .le 15, 3) := by decide +kernel
theorem dtokenPattern_15 : decode cX12_tokenPattern 15 = .ok (.iload_n 2, 1) := by decide +kernel
theorem dtokenPattern_16 : decode cX12_tokenPattern 16 = .ok (.iload_n 1, 1) := by decide +kernel
theorem dtokenPattern_17 : decode cX12_tokenPattern 17 = .ok (.isub, 1) := by decide +kernel
theorem dtokenPattern_18 : decode cX12_tokenPattern 18 = .ok (.bipush 13, 2) := by decide +kernel
theorem dtokenPattern_20 : decode cX12_tokenPattern 20 = .ok (.if_icmp .gt 7, 3) := by decide +kernel
theorem dtokenPattern_23 : decode cX12_tokenPattern 23 = .ok (.iconst 1, 1) := by decide +kernel
theorem dtokenPattern_24 : decode cX12_tokenPattern 24 = .ok (.goto 4, 3) := by decide +kernel
theorem dtokenPattern_27 : decode cX12_tokenPattern 27 = .ok (.iconst 0, 1) := by decide +kernel
theorem dtokenPattern_28 : decode cX12_tokenPattern 28 = .ok (.istore_n 3, 1) := by decide +kernel
theorem dtokenPattern_29 : decode cX12_tokenPattern 29 = .ok (.aload_n 0, 1) := by decide +kernel
theorem dtokenPattern_30 : decode cX12_tokenPattern 30 = .ok (.iload_n 2, 1) := by decide +kernel
theorem dtokenPattern_31 : decode cX12_tokenPattern 31 = .ok (.invokevirtual 437, 3) := by decide +kernel
theorem dtokenPattern_34 : decode cX12_tokenPattern 34 = .ok (.bipush 43, 2) := by decide +kernel
theorem dtokenPattern_36 : decode cX12_tokenPattern 36 = .ok (.if_icmp .ne 9, 3) := by decide +kernel
theorem dtokenPattern_39 : decode cX12_tokenPattern 39 = .ok (.iload_n 2, 1) := by decide +kernel
theorem dtokenPattern_40 : decode cX12_tokenPattern 40 = .ok (.iconst 1, 1) := by decide +kernel
theorem dtokenPattern_41 : decode cX12_tokenPattern 41 = .ok (.iadd, 1) := by decide +kernel
theorem dtokenPattern_42 : decode cX12_tokenPattern 42 = .ok (.goto 4, 3) := by decide +kernel
theorem dtokenPattern_45 : decode cX12_tokenPattern 45 = .ok (.iload_n 2, 1) := by decide +kernel
theorem dtokenPattern_46 : decode cX12_tokenPattern 46 = .ok (.istore_n 2, 1) := by decide +kernel
theorem dtokenPattern_47 : decode cX12_tokenPattern 47 = .ok (.aload_n 0, 1) := by decide +kernel
theorem dtokenPattern_48 : decode cX12_tokenPattern 48 = .ok (.iload_n 2, 1) := by decide +kernel
theorem dtokenPattern_49 : decode cX12_tokenPattern 49 = .ok (.invokevirtual 437, 3) := by decide +kernel
theorem dtokenPattern_52 : decode cX12_tokenPattern 52 = .ok (.bipush 46, 2) := by decide +kernel
theorem dtokenPattern_54 : decode cX12_tokenPattern 54 = .ok (.if_icmp .ne 40, 3) := by decide +kernel
theorem dtokenPattern_57 : decode cX12_tokenPattern 57 = .ok (.iload_n 2, 1) := by decide +kernel
theorem dtokenPattern_58 : decode cX12_tokenPattern 58 = .ok (.iconst 1, 1) := by decide +kernel
theorem dtokenPattern_59 : decode cX12_tokenPattern 59 = .ok (.iadd, 1) := by decide +kernel
theorem dtokenPattern_60 : decode cX12_tokenPattern 60 = .ok (.istore 4, 2) := by decide +kernel
theorem dtokenPattern_62 : decode cX12_tokenPattern 62 = .ok (.aload_n 0, 1) := by decide +kernel
theorem dtokenPattern_63 : decode cX12_tokenPattern 63 = .ok (.iload 4, 2) := by decide +kernel
theorem dtokenPattern_65 : decode cX12_tokenPattern 65 = .ok (.invokevirtual 555, 3) := by decide +kernel
theorem dtokenPattern_68 : decode cX12_tokenPattern 68 = .ok (.istore_n 2, 1) := by decide +kernel
theorem dtokenPattern_69 : decode cX12_tokenPattern 69 = .ok (.iload_n 3, 1) := by decide +kernel
theorem dtokenPattern_70 : decode cX12_tokenPattern 70 = .ok (.ifCond .eq 22, 3) := by decide +kernel
theorem dtokenPattern_73 : decode cX12_tokenPattern 73 = .ok (.iload_n 2, 1) := by decide +kernel
theorem dtokenPattern_74 : decode cX12_tokenPattern 74 = .ok (.iload 4, 2) := by decide +kernel
theorem dtokenPattern_76 : decode cX12_tokenPattern 76 = .ok (.if_icmp .le 16, 3) := by decide +kernel
theorem dtokenPattern_79 : decode cX12_tokenPattern 79 = .ok (.iload_n 2, 1) := by decide +kernel
theorem dtokenPattern_80 : decode cX12_tokenPattern 80 = .ok (.iload 4, 2) := by decide +kernel
theorem dtokenPattern_82 : decode cX12_tokenPattern 82 = .ok (.isub, 1) := by decide +kernel
theorem dtokenPattern_83 : decode cX12_tokenPattern 83 = .ok (.bipush 12, 2) := by decide +kernel
theorem dtokenPattern_85 : decode cX12_tokenPattern 85 = .ok (.if_icmp .gt 7, 3) := by decide +kernel
theorem dtokenPattern_88 : decode cX12_tokenPattern 88 = .ok (.iconst 1, 1) := by decide +kernel
theorem dtokenPattern_89 : decode cX12_tokenPattern 89 = .ok (.goto 4, 3) := by decide +kernel
theorem dtokenPattern_92 : decode cX12_tokenPattern 92 = .ok (.iconst 0, 1) := by decide +kernel
theorem dtokenPattern_93 : decode cX12_tokenPattern 93 = .ok (.istore_n 3, 1) := by decide +kernel
theorem dtokenPattern_94 : decode cX12_tokenPattern 94 = .ok (.iload_n 3, 1) := by decide +kernel
theorem dtokenPattern_95 : decode cX12_tokenPattern 95 = .ok (.ifCond .eq 17, 3) := by decide +kernel
theorem dtokenPattern_98 : decode cX12_tokenPattern 98 = .ok (.aload_n 0, 1) := by decide +kernel
theorem dtokenPattern_99 : decode cX12_tokenPattern 99 = .ok (.iload_n 2, 1) := by decide +kernel
theorem dtokenPattern_100 : decode cX12_tokenPattern 100 = .ok (.invokevirtual 437, 3) := by decide +kernel
theorem dtokenPattern_103 : decode cX12_tokenPattern 103 = .ok (.bipush 34, 2) := by decide +kernel
theorem dtokenPattern_105 : decode cX12_tokenPattern 105 = .ok (.if_icmp .ne 7, 3) := by decide +kernel
theorem dtokenPattern_108 : decode cX12_tokenPattern 108 = .ok (.iconst 1, 1) := by decide +kernel
theorem dtokenPattern_109 : decode cX12_tokenPattern 109 = .ok (.goto 4, 3) := by decide +kernel
theorem dtokenPattern_112 : decode cX12_tokenPattern 112 = .ok (.iconst 0, 1) := by decide +kernel
theorem dtokenPattern_113 : decode cX12_tokenPattern 113 = .ok (.istore_n 3, 1) := by decide +kernel
theorem dtokenPattern_114 : decode cX12_tokenPattern 114 = .ok (.aload_n 0, 1) := by decide +kernel
theorem dtokenPattern_115 : decode cX12_tokenPattern 115 = .ok (.getfield 13, 3) := by decide +kernel
theorem dtokenPattern_118 : decode cX12_tokenPattern 118 = .ok (.aload_n 0, 1) := by decide +kernel
theorem dtokenPattern_119 : decode cX12_tokenPattern 119 = .ok (.getfield 536, 3) := by decide +kernel
theorem dtokenPattern_122 : decode cX12_tokenPattern 122 = .ok (.iload_n 3, 1) := by decide +kernel
theorem dtokenPattern_123 : decode cX12_tokenPattern 123 = .ok (.ifCond .eq 7, 3) := by decide +kernel
theorem dtokenPattern_126 : decode cX12_tokenPattern 126 = .ok (.iconst 4, 1) := by decide +kernel
theorem dtokenPattern_127 : decode cX12_tokenPattern 127 = .ok (.goto 5, 3) := by decide +kernel
theorem dtokenPattern_130 : decode cX12_tokenPattern 130 = .ok (.bipush 7, 2) := by decide +kernel
theorem dtokenPattern_132 : decode cX12_tokenPattern 132 = .ok (.iastore, 1) := by decide +kernel
theorem dtokenPattern_133 : decode cX12_tokenPattern 133 = .ok (.aload_n 0, 1) := by decide +kernel
theorem dtokenPattern_134 : decode cX12_tokenPattern 134 = .ok (.getfield 19, 3) := by decide +kernel
theorem dtokenPattern_137 : decode cX12_tokenPattern 137 = .ok (.aload_n 0, 1) := by decide +kernel
theorem dtokenPattern_138 : decode cX12_tokenPattern 138 = .ok (.getfield 536, 3) := by decide +kernel
theorem dtokenPattern_141 : decode cX12_tokenPattern 141 = .ok (.iload_n 2, 1) := by decide +kernel
theorem dtokenPattern_142 : decode cX12_tokenPattern 142 = .ok (.iconst 1, 1) := by decide +kernel
theorem dtokenPattern_143 : decode cX12_tokenPattern 143 = .ok (.iadd, 1) := by decide +kernel
theorem dtokenPattern_144 : decode cX12_tokenPattern 144 = .ok (.iastore, 1) := by decide +kernel
theorem dtokenPattern_145 : decode cX12_tokenPattern 145 = .ok (.aload_n 0, 1) := by decide +kernel
theorem dtokenPattern_146 : decode cX12_tokenPattern 146 = .ok (.getfield 22, 3) := by decide +kernel
theorem dtokenPattern_149 : decode cX12_tokenPattern 149 = .ok (.aload_n 0, 1) := by decide +kernel
theorem dtokenPattern_150 : decode cX12_tokenPattern 150 = .ok (.getfield 536, 3) := by decide +kernel
theorem dtokenPattern_153 : decode cX12_tokenPattern 153 = .ok (.iconst 0, 1) := by decide +kernel
theorem dtokenPattern_154 : decode cX12_tokenPattern 154 = .ok (.iastore, 1) := by decide +kernel
theorem dtokenPattern_155 : decode cX12_tokenPattern 155 = .ok (.return_, 1) := by decide +kernel
section
variable {l : Launch} {D : va_G} {cA : Nat → ClassId} {ad : Nat → Nat}
theorem s_tokenPattern {a1 : Int} {h : ja_H} {Q : Option ja_V → ja_H → Prop} (g : mo_G Zz h) (r1 : -2147483648 ≤ a1 ∧ a1 ≤ 2147483647) (p1 : 0 ≤ a1 ∧ a1 < (h 0 1)) (p2 : (h 0 6) ≤ 900) (k1 : ∀ (h' : ja_H), ((h' 0 1) = (h 0 1) ∧ (h' 0 118) = (h 0 118) ∧ (h' 0 127) = (h 0 127) ∧ (h' 0 6) = (h 0 6)) → mo_G Zz h' → Q none h') : mM_tokenPattern l D cA ad a1 h Q := by
  show mJ l D cA ad 3 cX12_tokenPattern 5 none 0 [(0, (2, ((0 : Nat) : Int))), (1, (0, a1))] [] h Q
  have kn_size := gF_size g
  have CUT : ∀ n : Nat, (∀ (x3 s0 : Int), (-2147483648 ≤ x3 ∧ x3 ≤ 2147483647) → (-2147483648 ≤ s0 ∧ s0 ≤ 2147483647) → (a1 + 1 ≤ s0 ∧ s0 ≤ (h 0 1) ∧ 0 ≤ x3 ∧ x3 ≤ 1) → (3) = n → mJ l D cA ad 3 cX12_tokenPattern 5 none 46 [(0, (2, ((0 : Nat) : Int))), (3, (0, x3))] [(0, s0)] h Q) ∧ (∀ (x2 x3 : Int), (-2147483648 ≤ x2 ∧ x2 ≤ 2147483647) → (-2147483648 ≤ x3 ∧ x3 ≤ 2147483647) → (a1 + 1 ≤ x2 ∧ x2 ≤ (h 0 1) ∧ 0 ≤ x3 ∧ x3 ≤ 1) → (2) = n → mJ l D cA ad 3 cX12_tokenPattern 5 none 94 [(0, (2, ((0 : Nat) : Int))), (2, (0, x2)), (3, (0, x3))] [] h Q) := by
    intro n
    induction n using Nat.strongRecOn with
    | _ n ih =>
      refine ⟨?_, ?_⟩
      · intro x3 s0 qx3 qs0 iv hm
        subst hm
        refine ja_istore_n dtokenPattern_46 rfl (by decide) (L2 := [(2, (0, s0)), (0, (2, ((0 : Nat) : Int))), (3, (0, x3))]) rfl ?_
        refine ja_aload_n dtokenPattern_47 rfl rfl ?_
        refine ja_iload_n dtokenPattern_48 rfl rfl ?_
        refine t_byteAt (by decide) (show (0 : Nat) ≤ 8 by decide) dtokenPattern_49 g ⟨by omega, by omega⟩ (show 0 ≤ s0 by omega) ?_
        intro w1 k49_0
        refine ja_bipush 46 dtokenPattern_52 rfl ?_
        refine ja_icmp_ne 94 dtokenPattern_54 rfl ⟨by omega, by omega⟩ ⟨by decide, by decide⟩ (fun c54 => ?_) (fun c54 => ?_)
        · exact ja_wk (fun q hq => by simp only [List.mem_cons, List.not_mem_nil, or_false] at hq; rcases hq with rfl | rfl | rfl <;> rfl) ((ih (2) (by omega)).2 s0 x3  ⟨by omega, by omega⟩ ⟨by omega, by omega⟩ (show a1 + 1 ≤ s0 ∧ s0 ≤ (h 0 1) ∧ 0 ≤ x3 ∧ x3 ≤ 1 by omega) rfl)
        · refine ja_iload_n dtokenPattern_57 rfl rfl ?_
          refine ja_iconst dtokenPattern_58 ?_
          refine ja_iadd dtokenPattern_59 ?_
          refine ja_istore dtokenPattern_60 (by decide) (L2 := [(4, (0, (s0 + 1))), (2, (0, s0)), (0, (2, ((0 : Nat) : Int))), (3, (0, x3))]) rfl ?_
          refine ja_aload_n dtokenPattern_62 rfl rfl ?_
          refine ja_iload dtokenPattern_63 rfl ?_
          refine t_partEnd (by decide) (show (0 : Nat) ≤ 8 by decide) dtokenPattern_65 g ⟨by omega, by omega⟩ (show 0 ≤ (s0 + 1) by omega) ?_
          intro w2 k65_0
          refine ja_istore_n dtokenPattern_68 rfl (by decide) (L2 := [(2, (0, w2)), (4, (0, (s0 + 1))), (0, (2, ((0 : Nat) : Int))), (3, (0, x3))]) rfl ?_
          refine ja_iload_n dtokenPattern_69 rfl rfl ?_
          refine ja_if_eq 92 dtokenPattern_70 rfl ⟨by omega, by omega⟩ (fun c70 => ?_) (fun c70 => ?_)
          · refine ja_iconst dtokenPattern_92 ?_
            refine ja_istore_n dtokenPattern_93 rfl (by decide) (L2 := [(3, (0, 0)), (2, (0, w2)), (4, (0, (s0 + 1))), (0, (2, ((0 : Nat) : Int)))]) rfl ?_
            exact ja_wk (fun q hq => by simp only [List.mem_cons, List.not_mem_nil, or_false] at hq; rcases hq with rfl | rfl | rfl <;> rfl) ((ih (2) (by omega)).2 w2 0  ⟨by omega, by omega⟩ ⟨by decide, by decide⟩ (show a1 + 1 ≤ w2 ∧ w2 ≤ (h 0 1) ∧ 0 ≤ 0 ∧ 0 ≤ 1 by omega) rfl)
          · refine ja_iload_n dtokenPattern_73 rfl rfl ?_
            refine ja_iload dtokenPattern_74 rfl ?_
            refine ja_icmp_le 92 dtokenPattern_76 rfl ⟨by omega, by omega⟩ ⟨by omega, by omega⟩ (fun c76 => ?_) (fun c76 => ?_)
            · refine ja_iconst dtokenPattern_92 ?_
              refine ja_istore_n dtokenPattern_93 rfl (by decide) (L2 := [(3, (0, 0)), (2, (0, w2)), (4, (0, (s0 + 1))), (0, (2, ((0 : Nat) : Int)))]) rfl ?_
              exact ja_wk (fun q hq => by simp only [List.mem_cons, List.not_mem_nil, or_false] at hq; rcases hq with rfl | rfl | rfl <;> rfl) ((ih (2) (by omega)).2 w2 0  ⟨by omega, by omega⟩ ⟨by decide, by decide⟩ (show a1 + 1 ≤ w2 ∧ w2 ≤ (h 0 1) ∧ 0 ≤ 0 ∧ 0 ≤ 1 by omega) rfl)
            · refine ja_iload_n dtokenPattern_79 rfl rfl ?_
              refine ja_iload dtokenPattern_80 rfl ?_
              refine ja_isub dtokenPattern_82 ?_
              refine ja_bipush 12 dtokenPattern_83 rfl ?_
              refine ja_icmp_gt 92 dtokenPattern_85 rfl ⟨by omega, by omega⟩ ⟨by decide, by decide⟩ (fun c85 => ?_) (fun c85 => ?_)
              · refine ja_iconst dtokenPattern_92 ?_
                refine ja_istore_n dtokenPattern_93 rfl (by decide) (L2 := [(3, (0, 0)), (2, (0, w2)), (4, (0, (s0 + 1))), (0, (2, ((0 : Nat) : Int)))]) rfl ?_
                exact ja_wk (fun q hq => by simp only [List.mem_cons, List.not_mem_nil, or_false] at hq; rcases hq with rfl | rfl | rfl <;> rfl) ((ih (2) (by omega)).2 w2 0  ⟨by omega, by omega⟩ ⟨by decide, by decide⟩ (show a1 + 1 ≤ w2 ∧ w2 ≤ (h 0 1) ∧ 0 ≤ 0 ∧ 0 ≤ 1 by omega) rfl)
              · refine ja_iconst dtokenPattern_88 ?_
                refine ja_goto 93 dtokenPattern_89 rfl ?_
                refine ja_istore_n dtokenPattern_93 rfl (by decide) (L2 := [(3, (0, 1)), (2, (0, w2)), (4, (0, (s0 + 1))), (0, (2, ((0 : Nat) : Int)))]) rfl ?_
                exact ja_wk (fun q hq => by simp only [List.mem_cons, List.not_mem_nil, or_false] at hq; rcases hq with rfl | rfl | rfl <;> rfl) ((ih (2) (by omega)).2 w2 1  ⟨by omega, by omega⟩ ⟨by decide, by decide⟩ (show a1 + 1 ≤ w2 ∧ w2 ≤ (h 0 1) ∧ 0 ≤ 1 ∧ 1 ≤ 1 by omega) rfl)
      · intro x2 x3 qx2 qx3 iv hm
        subst hm
        refine ja_iload_n dtokenPattern_94 rfl rfl ?_
        refine ja_if_eq 112 dtokenPattern_95 rfl ⟨by omega, by omega⟩ (fun c95 => ?_) (fun c95 => ?_)
        · refine ja_iconst dtokenPattern_112 ?_
          refine ja_istore_n dtokenPattern_113 rfl (by decide) (L2 := [(3, (0, 0)), (0, (2, ((0 : Nat) : Int))), (2, (0, x2))]) rfl ?_
          refine ja_aload_n dtokenPattern_114 rfl rfl ?_
          refine fa_kinds dtokenPattern_115 ?_
          refine ja_aload_n dtokenPattern_118 rfl rfl ?_
          refine fg_tokens (v := h 0 6) rfl dtokenPattern_119 ?_
          have f3 := gF_tokens g
          refine ja_iload_n dtokenPattern_122 rfl rfl ?_
          refine ja_if_eq 130 dtokenPattern_123 rfl ⟨by decide, by decide⟩ (fun c123 => ?_) (fun c123 => absurd c123 (by omega))
          refine ja_bipush 7 dtokenPattern_130 rfl ?_
          have g4 := gW_kinds g (h 0 6).toNat (x := 7) ⟨by decide, by decide⟩
          refine is_kinds ⟨by omega, by omega⟩ dtokenPattern_132 ?_
          refine ja_aload_n dtokenPattern_133 rfl rfl ?_
          refine fa_ends dtokenPattern_134 ?_
          refine ja_aload_n dtokenPattern_137 rfl rfl ?_
          refine fg_tokens (v := h 0 6) rfl dtokenPattern_138 ?_
          refine ja_iload_n dtokenPattern_141 rfl rfl ?_
          refine ja_iconst dtokenPattern_142 ?_
          refine ja_iadd dtokenPattern_143 ?_
          have g5 := gW_ends g4 (h 0 6).toNat (x := x2 + 1) ⟨by omega, by omega⟩
          refine is_ends ⟨by omega, by omega⟩ dtokenPattern_144 ?_
          refine ja_aload_n dtokenPattern_145 rfl rfl ?_
          refine fa_worths dtokenPattern_146 ?_
          refine ja_aload_n dtokenPattern_149 rfl rfl ?_
          refine fg_tokens (v := h 0 6) rfl dtokenPattern_150 ?_
          refine ja_iconst dtokenPattern_153 ?_
          have g6 := gW_worths g5 (h 0 6).toNat (x := 0) ⟨by decide, by decide⟩
          refine is_worths ⟨by omega, by omega⟩ dtokenPattern_154 ?_
          refine ja_return dtokenPattern_155 rfl ?_
          exact k1 (ja_up (ja_up (ja_up h 2 ((h 0 6).toNat) 7) 4 ((h 0 6).toNat) (x2 + 1)) 5 ((h 0 6).toNat) 0) (by simp [ja_up]) g6
        · refine ja_aload_n dtokenPattern_98 rfl rfl ?_
          refine ja_iload_n dtokenPattern_99 rfl rfl ?_
          refine t_byteAt (by decide) (show (0 : Nat) ≤ 8 by decide) dtokenPattern_100 g ⟨by omega, by omega⟩ (show 0 ≤ x2 by omega) ?_
          intro w7 k100_0
          refine ja_bipush 34 dtokenPattern_103 rfl ?_
          refine ja_icmp_ne 112 dtokenPattern_105 rfl ⟨by omega, by omega⟩ ⟨by decide, by decide⟩ (fun c105 => ?_) (fun c105 => ?_)
          · refine ja_iconst dtokenPattern_112 ?_
            refine ja_istore_n dtokenPattern_113 rfl (by decide) (L2 := [(3, (0, 0)), (0, (2, ((0 : Nat) : Int))), (2, (0, x2))]) rfl ?_
            refine ja_aload_n dtokenPattern_114 rfl rfl ?_
            refine fa_kinds dtokenPattern_115 ?_
            refine ja_aload_n dtokenPattern_118 rfl rfl ?_
            refine fg_tokens (v := h 0 6) rfl dtokenPattern_119 ?_
            have f8 := gF_tokens g
            refine ja_iload_n dtokenPattern_122 rfl rfl ?_
            refine ja_if_eq 130 dtokenPattern_123 rfl ⟨by decide, by decide⟩ (fun c123 => ?_) (fun c123 => absurd c123 (by omega))
            refine ja_bipush 7 dtokenPattern_130 rfl ?_
            have g9 := gW_kinds g (h 0 6).toNat (x := 7) ⟨by decide, by decide⟩
            refine is_kinds ⟨by omega, by omega⟩ dtokenPattern_132 ?_
            refine ja_aload_n dtokenPattern_133 rfl rfl ?_
            refine fa_ends dtokenPattern_134 ?_
            refine ja_aload_n dtokenPattern_137 rfl rfl ?_
            refine fg_tokens (v := h 0 6) rfl dtokenPattern_138 ?_
            refine ja_iload_n dtokenPattern_141 rfl rfl ?_
            refine ja_iconst dtokenPattern_142 ?_
            refine ja_iadd dtokenPattern_143 ?_
            have g10 := gW_ends g9 (h 0 6).toNat (x := x2 + 1) ⟨by omega, by omega⟩
            refine is_ends ⟨by omega, by omega⟩ dtokenPattern_144 ?_
            refine ja_aload_n dtokenPattern_145 rfl rfl ?_
            refine fa_worths dtokenPattern_146 ?_
            refine ja_aload_n dtokenPattern_149 rfl rfl ?_
            refine fg_tokens (v := h 0 6) rfl dtokenPattern_150 ?_
            refine ja_iconst dtokenPattern_153 ?_
            have g11 := gW_worths g10 (h 0 6).toNat (x := 0) ⟨by decide, by decide⟩
            refine is_worths ⟨by omega, by omega⟩ dtokenPattern_154 ?_
            refine ja_return dtokenPattern_155 rfl ?_
            exact k1 (ja_up (ja_up (ja_up h 2 ((h 0 6).toNat) 7) 4 ((h 0 6).toNat) (x2 + 1)) 5 ((h 0 6).toNat) 0) (by simp [ja_up]) g11
          · refine ja_iconst dtokenPattern_108 ?_
            refine ja_goto 113 dtokenPattern_109 rfl ?_
            refine ja_istore_n dtokenPattern_113 rfl (by decide) (L2 := [(3, (0, 1)), (0, (2, ((0 : Nat) : Int))), (2, (0, x2))]) rfl ?_
            refine ja_aload_n dtokenPattern_114 rfl rfl ?_
            refine fa_kinds dtokenPattern_115 ?_
            refine ja_aload_n dtokenPattern_118 rfl rfl ?_
            refine fg_tokens (v := h 0 6) rfl dtokenPattern_119 ?_
            have f12 := gF_tokens g
            refine ja_iload_n dtokenPattern_122 rfl rfl ?_
            refine ja_if_eq 130 dtokenPattern_123 rfl ⟨by decide, by decide⟩ (fun c123 => absurd c123 (by omega)) (fun c123 => ?_)
            refine ja_iconst dtokenPattern_126 ?_
            refine ja_goto 132 dtokenPattern_127 rfl ?_
            have g13 := gW_kinds g (h 0 6).toNat (x := 4) ⟨by decide, by decide⟩
            refine is_kinds ⟨by omega, by omega⟩ dtokenPattern_132 ?_
            refine ja_aload_n dtokenPattern_133 rfl rfl ?_
            refine fa_ends dtokenPattern_134 ?_
            refine ja_aload_n dtokenPattern_137 rfl rfl ?_
            refine fg_tokens (v := h 0 6) rfl dtokenPattern_138 ?_
            refine ja_iload_n dtokenPattern_141 rfl rfl ?_
            refine ja_iconst dtokenPattern_142 ?_
            refine ja_iadd dtokenPattern_143 ?_
            have g14 := gW_ends g13 (h 0 6).toNat (x := x2 + 1) ⟨by omega, by omega⟩
            refine is_ends ⟨by omega, by omega⟩ dtokenPattern_144 ?_
            refine ja_aload_n dtokenPattern_145 rfl rfl ?_
            refine fa_worths dtokenPattern_146 ?_
            refine ja_aload_n dtokenPattern_149 rfl rfl ?_
            refine fg_tokens (v := h 0 6) rfl dtokenPattern_150 ?_
            refine ja_iconst dtokenPattern_153 ?_
            have g15 := gW_worths g14 (h 0 6).toNat (x := 0) ⟨by decide, by decide⟩
            refine is_worths ⟨by omega, by omega⟩ dtokenPattern_154 ?_
            refine ja_return dtokenPattern_155 rfl ?_
            exact k1 (ja_up (ja_up (ja_up h 2 ((h 0 6).toNat) 4) 4 ((h 0 6).toNat) (x2 + 1)) 5 ((h 0 6).toNat) 0) (by simp [ja_up]) g15
  refine ja_aload_n dtokenPattern_0 rfl rfl ?_
  refine ja_iload_n dtokenPattern_1 rfl rfl ?_
  refine ja_iconst dtokenPattern_2 ?_
  refine ja_iadd dtokenPattern_3 ?_
  refine t_partEnd (by decide) (show (0 : Nat) ≤ 8 by decide) dtokenPattern_4 g ⟨by omega, by omega⟩ (show 0 ≤ (a1 + 1) by omega) ?_
  intro w16 k4_0
  refine ja_istore_n dtokenPattern_7 rfl (by decide) (L2 := [(2, (0, w16)), (0, (2, ((0 : Nat) : Int))), (1, (0, a1))]) rfl ?_
  refine ja_iload_n dtokenPattern_8 rfl rfl ?_
  refine ja_iload_n dtokenPattern_9 rfl rfl ?_
  refine ja_iconst dtokenPattern_10 ?_
  refine ja_iadd dtokenPattern_11 ?_
  refine ja_icmp_le 27 dtokenPattern_12 rfl ⟨by omega, by omega⟩ ⟨by omega, by omega⟩ (fun c12 => ?_) (fun c12 => ?_)
  · refine ja_iconst dtokenPattern_27 ?_
    refine ja_istore_n dtokenPattern_28 rfl (by decide) (L2 := [(3, (0, 0)), (2, (0, w16)), (0, (2, ((0 : Nat) : Int))), (1, (0, a1))]) rfl ?_
    refine ja_aload_n dtokenPattern_29 rfl rfl ?_
    refine ja_iload_n dtokenPattern_30 rfl rfl ?_
    refine t_byteAt (by decide) (show (0 : Nat) ≤ 8 by decide) dtokenPattern_31 g ⟨by omega, by omega⟩ (show 0 ≤ w16 by omega) ?_
    intro w17 k31_0
    refine ja_bipush 43 dtokenPattern_34 rfl ?_
    refine ja_icmp_ne 45 dtokenPattern_36 rfl ⟨by omega, by omega⟩ ⟨by decide, by decide⟩ (fun c36 => ?_) (fun c36 => ?_)
    · refine ja_iload_n dtokenPattern_45 rfl rfl ?_
      exact ja_wk (fun q hq => by simp only [List.mem_cons, List.not_mem_nil, or_false] at hq; rcases hq with rfl | rfl <;> rfl) ((CUT _).1 0 w16  ⟨by decide, by decide⟩ ⟨by omega, by omega⟩ (show a1 + 1 ≤ w16 ∧ w16 ≤ (h 0 1) ∧ 0 ≤ 0 ∧ 0 ≤ 1 by omega) rfl)
    · refine ja_iload_n dtokenPattern_39 rfl rfl ?_
      refine ja_iconst dtokenPattern_40 ?_
      refine ja_iadd dtokenPattern_41 ?_
      refine ja_goto 46 dtokenPattern_42 rfl ?_
      exact ja_wk (fun q hq => by simp only [List.mem_cons, List.not_mem_nil, or_false] at hq; rcases hq with rfl | rfl <;> rfl) ((CUT _).1 0 (w16 + 1)  ⟨by decide, by decide⟩ ⟨by omega, by omega⟩ (show a1 + 1 ≤ (w16 + 1) ∧ (w16 + 1) ≤ (h 0 1) ∧ 0 ≤ 0 ∧ 0 ≤ 1 by omega) rfl)
  · refine ja_iload_n dtokenPattern_15 rfl rfl ?_
    refine ja_iload_n dtokenPattern_16 rfl rfl ?_
    refine ja_isub dtokenPattern_17 ?_
    refine ja_bipush 13 dtokenPattern_18 rfl ?_
    refine ja_icmp_gt 27 dtokenPattern_20 rfl ⟨by omega, by omega⟩ ⟨by decide, by decide⟩ (fun c20 => ?_) (fun c20 => ?_)
    · refine ja_iconst dtokenPattern_27 ?_
      refine ja_istore_n dtokenPattern_28 rfl (by decide) (L2 := [(3, (0, 0)), (2, (0, w16)), (0, (2, ((0 : Nat) : Int))), (1, (0, a1))]) rfl ?_
      refine ja_aload_n dtokenPattern_29 rfl rfl ?_
      refine ja_iload_n dtokenPattern_30 rfl rfl ?_
      refine t_byteAt (by decide) (show (0 : Nat) ≤ 8 by decide) dtokenPattern_31 g ⟨by omega, by omega⟩ (show 0 ≤ w16 by omega) ?_
      intro w18 k31_0
      refine ja_bipush 43 dtokenPattern_34 rfl ?_
      refine ja_icmp_ne 45 dtokenPattern_36 rfl ⟨by omega, by omega⟩ ⟨by decide, by decide⟩ (fun c36 => ?_) (fun c36 => ?_)
      · refine ja_iload_n dtokenPattern_45 rfl rfl ?_
        exact ja_wk (fun q hq => by simp only [List.mem_cons, List.not_mem_nil, or_false] at hq; rcases hq with rfl | rfl <;> rfl) ((CUT _).1 0 w16  ⟨by decide, by decide⟩ ⟨by omega, by omega⟩ (show a1 + 1 ≤ w16 ∧ w16 ≤ (h 0 1) ∧ 0 ≤ 0 ∧ 0 ≤ 1 by omega) rfl)
      · refine ja_iload_n dtokenPattern_39 rfl rfl ?_
        refine ja_iconst dtokenPattern_40 ?_
        refine ja_iadd dtokenPattern_41 ?_
        refine ja_goto 46 dtokenPattern_42 rfl ?_
        exact ja_wk (fun q hq => by simp only [List.mem_cons, List.not_mem_nil, or_false] at hq; rcases hq with rfl | rfl <;> rfl) ((CUT _).1 0 (w16 + 1)  ⟨by decide, by decide⟩ ⟨by omega, by omega⟩ (show a1 + 1 ≤ (w16 + 1) ∧ (w16 + 1) ≤ (h 0 1) ∧ 0 ≤ 0 ∧ 0 ≤ 1 by omega) rfl)
    · refine ja_iconst dtokenPattern_23 ?_
      refine ja_goto 28 dtokenPattern_24 rfl ?_
      refine ja_istore_n dtokenPattern_28 rfl (by decide) (L2 := [(3, (0, 1)), (2, (0, w16)), (0, (2, ((0 : Nat) : Int))), (1, (0, a1))]) rfl ?_
      refine ja_aload_n dtokenPattern_29 rfl rfl ?_
      refine ja_iload_n dtokenPattern_30 rfl rfl ?_
      refine t_byteAt (by decide) (show (0 : Nat) ≤ 8 by decide) dtokenPattern_31 g ⟨by omega, by omega⟩ (show 0 ≤ w16 by omega) ?_
      intro w19 k31_0
      refine ja_bipush 43 dtokenPattern_34 rfl ?_
      refine ja_icmp_ne 45 dtokenPattern_36 rfl ⟨by omega, by omega⟩ ⟨by decide, by decide⟩ (fun c36 => ?_) (fun c36 => ?_)
      · refine ja_iload_n dtokenPattern_45 rfl rfl ?_
        exact ja_wk (fun q hq => by simp only [List.mem_cons, List.not_mem_nil, or_false] at hq; rcases hq with rfl | rfl <;> rfl) ((CUT _).1 1 w16  ⟨by decide, by decide⟩ ⟨by omega, by omega⟩ (show a1 + 1 ≤ w16 ∧ w16 ≤ (h 0 1) ∧ 0 ≤ 1 ∧ 1 ≤ 1 by omega) rfl)
      · refine ja_iload_n dtokenPattern_39 rfl rfl ?_
        refine ja_iconst dtokenPattern_40 ?_
        refine ja_iadd dtokenPattern_41 ?_
        refine ja_goto 46 dtokenPattern_42 rfl ?_
        exact ja_wk (fun q hq => by simp only [List.mem_cons, List.not_mem_nil, or_false] at hq; rcases hq with rfl | rfl <;> rfl) ((CUT _).1 1 (w16 + 1)  ⟨by decide, by decide⟩ ⟨by omega, by omega⟩ (show a1 + 1 ≤ (w16 + 1) ∧ (w16 + 1) ≤ (h 0 1) ∧ 0 ≤ 1 ∧ 1 ≤ 1 by omega) rfl)
theorem t_tokenPattern {a1 : Int} {d nL pc : Nat} {cc : ByteArray} {rt : Option FieldType} {L : List (Nat × ja_V)} {S : List ja_V} {h : ja_H} {Q : Option ja_V → ja_H → Prop} (hdd : 3 < d) (hwd : ja_wd S ≤ 8) (hd : decode cc pc = .ok (.invokevirtual 568, 3)) (g : mo_G Zz h) (r1 : -2147483648 ≤ a1 ∧ a1 ≤ 2147483647) (p1 : 0 ≤ a1 ∧ a1 < (h 0 1)) (p2 : (h 0 6) ≤ 900) (k1 : ∀ (h' : ja_H), ((h' 0 1) = (h 0 1) ∧ (h' 0 118) = (h 0 118) ∧ (h' 0 127) = (h 0 127) ∧ (h' 0 6) = (h 0 6)) → mo_G Zz h' → mJ l D cA ad d cc nL rt (pc + 3) L S h' Q) : mJ l D cA ad d cc nL rt pc L ((0, a1) :: (2, ((0 : Nat) : Int)) :: S) h Q :=
  mc_tokenPattern hdd hwd hd (s_tokenPattern g r1 p1 p2 k1)
end
theorem dtokenSign_0 : decode cX12_tokenSign 0 = .ok (.aload_n 0, 1) := by decide +kernel
theorem dtokenSign_1 : decode cX12_tokenSign 1 = .ok (.iload_n 1, 1) := by decide +kernel
theorem dtokenSign_2 : decode cX12_tokenSign 2 = .ok (.invokevirtual 437, 3) := by decide +kernel
theorem dtokenSign_5 : decode cX12_tokenSign 5 = .ok (.istore_n 2, 1) := by decide +kernel
theorem dtokenSign_6 : decode cX12_tokenSign 6 = .ok (.aload_n 0, 1) := by decide +kernel
theorem dtokenSign_7 : decode cX12_tokenSign 7 = .ok (.iload_n 1, 1) := by decide +kernel
theorem dtokenSign_8 : decode cX12_tokenSign 8 = .ok (.iconst 1, 1) := by decide +kernel
theorem dtokenSign_9 : decode cX12_tokenSign 9 = .ok (.iadd, 1) := by decide +kernel
theorem dtokenSign_10 : decode cX12_tokenSign 10 = .ok (.invokevirtual 437, 3) := by decide +kernel
theorem dtokenSign_13 : decode cX12_tokenSign 13 = .ok (.bipush 61, 2) := by decide +kernel
theorem dtokenSign_15 : decode cX12_tokenSign 15 = .ok (.if_icmp .eq 7, 3) := by decide +kernel
theorem dtokenSign_18 : decode cX12_tokenSign 18 = .ok (.iconst 0, 1) := by decide +kernel
theorem dtokenSign_19 : decode cX12_tokenSign 19 = .ok (.goto 52, 3) := by decide +kernel
theorem dtokenSign_22 : decode cX12_tokenSign 22 = .ok (.iload_n 2, 1) := by decide +kernel
theorem dtokenSign_23 : decode cX12_tokenSign 23 = .ok (.bipush 61, 2) := by decide +kernel
theorem dtokenSign_25 : decode cX12_tokenSign 25 = .ok (.if_icmp .ne 9, 3) := by decide +kernel
theorem dtokenSign_28 : decode cX12_tokenSign 28 = .ok (.sipush 300, 3) := by decide +kernel
theorem dtokenSign_31 : decode cX12_tokenSign 31 = .ok (.goto 40, 3) := by decide +kernel
theorem dtokenSign_34 : decode cX12_tokenSign 34 = .ok (.iload_n 2, 1) := by decide +kernel
theorem dtokenSign_35 : decode cX12_tokenSign 35 = .ok (.bipush 33, 2) := by decide +kernel
theorem dtokenSign_37 : decode cX12_tokenSign 37 = .ok (.if_icmp .ne 9, 3) := by decide +kernel
theorem dtokenSign_40 : decode cX12_tokenSign 40 = .ok (.sipush 301, 3) := by decide +kernel
theorem dtokenSign_43 : decode cX12_tokenSign 43 = .ok (.goto 28, 3) := by decide +kernel
theorem dtokenSign_46 : decode cX12_tokenSign 46 = .ok (.iload_n 2, 1) := by decide +kernel
theorem dtokenSign_47 : decode cX12_tokenSign 47 = .ok (.bipush 60, 2) := by decide +kernel
theorem dtokenSign_49 : decode cX12_tokenSign 49 = .ok (.if_icmp .ne 9, 3) := by decide +kernel
theorem dtokenSign_52 : decode cX12_tokenSign 52 = .ok (.sipush 302, 3) := by decide +kernel
theorem dtokenSign_55 : decode cX12_tokenSign 55 = .ok (.goto 16, 3) := by decide +kernel
theorem dtokenSign_58 : decode cX12_tokenSign 58 = .ok (.iload_n 2, 1) := by decide +kernel
theorem dtokenSign_59 : decode cX12_tokenSign 59 = .ok (.bipush 62, 2) := by decide +kernel
theorem dtokenSign_61 : decode cX12_tokenSign 61 = .ok (.if_icmp .ne 9, 3) := by decide +kernel
theorem dtokenSign_64 : decode cX12_tokenSign 64 = .ok (.sipush 303, 3) := by decide +kernel
theorem dtokenSign_67 : decode cX12_tokenSign 67 = .ok (.goto 4, 3) := by decide +kernel
theorem dtokenSign_70 : decode cX12_tokenSign 70 = .ok (.iconst 0, 1) := by decide +kernel
theorem dtokenSign_71 : decode cX12_tokenSign 71 = .ok (.istore_n 3, 1) := by decide +kernel
theorem dtokenSign_72 : decode cX12_tokenSign 72 = .ok (.iload_n 2, 1) := by decide +kernel
theorem dtokenSign_73 : decode cX12_tokenSign 73 = .ok (.bipush 61, 2) := by decide +kernel
theorem dtokenSign_75 : decode cX12_tokenSign 75 = .ok (.if_icmp .eq 45, 3) := by decide +kernel
theorem dtokenSign_78 : decode cX12_tokenSign 78 = .ok (.iload_n 2, 1) := by decide +kernel
theorem dtokenSign_79 : decode cX12_tokenSign 79 = .ok (.bipush 60, 2) := by decide +kernel
theorem dtokenSign_81 : decode cX12_tokenSign 81 = .ok (.if_icmp .eq 39, 3) := by decide +kernel
theorem dtokenSign_84 : decode cX12_tokenSign 84 = .ok (.iload_n 2, 1) := by decide +kernel
theorem dtokenSign_85 : decode cX12_tokenSign 85 = .ok (.bipush 62, 2) := by decide +kernel
theorem dtokenSign_87 : decode cX12_tokenSign 87 = .ok (.if_icmp .eq 33, 3) := by decide +kernel
theorem dtokenSign_90 : decode cX12_tokenSign 90 = .ok (.iload_n 2, 1) := by decide +kernel
theorem dtokenSign_91 : decode cX12_tokenSign 91 = .ok (.bipush 43, 2) := by decide +kernel
theorem dtokenSign_93 : decode cX12_tokenSign 93 = .ok (.if_icmp .eq 27, 3) := by decide +kernel
theorem dtokenSign_96 : decode cX12_tokenSign 96 = .ok (.iload_n 2, 1) := by decide +kernel
theorem dtokenSign_97 : decode cX12_tokenSign 97 = .ok (.bipush 45, 2) := by decide +kernel
theorem dtokenSign_99 : decode cX12_tokenSign 99 = .ok (.if_icmp .eq 21, 3) := by decide +kernel
theorem dtokenSign_102 : decode cX12_tokenSign 102 = .ok (.iload_n 2, 1) := by decide +kernel
theorem dtokenSign_103 : decode cX12_tokenSign 103 = .ok (.bipush 42, 2) := by decide +kernel
theorem dtokenSign_105 : decode cX12_tokenSign 105 = .ok (.if_icmp .eq 15, 3) := by decide +kernel
theorem dtokenSign_108 : decode cX12_tokenSign 108 = .ok (.iload_n 2, 1) := by decide +kernel
theorem dtokenSign_109 : decode cX12_tokenSign 109 = .ok (.bipush 47, 2) := by decide +kernel
theorem dtokenSign_111 : decode cX12_tokenSign 111 = .ok (.if_icmp .eq 9, 3) := by decide +kernel
theorem dtokenSign_114 : decode cX12_tokenSign 114 = .ok (.iload_n 2, 1) := by decide +kernel
theorem dtokenSign_115 : decode cX12_tokenSign 115 = .ok (.bipush 37, 2) := by decide +kernel
theorem dtokenSign_117 : decode cX12_tokenSign 117 = .ok (.if_icmp .ne 7, 3) := by decide +kernel
theorem dtokenSign_120 : decode cX12_tokenSign 120 = .ok (.iconst 1, 1) := by decide +kernel
theorem dtokenSign_121 : decode cX12_tokenSign 121 = .ok (.goto 4, 3) := by decide +kernel
theorem dtokenSign_124 : decode cX12_tokenSign 124 = .ok (.iconst 0, 1) := by decide +kernel
theorem dtokenSign_125 : decode cX12_tokenSign 125 = .ok (.istore 4, 2) := by decide +kernel
theorem dtokenSign_127 : decode cX12_tokenSign 127 = .ok (.iload 4, 2) := by decide +kernel
theorem dtokenSign_129 : decode cX12_tokenSign 129 = .ok (.ifCond .ne 45, 3) := by decide +kernel
theorem dtokenSign_132 : decode cX12_tokenSign 132 = .ok (.iload_n 2, 1) := by decide +kernel
theorem dtokenSign_133 : decode cX12_tokenSign 133 = .ok (.bipush 40, 2) := by decide +kernel
theorem dtokenSign_135 : decode cX12_tokenSign 135 = .ok (.if_icmp .eq 39, 3) := by decide +kernel
theorem dtokenSign_138 : decode cX12_tokenSign 138 = .ok (.iload_n 2, 1) := by decide +kernel
theorem dtokenSign_139 : decode cX12_tokenSign 139 = .ok (.bipush 41, 2) := by decide +kernel
theorem dtokenSign_141 : decode cX12_tokenSign 141 = .ok (.if_icmp .eq 33, 3) := by decide +kernel
theorem dtokenSign_144 : decode cX12_tokenSign 144 = .ok (.iload_n 2, 1) := by decide +kernel
theorem dtokenSign_145 : decode cX12_tokenSign 145 = .ok (.bipush 123, 2) := by decide +kernel
theorem dtokenSign_147 : decode cX12_tokenSign 147 = .ok (.if_icmp .eq 27, 3) := by decide +kernel
theorem dtokenSign_150 : decode cX12_tokenSign 150 = .ok (.iload_n 2, 1) := by decide +kernel
theorem dtokenSign_151 : decode cX12_tokenSign 151 = .ok (.bipush 125, 2) := by decide +kernel
theorem dtokenSign_153 : decode cX12_tokenSign 153 = .ok (.if_icmp .eq 21, 3) := by decide +kernel
theorem dtokenSign_156 : decode cX12_tokenSign 156 = .ok (.iload_n 2, 1) := by decide +kernel
theorem dtokenSign_157 : decode cX12_tokenSign 157 = .ok (.bipush 59, 2) := by decide +kernel
theorem dtokenSign_159 : decode cX12_tokenSign 159 = .ok (.if_icmp .eq 15, 3) := by decide +kernel
theorem dtokenSign_162 : decode cX12_tokenSign 162 = .ok (.iload_n 2, 1) := by decide +kernel
theorem dtokenSign_163 : decode cX12_tokenSign 163 = .ok (.bipush 44, 2) := by decide +kernel
theorem dtokenSign_165 : decode cX12_tokenSign 165 = .ok (.if_icmp .eq 9, 3) := by decide +kernel
theorem dtokenSign_168 : decode cX12_tokenSign 168 = .ok (.iload_n 2, 1) := by decide +kernel
theorem dtokenSign_169 : decode cX12_tokenSign 169 = .ok (.bipush 46, 2) := by decide +kernel
theorem dtokenSign_171 : decode cX12_tokenSign 171 = .ok (.if_icmp .ne 7, 3) := by decide +kernel
theorem dtokenSign_174 : decode cX12_tokenSign 174 = .ok (.iconst 1, 1) := by decide +kernel
theorem dtokenSign_175 : decode cX12_tokenSign 175 = .ok (.goto 4, 3) := by decide +kernel
theorem dtokenSign_178 : decode cX12_tokenSign 178 = .ok (.iconst 0, 1) := by decide +kernel
theorem dtokenSign_179 : decode cX12_tokenSign 179 = .ok (.istore 4, 2) := by decide +kernel
theorem dtokenSign_181 : decode cX12_tokenSign 181 = .ok (.aload_n 0, 1) := by decide +kernel
theorem dtokenSign_182 : decode cX12_tokenSign 182 = .ok (.getfield 13, 3) := by decide +kernel
theorem dtokenSign_185 : decode cX12_tokenSign 185 = .ok (.aload_n 0, 1) := by decide +kernel
theorem dtokenSign_186 : decode cX12_tokenSign 186 = .ok (.getfield 536, 3) := by decide +kernel
theorem dtokenSign_189 : decode cX12_tokenSign 189 = .ok (.iload_n 3, 1) := by decide +kernel
theorem dtokenSign_190 : decode cX12_tokenSign 190 = .ok (.ifCond .gt 8, 3) := by decide +kernel
theorem dtokenSign_193 : decode cX12_tokenSign 193 = .ok (.iload 4, 2) := by decide +kernel
theorem dtokenSign_195 : decode cX12_tokenSign 195 = .ok (.ifCond .eq 7, 3) := by decide +kernel
theorem dtokenSign_198 : decode cX12_tokenSign 198 = .ok (.iconst 5, 1) := by decide +kernel
theorem dtokenSign_199 : decode cX12_tokenSign 199 = .ok (.goto 5, 3) := by decide +kernel
theorem dtokenSign_202 : decode cX12_tokenSign 202 = .ok (.bipush 7, 2) := by decide +kernel
theorem dtokenSign_204 : decode cX12_tokenSign 204 = .ok (.iastore, 1) := by decide +kernel
theorem dtokenSign_205 : decode cX12_tokenSign 205 = .ok (.aload_n 0, 1) := by decide +kernel
theorem dtokenSign_206 : decode cX12_tokenSign 206 = .ok (.getfield 19, 3) := by decide +kernel
theorem dtokenSign_209 : decode cX12_tokenSign 209 = .ok (.aload_n 0, 1) := by decide +kernel
theorem dtokenSign_210 : decode cX12_tokenSign 210 = .ok (.getfield 536, 3) := by decide +kernel
theorem dtokenSign_213 : decode cX12_tokenSign 213 = .ok (.iload_n 3, 1) := by decide +kernel
theorem dtokenSign_214 : decode cX12_tokenSign 214 = .ok (.ifCond .le 9, 3) := by decide +kernel
theorem dtokenSign_217 : decode cX12_tokenSign 217 = .ok (.iload_n 1, 1) := by decide +kernel
theorem dtokenSign_218 : decode cX12_tokenSign 218 = .ok (.iconst 2, 1) := by decide +kernel
theorem dtokenSign_219 : decode cX12_tokenSign 219 = .ok (.iadd, 1) := by decide +kernel
theorem dtokenSign_220 : decode cX12_tokenSign 220 = .ok (.goto 6, 3) := by decide +kernel
theorem dtokenSign_223 : decode cX12_tokenSign 223 = .ok (.iload_n 1, 1) := by decide +kernel
theorem dtokenSign_224 : decode cX12_tokenSign 224 = .ok (.iconst 1, 1) := by decide +kernel
theorem dtokenSign_225 : decode cX12_tokenSign 225 = .ok (.iadd, 1) := by decide +kernel
theorem dtokenSign_226 : decode cX12_tokenSign 226 = .ok (.iastore, 1) := by decide +kernel
theorem dtokenSign_227 : decode cX12_tokenSign 227 = .ok (.aload_n 0, 1) := by decide +kernel
theorem dtokenSign_228 : decode cX12_tokenSign 228 = .ok (.getfield 22, 3) := by decide +kernel
theorem dtokenSign_231 : decode cX12_tokenSign 231 = .ok (.aload_n 0, 1) := by decide +kernel
theorem dtokenSign_232 : decode cX12_tokenSign 232 = .ok (.getfield 536, 3) := by decide +kernel
theorem dtokenSign_235 : decode cX12_tokenSign 235 = .ok (.iload_n 3, 1) := by decide +kernel
theorem dtokenSign_236 : decode cX12_tokenSign 236 = .ok (.ifCond .le 7, 3) := by decide +kernel
theorem dtokenSign_239 : decode cX12_tokenSign 239 = .ok (.iload_n 3, 1) := by decide +kernel
theorem dtokenSign_240 : decode cX12_tokenSign 240 = .ok (.goto 4, 3) := by decide +kernel
theorem dtokenSign_243 : decode cX12_tokenSign 243 = .ok (.iload_n 2, 1) := by decide +kernel
theorem dtokenSign_244 : decode cX12_tokenSign 244 = .ok (.iastore, 1) := by decide +kernel
theorem dtokenSign_245 : decode cX12_tokenSign 245 = .ok (.return_, 1) := by decide +kernel
section
variable {l : Launch} {D : va_G} {cA : Nat → ClassId} {ad : Nat → Nat}
theorem s_tokenSign {a1 : Int} {h : ja_H} {Q : Option ja_V → ja_H → Prop} (g : mo_G Zz h) (r1 : -2147483648 ≤ a1 ∧ a1 ≤ 2147483647) (p1 : 0 ≤ a1 ∧ a1 < (h 0 1)) (p2 : (h 0 6) ≤ 900) (k1 : ∀ (h' : ja_H), ((h' 0 1) = (h 0 1) ∧ (h' 0 118) = (h 0 118) ∧ (h' 0 127) = (h 0 127) ∧ (h' 0 6) = (h 0 6)) → mo_G Zz h' → Q none h') : mM_tokenSign l D cA ad a1 h Q := by
  show mJ l D cA ad 2 cX12_tokenSign 5 none 0 [(0, (2, ((0 : Nat) : Int))), (1, (0, a1))] [] h Q
  have kn_size := gF_size g
  have CUT : ∀ n : Nat, (∀ (x2 s0 : Int), (-2147483648 ≤ x2 ∧ x2 ≤ 2147483647) → (-2147483648 ≤ s0 ∧ s0 ≤ 2147483647) → (-1 ≤ x2 ∧ x2 ≤ 255 ∧ (s0 = 0 ∨ (300 ≤ s0 ∧ s0 ≤ 303 ∧ a1 + 1 < (h 0 1)))) → (3) = n → mJ l D cA ad 2 cX12_tokenSign 5 none 71 [(0, (2, ((0 : Nat) : Int))), (1, (0, a1)), (2, (0, x2))] [(0, s0)] h Q) ∧ (∀ (x2 x3 s0 : Int), (-2147483648 ≤ x2 ∧ x2 ≤ 2147483647) → (-2147483648 ≤ x3 ∧ x3 ≤ 2147483647) → (-2147483648 ≤ s0 ∧ s0 ≤ 2147483647) → (-1 ≤ x2 ∧ x2 ≤ 255 ∧ (x3 = 0 ∨ (300 ≤ x3 ∧ x3 ≤ 303 ∧ a1 + 1 < (h 0 1))) ∧ 0 ≤ s0 ∧ s0 ≤ 1) → (2) = n → mJ l D cA ad 2 cX12_tokenSign 5 none 125 [(0, (2, ((0 : Nat) : Int))), (1, (0, a1)), (2, (0, x2)), (3, (0, x3))] [(0, s0)] h Q) ∧ (∀ (x2 x3 s0 : Int), (-2147483648 ≤ x2 ∧ x2 ≤ 2147483647) → (-2147483648 ≤ x3 ∧ x3 ≤ 2147483647) → (-2147483648 ≤ s0 ∧ s0 ≤ 2147483647) → (-1 ≤ x2 ∧ x2 ≤ 255 ∧ (x3 = 0 ∨ (300 ≤ x3 ∧ x3 ≤ 303 ∧ a1 + 1 < (h 0 1))) ∧ 0 ≤ s0 ∧ s0 ≤ 1) → (1) = n → mJ l D cA ad 2 cX12_tokenSign 5 none 179 [(0, (2, ((0 : Nat) : Int))), (1, (0, a1)), (2, (0, x2)), (3, (0, x3))] [(0, s0)] h Q) := by
    intro n
    induction n using Nat.strongRecOn with
    | _ n ih =>
      refine ⟨?_, ?_, ?_⟩
      · intro x2 s0 qx2 qs0 iv hm
        subst hm
        refine ja_istore_n dtokenSign_71 rfl (by decide) (L2 := [(3, (0, s0)), (0, (2, ((0 : Nat) : Int))), (1, (0, a1)), (2, (0, x2))]) rfl ?_
        refine ja_iload_n dtokenSign_72 rfl rfl ?_
        refine ja_bipush 61 dtokenSign_73 rfl ?_
        refine ja_icmp_eq 120 dtokenSign_75 rfl ⟨by omega, by omega⟩ ⟨by decide, by decide⟩ (fun c75 => ?_) (fun c75 => ?_)
        · refine ja_iconst dtokenSign_120 ?_
          refine ja_goto 125 dtokenSign_121 rfl ?_
          exact ja_wk (fun q hq => by simp only [List.mem_cons, List.not_mem_nil, or_false] at hq; rcases hq with rfl | rfl | rfl | rfl <;> rfl) ((ih (2) (by omega)).2.1 x2 s0 1  ⟨by omega, by omega⟩ ⟨by omega, by omega⟩ ⟨by decide, by decide⟩ (show -1 ≤ x2 ∧ x2 ≤ 255 ∧ (s0 = 0 ∨ (300 ≤ s0 ∧ s0 ≤ 303 ∧ a1 + 1 < (h 0 1))) ∧ 0 ≤ 1 ∧ 1 ≤ 1 by omega) rfl)
        · refine ja_iload_n dtokenSign_78 rfl rfl ?_
          refine ja_bipush 60 dtokenSign_79 rfl ?_
          refine ja_icmp_eq 120 dtokenSign_81 rfl ⟨by omega, by omega⟩ ⟨by decide, by decide⟩ (fun c81 => ?_) (fun c81 => ?_)
          · refine ja_iconst dtokenSign_120 ?_
            refine ja_goto 125 dtokenSign_121 rfl ?_
            exact ja_wk (fun q hq => by simp only [List.mem_cons, List.not_mem_nil, or_false] at hq; rcases hq with rfl | rfl | rfl | rfl <;> rfl) ((ih (2) (by omega)).2.1 x2 s0 1  ⟨by omega, by omega⟩ ⟨by omega, by omega⟩ ⟨by decide, by decide⟩ (show -1 ≤ x2 ∧ x2 ≤ 255 ∧ (s0 = 0 ∨ (300 ≤ s0 ∧ s0 ≤ 303 ∧ a1 + 1 < (h 0 1))) ∧ 0 ≤ 1 ∧ 1 ≤ 1 by omega) rfl)
          · refine ja_iload_n dtokenSign_84 rfl rfl ?_
            refine ja_bipush 62 dtokenSign_85 rfl ?_
            refine ja_icmp_eq 120 dtokenSign_87 rfl ⟨by omega, by omega⟩ ⟨by decide, by decide⟩ (fun c87 => ?_) (fun c87 => ?_)
            · refine ja_iconst dtokenSign_120 ?_
              refine ja_goto 125 dtokenSign_121 rfl ?_
              exact ja_wk (fun q hq => by simp only [List.mem_cons, List.not_mem_nil, or_false] at hq; rcases hq with rfl | rfl | rfl | rfl <;> rfl) ((ih (2) (by omega)).2.1 x2 s0 1  ⟨by omega, by omega⟩ ⟨by omega, by omega⟩ ⟨by decide, by decide⟩ (show -1 ≤ x2 ∧ x2 ≤ 255 ∧ (s0 = 0 ∨ (300 ≤ s0 ∧ s0 ≤ 303 ∧ a1 + 1 < (h 0 1))) ∧ 0 ≤ 1 ∧ 1 ≤ 1 by omega) rfl)
            · refine ja_iload_n dtokenSign_90 rfl rfl ?_
              refine ja_bipush 43 dtokenSign_91 rfl ?_
              refine ja_icmp_eq 120 dtokenSign_93 rfl ⟨by omega, by omega⟩ ⟨by decide, by decide⟩ (fun c93 => ?_) (fun c93 => ?_)
              · refine ja_iconst dtokenSign_120 ?_
                refine ja_goto 125 dtokenSign_121 rfl ?_
                exact ja_wk (fun q hq => by simp only [List.mem_cons, List.not_mem_nil, or_false] at hq; rcases hq with rfl | rfl | rfl | rfl <;> rfl) ((ih (2) (by omega)).2.1 x2 s0 1  ⟨by omega, by omega⟩ ⟨by omega, by omega⟩ ⟨by decide, by decide⟩ (show -1 ≤ x2 ∧ x2 ≤ 255 ∧ (s0 = 0 ∨ (300 ≤ s0 ∧ s0 ≤ 303 ∧ a1 + 1 < (h 0 1))) ∧ 0 ≤ 1 ∧ 1 ≤ 1 by omega) rfl)
              · refine ja_iload_n dtokenSign_96 rfl rfl ?_
                refine ja_bipush 45 dtokenSign_97 rfl ?_
                refine ja_icmp_eq 120 dtokenSign_99 rfl ⟨by omega, by omega⟩ ⟨by decide, by decide⟩ (fun c99 => ?_) (fun c99 => ?_)
                · refine ja_iconst dtokenSign_120 ?_
                  refine ja_goto 125 dtokenSign_121 rfl ?_
                  exact ja_wk (fun q hq => by simp only [List.mem_cons, List.not_mem_nil, or_false] at hq; rcases hq with rfl | rfl | rfl | rfl <;> rfl) ((ih (2) (by omega)).2.1 x2 s0 1  ⟨by omega, by omega⟩ ⟨by omega, by omega⟩ ⟨by decide, by decide⟩ (show -1 ≤ x2 ∧ x2 ≤ 255 ∧ (s0 = 0 ∨ (300 ≤ s0 ∧ s0 ≤ 303 ∧ a1 + 1 < (h 0 1))) ∧ 0 ≤ 1 ∧ 1 ≤ 1 by omega) rfl)
                · refine ja_iload_n dtokenSign_102 rfl rfl ?_
                  refine ja_bipush 42 dtokenSign_103 rfl ?_
                  refine ja_icmp_eq 120 dtokenSign_105 rfl ⟨by omega, by omega⟩ ⟨by decide, by decide⟩ (fun c105 => ?_) (fun c105 => ?_)
                  · refine ja_iconst dtokenSign_120 ?_
                    refine ja_goto 125 dtokenSign_121 rfl ?_
                    exact ja_wk (fun q hq => by simp only [List.mem_cons, List.not_mem_nil, or_false] at hq; rcases hq with rfl | rfl | rfl | rfl <;> rfl) ((ih (2) (by omega)).2.1 x2 s0 1  ⟨by omega, by omega⟩ ⟨by omega, by omega⟩ ⟨by decide, by decide⟩ (show -1 ≤ x2 ∧ x2 ≤ 255 ∧ (s0 = 0 ∨ (300 ≤ s0 ∧ s0 ≤ 303 ∧ a1 + 1 < (h 0 1))) ∧ 0 ≤ 1 ∧ 1 ≤ 1 by omega) rfl)
                  · refine ja_iload_n dtokenSign_108 rfl rfl ?_
                    refine ja_bipush 47 dtokenSign_109 rfl ?_
                    refine ja_icmp_eq 120 dtokenSign_111 rfl ⟨by omega, by omega⟩ ⟨by decide, by decide⟩ (fun c111 => ?_) (fun c111 => ?_)
                    · refine ja_iconst dtokenSign_120 ?_
                      refine ja_goto 125 dtokenSign_121 rfl ?_
                      exact ja_wk (fun q hq => by simp only [List.mem_cons, List.not_mem_nil, or_false] at hq; rcases hq with rfl | rfl | rfl | rfl <;> rfl) ((ih (2) (by omega)).2.1 x2 s0 1  ⟨by omega, by omega⟩ ⟨by omega, by omega⟩ ⟨by decide, by decide⟩ (show -1 ≤ x2 ∧ x2 ≤ 255 ∧ (s0 = 0 ∨ (300 ≤ s0 ∧ s0 ≤ 303 ∧ a1 + 1 < (h 0 1))) ∧ 0 ≤ 1 ∧ 1 ≤ 1 by omega) rfl)
                    · refine ja_iload_n dtokenSign_114 rfl rfl ?_
                      refine ja_bipush 37 dtokenSign_115 rfl ?_
                      refine ja_icmp_ne 124 dtokenSign_117 rfl ⟨by omega, by omega⟩ ⟨by decide, by decide⟩ (fun c117 => ?_) (fun c117 => ?_)
                      · refine ja_iconst dtokenSign_124 ?_
                        exact ja_wk (fun q hq => by simp only [List.mem_cons, List.not_mem_nil, or_false] at hq; rcases hq with rfl | rfl | rfl | rfl <;> rfl) ((ih (2) (by omega)).2.1 x2 s0 0  ⟨by omega, by omega⟩ ⟨by omega, by omega⟩ ⟨by decide, by decide⟩ (show -1 ≤ x2 ∧ x2 ≤ 255 ∧ (s0 = 0 ∨ (300 ≤ s0 ∧ s0 ≤ 303 ∧ a1 + 1 < (h 0 1))) ∧ 0 ≤ 0 ∧ 0 ≤ 1 by omega) rfl)
                      · refine ja_iconst dtokenSign_120 ?_
                        refine ja_goto 125 dtokenSign_121 rfl ?_
                        exact ja_wk (fun q hq => by simp only [List.mem_cons, List.not_mem_nil, or_false] at hq; rcases hq with rfl | rfl | rfl | rfl <;> rfl) ((ih (2) (by omega)).2.1 x2 s0 1  ⟨by omega, by omega⟩ ⟨by omega, by omega⟩ ⟨by decide, by decide⟩ (show -1 ≤ x2 ∧ x2 ≤ 255 ∧ (s0 = 0 ∨ (300 ≤ s0 ∧ s0 ≤ 303 ∧ a1 + 1 < (h 0 1))) ∧ 0 ≤ 1 ∧ 1 ≤ 1 by omega) rfl)
      · intro x2 x3 s0 qx2 qx3 qs0 iv hm
        subst hm
        refine ja_istore dtokenSign_125 (by decide) (L2 := [(4, (0, s0)), (0, (2, ((0 : Nat) : Int))), (1, (0, a1)), (2, (0, x2)), (3, (0, x3))]) rfl ?_
        refine ja_iload dtokenSign_127 rfl ?_
        refine ja_if_ne 174 dtokenSign_129 rfl ⟨by omega, by omega⟩ (fun c129 => ?_) (fun c129 => ?_)
        · refine ja_iconst dtokenSign_174 ?_
          refine ja_goto 179 dtokenSign_175 rfl ?_
          exact ja_wk (fun q hq => by simp only [List.mem_cons, List.not_mem_nil, or_false] at hq; rcases hq with rfl | rfl | rfl | rfl <;> rfl) ((ih (1) (by omega)).2.2 x2 x3 1  ⟨by omega, by omega⟩ ⟨by omega, by omega⟩ ⟨by decide, by decide⟩ (show -1 ≤ x2 ∧ x2 ≤ 255 ∧ (x3 = 0 ∨ (300 ≤ x3 ∧ x3 ≤ 303 ∧ a1 + 1 < (h 0 1))) ∧ 0 ≤ 1 ∧ 1 ≤ 1 by omega) rfl)
        · refine ja_iload_n dtokenSign_132 rfl rfl ?_
          refine ja_bipush 40 dtokenSign_133 rfl ?_
          refine ja_icmp_eq 174 dtokenSign_135 rfl ⟨by omega, by omega⟩ ⟨by decide, by decide⟩ (fun c135 => ?_) (fun c135 => ?_)
          · refine ja_iconst dtokenSign_174 ?_
            refine ja_goto 179 dtokenSign_175 rfl ?_
            exact ja_wk (fun q hq => by simp only [List.mem_cons, List.not_mem_nil, or_false] at hq; rcases hq with rfl | rfl | rfl | rfl <;> rfl) ((ih (1) (by omega)).2.2 x2 x3 1  ⟨by omega, by omega⟩ ⟨by omega, by omega⟩ ⟨by decide, by decide⟩ (show -1 ≤ x2 ∧ x2 ≤ 255 ∧ (x3 = 0 ∨ (300 ≤ x3 ∧ x3 ≤ 303 ∧ a1 + 1 < (h 0 1))) ∧ 0 ≤ 1 ∧ 1 ≤ 1 by omega) rfl)
          · refine ja_iload_n dtokenSign_138 rfl rfl ?_
            refine ja_bipush 41 dtokenSign_139 rfl ?_
            refine ja_icmp_eq 174 dtokenSign_141 rfl ⟨by omega, by omega⟩ ⟨by decide, by decide⟩ (fun c141 => ?_) (fun c141 => ?_)
            · refine ja_iconst dtokenSign_174 ?_
              refine ja_goto 179 dtokenSign_175 rfl ?_
              exact ja_wk (fun q hq => by simp only [List.mem_cons, List.not_mem_nil, or_false] at hq; rcases hq with rfl | rfl | rfl | rfl <;> rfl) ((ih (1) (by omega)).2.2 x2 x3 1  ⟨by omega, by omega⟩ ⟨by omega, by omega⟩ ⟨by decide, by decide⟩ (show -1 ≤ x2 ∧ x2 ≤ 255 ∧ (x3 = 0 ∨ (300 ≤ x3 ∧ x3 ≤ 303 ∧ a1 + 1 < (h 0 1))) ∧ 0 ≤ 1 ∧ 1 ≤ 1 by omega) rfl)
            · refine ja_iload_n dtokenSign_144 rfl rfl ?_
              refine ja_bipush 123 dtokenSign_145 rfl ?_
              refine ja_icmp_eq 174 dtokenSign_147 rfl ⟨by omega, by omega⟩ ⟨by decide, by decide⟩ (fun c147 => ?_) (fun c147 => ?_)
              · refine ja_iconst dtokenSign_174 ?_
                refine ja_goto 179 dtokenSign_175 rfl ?_
                exact ja_wk (fun q hq => by simp only [List.mem_cons, List.not_mem_nil, or_false] at hq; rcases hq with rfl | rfl | rfl | rfl <;> rfl) ((ih (1) (by omega)).2.2 x2 x3 1  ⟨by omega, by omega⟩ ⟨by omega, by omega⟩ ⟨by decide, by decide⟩ (show -1 ≤ x2 ∧ x2 ≤ 255 ∧ (x3 = 0 ∨ (300 ≤ x3 ∧ x3 ≤ 303 ∧ a1 + 1 < (h 0 1))) ∧ 0 ≤ 1 ∧ 1 ≤ 1 by omega) rfl)
              · refine ja_iload_n dtokenSign_150 rfl rfl ?_
                refine ja_bipush 125 dtokenSign_151 rfl ?_
                refine ja_icmp_eq 174 dtokenSign_153 rfl ⟨by omega, by omega⟩ ⟨by decide, by decide⟩ (fun c153 => ?_) (fun c153 => ?_)
                · refine ja_iconst dtokenSign_174 ?_
                  refine ja_goto 179 dtokenSign_175 rfl ?_
                  exact ja_wk (fun q hq => by simp only [List.mem_cons, List.not_mem_nil, or_false] at hq; rcases hq with rfl | rfl | rfl | rfl <;> rfl) ((ih (1) (by omega)).2.2 x2 x3 1  ⟨by omega, by omega⟩ ⟨by omega, by omega⟩ ⟨by decide, by decide⟩ (show -1 ≤ x2 ∧ x2 ≤ 255 ∧ (x3 = 0 ∨ (300 ≤ x3 ∧ x3 ≤ 303 ∧ a1 + 1 < (h 0 1))) ∧ 0 ≤ 1 ∧ 1 ≤ 1 by omega) rfl)
                · refine ja_iload_n dtokenSign_156 rfl rfl ?_
                  refine ja_bipush 59 dtokenSign_157 rfl ?_
                  refine ja_icmp_eq 174 dtokenSign_159 rfl ⟨by omega, by omega⟩ ⟨by decide, by decide⟩ (fun c159 => ?_) (fun c159 => ?_)
                  · refine ja_iconst dtokenSign_174 ?_
                    refine ja_goto 179 dtokenSign_175 rfl ?_
                    exact ja_wk (fun q hq => by simp only [List.mem_cons, List.not_mem_nil, or_false] at hq; rcases hq with rfl | rfl | rfl | rfl <;> rfl) ((ih (1) (by omega)).2.2 x2 x3 1  ⟨by omega, by omega⟩ ⟨by omega, by omega⟩ ⟨by decide, by decide⟩ (show -1 ≤ x2 ∧ x2 ≤ 255 ∧ (x3 = 0 ∨ (300 ≤ x3 ∧ x3 ≤ 303 ∧ a1 + 1 < (h 0 1))) ∧ 0 ≤ 1 ∧ 1 ≤ 1 by omega) rfl)
                  · refine ja_iload_n dtokenSign_162 rfl rfl ?_
                    refine ja_bipush 44 dtokenSign_163 rfl ?_
                    refine ja_icmp_eq 174 dtokenSign_165 rfl ⟨by omega, by omega⟩ ⟨by decide, by decide⟩ (fun c165 => ?_) (fun c165 => ?_)
                    · refine ja_iconst dtokenSign_174 ?_
                      refine ja_goto 179 dtokenSign_175 rfl ?_
                      exact ja_wk (fun q hq => by simp only [List.mem_cons, List.not_mem_nil, or_false] at hq; rcases hq with rfl | rfl | rfl | rfl <;> rfl) ((ih (1) (by omega)).2.2 x2 x3 1  ⟨by omega, by omega⟩ ⟨by omega, by omega⟩ ⟨by decide, by decide⟩ (show -1 ≤ x2 ∧ x2 ≤ 255 ∧ (x3 = 0 ∨ (300 ≤ x3 ∧ x3 ≤ 303 ∧ a1 + 1 < (h 0 1))) ∧ 0 ≤ 1 ∧ 1 ≤ 1 by omega) rfl)
                    · refine ja_iload_n dtokenSign_168 rfl rfl ?_
                      refine ja_bipush 46 dtokenSign_169 rfl ?_
                      refine ja_icmp_ne 178 dtokenSign_171 rfl ⟨by omega, by omega⟩ ⟨by decide, by decide⟩ (fun c171 => ?_) (fun c171 => ?_)
                      · refine ja_iconst dtokenSign_178 ?_
                        exact ja_wk (fun q hq => by simp only [List.mem_cons, List.not_mem_nil, or_false] at hq; rcases hq with rfl | rfl | rfl | rfl <;> rfl) ((ih (1) (by omega)).2.2 x2 x3 0  ⟨by omega, by omega⟩ ⟨by omega, by omega⟩ ⟨by decide, by decide⟩ (show -1 ≤ x2 ∧ x2 ≤ 255 ∧ (x3 = 0 ∨ (300 ≤ x3 ∧ x3 ≤ 303 ∧ a1 + 1 < (h 0 1))) ∧ 0 ≤ 0 ∧ 0 ≤ 1 by omega) rfl)
                      · refine ja_iconst dtokenSign_174 ?_
                        refine ja_goto 179 dtokenSign_175 rfl ?_
                        exact ja_wk (fun q hq => by simp only [List.mem_cons, List.not_mem_nil, or_false] at hq; rcases hq with rfl | rfl | rfl | rfl <;> rfl) ((ih (1) (by omega)).2.2 x2 x3 1  ⟨by omega, by omega⟩ ⟨by omega, by omega⟩ ⟨by decide, by decide⟩ (show -1 ≤ x2 ∧ x2 ≤ 255 ∧ (x3 = 0 ∨ (300 ≤ x3 ∧ x3 ≤ 303 ∧ a1 + 1 < (h 0 1))) ∧ 0 ≤ 1 ∧ 1 ≤ 1 by omega) rfl)
      · intro x2 x3 s0 qx2 qx3 qs0 iv hm
        subst hm
        refine ja_istore dtokenSign_179 (by decide) (L2 := [(4, (0, s0)), (0, (2, ((0 : Nat) : Int))), (1, (0, a1)), (2, (0, x2)), (3, (0, x3))]) rfl ?_
        refine ja_aload_n dtokenSign_181 rfl rfl ?_
        refine fa_kinds dtokenSign_182 ?_
        refine ja_aload_n dtokenSign_185 rfl rfl ?_
        refine fg_tokens (v := h 0 6) rfl dtokenSign_186 ?_
        have f1 := gF_tokens g
        refine ja_iload_n dtokenSign_189 rfl rfl ?_
        refine ja_if_gt 198 dtokenSign_190 rfl ⟨by omega, by omega⟩ (fun c190 => ?_) (fun c190 => ?_)
        · refine ja_iconst dtokenSign_198 ?_
          refine ja_goto 204 dtokenSign_199 rfl ?_
          have g2 := gW_kinds g (h 0 6).toNat (x := 5) ⟨by decide, by decide⟩
          refine is_kinds ⟨by omega, by omega⟩ dtokenSign_204 ?_
          refine ja_aload_n dtokenSign_205 rfl rfl ?_
          refine fa_ends dtokenSign_206 ?_
          refine ja_aload_n dtokenSign_209 rfl rfl ?_
          refine fg_tokens (v := h 0 6) rfl dtokenSign_210 ?_
          refine ja_iload_n dtokenSign_213 rfl rfl ?_
          refine ja_if_le 223 dtokenSign_214 rfl ⟨by omega, by omega⟩ (fun c214 => ?_) (fun c214 => ?_)
          · refine ja_iload_n dtokenSign_223 rfl rfl ?_
            refine ja_iconst dtokenSign_224 ?_
            refine ja_iadd dtokenSign_225 ?_
            have g3 := gW_ends g2 (h 0 6).toNat (x := a1 + 1) ⟨by omega, by omega⟩
            refine is_ends ⟨by omega, by omega⟩ dtokenSign_226 ?_
            refine ja_aload_n dtokenSign_227 rfl rfl ?_
            refine fa_worths dtokenSign_228 ?_
            refine ja_aload_n dtokenSign_231 rfl rfl ?_
            refine fg_tokens (v := h 0 6) rfl dtokenSign_232 ?_
            refine ja_iload_n dtokenSign_235 rfl rfl ?_
            refine ja_if_le 243 dtokenSign_236 rfl ⟨by omega, by omega⟩ (fun c236 => ?_) (fun c236 => ?_)
            · refine ja_iload_n dtokenSign_243 rfl rfl ?_
              have g4 := gW_worths g3 (h 0 6).toNat (x := x2) ⟨by omega, by omega⟩
              refine is_worths ⟨by omega, by omega⟩ dtokenSign_244 ?_
              refine ja_return dtokenSign_245 rfl ?_
              exact k1 (ja_up (ja_up (ja_up h 2 ((h 0 6).toNat) 5) 4 ((h 0 6).toNat) (a1 + 1)) 5 ((h 0 6).toNat) x2) (by simp [ja_up]) g4
            · refine ja_iload_n dtokenSign_239 rfl rfl ?_
              refine ja_goto 244 dtokenSign_240 rfl ?_
              have g5 := gW_worths g3 (h 0 6).toNat (x := x3) ⟨by omega, by omega⟩
              refine is_worths ⟨by omega, by omega⟩ dtokenSign_244 ?_
              refine ja_return dtokenSign_245 rfl ?_
              exact k1 (ja_up (ja_up (ja_up h 2 ((h 0 6).toNat) 5) 4 ((h 0 6).toNat) (a1 + 1)) 5 ((h 0 6).toNat) x3) (by simp [ja_up]) g5
          · refine ja_iload_n dtokenSign_217 rfl rfl ?_
            refine ja_iconst dtokenSign_218 ?_
            refine ja_iadd dtokenSign_219 ?_
            refine ja_goto 226 dtokenSign_220 rfl ?_
            have g6 := gW_ends g2 (h 0 6).toNat (x := a1 + 2) ⟨by omega, by omega⟩
            refine is_ends ⟨by omega, by omega⟩ dtokenSign_226 ?_
            refine ja_aload_n dtokenSign_227 rfl rfl ?_
            refine fa_worths dtokenSign_228 ?_
            refine ja_aload_n dtokenSign_231 rfl rfl ?_
            refine fg_tokens (v := h 0 6) rfl dtokenSign_232 ?_
            refine ja_iload_n dtokenSign_235 rfl rfl ?_
            refine ja_if_le 243 dtokenSign_236 rfl ⟨by omega, by omega⟩ (fun c236 => ?_) (fun c236 => ?_)
            · refine ja_iload_n dtokenSign_243 rfl rfl ?_
              have g7 := gW_worths g6 (h 0 6).toNat (x := x2) ⟨by omega, by omega⟩
              refine is_worths ⟨by omega, by omega⟩ dtokenSign_244 ?_
              refine ja_return dtokenSign_245 rfl ?_
              exact k1 (ja_up (ja_up (ja_up h 2 ((h 0 6).toNat) 5) 4 ((h 0 6).toNat) (a1 + 2)) 5 ((h 0 6).toNat) x2) (by simp [ja_up]) g7
            · refine ja_iload_n dtokenSign_239 rfl rfl ?_
              refine ja_goto 244 dtokenSign_240 rfl ?_
              have g8 := gW_worths g6 (h 0 6).toNat (x := x3) ⟨by omega, by omega⟩
              refine is_worths ⟨by omega, by omega⟩ dtokenSign_244 ?_
              refine ja_return dtokenSign_245 rfl ?_
              exact k1 (ja_up (ja_up (ja_up h 2 ((h 0 6).toNat) 5) 4 ((h 0 6).toNat) (a1 + 2)) 5 ((h 0 6).toNat) x3) (by simp [ja_up]) g8
        · refine ja_iload dtokenSign_193 rfl ?_
          refine ja_if_eq 202 dtokenSign_195 rfl ⟨by omega, by omega⟩ (fun c195 => ?_) (fun c195 => ?_)
          · refine ja_bipush 7 dtokenSign_202 rfl ?_
            have g9 := gW_kinds g (h 0 6).toNat (x := 7) ⟨by decide, by decide⟩
            refine is_kinds ⟨by omega, by omega⟩ dtokenSign_204 ?_
            refine ja_aload_n dtokenSign_205 rfl rfl ?_
            refine fa_ends dtokenSign_206 ?_
            refine ja_aload_n dtokenSign_209 rfl rfl ?_
            refine fg_tokens (v := h 0 6) rfl dtokenSign_210 ?_
            refine ja_iload_n dtokenSign_213 rfl rfl ?_
            refine ja_if_le 223 dtokenSign_214 rfl ⟨by omega, by omega⟩ (fun c214 => ?_) (fun c214 => ?_)
            · refine ja_iload_n dtokenSign_223 rfl rfl ?_
              refine ja_iconst dtokenSign_224 ?_
              refine ja_iadd dtokenSign_225 ?_
              have g10 := gW_ends g9 (h 0 6).toNat (x := a1 + 1) ⟨by omega, by omega⟩
              refine is_ends ⟨by omega, by omega⟩ dtokenSign_226 ?_
              refine ja_aload_n dtokenSign_227 rfl rfl ?_
              refine fa_worths dtokenSign_228 ?_
              refine ja_aload_n dtokenSign_231 rfl rfl ?_
              refine fg_tokens (v := h 0 6) rfl dtokenSign_232 ?_
              refine ja_iload_n dtokenSign_235 rfl rfl ?_
              refine ja_if_le 243 dtokenSign_236 rfl ⟨by omega, by omega⟩ (fun c236 => ?_) (fun c236 => ?_)
              · refine ja_iload_n dtokenSign_243 rfl rfl ?_
                have g11 := gW_worths g10 (h 0 6).toNat (x := x2) ⟨by omega, by omega⟩
                refine is_worths ⟨by omega, by omega⟩ dtokenSign_244 ?_
                refine ja_return dtokenSign_245 rfl ?_
                exact k1 (ja_up (ja_up (ja_up h 2 ((h 0 6).toNat) 7) 4 ((h 0 6).toNat) (a1 + 1)) 5 ((h 0 6).toNat) x2) (by simp [ja_up]) g11
              · refine ja_iload_n dtokenSign_239 rfl rfl ?_
                refine ja_goto 244 dtokenSign_240 rfl ?_
                have g12 := gW_worths g10 (h 0 6).toNat (x := x3) ⟨by omega, by omega⟩
                refine is_worths ⟨by omega, by omega⟩ dtokenSign_244 ?_
                refine ja_return dtokenSign_245 rfl ?_
                exact k1 (ja_up (ja_up (ja_up h 2 ((h 0 6).toNat) 7) 4 ((h 0 6).toNat) (a1 + 1)) 5 ((h 0 6).toNat) x3) (by simp [ja_up]) g12
            · refine ja_iload_n dtokenSign_217 rfl rfl ?_
              refine ja_iconst dtokenSign_218 ?_
              refine ja_iadd dtokenSign_219 ?_
              refine ja_goto 226 dtokenSign_220 rfl ?_
              have g13 := gW_ends g9 (h 0 6).toNat (x := a1 + 2) ⟨by omega, by omega⟩
              refine is_ends ⟨by omega, by omega⟩ dtokenSign_226 ?_
              refine ja_aload_n dtokenSign_227 rfl rfl ?_
              refine fa_worths dtokenSign_228 ?_
              refine ja_aload_n dtokenSign_231 rfl rfl ?_
              refine fg_tokens (v := h 0 6) rfl dtokenSign_232 ?_
              refine ja_iload_n dtokenSign_235 rfl rfl ?_
              refine ja_if_le 243 dtokenSign_236 rfl ⟨by omega, by omega⟩ (fun c236 => ?_) (fun c236 => ?_)
              · refine ja_iload_n dtokenSign_243 rfl rfl ?_
                have g14 := gW_worths g13 (h 0 6).toNat (x := x2) ⟨by omega, by omega⟩
                refine is_worths ⟨by omega, by omega⟩ dtokenSign_244 ?_
                refine ja_return dtokenSign_245 rfl ?_
                exact k1 (ja_up (ja_up (ja_up h 2 ((h 0 6).toNat) 7) 4 ((h 0 6).toNat) (a1 + 2)) 5 ((h 0 6).toNat) x2) (by simp [ja_up]) g14
              · refine ja_iload_n dtokenSign_239 rfl rfl ?_
                refine ja_goto 244 dtokenSign_240 rfl ?_
                have g15 := gW_worths g13 (h 0 6).toNat (x := x3) ⟨by omega, by omega⟩
                refine is_worths ⟨by omega, by omega⟩ dtokenSign_244 ?_
                refine ja_return dtokenSign_245 rfl ?_
                exact k1 (ja_up (ja_up (ja_up h 2 ((h 0 6).toNat) 7) 4 ((h 0 6).toNat) (a1 + 2)) 5 ((h 0 6).toNat) x3) (by simp [ja_up]) g15
          · refine ja_iconst dtokenSign_198 ?_
            refine ja_goto 204 dtokenSign_199 rfl ?_
            have g16 := gW_kinds g (h 0 6).toNat (x := 5) ⟨by decide, by decide⟩
            refine is_kinds ⟨by omega, by omega⟩ dtokenSign_204 ?_
            refine ja_aload_n dtokenSign_205 rfl rfl ?_
            refine fa_ends dtokenSign_206 ?_
            refine ja_aload_n dtokenSign_209 rfl rfl ?_
            refine fg_tokens (v := h 0 6) rfl dtokenSign_210 ?_
            refine ja_iload_n dtokenSign_213 rfl rfl ?_
            refine ja_if_le 223 dtokenSign_214 rfl ⟨by omega, by omega⟩ (fun c214 => ?_) (fun c214 => ?_)
            · refine ja_iload_n dtokenSign_223 rfl rfl ?_
              refine ja_iconst dtokenSign_224 ?_
              refine ja_iadd dtokenSign_225 ?_
              have g17 := gW_ends g16 (h 0 6).toNat (x := a1 + 1) ⟨by omega, by omega⟩
              refine is_ends ⟨by omega, by omega⟩ dtokenSign_226 ?_
              refine ja_aload_n dtokenSign_227 rfl rfl ?_
              refine fa_worths dtokenSign_228 ?_
              refine ja_aload_n dtokenSign_231 rfl rfl ?_
              refine fg_tokens (v := h 0 6) rfl dtokenSign_232 ?_
              refine ja_iload_n dtokenSign_235 rfl rfl ?_
              refine ja_if_le 243 dtokenSign_236 rfl ⟨by omega, by omega⟩ (fun c236 => ?_) (fun c236 => ?_)
              · refine ja_iload_n dtokenSign_243 rfl rfl ?_
                have g18 := gW_worths g17 (h 0 6).toNat (x := x2) ⟨by omega, by omega⟩
                refine is_worths ⟨by omega, by omega⟩ dtokenSign_244 ?_
                refine ja_return dtokenSign_245 rfl ?_
                exact k1 (ja_up (ja_up (ja_up h 2 ((h 0 6).toNat) 5) 4 ((h 0 6).toNat) (a1 + 1)) 5 ((h 0 6).toNat) x2) (by simp [ja_up]) g18
              · refine ja_iload_n dtokenSign_239 rfl rfl ?_
                refine ja_goto 244 dtokenSign_240 rfl ?_
                have g19 := gW_worths g17 (h 0 6).toNat (x := x3) ⟨by omega, by omega⟩
                refine is_worths ⟨by omega, by omega⟩ dtokenSign_244 ?_
                refine ja_return dtokenSign_245 rfl ?_
                exact k1 (ja_up (ja_up (ja_up h 2 ((h 0 6).toNat) 5) 4 ((h 0 6).toNat) (a1 + 1)) 5 ((h 0 6).toNat) x3) (by simp [ja_up]) g19
            · refine ja_iload_n dtokenSign_217 rfl rfl ?_
              refine ja_iconst dtokenSign_218 ?_
              refine ja_iadd dtokenSign_219 ?_
              refine ja_goto 226 dtokenSign_220 rfl ?_
              have g20 := gW_ends g16 (h 0 6).toNat (x := a1 + 2) ⟨by omega, by omega⟩
              refine is_ends ⟨by omega, by omega⟩ dtokenSign_226 ?_
              refine ja_aload_n dtokenSign_227 rfl rfl ?_
              refine fa_worths dtokenSign_228 ?_
              refine ja_aload_n dtokenSign_231 rfl rfl ?_
              refine fg_tokens (v := h 0 6) rfl dtokenSign_232 ?_
              refine ja_iload_n dtokenSign_235 rfl rfl ?_
              refine ja_if_le 243 dtokenSign_236 rfl ⟨by omega, by omega⟩ (fun c236 => ?_) (fun c236 => ?_)
              · refine ja_iload_n dtokenSign_243 rfl rfl ?_
                have g21 := gW_worths g20 (h 0 6).toNat (x := x2) ⟨by omega, by omega⟩
                refine is_worths ⟨by omega, by omega⟩ dtokenSign_244 ?_
                refine ja_return dtokenSign_245 rfl ?_
                exact k1 (ja_up (ja_up (ja_up h 2 ((h 0 6).toNat) 5) 4 ((h 0 6).toNat) (a1 + 2)) 5 ((h 0 6).toNat) x2) (by simp [ja_up]) g21
              · refine ja_iload_n dtokenSign_239 rfl rfl ?_
                refine ja_goto 244 dtokenSign_240 rfl ?_
                have g22 := gW_worths g20 (h 0 6).toNat (x := x3) ⟨by omega, by omega⟩
                refine is_worths ⟨by omega, by omega⟩ dtokenSign_244 ?_
                refine ja_return dtokenSign_245 rfl ?_
                exact k1 (ja_up (ja_up (ja_up h 2 ((h 0 6).toNat) 5) 4 ((h 0 6).toNat) (a1 + 2)) 5 ((h 0 6).toNat) x3) (by simp [ja_up]) g22
  refine ja_aload_n dtokenSign_0 rfl rfl ?_
  refine ja_iload_n dtokenSign_1 rfl rfl ?_
  refine t_byteAt (by decide) (show (0 : Nat) ≤ 8 by decide) dtokenSign_2 g ⟨by omega, by omega⟩ (show 0 ≤ a1 by omega) ?_
  intro w23 k2_0
  refine ja_istore_n dtokenSign_5 rfl (by decide) (L2 := [(2, (0, w23)), (0, (2, ((0 : Nat) : Int))), (1, (0, a1))]) rfl ?_
  refine ja_aload_n dtokenSign_6 rfl rfl ?_
  refine ja_iload_n dtokenSign_7 rfl rfl ?_
  refine ja_iconst dtokenSign_8 ?_
  refine ja_iadd dtokenSign_9 ?_
  refine t_byteAt (by decide) (show (0 : Nat) ≤ 8 by decide) dtokenSign_10 g ⟨by omega, by omega⟩ (show 0 ≤ (a1 + 1) by omega) ?_
  intro w24 k10_0
  refine ja_bipush 61 dtokenSign_13 rfl ?_
  refine ja_icmp_eq 22 dtokenSign_15 rfl ⟨by omega, by omega⟩ ⟨by decide, by decide⟩ (fun c15 => ?_) (fun c15 => ?_)
  · refine ja_iload_n dtokenSign_22 rfl rfl ?_
    refine ja_bipush 61 dtokenSign_23 rfl ?_
    refine ja_icmp_ne 34 dtokenSign_25 rfl ⟨by omega, by omega⟩ ⟨by decide, by decide⟩ (fun c25 => ?_) (fun c25 => ?_)
    · refine ja_iload_n dtokenSign_34 rfl rfl ?_
      refine ja_bipush 33 dtokenSign_35 rfl ?_
      refine ja_icmp_ne 46 dtokenSign_37 rfl ⟨by omega, by omega⟩ ⟨by decide, by decide⟩ (fun c37 => ?_) (fun c37 => ?_)
      · refine ja_iload_n dtokenSign_46 rfl rfl ?_
        refine ja_bipush 60 dtokenSign_47 rfl ?_
        refine ja_icmp_ne 58 dtokenSign_49 rfl ⟨by omega, by omega⟩ ⟨by decide, by decide⟩ (fun c49 => ?_) (fun c49 => ?_)
        · refine ja_iload_n dtokenSign_58 rfl rfl ?_
          refine ja_bipush 62 dtokenSign_59 rfl ?_
          refine ja_icmp_ne 70 dtokenSign_61 rfl ⟨by omega, by omega⟩ ⟨by decide, by decide⟩ (fun c61 => ?_) (fun c61 => ?_)
          · refine ja_iconst dtokenSign_70 ?_
            exact ja_wk (fun q hq => by simp only [List.mem_cons, List.not_mem_nil, or_false] at hq; rcases hq with rfl | rfl | rfl <;> rfl) ((CUT _).1 w23 0  ⟨by omega, by omega⟩ ⟨by decide, by decide⟩ (show -1 ≤ w23 ∧ w23 ≤ 255 ∧ (0 = 0 ∨ (300 ≤ 0 ∧ 0 ≤ 303 ∧ a1 + 1 < (h 0 1))) by omega) rfl)
          · refine ja_sipush 303 dtokenSign_64 rfl ?_
            refine ja_goto 71 dtokenSign_67 rfl ?_
            exact ja_wk (fun q hq => by simp only [List.mem_cons, List.not_mem_nil, or_false] at hq; rcases hq with rfl | rfl | rfl <;> rfl) ((CUT _).1 w23 303  ⟨by omega, by omega⟩ ⟨by decide, by decide⟩ (show -1 ≤ w23 ∧ w23 ≤ 255 ∧ (303 = 0 ∨ (300 ≤ 303 ∧ 303 ≤ 303 ∧ a1 + 1 < (h 0 1))) by omega) rfl)
        · refine ja_sipush 302 dtokenSign_52 rfl ?_
          refine ja_goto 71 dtokenSign_55 rfl ?_
          exact ja_wk (fun q hq => by simp only [List.mem_cons, List.not_mem_nil, or_false] at hq; rcases hq with rfl | rfl | rfl <;> rfl) ((CUT _).1 w23 302  ⟨by omega, by omega⟩ ⟨by decide, by decide⟩ (show -1 ≤ w23 ∧ w23 ≤ 255 ∧ (302 = 0 ∨ (300 ≤ 302 ∧ 302 ≤ 303 ∧ a1 + 1 < (h 0 1))) by omega) rfl)
      · refine ja_sipush 301 dtokenSign_40 rfl ?_
        refine ja_goto 71 dtokenSign_43 rfl ?_
        exact ja_wk (fun q hq => by simp only [List.mem_cons, List.not_mem_nil, or_false] at hq; rcases hq with rfl | rfl | rfl <;> rfl) ((CUT _).1 w23 301  ⟨by omega, by omega⟩ ⟨by decide, by decide⟩ (show -1 ≤ w23 ∧ w23 ≤ 255 ∧ (301 = 0 ∨ (300 ≤ 301 ∧ 301 ≤ 303 ∧ a1 + 1 < (h 0 1))) by omega) rfl)
    · refine ja_sipush 300 dtokenSign_28 rfl ?_
      refine ja_goto 71 dtokenSign_31 rfl ?_
      exact ja_wk (fun q hq => by simp only [List.mem_cons, List.not_mem_nil, or_false] at hq; rcases hq with rfl | rfl | rfl <;> rfl) ((CUT _).1 w23 300  ⟨by omega, by omega⟩ ⟨by decide, by decide⟩ (show -1 ≤ w23 ∧ w23 ≤ 255 ∧ (300 = 0 ∨ (300 ≤ 300 ∧ 300 ≤ 303 ∧ a1 + 1 < (h 0 1))) by omega) rfl)
  · refine ja_iconst dtokenSign_18 ?_
    refine ja_goto 71 dtokenSign_19 rfl ?_
    exact ja_wk (fun q hq => by simp only [List.mem_cons, List.not_mem_nil, or_false] at hq; rcases hq with rfl | rfl | rfl <;> rfl) ((CUT _).1 w23 0  ⟨by omega, by omega⟩ ⟨by decide, by decide⟩ (show -1 ≤ w23 ∧ w23 ≤ 255 ∧ (0 = 0 ∨ (300 ≤ 0 ∧ 0 ≤ 303 ∧ a1 + 1 < (h 0 1))) by omega) rfl)
theorem t_tokenSign {a1 : Int} {d nL pc : Nat} {cc : ByteArray} {rt : Option FieldType} {L : List (Nat × ja_V)} {S : List ja_V} {h : ja_H} {Q : Option ja_V → ja_H → Prop} (hdd : 2 < d) (hwd : ja_wd S ≤ 8) (hd : decode cc pc = .ok (.invokevirtual 571, 3)) (g : mo_G Zz h) (r1 : -2147483648 ≤ a1 ∧ a1 ≤ 2147483647) (p1 : 0 ≤ a1 ∧ a1 < (h 0 1)) (p2 : (h 0 6) ≤ 900) (k1 : ∀ (h' : ja_H), ((h' 0 1) = (h 0 1) ∧ (h' 0 118) = (h 0 118) ∧ (h' 0 127) = (h 0 127) ∧ (h' 0 6) = (h 0 6)) → mo_G Zz h' → mJ l D cA ad d cc nL rt (pc + 3) L S h' Q) : mJ l D cA ad d cc nL rt pc L ((0, a1) :: (2, ((0 : Nat) : Int)) :: S) h Q :=
  mc_tokenSign hdd hwd hd (s_tokenSign g r1 p1 p2 k1)
end
theorem dscan_0 : decode cX12_scan 0 = .ok (.aload_n 0, 1) := by decide +kernel
theorem dscan_1 : decode cX12_scan 1 = .ok (.iconst 0, 1) := by decide +kernel
theorem dscan_2 : decode cX12_scan 2 = .ok (.putfield 536, 3) := by decide +kernel
theorem dscan_5 : decode cX12_scan 5 = .ok (.aload_n 0, 1) := by decide +kernel
theorem dscan_6 : decode cX12_scan 6 = .ok (.iconst 0, 1) := by decide +kernel
theorem dscan_7 : decode cX12_scan 7 = .ok (.invokevirtual 558, 3) := by decide +kernel
theorem dscan_10 : decode cX12_scan 10 = .ok (.istore_n 1, 1) := by decide +kernel
theorem dscan_11 : decode cX12_scan 11 = .ok (.iconst 1, 1) := by decide +kernel
theorem dscan_12 : decode cX12_scan 12 = .ok (.istore_n 2, 1) := by decide +kernel
theorem dscan_13 : decode cX12_scan 13 = .ok (.iload_n 2, 1) := by decide +kernel
theorem dscan_14 : decode cX12_scan 14 = .ok (.ifCond .eq 189, 3) := by decide +kernel
theorem dscan_17 : decode cX12_scan 17 = .ok (.aload_n 0, 1) := by decide +kernel
theorem dscan_18 : decode cX12_scan 18 = .ok (.getfield 16, 3) := by decide +kernel
theorem dscan_21 : decode cX12_scan 21 = .ok (.aload_n 0, 1) := by decide +kernel
theorem dscan_22 : decode cX12_scan 22 = .ok (.getfield 536, 3) := by decide +kernel
theorem dscan_25 : decode cX12_scan 25 = .ok (.iload_n 1, 1) := by decide +kernel
theorem dscan_26 : decode cX12_scan 26 = .ok (.iastore, 1) := by decide +kernel
theorem dscan_27 : decode cX12_scan 27 = .ok (.aload_n 0, 1) := by decide +kernel
theorem dscan_28 : decode cX12_scan 28 = .ok (.iload_n 1, 1) := by decide +kernel
theorem dscan_29 : decode cX12_scan 29 = .ok (.invokevirtual 437, 3) := by decide +kernel
theorem dscan_32 : decode cX12_scan 32 = .ok (.istore_n 3, 1) := by decide +kernel
theorem dscan_33 : decode cX12_scan 33 = .ok (.iload_n 1, 1) := by decide +kernel
theorem dscan_34 : decode cX12_scan 34 = .ok (.aload_n 0, 1) := by decide +kernel
theorem dscan_35 : decode cX12_scan 35 = .ok (.getfield 427, 3) := by decide +kernel
theorem dscan_38 : decode cX12_scan 38 = .ok (.if_icmp .lt 37, 3) := by decide +kernel
theorem dscan_41 : decode cX12_scan 41 = .ok (.aload_n 0, 1) := by decide +kernel
theorem dscan_42 : decode cX12_scan 42 = .ok (.getfield 13, 3) := by decide +kernel
theorem dscan_45 : decode cX12_scan 45 = .ok (.aload_n 0, 1) := by decide +kernel
theorem dscan_46 : decode cX12_scan 46 = .ok (.getfield 536, 3) := by decide +kernel
theorem dscan_49 : decode cX12_scan 49 = .ok (.bipush 6, 2) := by decide +kernel
theorem dscan_51 : decode cX12_scan 51 = .ok (.iastore, 1) := by decide +kernel
theorem dscan_52 : decode cX12_scan 52 = .ok (.aload_n 0, 1) := by decide +kernel
theorem dscan_53 : decode cX12_scan 53 = .ok (.getfield 22, 3) := by decide +kernel
theorem dscan_56 : decode cX12_scan 56 = .ok (.aload_n 0, 1) := by decide +kernel
theorem dscan_57 : decode cX12_scan 57 = .ok (.getfield 536, 3) := by decide +kernel
theorem dscan_60 : decode cX12_scan 60 = .ok (.iconst 0, 1) := by decide +kernel
theorem dscan_61 : decode cX12_scan 61 = .ok (.iastore, 1) := by decide +kernel
theorem dscan_62 : decode cX12_scan 62 = .ok (.aload_n 0, 1) := by decide +kernel
theorem dscan_63 : decode cX12_scan 63 = .ok (.getfield 19, 3) := by decide +kernel
theorem dscan_66 : decode cX12_scan 66 = .ok (.aload_n 0, 1) := by decide +kernel
theorem dscan_67 : decode cX12_scan 67 = .ok (.getfield 536, 3) := by decide +kernel
theorem dscan_70 : decode cX12_scan 70 = .ok (.iload_n 1, 1) := by decide +kernel
theorem dscan_71 : decode cX12_scan 71 = .ok (.iastore, 1) := by decide +kernel
theorem dscan_72 : decode cX12_scan 72 = .ok (.goto 52, 3) := by decide +kernel
theorem dscan_75 : decode cX12_scan 75 = .ok (.iload_n 3, 1) := by decide +kernel
theorem dscan_76 : decode cX12_scan 76 = .ok (.invokestatic 539, 3) := by decide +kernel
theorem dscan_79 : decode cX12_scan 79 = .ok (.ifCond .eq 11, 3) := by decide +kernel
theorem dscan_82 : decode cX12_scan 82 = .ok (.aload_n 0, 1) := by decide +kernel
theorem dscan_83 : decode cX12_scan 83 = .ok (.iload_n 1, 1) := by decide +kernel
theorem dscan_84 : decode cX12_scan 84 = .ok (.invokevirtual 561, 3) := by decide +kernel
theorem dscan_87 : decode cX12_scan 87 = .ok (.goto 37, 3) := by decide +kernel
theorem dscan_90 : decode cX12_scan 90 = .ok (.iload_n 3, 1) := by decide +kernel
theorem dscan_91 : decode cX12_scan 91 = .ok (.invokestatic 543, 3) := by decide +kernel
theorem dscan_94 : decode cX12_scan 94 = .ok (.ifCond .eq 11, 3) := by decide +kernel
theorem dscan_97 : decode cX12_scan 97 = .ok (.aload_n 0, 1) := by decide +kernel
theorem dscan_98 : decode cX12_scan 98 = .ok (.iload_n 1, 1) := by decide +kernel
theorem dscan_99 : decode cX12_scan 99 = .ok (.invokevirtual 565, 3) := by decide +kernel
theorem dscan_102 : decode cX12_scan 102 = .ok (.goto 22, 3) := by decide +kernel
theorem dscan_105 : decode cX12_scan 105 = .ok (.iload_n 3, 1) := by decide +kernel
theorem dscan_106 : decode cX12_scan 106 = .ok (.bipush 34, 2) := by decide +kernel
theorem dscan_108 : decode cX12_scan 108 = .ok (.if_icmp .ne 11, 3) := by decide +kernel
theorem dscan_111 : decode cX12_scan 111 = .ok (.aload_n 0, 1) := by decide +kernel
theorem dscan_112 : decode cX12_scan 112 = .ok (.iload_n 1, 1) := by decide +kernel
theorem dscan_113 : decode cX12_scan 113 = .ok (.invokevirtual 568, 3) := by decide +kernel
theorem dscan_116 : decode cX12_scan 116 = .ok (.goto 8, 3) := by decide +kernel
theorem dscan_119 : decode cX12_scan 119 = .ok (.aload_n 0, 1) := by decide +kernel
theorem dscan_120 : decode cX12_scan 120 = .ok (.iload_n 1, 1) := by decide +kernel
theorem dscan_121 : decode cX12_scan 121 = .ok (.invokevirtual 571, 3) := by decide +kernel
theorem dscan_124 : decode cX12_scan 124 = .ok (.aload_n 0, 1) := by decide +kernel
theorem dscan_125 : decode cX12_scan 125 = .ok (.getfield 13, 3) := by decide +kernel
theorem dscan_128 : decode cX12_scan 128 = .ok (.aload_n 0, 1) := by decide +kernel
theorem dscan_129 : decode cX12_scan 129 = .ok (.getfield 536, 3) := by decide +kernel
theorem dscan_132 : decode cX12_scan 132 = .ok (.iaload, 1) := by decide +kernel
theorem dscan_133 : decode cX12_scan 133 = .ok (.bipush 6, 2) := by decide +kernel
theorem dscan_135 : decode cX12_scan 135 = .ok (.if_icmp .eq 31, 3) := by decide +kernel
theorem dscan_138 : decode cX12_scan 138 = .ok (.aload_n 0, 1) := by decide +kernel
theorem dscan_139 : decode cX12_scan 139 = .ok (.getfield 13, 3) := by decide +kernel
theorem dscan_142 : decode cX12_scan 142 = .ok (.aload_n 0, 1) := by decide +kernel
theorem dscan_143 : decode cX12_scan 143 = .ok (.getfield 536, 3) := by decide +kernel
theorem dscan_146 : decode cX12_scan 146 = .ok (.iaload, 1) := by decide +kernel
theorem dscan_147 : decode cX12_scan 147 = .ok (.bipush 7, 2) := by decide +kernel
theorem dscan_149 : decode cX12_scan 149 = .ok (.if_icmp .eq 17, 3) := by decide +kernel
theorem dscan_152 : decode cX12_scan 152 = .ok (.aload_n 0, 1) := by decide +kernel
theorem dscan_153 : decode cX12_scan 153 = .ok (.getfield 536, 3) := by decide +kernel
theorem dscan_156 : decode cX12_scan 156 = .ok (.sipush 900, 3) := by decide +kernel
theorem dscan_159 : decode cX12_scan 159 = .ok (.if_icmp .ge 7, 3) := by decide +kernel
theorem dscan_162 : decode cX12_scan 162 = .ok (.iconst 1, 1) := by decide +kernel
theorem dscan_163 : decode cX12_scan 163 = .ok (.goto 4, 3) := by decide +kernel
theorem dscan_166 : decode cX12_scan 166 = .ok (.iconst 0, 1) := by decide +kernel
theorem dscan_167 : decode cX12_scan 167 = .ok (.istore_n 2, 1) := by decide +kernel
theorem dscan_168 : decode cX12_scan 168 = .ok (.iload_n 2, 1) := by decide +kernel
theorem dscan_169 : decode cX12_scan 169 = .ok (.ifCond .eq 19, 3) := by decide +kernel
theorem dscan_172 : decode cX12_scan 172 = .ok (.aload_n 0, 1) := by decide +kernel
theorem dscan_173 : decode cX12_scan 173 = .ok (.aload_n 0, 1) := by decide +kernel
theorem dscan_174 : decode cX12_scan 174 = .ok (.getfield 19, 3) := by decide +kernel
theorem dscan_177 : decode cX12_scan 177 = .ok (.aload_n 0, 1) := by decide +kernel
theorem dscan_178 : decode cX12_scan 178 = .ok (.getfield 536, 3) := by decide +kernel
theorem dscan_181 : decode cX12_scan 181 = .ok (.iaload, 1) := by decide +kernel
theorem dscan_182 : decode cX12_scan 182 = .ok (.invokevirtual 558, 3) := by decide +kernel
theorem dscan_185 : decode cX12_scan 185 = .ok (.goto 4, 3) := by decide +kernel
theorem dscan_188 : decode cX12_scan 188 = .ok (.iload_n 1, 1) := by decide +kernel
theorem dscan_189 : decode cX12_scan 189 = .ok (.istore_n 1, 1) := by decide +kernel
theorem dscan_190 : decode cX12_scan 190 = .ok (.aload_n 0, 1) := by decide +kernel
theorem dscan_191 : decode cX12_scan 191 = .ok (.dup, 1) := by decide +kernel
theorem dscan_192 : decode cX12_scan 192 = .ok (.getfield 536, 3) := by decide +kernel
theorem dscan_195 : decode cX12_scan 195 = .ok (.iconst 1, 1) := by decide +kernel
theorem dscan_196 : decode cX12_scan 196 = .ok (.iadd, 1) := by decide +kernel
theorem dscan_197 : decode cX12_scan 197 = .ok (.putfield 536, 3) := by decide +kernel
theorem dscan_200 : decode cX12_scan 200 = .ok (.goto (-187), 3) := by decide +kernel
theorem dscan_203 : decode cX12_scan 203 = .ok (.return_, 1) := by decide +kernel
section
variable {l : Launch} {D : va_G} {cA : Nat → ClassId} {ad : Nat → Nat}
theorem s_scan {h : ja_H} {Q : Option ja_V → ja_H → Prop} (g : mo_G Zz h) (k1 : ∀ (h' : ja_H), ((h' 0 1) = (h 0 1) ∧ (h' 0 118) = (h 0 118) ∧ (h' 0 127) = (h 0 127)) → mo_G Zz h' → Q none h') : mM_scan l D cA ad  h Q := by
  show mJ l D cA ad 4 cX12_scan 4 none 0 [(0, (2, ((0 : Nat) : Int)))] [] h Q
  have kn_size := gF_size g
  have kn_tokens := gF_tokens g
  have CUT : ∀ n : Nat, (∀ (x1 x2 : Int) (u : ja_H), mo_G Zz u → (-2147483648 ≤ x1 ∧ x1 ≤ 2147483647) → (-2147483648 ≤ x2 ∧ x2 ≤ 2147483647) → (0 ≤ x2 ∧ x2 ≤ 1 ∧ 0 ≤ x1 ∧ x1 ≤ 5001 ∧ (x2 = 1 → (u 0 6) ≤ 900) ∧ (u 0 1) = (h 0 1) ∧ (u 0 118) = (h 0 118) ∧ (u 0 127) = (h 0 127)) → ((902 - (u 0 6)).toNat) = n → mJ l D cA ad 4 cX12_scan 4 none 13 [(0, (2, ((0 : Nat) : Int))), (1, (0, x1)), (2, (0, x2))] [] u Q) := by
    intro n
    induction n using Nat.strongRecOn with
    | _ n ih =>
      skip
      · intro x1 x2 u gu qx1 qx2 iv hm
        subst hm
        have ku_size := gF_size gu
        have ku_tokens := gF_tokens gu
        refine ja_iload_n dscan_13 rfl rfl ?_
        refine ja_if_eq 203 dscan_14 rfl ⟨by omega, by omega⟩ (fun c14 => ?_) (fun c14 => ?_)
        · refine ja_return dscan_203 rfl ?_
          exact k1 u (by omega) gu
        · refine ja_aload_n dscan_17 rfl rfl ?_
          refine fa_places dscan_18 ?_
          refine ja_aload_n dscan_21 rfl rfl ?_
          refine fg_tokens (v := u 0 6) rfl dscan_22 ?_
          have f1 := gF_tokens gu
          refine ja_iload_n dscan_25 rfl rfl ?_
          have g2 := gW_places gu (u 0 6).toNat (x := x1) ⟨by omega, by omega⟩
          refine is_places ⟨by omega, by omega⟩ dscan_26 ?_
          refine ja_aload_n dscan_27 rfl rfl ?_
          refine ja_iload_n dscan_28 rfl rfl ?_
          refine t_byteAt (by decide) (show (0 : Nat) ≤ 8 by decide) dscan_29 g2 ⟨by omega, by omega⟩ (show 0 ≤ x1 by omega) ?_
          intro w3 k29_0
          replace k29_0 : (w3 = -1 ∧ (u 0 1) ≤ x1) ∨ (0 ≤ w3 ∧ w3 ≤ 255 ∧ x1 < (u 0 1) ∧ w3 = (u 1 (x1).toNat)) := k29_0
          refine ja_istore_n dscan_32 rfl (by decide) (L2 := [(3, (0, w3)), (0, (2, ((0 : Nat) : Int))), (1, (0, x1)), (2, (0, x2))]) rfl ?_
          refine ja_iload_n dscan_33 rfl rfl ?_
          refine ja_aload_n dscan_34 rfl rfl ?_
          refine fg_size (v := u 0 1) rfl dscan_35 ?_
          have f4 := gF_size gu
          refine ja_icmp_lt 75 dscan_38 rfl ⟨by omega, by omega⟩ ⟨by omega, by omega⟩ (fun c38 => ?_) (fun c38 => ?_)
          · refine ja_iload_n dscan_75 rfl rfl ?_
            refine t_isLetter (by decide) (show (0 : Nat) ≤ 8 by decide) dscan_76 g2 ⟨by omega, by omega⟩ ?_
            intro w5 k76_0
            replace k76_0 : 0 ≤ w5 ∧ w5 ≤ 1 ∧ (w5 = 1 → 65 ≤ w3 ∧ w3 ≤ 122) := k76_0
            refine ja_if_eq 90 dscan_79 rfl ⟨by omega, by omega⟩ (fun c79 => ?_) (fun c79 => ?_)
            · refine ja_iload_n dscan_90 rfl rfl ?_
              refine t_isDigit (by decide) (show (0 : Nat) ≤ 8 by decide) dscan_91 g2 ⟨by omega, by omega⟩ ?_
              intro w6 k91_0
              replace k91_0 : 0 ≤ w6 ∧ w6 ≤ 1 ∧ (w6 = 1 → 48 ≤ w3 ∧ w3 ≤ 57) := k91_0
              refine ja_if_eq 105 dscan_94 rfl ⟨by omega, by omega⟩ (fun c94 => ?_) (fun c94 => ?_)
              · refine ja_iload_n dscan_105 rfl rfl ?_
                refine ja_bipush 34 dscan_106 rfl ?_
                refine ja_icmp_ne 119 dscan_108 rfl ⟨by omega, by omega⟩ ⟨by decide, by decide⟩ (fun c108 => ?_) (fun c108 => ?_)
                · refine ja_aload_n dscan_119 rfl rfl ?_
                  refine ja_iload_n dscan_120 rfl rfl ?_
                  refine t_tokenSign (by decide) (show (0 : Nat) ≤ 8 by decide) dscan_121 g2 ⟨by omega, by omega⟩ (show 0 ≤ x1 ∧ x1 < (u 0 1) by omega) (show (u 0 6) ≤ 900 by omega) ?_
                  intro h7 k121_0 g8
                  replace k121_0 : (h7 0 1) = (u 0 1) ∧ (h7 0 118) = (u 0 118) ∧ (h7 0 127) = (u 0 127) ∧ (h7 0 6) = (u 0 6) := k121_0
                  refine ja_aload_n dscan_124 rfl rfl ?_
                  refine fa_kinds dscan_125 ?_
                  refine ja_aload_n dscan_128 rfl rfl ?_
                  refine fg_tokens (v := h7 0 6) rfl dscan_129 ?_
                  have f9 := gF_tokens g8
                  refine il_kinds (v := h7 2 (h7 0 6).toNat) rfl ⟨by omega, by omega⟩ dscan_132 ?_
                  have f10 := gC_kinds g8 (h7 0 6).toNat
                  refine ja_bipush 6 dscan_133 rfl ?_
                  refine ja_icmp_eq 166 dscan_135 rfl ⟨by omega, by omega⟩ ⟨by decide, by decide⟩ (fun c135 => ?_) (fun c135 => ?_)
                  · refine ja_iconst dscan_166 ?_
                    refine ja_istore_n dscan_167 rfl (by decide) (L2 := [(2, (0, 0)), (3, (0, w3)), (0, (2, ((0 : Nat) : Int))), (1, (0, x1))]) rfl ?_
                    refine ja_iload_n dscan_168 rfl rfl ?_
                    refine ja_if_eq 188 dscan_169 rfl ⟨by decide, by decide⟩ (fun c169 => ?_) (fun c169 => absurd c169 (by omega))
                    refine ja_iload_n dscan_188 rfl rfl ?_
                    refine ja_istore_n dscan_189 rfl (by decide) (L2 := [(1, (0, x1)), (2, (0, 0)), (3, (0, w3)), (0, (2, ((0 : Nat) : Int)))]) rfl ?_
                    refine ja_aload_n dscan_190 rfl rfl ?_
                    refine ja_dup dscan_191 (by decide) ?_
                    refine fg_tokens (v := h7 0 6) rfl dscan_192 ?_
                    refine ja_iconst dscan_195 ?_
                    refine ja_iadd dscan_196 ?_
                    have g11 := gP_tokens g8 (x := (h7 0 6) + 1) ⟨by omega, by omega⟩
                    refine fp_tokens dscan_197 ?_
                    refine ja_goto 13 dscan_200 rfl ?_
                    exact ja_wk (fun q hq => by simp only [List.mem_cons, List.not_mem_nil, or_false] at hq; rcases hq with rfl | rfl | rfl <;> rfl) ((ih ((902 - ((h7 0 6) + 1)).toNat) (by omega)) x1 0 (ja_up h7 0 6 ((h7 0 6) + 1)) g11 ⟨by omega, by omega⟩ ⟨by decide, by decide⟩ (show 0 ≤ 0 ∧ 0 ≤ 1 ∧ 0 ≤ x1 ∧ x1 ≤ 5001 ∧ (0 = 1 → ((h7 0 6) + 1) ≤ 900) ∧ (h7 0 1) = (h 0 1) ∧ (h7 0 118) = (h 0 118) ∧ (h7 0 127) = (h 0 127) by omega) rfl)
                  · refine ja_aload_n dscan_138 rfl rfl ?_
                    refine fa_kinds dscan_139 ?_
                    refine ja_aload_n dscan_142 rfl rfl ?_
                    refine fg_tokens (v := h7 0 6) rfl dscan_143 ?_
                    refine il_kinds (v := h7 2 (h7 0 6).toNat) rfl ⟨by omega, by omega⟩ dscan_146 ?_
                    refine ja_bipush 7 dscan_147 rfl ?_
                    refine ja_icmp_eq 166 dscan_149 rfl ⟨by omega, by omega⟩ ⟨by decide, by decide⟩ (fun c149 => ?_) (fun c149 => ?_)
                    · refine ja_iconst dscan_166 ?_
                      refine ja_istore_n dscan_167 rfl (by decide) (L2 := [(2, (0, 0)), (3, (0, w3)), (0, (2, ((0 : Nat) : Int))), (1, (0, x1))]) rfl ?_
                      refine ja_iload_n dscan_168 rfl rfl ?_
                      refine ja_if_eq 188 dscan_169 rfl ⟨by decide, by decide⟩ (fun c169 => ?_) (fun c169 => absurd c169 (by omega))
                      refine ja_iload_n dscan_188 rfl rfl ?_
                      refine ja_istore_n dscan_189 rfl (by decide) (L2 := [(1, (0, x1)), (2, (0, 0)), (3, (0, w3)), (0, (2, ((0 : Nat) : Int)))]) rfl ?_
                      refine ja_aload_n dscan_190 rfl rfl ?_
                      refine ja_dup dscan_191 (by decide) ?_
                      refine fg_tokens (v := h7 0 6) rfl dscan_192 ?_
                      refine ja_iconst dscan_195 ?_
                      refine ja_iadd dscan_196 ?_
                      have g12 := gP_tokens g8 (x := (h7 0 6) + 1) ⟨by omega, by omega⟩
                      refine fp_tokens dscan_197 ?_
                      refine ja_goto 13 dscan_200 rfl ?_
                      exact ja_wk (fun q hq => by simp only [List.mem_cons, List.not_mem_nil, or_false] at hq; rcases hq with rfl | rfl | rfl <;> rfl) ((ih ((902 - ((h7 0 6) + 1)).toNat) (by omega)) x1 0 (ja_up h7 0 6 ((h7 0 6) + 1)) g12 ⟨by omega, by omega⟩ ⟨by decide, by decide⟩ (show 0 ≤ 0 ∧ 0 ≤ 1 ∧ 0 ≤ x1 ∧ x1 ≤ 5001 ∧ (0 = 1 → ((h7 0 6) + 1) ≤ 900) ∧ (h7 0 1) = (h 0 1) ∧ (h7 0 118) = (h 0 118) ∧ (h7 0 127) = (h 0 127) by omega) rfl)
                    · refine ja_aload_n dscan_152 rfl rfl ?_
                      refine fg_tokens (v := h7 0 6) rfl dscan_153 ?_
                      refine ja_sipush 900 dscan_156 rfl ?_
                      refine ja_icmp_ge 166 dscan_159 rfl ⟨by omega, by omega⟩ ⟨by decide, by decide⟩ (fun c159 => ?_) (fun c159 => ?_)
                      · refine ja_iconst dscan_166 ?_
                        refine ja_istore_n dscan_167 rfl (by decide) (L2 := [(2, (0, 0)), (3, (0, w3)), (0, (2, ((0 : Nat) : Int))), (1, (0, x1))]) rfl ?_
                        refine ja_iload_n dscan_168 rfl rfl ?_
                        refine ja_if_eq 188 dscan_169 rfl ⟨by decide, by decide⟩ (fun c169 => ?_) (fun c169 => absurd c169 (by omega))
                        refine ja_iload_n dscan_188 rfl rfl ?_
                        refine ja_istore_n dscan_189 rfl (by decide) (L2 := [(1, (0, x1)), (2, (0, 0)), (3, (0, w3)), (0, (2, ((0 : Nat) : Int)))]) rfl ?_
                        refine ja_aload_n dscan_190 rfl rfl ?_
                        refine ja_dup dscan_191 (by decide) ?_
                        refine fg_tokens (v := h7 0 6) rfl dscan_192 ?_
                        refine ja_iconst dscan_195 ?_
                        refine ja_iadd dscan_196 ?_
                        have g13 := gP_tokens g8 (x := (h7 0 6) + 1) ⟨by omega, by omega⟩
                        refine fp_tokens dscan_197 ?_
                        refine ja_goto 13 dscan_200 rfl ?_
                        exact ja_wk (fun q hq => by simp only [List.mem_cons, List.not_mem_nil, or_false] at hq; rcases hq with rfl | rfl | rfl <;> rfl) ((ih ((902 - ((h7 0 6) + 1)).toNat) (by omega)) x1 0 (ja_up h7 0 6 ((h7 0 6) + 1)) g13 ⟨by omega, by omega⟩ ⟨by decide, by decide⟩ (show 0 ≤ 0 ∧ 0 ≤ 1 ∧ 0 ≤ x1 ∧ x1 ≤ 5001 ∧ (0 = 1 → ((h7 0 6) + 1) ≤ 900) ∧ (h7 0 1) = (h 0 1) ∧ (h7 0 118) = (h 0 118) ∧ (h7 0 127) = (h 0 127) by omega) rfl)
                      · refine ja_iconst dscan_162 ?_
                        refine ja_goto 167 dscan_163 rfl ?_
                        refine ja_istore_n dscan_167 rfl (by decide) (L2 := [(2, (0, 1)), (3, (0, w3)), (0, (2, ((0 : Nat) : Int))), (1, (0, x1))]) rfl ?_
                        refine ja_iload_n dscan_168 rfl rfl ?_
                        refine ja_if_eq 188 dscan_169 rfl ⟨by decide, by decide⟩ (fun c169 => absurd c169 (by omega)) (fun c169 => ?_)
                        refine ja_aload_n dscan_172 rfl rfl ?_
                        refine ja_aload_n dscan_173 rfl rfl ?_
                        refine fa_ends dscan_174 ?_
                        refine ja_aload_n dscan_177 rfl rfl ?_
                        refine fg_tokens (v := h7 0 6) rfl dscan_178 ?_
                        refine il_ends (v := h7 4 (h7 0 6).toNat) rfl ⟨by omega, by omega⟩ dscan_181 ?_
                        have f14 := gC_ends g8 (h7 0 6).toNat
                        refine t_skip (by decide) (show (0 : Nat) ≤ 8 by decide) dscan_182 g8 ⟨by omega, by omega⟩ (show 0 ≤ (h7 4 (h7 0 6).toNat) ∧ (h7 4 (h7 0 6).toNat) ≤ 5001 by omega) ?_
                        intro w15 k182_0
                        refine ja_goto 189 dscan_185 rfl ?_
                        refine ja_istore_n dscan_189 rfl (by decide) (L2 := [(1, (0, w15)), (2, (0, 1)), (3, (0, w3)), (0, (2, ((0 : Nat) : Int)))]) rfl ?_
                        refine ja_aload_n dscan_190 rfl rfl ?_
                        refine ja_dup dscan_191 (by decide) ?_
                        refine fg_tokens (v := h7 0 6) rfl dscan_192 ?_
                        refine ja_iconst dscan_195 ?_
                        refine ja_iadd dscan_196 ?_
                        have g16 := gP_tokens g8 (x := (h7 0 6) + 1) ⟨by omega, by omega⟩
                        refine fp_tokens dscan_197 ?_
                        refine ja_goto 13 dscan_200 rfl ?_
                        exact ja_wk (fun q hq => by simp only [List.mem_cons, List.not_mem_nil, or_false] at hq; rcases hq with rfl | rfl | rfl <;> rfl) ((ih ((902 - ((h7 0 6) + 1)).toNat) (by omega)) w15 1 (ja_up h7 0 6 ((h7 0 6) + 1)) g16 ⟨by omega, by omega⟩ ⟨by decide, by decide⟩ (show 0 ≤ 1 ∧ 1 ≤ 1 ∧ 0 ≤ w15 ∧ w15 ≤ 5001 ∧ (1 = 1 → ((h7 0 6) + 1) ≤ 900) ∧ (h7 0 1) = (h 0 1) ∧ (h7 0 118) = (h 0 118) ∧ (h7 0 127) = (h 0 127) by omega) rfl)
                · refine ja_aload_n dscan_111 rfl rfl ?_
                  refine ja_iload_n dscan_112 rfl rfl ?_
                  refine t_tokenPattern (by decide) (show (0 : Nat) ≤ 8 by decide) dscan_113 g2 ⟨by omega, by omega⟩ (show 0 ≤ x1 ∧ x1 < (u 0 1) by omega) (show (u 0 6) ≤ 900 by omega) ?_
                  intro h17 k113_0 g18
                  replace k113_0 : (h17 0 1) = (u 0 1) ∧ (h17 0 118) = (u 0 118) ∧ (h17 0 127) = (u 0 127) ∧ (h17 0 6) = (u 0 6) := k113_0
                  refine ja_goto 124 dscan_116 rfl ?_
                  refine ja_aload_n dscan_124 rfl rfl ?_
                  refine fa_kinds dscan_125 ?_
                  refine ja_aload_n dscan_128 rfl rfl ?_
                  refine fg_tokens (v := h17 0 6) rfl dscan_129 ?_
                  have f19 := gF_tokens g18
                  refine il_kinds (v := h17 2 (h17 0 6).toNat) rfl ⟨by omega, by omega⟩ dscan_132 ?_
                  have f20 := gC_kinds g18 (h17 0 6).toNat
                  refine ja_bipush 6 dscan_133 rfl ?_
                  refine ja_icmp_eq 166 dscan_135 rfl ⟨by omega, by omega⟩ ⟨by decide, by decide⟩ (fun c135 => ?_) (fun c135 => ?_)
                  · refine ja_iconst dscan_166 ?_
                    refine ja_istore_n dscan_167 rfl (by decide) (L2 := [(2, (0, 0)), (3, (0, w3)), (0, (2, ((0 : Nat) : Int))), (1, (0, x1))]) rfl ?_
                    refine ja_iload_n dscan_168 rfl rfl ?_
                    refine ja_if_eq 188 dscan_169 rfl ⟨by decide, by decide⟩ (fun c169 => ?_) (fun c169 => absurd c169 (by omega))
                    refine ja_iload_n dscan_188 rfl rfl ?_
                    refine ja_istore_n dscan_189 rfl (by decide) (L2 := [(1, (0, x1)), (2, (0, 0)), (3, (0, w3)), (0, (2, ((0 : Nat) : Int)))]) rfl ?_
                    refine ja_aload_n dscan_190 rfl rfl ?_
                    refine ja_dup dscan_191 (by decide) ?_
                    refine fg_tokens (v := h17 0 6) rfl dscan_192 ?_
                    refine ja_iconst dscan_195 ?_
                    refine ja_iadd dscan_196 ?_
                    have g21 := gP_tokens g18 (x := (h17 0 6) + 1) ⟨by omega, by omega⟩
                    refine fp_tokens dscan_197 ?_
                    refine ja_goto 13 dscan_200 rfl ?_
                    exact ja_wk (fun q hq => by simp only [List.mem_cons, List.not_mem_nil, or_false] at hq; rcases hq with rfl | rfl | rfl <;> rfl) ((ih ((902 - ((h17 0 6) + 1)).toNat) (by omega)) x1 0 (ja_up h17 0 6 ((h17 0 6) + 1)) g21 ⟨by omega, by omega⟩ ⟨by decide, by decide⟩ (show 0 ≤ 0 ∧ 0 ≤ 1 ∧ 0 ≤ x1 ∧ x1 ≤ 5001 ∧ (0 = 1 → ((h17 0 6) + 1) ≤ 900) ∧ (h17 0 1) = (h 0 1) ∧ (h17 0 118) = (h 0 118) ∧ (h17 0 127) = (h 0 127) by omega) rfl)
                  · refine ja_aload_n dscan_138 rfl rfl ?_
                    refine fa_kinds dscan_139 ?_
                    refine ja_aload_n dscan_142 rfl rfl ?_
                    refine fg_tokens (v := h17 0 6) rfl dscan_143 ?_
                    refine il_kinds (v := h17 2 (h17 0 6).toNat) rfl ⟨by omega, by omega⟩ dscan_146 ?_
                    refine ja_bipush 7 dscan_147 rfl ?_
                    refine ja_icmp_eq 166 dscan_149 rfl ⟨by omega, by omega⟩ ⟨by decide, by decide⟩ (fun c149 => ?_) (fun c149 => ?_)
                    · refine ja_iconst dscan_166 ?_
                      refine ja_istore_n dscan_167 rfl (by decide) (L2 := [(2, (0, 0)), (3, (0, w3)), (0, (2, ((0 : Nat) : Int))), (1, (0, x1))]) rfl ?_
                      refine ja_iload_n dscan_168 rfl rfl ?_
                      refine ja_if_eq 188 dscan_169 rfl ⟨by decide, by decide⟩ (fun c169 => ?_) (fun c169 => absurd c169 (by omega))
                      refine ja_iload_n dscan_188 rfl rfl ?_
                      refine ja_istore_n dscan_189 rfl (by decide) (L2 := [(1, (0, x1)), (2, (0, 0)), (3, (0, w3)), (0, (2, ((0 : Nat) : Int)))]) rfl ?_
                      refine ja_aload_n dscan_190 rfl rfl ?_
                      refine ja_dup dscan_191 (by decide) ?_
                      refine fg_tokens (v := h17 0 6) rfl dscan_192 ?_
                      refine ja_iconst dscan_195 ?_
                      refine ja_iadd dscan_196 ?_
                      have g22 := gP_tokens g18 (x := (h17 0 6) + 1) ⟨by omega, by omega⟩
                      refine fp_tokens dscan_197 ?_
                      refine ja_goto 13 dscan_200 rfl ?_
                      exact ja_wk (fun q hq => by simp only [List.mem_cons, List.not_mem_nil, or_false] at hq; rcases hq with rfl | rfl | rfl <;> rfl) ((ih ((902 - ((h17 0 6) + 1)).toNat) (by omega)) x1 0 (ja_up h17 0 6 ((h17 0 6) + 1)) g22 ⟨by omega, by omega⟩ ⟨by decide, by decide⟩ (show 0 ≤ 0 ∧ 0 ≤ 1 ∧ 0 ≤ x1 ∧ x1 ≤ 5001 ∧ (0 = 1 → ((h17 0 6) + 1) ≤ 900) ∧ (h17 0 1) = (h 0 1) ∧ (h17 0 118) = (h 0 118) ∧ (h17 0 127) = (h 0 127) by omega) rfl)
                    · refine ja_aload_n dscan_152 rfl rfl ?_
                      refine fg_tokens (v := h17 0 6) rfl dscan_153 ?_
                      refine ja_sipush 900 dscan_156 rfl ?_
                      refine ja_icmp_ge 166 dscan_159 rfl ⟨by omega, by omega⟩ ⟨by decide, by decide⟩ (fun c159 => ?_) (fun c159 => ?_)
                      · refine ja_iconst dscan_166 ?_
                        refine ja_istore_n dscan_167 rfl (by decide) (L2 := [(2, (0, 0)), (3, (0, w3)), (0, (2, ((0 : Nat) : Int))), (1, (0, x1))]) rfl ?_
                        refine ja_iload_n dscan_168 rfl rfl ?_
                        refine ja_if_eq 188 dscan_169 rfl ⟨by decide, by decide⟩ (fun c169 => ?_) (fun c169 => absurd c169 (by omega))
                        refine ja_iload_n dscan_188 rfl rfl ?_
                        refine ja_istore_n dscan_189 rfl (by decide) (L2 := [(1, (0, x1)), (2, (0, 0)), (3, (0, w3)), (0, (2, ((0 : Nat) : Int)))]) rfl ?_
                        refine ja_aload_n dscan_190 rfl rfl ?_
                        refine ja_dup dscan_191 (by decide) ?_
                        refine fg_tokens (v := h17 0 6) rfl dscan_192 ?_
                        refine ja_iconst dscan_195 ?_
                        refine ja_iadd dscan_196 ?_
                        have g23 := gP_tokens g18 (x := (h17 0 6) + 1) ⟨by omega, by omega⟩
                        refine fp_tokens dscan_197 ?_
                        refine ja_goto 13 dscan_200 rfl ?_
                        exact ja_wk (fun q hq => by simp only [List.mem_cons, List.not_mem_nil, or_false] at hq; rcases hq with rfl | rfl | rfl <;> rfl) ((ih ((902 - ((h17 0 6) + 1)).toNat) (by omega)) x1 0 (ja_up h17 0 6 ((h17 0 6) + 1)) g23 ⟨by omega, by omega⟩ ⟨by decide, by decide⟩ (show 0 ≤ 0 ∧ 0 ≤ 1 ∧ 0 ≤ x1 ∧ x1 ≤ 5001 ∧ (0 = 1 → ((h17 0 6) + 1) ≤ 900) ∧ (h17 0 1) = (h 0 1) ∧ (h17 0 118) = (h 0 118) ∧ (h17 0 127) = (h 0 127) by omega) rfl)
                      · refine ja_iconst dscan_162 ?_
                        refine ja_goto 167 dscan_163 rfl ?_
                        refine ja_istore_n dscan_167 rfl (by decide) (L2 := [(2, (0, 1)), (3, (0, w3)), (0, (2, ((0 : Nat) : Int))), (1, (0, x1))]) rfl ?_
                        refine ja_iload_n dscan_168 rfl rfl ?_
                        refine ja_if_eq 188 dscan_169 rfl ⟨by decide, by decide⟩ (fun c169 => absurd c169 (by omega)) (fun c169 => ?_)
                        refine ja_aload_n dscan_172 rfl rfl ?_
                        refine ja_aload_n dscan_173 rfl rfl ?_
                        refine fa_ends dscan_174 ?_
                        refine ja_aload_n dscan_177 rfl rfl ?_
                        refine fg_tokens (v := h17 0 6) rfl dscan_178 ?_
                        refine il_ends (v := h17 4 (h17 0 6).toNat) rfl ⟨by omega, by omega⟩ dscan_181 ?_
                        have f24 := gC_ends g18 (h17 0 6).toNat
                        refine t_skip (by decide) (show (0 : Nat) ≤ 8 by decide) dscan_182 g18 ⟨by omega, by omega⟩ (show 0 ≤ (h17 4 (h17 0 6).toNat) ∧ (h17 4 (h17 0 6).toNat) ≤ 5001 by omega) ?_
                        intro w25 k182_0
                        refine ja_goto 189 dscan_185 rfl ?_
                        refine ja_istore_n dscan_189 rfl (by decide) (L2 := [(1, (0, w25)), (2, (0, 1)), (3, (0, w3)), (0, (2, ((0 : Nat) : Int)))]) rfl ?_
                        refine ja_aload_n dscan_190 rfl rfl ?_
                        refine ja_dup dscan_191 (by decide) ?_
                        refine fg_tokens (v := h17 0 6) rfl dscan_192 ?_
                        refine ja_iconst dscan_195 ?_
                        refine ja_iadd dscan_196 ?_
                        have g26 := gP_tokens g18 (x := (h17 0 6) + 1) ⟨by omega, by omega⟩
                        refine fp_tokens dscan_197 ?_
                        refine ja_goto 13 dscan_200 rfl ?_
                        exact ja_wk (fun q hq => by simp only [List.mem_cons, List.not_mem_nil, or_false] at hq; rcases hq with rfl | rfl | rfl <;> rfl) ((ih ((902 - ((h17 0 6) + 1)).toNat) (by omega)) w25 1 (ja_up h17 0 6 ((h17 0 6) + 1)) g26 ⟨by omega, by omega⟩ ⟨by decide, by decide⟩ (show 0 ≤ 1 ∧ 1 ≤ 1 ∧ 0 ≤ w25 ∧ w25 ≤ 5001 ∧ (1 = 1 → ((h17 0 6) + 1) ≤ 900) ∧ (h17 0 1) = (h 0 1) ∧ (h17 0 118) = (h 0 118) ∧ (h17 0 127) = (h 0 127) by omega) rfl)
              · refine ja_aload_n dscan_97 rfl rfl ?_
                refine ja_iload_n dscan_98 rfl rfl ?_
                refine t_tokenWhole (by decide) (show (0 : Nat) ≤ 8 by decide) dscan_99 g2 ⟨by omega, by omega⟩ (show 0 ≤ x1 ∧ x1 < (u 0 1) by omega) (show (u 0 6) ≤ 900 by omega) ?_
                intro h27 k99_0 g28
                replace k99_0 : (h27 0 1) = (u 0 1) ∧ (h27 0 118) = (u 0 118) ∧ (h27 0 127) = (u 0 127) ∧ (h27 0 6) = (u 0 6) := k99_0
                refine ja_goto 124 dscan_102 rfl ?_
                refine ja_aload_n dscan_124 rfl rfl ?_
                refine fa_kinds dscan_125 ?_
                refine ja_aload_n dscan_128 rfl rfl ?_
                refine fg_tokens (v := h27 0 6) rfl dscan_129 ?_
                have f29 := gF_tokens g28
                refine il_kinds (v := h27 2 (h27 0 6).toNat) rfl ⟨by omega, by omega⟩ dscan_132 ?_
                have f30 := gC_kinds g28 (h27 0 6).toNat
                refine ja_bipush 6 dscan_133 rfl ?_
                refine ja_icmp_eq 166 dscan_135 rfl ⟨by omega, by omega⟩ ⟨by decide, by decide⟩ (fun c135 => ?_) (fun c135 => ?_)
                · refine ja_iconst dscan_166 ?_
                  refine ja_istore_n dscan_167 rfl (by decide) (L2 := [(2, (0, 0)), (3, (0, w3)), (0, (2, ((0 : Nat) : Int))), (1, (0, x1))]) rfl ?_
                  refine ja_iload_n dscan_168 rfl rfl ?_
                  refine ja_if_eq 188 dscan_169 rfl ⟨by decide, by decide⟩ (fun c169 => ?_) (fun c169 => absurd c169 (by omega))
                  refine ja_iload_n dscan_188 rfl rfl ?_
                  refine ja_istore_n dscan_189 rfl (by decide) (L2 := [(1, (0, x1)), (2, (0, 0)), (3, (0, w3)), (0, (2, ((0 : Nat) : Int)))]) rfl ?_
                  refine ja_aload_n dscan_190 rfl rfl ?_
                  refine ja_dup dscan_191 (by decide) ?_
                  refine fg_tokens (v := h27 0 6) rfl dscan_192 ?_
                  refine ja_iconst dscan_195 ?_
                  refine ja_iadd dscan_196 ?_
                  have g31 := gP_tokens g28 (x := (h27 0 6) + 1) ⟨by omega, by omega⟩
                  refine fp_tokens dscan_197 ?_
                  refine ja_goto 13 dscan_200 rfl ?_
                  exact ja_wk (fun q hq => by simp only [List.mem_cons, List.not_mem_nil, or_false] at hq; rcases hq with rfl | rfl | rfl <;> rfl) ((ih ((902 - ((h27 0 6) + 1)).toNat) (by omega)) x1 0 (ja_up h27 0 6 ((h27 0 6) + 1)) g31 ⟨by omega, by omega⟩ ⟨by decide, by decide⟩ (show 0 ≤ 0 ∧ 0 ≤ 1 ∧ 0 ≤ x1 ∧ x1 ≤ 5001 ∧ (0 = 1 → ((h27 0 6) + 1) ≤ 900) ∧ (h27 0 1) = (h 0 1) ∧ (h27 0 118) = (h 0 118) ∧ (h27 0 127) = (h 0 127) by omega) rfl)
                · refine ja_aload_n dscan_138 rfl rfl ?_
                  refine fa_kinds dscan_139 ?_
                  refine ja_aload_n dscan_142 rfl rfl ?_
                  refine fg_tokens (v := h27 0 6) rfl dscan_143 ?_
                  refine il_kinds (v := h27 2 (h27 0 6).toNat) rfl ⟨by omega, by omega⟩ dscan_146 ?_
                  refine ja_bipush 7 dscan_147 rfl ?_
                  refine ja_icmp_eq 166 dscan_149 rfl ⟨by omega, by omega⟩ ⟨by decide, by decide⟩ (fun c149 => ?_) (fun c149 => ?_)
                  · refine ja_iconst dscan_166 ?_
                    refine ja_istore_n dscan_167 rfl (by decide) (L2 := [(2, (0, 0)), (3, (0, w3)), (0, (2, ((0 : Nat) : Int))), (1, (0, x1))]) rfl ?_
                    refine ja_iload_n dscan_168 rfl rfl ?_
                    refine ja_if_eq 188 dscan_169 rfl ⟨by decide, by decide⟩ (fun c169 => ?_) (fun c169 => absurd c169 (by omega))
                    refine ja_iload_n dscan_188 rfl rfl ?_
                    refine ja_istore_n dscan_189 rfl (by decide) (L2 := [(1, (0, x1)), (2, (0, 0)), (3, (0, w3)), (0, (2, ((0 : Nat) : Int)))]) rfl ?_
                    refine ja_aload_n dscan_190 rfl rfl ?_
                    refine ja_dup dscan_191 (by decide) ?_
                    refine fg_tokens (v := h27 0 6) rfl dscan_192 ?_
                    refine ja_iconst dscan_195 ?_
                    refine ja_iadd dscan_196 ?_
                    have g32 := gP_tokens g28 (x := (h27 0 6) + 1) ⟨by omega, by omega⟩
                    refine fp_tokens dscan_197 ?_
                    refine ja_goto 13 dscan_200 rfl ?_
                    exact ja_wk (fun q hq => by simp only [List.mem_cons, List.not_mem_nil, or_false] at hq; rcases hq with rfl | rfl | rfl <;> rfl) ((ih ((902 - ((h27 0 6) + 1)).toNat) (by omega)) x1 0 (ja_up h27 0 6 ((h27 0 6) + 1)) g32 ⟨by omega, by omega⟩ ⟨by decide, by decide⟩ (show 0 ≤ 0 ∧ 0 ≤ 1 ∧ 0 ≤ x1 ∧ x1 ≤ 5001 ∧ (0 = 1 → ((h27 0 6) + 1) ≤ 900) ∧ (h27 0 1) = (h 0 1) ∧ (h27 0 118) = (h 0 118) ∧ (h27 0 127) = (h 0 127) by omega) rfl)
                  · refine ja_aload_n dscan_152 rfl rfl ?_
                    refine fg_tokens (v := h27 0 6) rfl dscan_153 ?_
                    refine ja_sipush 900 dscan_156 rfl ?_
                    refine ja_icmp_ge 166 dscan_159 rfl ⟨by omega, by omega⟩ ⟨by decide, by decide⟩ (fun c159 => ?_) (fun c159 => ?_)
                    · refine ja_iconst dscan_166 ?_
                      refine ja_istore_n dscan_167 rfl (by decide) (L2 := [(2, (0, 0)), (3, (0, w3)), (0, (2, ((0 : Nat) : Int))), (1, (0, x1))]) rfl ?_
                      refine ja_iload_n dscan_168 rfl rfl ?_
                      refine ja_if_eq 188 dscan_169 rfl ⟨by decide, by decide⟩ (fun c169 => ?_) (fun c169 => absurd c169 (by omega))
                      refine ja_iload_n dscan_188 rfl rfl ?_
                      refine ja_istore_n dscan_189 rfl (by decide) (L2 := [(1, (0, x1)), (2, (0, 0)), (3, (0, w3)), (0, (2, ((0 : Nat) : Int)))]) rfl ?_
                      refine ja_aload_n dscan_190 rfl rfl ?_
                      refine ja_dup dscan_191 (by decide) ?_
                      refine fg_tokens (v := h27 0 6) rfl dscan_192 ?_
                      refine ja_iconst dscan_195 ?_
                      refine ja_iadd dscan_196 ?_
                      have g33 := gP_tokens g28 (x := (h27 0 6) + 1) ⟨by omega, by omega⟩
                      refine fp_tokens dscan_197 ?_
                      refine ja_goto 13 dscan_200 rfl ?_
                      exact ja_wk (fun q hq => by simp only [List.mem_cons, List.not_mem_nil, or_false] at hq; rcases hq with rfl | rfl | rfl <;> rfl) ((ih ((902 - ((h27 0 6) + 1)).toNat) (by omega)) x1 0 (ja_up h27 0 6 ((h27 0 6) + 1)) g33 ⟨by omega, by omega⟩ ⟨by decide, by decide⟩ (show 0 ≤ 0 ∧ 0 ≤ 1 ∧ 0 ≤ x1 ∧ x1 ≤ 5001 ∧ (0 = 1 → ((h27 0 6) + 1) ≤ 900) ∧ (h27 0 1) = (h 0 1) ∧ (h27 0 118) = (h 0 118) ∧ (h27 0 127) = (h 0 127) by omega) rfl)
                    · refine ja_iconst dscan_162 ?_
                      refine ja_goto 167 dscan_163 rfl ?_
                      refine ja_istore_n dscan_167 rfl (by decide) (L2 := [(2, (0, 1)), (3, (0, w3)), (0, (2, ((0 : Nat) : Int))), (1, (0, x1))]) rfl ?_
                      refine ja_iload_n dscan_168 rfl rfl ?_
                      refine ja_if_eq 188 dscan_169 rfl ⟨by decide, by decide⟩ (fun c169 => absurd c169 (by omega)) (fun c169 => ?_)
                      refine ja_aload_n dscan_172 rfl rfl ?_
                      refine ja_aload_n dscan_173 rfl rfl ?_
                      refine fa_ends dscan_174 ?_
                      refine ja_aload_n dscan_177 rfl rfl ?_
                      refine fg_tokens (v := h27 0 6) rfl dscan_178 ?_
                      refine il_ends (v := h27 4 (h27 0 6).toNat) rfl ⟨by omega, by omega⟩ dscan_181 ?_
                      have f34 := gC_ends g28 (h27 0 6).toNat
                      refine t_skip (by decide) (show (0 : Nat) ≤ 8 by decide) dscan_182 g28 ⟨by omega, by omega⟩ (show 0 ≤ (h27 4 (h27 0 6).toNat) ∧ (h27 4 (h27 0 6).toNat) ≤ 5001 by omega) ?_
                      intro w35 k182_0
                      refine ja_goto 189 dscan_185 rfl ?_
                      refine ja_istore_n dscan_189 rfl (by decide) (L2 := [(1, (0, w35)), (2, (0, 1)), (3, (0, w3)), (0, (2, ((0 : Nat) : Int)))]) rfl ?_
                      refine ja_aload_n dscan_190 rfl rfl ?_
                      refine ja_dup dscan_191 (by decide) ?_
                      refine fg_tokens (v := h27 0 6) rfl dscan_192 ?_
                      refine ja_iconst dscan_195 ?_
                      refine ja_iadd dscan_196 ?_
                      have g36 := gP_tokens g28 (x := (h27 0 6) + 1) ⟨by omega, by omega⟩
                      refine fp_tokens dscan_197 ?_
                      refine ja_goto 13 dscan_200 rfl ?_
                      exact ja_wk (fun q hq => by simp only [List.mem_cons, List.not_mem_nil, or_false] at hq; rcases hq with rfl | rfl | rfl <;> rfl) ((ih ((902 - ((h27 0 6) + 1)).toNat) (by omega)) w35 1 (ja_up h27 0 6 ((h27 0 6) + 1)) g36 ⟨by omega, by omega⟩ ⟨by decide, by decide⟩ (show 0 ≤ 1 ∧ 1 ≤ 1 ∧ 0 ≤ w35 ∧ w35 ≤ 5001 ∧ (1 = 1 → ((h27 0 6) + 1) ≤ 900) ∧ (h27 0 1) = (h 0 1) ∧ (h27 0 118) = (h 0 118) ∧ (h27 0 127) = (h 0 127) by omega) rfl)
            · refine ja_aload_n dscan_82 rfl rfl ?_
              refine ja_iload_n dscan_83 rfl rfl ?_
              refine t_tokenName (by decide) (show (0 : Nat) ≤ 8 by decide) dscan_84 g2 ⟨by omega, by omega⟩ (show 0 ≤ x1 ∧ x1 < (u 0 1) by omega) (show (u 0 6) ≤ 900 by omega) ?_
              intro h37 k84_0 g38
              replace k84_0 : (h37 0 1) = (u 0 1) ∧ (h37 0 118) = (u 0 118) ∧ (h37 0 127) = (u 0 127) ∧ (h37 0 6) = (u 0 6) := k84_0
              refine ja_goto 124 dscan_87 rfl ?_
              refine ja_aload_n dscan_124 rfl rfl ?_
              refine fa_kinds dscan_125 ?_
              refine ja_aload_n dscan_128 rfl rfl ?_
              refine fg_tokens (v := h37 0 6) rfl dscan_129 ?_
              have f39 := gF_tokens g38
              refine il_kinds (v := h37 2 (h37 0 6).toNat) rfl ⟨by omega, by omega⟩ dscan_132 ?_
              have f40 := gC_kinds g38 (h37 0 6).toNat
              refine ja_bipush 6 dscan_133 rfl ?_
              refine ja_icmp_eq 166 dscan_135 rfl ⟨by omega, by omega⟩ ⟨by decide, by decide⟩ (fun c135 => ?_) (fun c135 => ?_)
              · refine ja_iconst dscan_166 ?_
                refine ja_istore_n dscan_167 rfl (by decide) (L2 := [(2, (0, 0)), (3, (0, w3)), (0, (2, ((0 : Nat) : Int))), (1, (0, x1))]) rfl ?_
                refine ja_iload_n dscan_168 rfl rfl ?_
                refine ja_if_eq 188 dscan_169 rfl ⟨by decide, by decide⟩ (fun c169 => ?_) (fun c169 => absurd c169 (by omega))
                refine ja_iload_n dscan_188 rfl rfl ?_
                refine ja_istore_n dscan_189 rfl (by decide) (L2 := [(1, (0, x1)), (2, (0, 0)), (3, (0, w3)), (0, (2, ((0 : Nat) : Int)))]) rfl ?_
                refine ja_aload_n dscan_190 rfl rfl ?_
                refine ja_dup dscan_191 (by decide) ?_
                refine fg_tokens (v := h37 0 6) rfl dscan_192 ?_
                refine ja_iconst dscan_195 ?_
                refine ja_iadd dscan_196 ?_
                have g41 := gP_tokens g38 (x := (h37 0 6) + 1) ⟨by omega, by omega⟩
                refine fp_tokens dscan_197 ?_
                refine ja_goto 13 dscan_200 rfl ?_
                exact ja_wk (fun q hq => by simp only [List.mem_cons, List.not_mem_nil, or_false] at hq; rcases hq with rfl | rfl | rfl <;> rfl) ((ih ((902 - ((h37 0 6) + 1)).toNat) (by omega)) x1 0 (ja_up h37 0 6 ((h37 0 6) + 1)) g41 ⟨by omega, by omega⟩ ⟨by decide, by decide⟩ (show 0 ≤ 0 ∧ 0 ≤ 1 ∧ 0 ≤ x1 ∧ x1 ≤ 5001 ∧ (0 = 1 → ((h37 0 6) + 1) ≤ 900) ∧ (h37 0 1) = (h 0 1) ∧ (h37 0 118) = (h 0 118) ∧ (h37 0 127) = (h 0 127) by omega) rfl)
              · refine ja_aload_n dscan_138 rfl rfl ?_
                refine fa_kinds dscan_139 ?_
                refine ja_aload_n dscan_142 rfl rfl ?_
                refine fg_tokens (v := h37 0 6) rfl dscan_143 ?_
                refine il_kinds (v := h37 2 (h37 0 6).toNat) rfl ⟨by omega, by omega⟩ dscan_146 ?_
                refine ja_bipush 7 dscan_147 rfl ?_
                refine ja_icmp_eq 166 dscan_149 rfl ⟨by omega, by omega⟩ ⟨by decide, by decide⟩ (fun c149 => ?_) (fun c149 => ?_)
                · refine ja_iconst dscan_166 ?_
                  refine ja_istore_n dscan_167 rfl (by decide) (L2 := [(2, (0, 0)), (3, (0, w3)), (0, (2, ((0 : Nat) : Int))), (1, (0, x1))]) rfl ?_
                  refine ja_iload_n dscan_168 rfl rfl ?_
                  refine ja_if_eq 188 dscan_169 rfl ⟨by decide, by decide⟩ (fun c169 => ?_) (fun c169 => absurd c169 (by omega))
                  refine ja_iload_n dscan_188 rfl rfl ?_
                  refine ja_istore_n dscan_189 rfl (by decide) (L2 := [(1, (0, x1)), (2, (0, 0)), (3, (0, w3)), (0, (2, ((0 : Nat) : Int)))]) rfl ?_
                  refine ja_aload_n dscan_190 rfl rfl ?_
                  refine ja_dup dscan_191 (by decide) ?_
                  refine fg_tokens (v := h37 0 6) rfl dscan_192 ?_
                  refine ja_iconst dscan_195 ?_
                  refine ja_iadd dscan_196 ?_
                  have g42 := gP_tokens g38 (x := (h37 0 6) + 1) ⟨by omega, by omega⟩
                  refine fp_tokens dscan_197 ?_
                  refine ja_goto 13 dscan_200 rfl ?_
                  exact ja_wk (fun q hq => by simp only [List.mem_cons, List.not_mem_nil, or_false] at hq; rcases hq with rfl | rfl | rfl <;> rfl) ((ih ((902 - ((h37 0 6) + 1)).toNat) (by omega)) x1 0 (ja_up h37 0 6 ((h37 0 6) + 1)) g42 ⟨by omega, by omega⟩ ⟨by decide, by decide⟩ (show 0 ≤ 0 ∧ 0 ≤ 1 ∧ 0 ≤ x1 ∧ x1 ≤ 5001 ∧ (0 = 1 → ((h37 0 6) + 1) ≤ 900) ∧ (h37 0 1) = (h 0 1) ∧ (h37 0 118) = (h 0 118) ∧ (h37 0 127) = (h 0 127) by omega) rfl)
                · refine ja_aload_n dscan_152 rfl rfl ?_
                  refine fg_tokens (v := h37 0 6) rfl dscan_153 ?_
                  refine ja_sipush 900 dscan_156 rfl ?_
                  refine ja_icmp_ge 166 dscan_159 rfl ⟨by omega, by omega⟩ ⟨by decide, by decide⟩ (fun c159 => ?_) (fun c159 => ?_)
                  · refine ja_iconst dscan_166 ?_
                    refine ja_istore_n dscan_167 rfl (by decide) (L2 := [(2, (0, 0)), (3, (0, w3)), (0, (2, ((0 : Nat) : Int))), (1, (0, x1))]) rfl ?_
                    refine ja_iload_n dscan_168 rfl rfl ?_
                    refine ja_if_eq 188 dscan_169 rfl ⟨by decide, by decide⟩ (fun c169 => ?_) (fun c169 => absurd c169 (by omega))
                    refine ja_iload_n dscan_188 rfl rfl ?_
                    refine ja_istore_n dscan_189 rfl (by decide) (L2 := [(1, (0, x1)), (2, (0, 0)), (3, (0, w3)), (0, (2, ((0 : Nat) : Int)))]) rfl ?_
                    refine ja_aload_n dscan_190 rfl rfl ?_
                    refine ja_dup dscan_191 (by decide) ?_
                    refine fg_tokens (v := h37 0 6) rfl dscan_192 ?_
                    refine ja_iconst dscan_195 ?_
                    refine ja_iadd dscan_196 ?_
                    have g43 := gP_tokens g38 (x := (h37 0 6) + 1) ⟨by omega, by omega⟩
                    refine fp_tokens dscan_197 ?_
                    refine ja_goto 13 dscan_200 rfl ?_
                    exact ja_wk (fun q hq => by simp only [List.mem_cons, List.not_mem_nil, or_false] at hq; rcases hq with rfl | rfl | rfl <;> rfl) ((ih ((902 - ((h37 0 6) + 1)).toNat) (by omega)) x1 0 (ja_up h37 0 6 ((h37 0 6) + 1)) g43 ⟨by omega, by omega⟩ ⟨by decide, by decide⟩ (show 0 ≤ 0 ∧ 0 ≤ 1 ∧ 0 ≤ x1 ∧ x1 ≤ 5001 ∧ (0 = 1 → ((h37 0 6) + 1) ≤ 900) ∧ (h37 0 1) = (h 0 1) ∧ (h37 0 118) = (h 0 118) ∧ (h37 0 127) = (h 0 127) by omega) rfl)
                  · refine ja_iconst dscan_162 ?_
                    refine ja_goto 167 dscan_163 rfl ?_
                    refine ja_istore_n dscan_167 rfl (by decide) (L2 := [(2, (0, 1)), (3, (0, w3)), (0, (2, ((0 : Nat) : Int))), (1, (0, x1))]) rfl ?_
                    refine ja_iload_n dscan_168 rfl rfl ?_
                    refine ja_if_eq 188 dscan_169 rfl ⟨by decide, by decide⟩ (fun c169 => absurd c169 (by omega)) (fun c169 => ?_)
                    refine ja_aload_n dscan_172 rfl rfl ?_
                    refine ja_aload_n dscan_173 rfl rfl ?_
                    refine fa_ends dscan_174 ?_
                    refine ja_aload_n dscan_177 rfl rfl ?_
                    refine fg_tokens (v := h37 0 6) rfl dscan_178 ?_
                    refine il_ends (v := h37 4 (h37 0 6).toNat) rfl ⟨by omega, by omega⟩ dscan_181 ?_
                    have f44 := gC_ends g38 (h37 0 6).toNat
                    refine t_skip (by decide) (show (0 : Nat) ≤ 8 by decide) dscan_182 g38 ⟨by omega, by omega⟩ (show 0 ≤ (h37 4 (h37 0 6).toNat) ∧ (h37 4 (h37 0 6).toNat) ≤ 5001 by omega) ?_
                    intro w45 k182_0
                    refine ja_goto 189 dscan_185 rfl ?_
                    refine ja_istore_n dscan_189 rfl (by decide) (L2 := [(1, (0, w45)), (2, (0, 1)), (3, (0, w3)), (0, (2, ((0 : Nat) : Int)))]) rfl ?_
                    refine ja_aload_n dscan_190 rfl rfl ?_
                    refine ja_dup dscan_191 (by decide) ?_
                    refine fg_tokens (v := h37 0 6) rfl dscan_192 ?_
                    refine ja_iconst dscan_195 ?_
                    refine ja_iadd dscan_196 ?_
                    have g46 := gP_tokens g38 (x := (h37 0 6) + 1) ⟨by omega, by omega⟩
                    refine fp_tokens dscan_197 ?_
                    refine ja_goto 13 dscan_200 rfl ?_
                    exact ja_wk (fun q hq => by simp only [List.mem_cons, List.not_mem_nil, or_false] at hq; rcases hq with rfl | rfl | rfl <;> rfl) ((ih ((902 - ((h37 0 6) + 1)).toNat) (by omega)) w45 1 (ja_up h37 0 6 ((h37 0 6) + 1)) g46 ⟨by omega, by omega⟩ ⟨by decide, by decide⟩ (show 0 ≤ 1 ∧ 1 ≤ 1 ∧ 0 ≤ w45 ∧ w45 ≤ 5001 ∧ (1 = 1 → ((h37 0 6) + 1) ≤ 900) ∧ (h37 0 1) = (h 0 1) ∧ (h37 0 118) = (h 0 118) ∧ (h37 0 127) = (h 0 127) by omega) rfl)
          · refine ja_aload_n dscan_41 rfl rfl ?_
            refine fa_kinds dscan_42 ?_
            refine ja_aload_n dscan_45 rfl rfl ?_
            refine fg_tokens (v := u 0 6) rfl dscan_46 ?_
            refine ja_bipush 6 dscan_49 rfl ?_
            have g47 := gW_kinds g2 (u 0 6).toNat (x := 6) ⟨by decide, by decide⟩
            refine is_kinds ⟨by omega, by omega⟩ dscan_51 ?_
            refine ja_aload_n dscan_52 rfl rfl ?_
            refine fa_worths dscan_53 ?_
            refine ja_aload_n dscan_56 rfl rfl ?_
            refine fg_tokens (v := u 0 6) rfl dscan_57 ?_
            refine ja_iconst dscan_60 ?_
            have g48 := gW_worths g47 (u 0 6).toNat (x := 0) ⟨by decide, by decide⟩
            refine is_worths ⟨by omega, by omega⟩ dscan_61 ?_
            refine ja_aload_n dscan_62 rfl rfl ?_
            refine fa_ends dscan_63 ?_
            refine ja_aload_n dscan_66 rfl rfl ?_
            refine fg_tokens (v := u 0 6) rfl dscan_67 ?_
            refine ja_iload_n dscan_70 rfl rfl ?_
            have g49 := gW_ends g48 (u 0 6).toNat (x := x1) ⟨by omega, by omega⟩
            refine is_ends ⟨by omega, by omega⟩ dscan_71 ?_
            refine ja_goto 124 dscan_72 rfl ?_
            refine ja_aload_n dscan_124 rfl rfl ?_
            refine fa_kinds dscan_125 ?_
            refine ja_aload_n dscan_128 rfl rfl ?_
            refine fg_tokens (v := u 0 6) rfl dscan_129 ?_
            refine il_kinds (v := 6) (by simp [ja_up]) ⟨by omega, by omega⟩ dscan_132 ?_
            refine ja_bipush 6 dscan_133 rfl ?_
            refine ja_icmp_eq 166 dscan_135 rfl ⟨by decide, by decide⟩ ⟨by decide, by decide⟩ (fun c135 => ?_) (fun c135 => absurd c135 (by omega))
            refine ja_iconst dscan_166 ?_
            refine ja_istore_n dscan_167 rfl (by decide) (L2 := [(2, (0, 0)), (3, (0, w3)), (0, (2, ((0 : Nat) : Int))), (1, (0, x1))]) rfl ?_
            refine ja_iload_n dscan_168 rfl rfl ?_
            refine ja_if_eq 188 dscan_169 rfl ⟨by decide, by decide⟩ (fun c169 => ?_) (fun c169 => absurd c169 (by omega))
            refine ja_iload_n dscan_188 rfl rfl ?_
            refine ja_istore_n dscan_189 rfl (by decide) (L2 := [(1, (0, x1)), (2, (0, 0)), (3, (0, w3)), (0, (2, ((0 : Nat) : Int)))]) rfl ?_
            refine ja_aload_n dscan_190 rfl rfl ?_
            refine ja_dup dscan_191 (by decide) ?_
            refine fg_tokens (v := u 0 6) rfl dscan_192 ?_
            refine ja_iconst dscan_195 ?_
            refine ja_iadd dscan_196 ?_
            have g50 := gP_tokens g49 (x := (u 0 6) + 1) ⟨by omega, by omega⟩
            refine fp_tokens dscan_197 ?_
            refine ja_goto 13 dscan_200 rfl ?_
            exact ja_wk (fun q hq => by simp only [List.mem_cons, List.not_mem_nil, or_false] at hq; rcases hq with rfl | rfl | rfl <;> rfl) ((ih ((902 - ((u 0 6) + 1)).toNat) (by omega)) x1 0 (ja_up (ja_up (ja_up (ja_up (ja_up u 3 ((u 0 6).toNat) x1) 2 ((u 0 6).toNat) 6) 5 ((u 0 6).toNat) 0) 4 ((u 0 6).toNat) x1) 0 6 ((u 0 6) + 1)) g50 ⟨by omega, by omega⟩ ⟨by decide, by decide⟩ (show 0 ≤ 0 ∧ 0 ≤ 1 ∧ 0 ≤ x1 ∧ x1 ≤ 5001 ∧ (0 = 1 → ((u 0 6) + 1) ≤ 900) ∧ (u 0 1) = (h 0 1) ∧ (u 0 118) = (h 0 118) ∧ (u 0 127) = (h 0 127) by omega) rfl)
  refine ja_aload_n dscan_0 rfl rfl ?_
  refine ja_iconst dscan_1 ?_
  have g51 := gP_tokens g (x := 0) ⟨by decide, by decide⟩
  refine fp_tokens dscan_2 ?_
  refine ja_aload_n dscan_5 rfl rfl ?_
  refine ja_iconst dscan_6 ?_
  refine t_skip (by decide) (show (0 : Nat) ≤ 8 by decide) dscan_7 g51 ⟨by decide, by decide⟩ (show 0 ≤ 0 ∧ 0 ≤ 5001 by omega) ?_
  intro w52 k7_0
  replace k7_0 : 0 ≤ w52 ∧ w52 ≤ 5001 := k7_0
  refine ja_istore_n dscan_10 rfl (by decide) (L2 := [(1, (0, w52)), (0, (2, ((0 : Nat) : Int)))]) rfl ?_
  refine ja_iconst dscan_11 ?_
  refine ja_istore_n dscan_12 rfl (by decide) (L2 := [(2, (0, 1)), (1, (0, w52)), (0, (2, ((0 : Nat) : Int)))]) rfl ?_
  exact ja_wk (fun q hq => by simp only [List.mem_cons, List.not_mem_nil, or_false] at hq; rcases hq with rfl | rfl | rfl <;> rfl) ((CUT _) w52 1 (ja_up h 0 6 0) g51 ⟨by omega, by omega⟩ ⟨by decide, by decide⟩ (show 0 ≤ 1 ∧ 1 ≤ 1 ∧ 0 ≤ w52 ∧ w52 ≤ 5001 ∧ (1 = 1 → 0 ≤ 900) ∧ (h 0 1) = (h 0 1) ∧ (h 0 118) = (h 0 118) ∧ (h 0 127) = (h 0 127) by omega) rfl)
theorem t_scan {d nL pc : Nat} {cc : ByteArray} {rt : Option FieldType} {L : List (Nat × ja_V)} {S : List ja_V} {h : ja_H} {Q : Option ja_V → ja_H → Prop} (hdd : 4 < d) (hwd : ja_wd S ≤ 8) (hd : decode cc pc = .ok (.invokevirtual 632, 3)) (g : mo_G Zz h) (k1 : ∀ (h' : ja_H), ((h' 0 1) = (h 0 1) ∧ (h' 0 118) = (h 0 118) ∧ (h' 0 127) = (h 0 127)) → mo_G Zz h' → mJ l D cA ad d cc nL rt (pc + 3) L S h' Q) : mJ l D cA ad d cc nL rt pc L ((2, ((0 : Nat) : Int)) :: S) h Q :=
  mc_scan hdd hwd hd (s_scan g k1)
end
