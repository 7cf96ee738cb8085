/-! the reference: what is asked (written by a program) -/
/-! the reference: THE TEXT, what is asked -/
def FFE : Nat → Nat → Bool := mo_X [208, 1, 118, 127] [1]
theorem dfeed_0 : decode cX12_feed 0 = .ok (.aload_n 0, 1) := by decide +kernel
theorem dfeed_1 : decode cX12_feed 1 = .ok (.iload_n 1, 1) := by decide +kernel
theorem dfeed_2 : decode cX12_feed 2 = .ok (.iconst 1, 1) := by decide +kernel
theorem dfeed_3 : decode cX12_feed 3 = .ok (.if_icmp .lt 21, 3) := by decide +kernel
theorem dfeed_6 : decode cX12_feed 6 = .ok (.iload_n 1, 1) := by decide +kernel
theorem dfeed_7 : decode cX12_feed 7 = .ok (.bipush 8, 2) := by decide +kernel
theorem dfeed_9 : decode cX12_feed 9 = .ok (.if_icmp .gt 15, 3) := by decide +kernel
theorem dfeed_12 : decode cX12_feed 12 = .ok (.aload_n 0, 1) := by decide +kernel
theorem dfeed_13 : decode cX12_feed 13 = .ok (.getfield 427, 3) := by decide +kernel
theorem dfeed_16 : decode cX12_feed 16 = .ok (.iload_n 1, 1) := by decide +kernel
theorem dfeed_17 : decode cX12_feed 17 = .ok (.iadd, 1) := by decide +kernel
theorem dfeed_18 : decode cX12_feed 18 = .ok (.sipush 5000, 3) := by decide +kernel
theorem dfeed_21 : decode cX12_feed 21 = .ok (.if_icmp .le 7, 3) := by decide +kernel
theorem dfeed_24 : decode cX12_feed 24 = .ok (.iconst 1, 1) := by decide +kernel
theorem dfeed_25 : decode cX12_feed 25 = .ok (.goto 4, 3) := by decide +kernel
theorem dfeed_28 : decode cX12_feed 28 = .ok (.iconst 0, 1) := by decide +kernel
theorem dfeed_29 : decode cX12_feed 29 = .ok (.putfield 423, 3) := by decide +kernel
theorem dfeed_32 : decode cX12_feed 32 = .ok (.aload_n 0, 1) := by decide +kernel
theorem dfeed_33 : decode cX12_feed 33 = .ok (.getfield 423, 3) := by decide +kernel
theorem dfeed_36 : decode cX12_feed 36 = .ok (.ifCond .le 5, 3) := by decide +kernel
theorem dfeed_39 : decode cX12_feed 39 = .ok (.iconst 0, 1) := by decide +kernel
theorem dfeed_40 : decode cX12_feed 40 = .ok (.ireturn, 1) := by decide +kernel
theorem dfeed_41 : decode cX12_feed 41 = .ok (.iconst 0, 1) := by decide +kernel
theorem dfeed_42 : decode cX12_feed 42 = .ok (.istore 4, 2) := by decide +kernel
theorem dfeed_44 : decode cX12_feed 44 = .ok (.iload 4, 2) := by decide +kernel
theorem dfeed_46 : decode cX12_feed 46 = .ok (.iload_n 1, 1) := by decide +kernel
theorem dfeed_47 : decode cX12_feed 47 = .ok (.if_icmp .ge 40, 3) := by decide +kernel
theorem dfeed_50 : decode cX12_feed 50 = .ok (.aload_n 0, 1) := by decide +kernel
theorem dfeed_51 : decode cX12_feed 51 = .ok (.getfield 7, 3) := by decide +kernel
theorem dfeed_54 : decode cX12_feed 54 = .ok (.aload_n 0, 1) := by decide +kernel
theorem dfeed_55 : decode cX12_feed 55 = .ok (.getfield 427, 3) := by decide +kernel
theorem dfeed_58 : decode cX12_feed 58 = .ok (.lload_n 2, 1) := by decide +kernel
theorem dfeed_59 : decode cX12_feed 59 = .ok (.bipush 8, 2) := by decide +kernel
theorem dfeed_61 : decode cX12_feed 61 = .ok (.iload 4, 2) := by decide +kernel
theorem dfeed_63 : decode cX12_feed 63 = .ok (.imul, 1) := by decide +kernel
theorem dfeed_64 : decode cX12_feed 64 = .ok (.lushr, 1) := by decide +kernel
theorem dfeed_65 : decode cX12_feed 65 = .ok (.l2i, 1) := by decide +kernel
theorem dfeed_66 : decode cX12_feed 66 = .ok (.sipush 255, 3) := by decide +kernel
theorem dfeed_69 : decode cX12_feed 69 = .ok (.iand, 1) := by decide +kernel
theorem dfeed_70 : decode cX12_feed 70 = .ok (.iastore, 1) := by decide +kernel
theorem dfeed_71 : decode cX12_feed 71 = .ok (.aload_n 0, 1) := by decide +kernel
theorem dfeed_72 : decode cX12_feed 72 = .ok (.dup, 1) := by decide +kernel
theorem dfeed_73 : decode cX12_feed 73 = .ok (.getfield 427, 3) := by decide +kernel
theorem dfeed_76 : decode cX12_feed 76 = .ok (.iconst 1, 1) := by decide +kernel
theorem dfeed_77 : decode cX12_feed 77 = .ok (.iadd, 1) := by decide +kernel
theorem dfeed_78 : decode cX12_feed 78 = .ok (.putfield 427, 3) := by decide +kernel
theorem dfeed_81 : decode cX12_feed 81 = .ok (.iinc 4 1, 3) := by decide +kernel
theorem dfeed_84 : decode cX12_feed 84 = .ok (.goto (-40), 3) := by decide +kernel
theorem dfeed_87 : decode cX12_feed 87 = .ok (.aload_n 0, 1) := by decide +kernel
theorem dfeed_88 : decode cX12_feed 88 = .ok (.iconst 0, 1) := by decide +kernel
theorem dfeed_89 : decode cX12_feed 89 = .ok (.putfield 430, 3) := by decide +kernel
theorem dfeed_92 : decode cX12_feed 92 = .ok (.aload_n 0, 1) := by decide +kernel
theorem dfeed_93 : decode cX12_feed 93 = .ok (.iconst 0, 1) := by decide +kernel
theorem dfeed_94 : decode cX12_feed 94 = .ok (.putfield 434, 3) := by decide +kernel
theorem dfeed_97 : decode cX12_feed 97 = .ok (.aload_n 0, 1) := by decide +kernel
theorem dfeed_98 : decode cX12_feed 98 = .ok (.getfield 427, 3) := by decide +kernel
theorem dfeed_101 : decode cX12_feed 101 = .ok (.ireturn, 1) := by decide +kernel
section
variable {l : Launch} {D : va_G} {cA : Nat → ClassId} {ad : Nat → Nat}
theorem s_feed {a1 a2 : Int} {h : ja_H} {Q : Option ja_V → ja_H → Prop} (g : mo_G mo_zr h) (r1 : -2147483648 ≤ a1 ∧ a1 ≤ 2147483647) (k1 : (a1 < 1 ∨ 8 < a1 ∨ 5000 < (h 0 1) + a1) → mo_G mo_zr (ja_up h 0 208 1) → Q (some (0, 0)) (ja_up h 0 208 1)) (k2 : ∀ (h' : ja_H), ((1 ≤ a1 ∧ a1 ≤ 8 ∧ (h 0 1) + a1 ≤ 5000) ∧ mo_ag FFE h h' ∧ (h' 0 1) = (h 0 1) + a1 ∧ (h' 0 208) = 0 ∧ (h' 0 118) = 0 ∧ (h' 0 127) = 0) → mo_G mo_zr h' → Q (some (0, (h 0 1) + a1)) h') : mM_feed l D cA ad a1 a2 h Q := by
  show mJ l D cA ad 1 cX12_feed 5 (some .int) 0 [(0, (2, ((0 : Nat) : Int))), (1, (0, a1)), (2, (1, a2))] [] h Q
  have kn_size := gF_size g
  have CUT : ∀ n : Nat, (∀ (x4 : Int) (u : ja_H), mo_G mo_zr u → (-2147483648 ≤ x4 ∧ x4 ≤ 2147483647) → (mo_ag FFE h u ∧ 0 ≤ x4 ∧ x4 ≤ a1 ∧ (1 ≤ a1 ∧ a1 ≤ 8 ∧ (h 0 1) + a1 ≤ 5000) ∧ (u 0 1) = (h 0 1) + x4 ∧ (u 0 208) = 0) → (((10 : Int) - x4).toNat) = n → mJ l D cA ad 1 cX12_feed 5 (some .int) 44 [(0, (2, ((0 : Nat) : Int))), (1, (0, a1)), (2, (1, a2)), (4, (0, x4))] [] u Q) := by
    intro n
    induction n using Nat.strongRecOn with
    | _ n ih =>
      skip
      · intro x4 u gu qx4 iv hm
        subst hm
        have ku_size := gF_size gu
        obtain ⟨ag, i2, i3, i4, i5, i6⟩ := iv
        refine ja_iload dfeed_44 rfl ?_
        refine ja_iload_n dfeed_46 rfl rfl ?_
        refine ja_icmp_ge 87 dfeed_47 rfl ⟨by omega, by omega⟩ ⟨by omega, by omega⟩ (fun c47 => ?_) (fun c47 => ?_)
        · refine ja_aload_n dfeed_87 rfl rfl ?_
          refine ja_iconst dfeed_88 ?_
          have g1 := gP_compiled gu (x := 0) ⟨by decide, by decide⟩
          refine fp_compiled (by omega) dfeed_89 ?_
          refine ja_aload_n dfeed_92 rfl rfl ?_
          refine ja_iconst dfeed_93 ?_
          have g2 := gP_started g1 (x := 0) ⟨by decide, by decide⟩
          refine fp_started (by omega) dfeed_94 ?_
          refine ja_aload_n dfeed_97 rfl rfl ?_
          refine fg_size (v := u 0 1) rfl dfeed_98 ?_
          have f3 := gF_size gu
          refine ja_ireturn dfeed_101 rfl ?_
          exact mo_fin (by omega) rfl (k2 (ja_up (ja_up u 0 118 0) 0 127 0) (⟨i4, ag_trans ag (by (repeat (first | exact ag_refl | refine ag_up rfl ?_))), (show ((u 0 1) : Int) = (h 0 1) + a1 by omega), (show ((u 0 208) : Int) = 0 by omega), (show (0 : Int) = 0 by omega), (show (0 : Int) = 0 by omega)⟩) g2)
        · refine ja_aload_n dfeed_50 rfl rfl ?_
          refine fa_text dfeed_51 ?_
          refine ja_aload_n dfeed_54 rfl rfl ?_
          refine fg_size (v := u 0 1) rfl dfeed_55 ?_
          have f4 := gF_size gu
          refine ja_lload_n dfeed_58 rfl rfl ?_
          refine ja_bipush 8 dfeed_59 rfl ?_
          refine ja_iload dfeed_61 rfl ?_
          refine mo_himul dfeed_63 (fun v5 rv5 => ?_)
          refine mo_lushr dfeed_64 (fun v6 => ?_)
          refine mo_l2i dfeed_65 (fun v7 rv7 => ?_)
          refine ja_sipush 255 dfeed_66 rfl ?_
          refine mo_iandc dfeed_69 (by decide) (fun v8 rv8 => ?_)
          have g9 := gW_text gu (u 0 1).toNat (x := v8) ⟨by omega, by omega⟩
          refine is_text ⟨by omega, by omega⟩ dfeed_70 ?_
          refine ja_aload_n dfeed_71 rfl rfl ?_
          refine ja_dup dfeed_72 (by decide) ?_
          refine fg_size (v := u 0 1) rfl dfeed_73 ?_
          refine ja_iconst dfeed_76 ?_
          refine ja_iadd dfeed_77 ?_
          have g10 := gP_size g9 (x := (u 0 1) + 1) ⟨by omega, by omega⟩
          refine fp_size dfeed_78 ?_
          refine ja_iinc dfeed_81 rfl (by decide) (L2 := [(4, (0, (x4 + 1))), (0, (2, ((0 : Nat) : Int))), (1, (0, a1)), (2, (1, a2))]) rfl ?_
          refine ja_goto 44 dfeed_84 rfl ?_
          exact ja_wk (fun q hq => by simp only [List.mem_cons, List.not_mem_nil, or_false] at hq; rcases hq with rfl | rfl | rfl | rfl <;> rfl) ((ih (((10 : Int) - (x4 + 1)).toNat) (by omega)) (x4 + 1) (ja_up (ja_up u 1 ((u 0 1).toNat) v8) 0 1 ((u 0 1) + 1)) g10 ⟨by omega, by omega⟩ (⟨(ag_trans ag (by (repeat (first | exact ag_refl | refine ag_up rfl ?_)))), by omega, by omega, by omega, (show (((u 0 1) + 1) : Int) = (h 0 1) + (x4 + 1) by omega), (show ((u 0 208) : Int) = 0 by omega)⟩) rfl)
  refine ja_aload_n dfeed_0 rfl rfl ?_
  refine ja_iload_n dfeed_1 rfl rfl ?_
  refine ja_iconst dfeed_2 ?_
  refine ja_icmp_lt 24 dfeed_3 rfl ⟨by omega, by omega⟩ ⟨by decide, by decide⟩ (fun c3 => ?_) (fun c3 => ?_)
  · refine ja_iconst dfeed_24 ?_
    refine ja_goto 29 dfeed_25 rfl ?_
    have g11 := gP_thrown g (x := 1) ⟨by decide, by decide⟩
    refine fp_thrown dfeed_29 ?_
    refine ja_aload_n dfeed_32 rfl rfl ?_
    refine fg_thrown (v := 1) rfl dfeed_33 ?_
    refine ja_if_le 41 dfeed_36 rfl ⟨by decide, by decide⟩ (fun c36 => absurd c36 (by omega)) (fun c36 => ?_)
    refine ja_iconst dfeed_39 ?_
    refine ja_ireturn dfeed_40 rfl ?_
    exact mo_fin (by omega) rfl (k1 (by omega) g11)
  · refine ja_iload_n dfeed_6 rfl rfl ?_
    refine ja_bipush 8 dfeed_7 rfl ?_
    refine ja_icmp_gt 24 dfeed_9 rfl ⟨by omega, by omega⟩ ⟨by decide, by decide⟩ (fun c9 => ?_) (fun c9 => ?_)
    · refine ja_iconst dfeed_24 ?_
      refine ja_goto 29 dfeed_25 rfl ?_
      have g12 := gP_thrown g (x := 1) ⟨by decide, by decide⟩
      refine fp_thrown dfeed_29 ?_
      refine ja_aload_n dfeed_32 rfl rfl ?_
      refine fg_thrown (v := 1) rfl dfeed_33 ?_
      refine ja_if_le 41 dfeed_36 rfl ⟨by decide, by decide⟩ (fun c36 => absurd c36 (by omega)) (fun c36 => ?_)
      refine ja_iconst dfeed_39 ?_
      refine ja_ireturn dfeed_40 rfl ?_
      exact mo_fin (by omega) rfl (k1 (by omega) g12)
    · refine ja_aload_n dfeed_12 rfl rfl ?_
      refine fg_size (v := h 0 1) rfl dfeed_13 ?_
      have f13 := gF_size g
      refine ja_iload_n dfeed_16 rfl rfl ?_
      refine ja_iadd dfeed_17 ?_
      refine ja_sipush 5000 dfeed_18 rfl ?_
      refine ja_icmp_le 28 dfeed_21 rfl ⟨by omega, by omega⟩ ⟨by decide, by decide⟩ (fun c21 => ?_) (fun c21 => ?_)
      · refine ja_iconst dfeed_28 ?_
        have g14 := gP_thrown g (x := 0) ⟨by decide, by decide⟩
        refine fp_thrown dfeed_29 ?_
        refine ja_aload_n dfeed_32 rfl rfl ?_
        refine fg_thrown (v := 0) rfl dfeed_33 ?_
        refine ja_if_le 41 dfeed_36 rfl ⟨by decide, by decide⟩ (fun c36 => ?_) (fun c36 => absurd c36 (by omega))
        refine ja_iconst dfeed_41 ?_
        refine ja_istore dfeed_42 (by decide) (L2 := [(4, (0, 0)), (0, (2, ((0 : Nat) : Int))), (1, (0, a1)), (2, (1, a2))]) rfl ?_
        exact ja_wk (fun q hq => by simp only [List.mem_cons, List.not_mem_nil, or_false] at hq; rcases hq with rfl | rfl | rfl | rfl <;> rfl) ((CUT _) 0 (ja_up h 0 208 0) g14 ⟨by decide, by decide⟩ (⟨(by (repeat (first | exact ag_refl | refine ag_up rfl ?_))), by omega, by omega, by omega, (show ((h 0 1) : Int) = (h 0 1) + 0 by omega), (show (0 : Int) = 0 by omega)⟩) rfl)
      · refine ja_iconst dfeed_24 ?_
        refine ja_goto 29 dfeed_25 rfl ?_
        have g15 := gP_thrown g (x := 1) ⟨by decide, by decide⟩
        refine fp_thrown dfeed_29 ?_
        refine ja_aload_n dfeed_32 rfl rfl ?_
        refine fg_thrown (v := 1) rfl dfeed_33 ?_
        refine ja_if_le 41 dfeed_36 rfl ⟨by decide, by decide⟩ (fun c36 => absurd c36 (by omega)) (fun c36 => ?_)
        refine ja_iconst dfeed_39 ?_
        refine ja_ireturn dfeed_40 rfl ?_
        exact mo_fin (by omega) rfl (k1 (by omega) g15)
end
theorem dwipe_0 : decode cX12_wipe 0 = .ok (.aload_n 0, 1) := by decide +kernel
theorem dwipe_1 : decode cX12_wipe 1 = .ok (.iconst 0, 1) := by decide +kernel
theorem dwipe_2 : decode cX12_wipe 2 = .ok (.putfield 423, 3) := by decide +kernel
theorem dwipe_5 : decode cX12_wipe 5 = .ok (.aload_n 0, 1) := by decide +kernel
theorem dwipe_6 : decode cX12_wipe 6 = .ok (.getfield 427, 3) := by decide +kernel
theorem dwipe_9 : decode cX12_wipe 9 = .ok (.istore_n 1, 1) := by decide +kernel
theorem dwipe_10 : decode cX12_wipe 10 = .ok (.aload_n 0, 1) := by decide +kernel
theorem dwipe_11 : decode cX12_wipe 11 = .ok (.iconst 0, 1) := by decide +kernel
theorem dwipe_12 : decode cX12_wipe 12 = .ok (.putfield 427, 3) := by decide +kernel
theorem dwipe_15 : decode cX12_wipe 15 = .ok (.aload_n 0, 1) := by decide +kernel
theorem dwipe_16 : decode cX12_wipe 16 = .ok (.iconst 0, 1) := by decide +kernel
theorem dwipe_17 : decode cX12_wipe 17 = .ok (.putfield 430, 3) := by decide +kernel
theorem dwipe_20 : decode cX12_wipe 20 = .ok (.aload_n 0, 1) := by decide +kernel
theorem dwipe_21 : decode cX12_wipe 21 = .ok (.iconst 0, 1) := by decide +kernel
theorem dwipe_22 : decode cX12_wipe 22 = .ok (.putfield 434, 3) := by decide +kernel
theorem dwipe_25 : decode cX12_wipe 25 = .ok (.iload_n 1, 1) := by decide +kernel
theorem dwipe_26 : decode cX12_wipe 26 = .ok (.ireturn, 1) := by decide +kernel
section
variable {l : Launch} {D : va_G} {cA : Nat → ClassId} {ad : Nat → Nat}
theorem s_wipe {h : ja_H} {Q : Option ja_V → ja_H → Prop} (g : mo_G mo_zr h) (k1 : mo_G mo_zr (ja_up (ja_up (ja_up (ja_up h 0 208 0) 0 1 0) 0 118 0) 0 127 0) → Q (some (0, (h 0 1))) (ja_up (ja_up (ja_up (ja_up h 0 208 0) 0 1 0) 0 118 0) 0 127 0)) : mM_wipe l D cA ad  h Q := by
  show mJ l D cA ad 1 cX12_wipe 2 (some .int) 0 [(0, (2, ((0 : Nat) : Int)))] [] h Q
  refine ja_aload_n dwipe_0 rfl rfl ?_
  refine ja_iconst dwipe_1 ?_
  have g1 := gP_thrown g (x := 0) ⟨by decide, by decide⟩
  refine fp_thrown dwipe_2 ?_
  refine ja_aload_n dwipe_5 rfl rfl ?_
  refine fg_size (v := h 0 1) rfl dwipe_6 ?_
  have f2 := gF_size g
  refine ja_istore_n dwipe_9 rfl (by decide) (L2 := [(1, (0, (h 0 1))), (0, (2, ((0 : Nat) : Int)))]) rfl ?_
  refine ja_aload_n dwipe_10 rfl rfl ?_
  refine ja_iconst dwipe_11 ?_
  have g3 := gP_size g1 (x := 0) ⟨by decide, by decide⟩
  refine fp_size dwipe_12 ?_
  refine ja_aload_n dwipe_15 rfl rfl ?_
  refine ja_iconst dwipe_16 ?_
  have g4 := gP_compiled g3 (x := 0) ⟨by decide, by decide⟩
  refine fp_compiled (by omega) dwipe_17 ?_
  refine ja_aload_n dwipe_20 rfl rfl ?_
  refine ja_iconst dwipe_21 ?_
  have g5 := gP_started g4 (x := 0) ⟨by decide, by decide⟩
  refine fp_started (by omega) dwipe_22 ?_
  refine ja_iload_n dwipe_25 rfl rfl ?_
  refine ja_ireturn dwipe_26 rfl ?_
  exact mo_fin (by omega) rfl (k1 g5)
end
theorem dtell_0 : decode cX12_tell 0 = .ok (.iload_n 0, 1) := by decide +kernel
theorem dtell_1 : decode cX12_tell 1 = .ok (.ifCond .ne 7, 3) := by decide +kernel
theorem dtell_4 : decode cX12_tell 4 = .ok (.iload_n 1, 1) := by decide +kernel
theorem dtell_5 : decode cX12_tell 5 = .ok (.goto 12, 3) := by decide +kernel
theorem dtell_8 : decode cX12_tell 8 = .ok (.iload_n 1, 1) := by decide +kernel
theorem dtell_9 : decode cX12_tell 9 = .ok (.ifCond .ne 7, 3) := by decide +kernel
theorem dtell_12 : decode cX12_tell 12 = .ok (.iconst 0, 1) := by decide +kernel
theorem dtell_13 : decode cX12_tell 13 = .ok (.goto 4, 3) := by decide +kernel
theorem dtell_16 : decode cX12_tell 16 = .ok (.iload_n 2, 1) := by decide +kernel
theorem dtell_17 : decode cX12_tell 17 = .ok (.ireturn, 1) := by decide +kernel
section
variable {l : Launch} {D : va_G} {cA : Nat → ClassId} {ad : Nat → Nat}
theorem s_tell {a1 a2 a3 : Int} {h : ja_H} {Q : Option ja_V → ja_H → Prop} (g : mo_G mo_zr h) (r1 : -2147483648 ≤ a1 ∧ a1 ≤ 2147483647) (r2 : -2147483648 ≤ a2 ∧ a2 ≤ 2147483647) (r3 : -2147483648 ≤ a3 ∧ a3 ≤ 2147483647) (k1 : ∀ (v : Int), (-2147483648 ≤ v ∧ v ≤ 2147483647) → Q (some (0, v)) h) : mM_tell l D cA ad a1 a2 a3 h Q := by
  show mJ l D cA ad 1 cX12_tell 3 (some .int) 0 [(0, (0, a1)), (1, (0, a2)), (2, (0, a3))] [] h Q
  refine ja_iload_n dtell_0 rfl rfl ?_
  refine ja_if_ne 8 dtell_1 rfl ⟨by omega, by omega⟩ (fun c1 => ?_) (fun c1 => ?_)
  · refine ja_iload_n dtell_8 rfl rfl ?_
    refine ja_if_ne 16 dtell_9 rfl ⟨by omega, by omega⟩ (fun c9 => ?_) (fun c9 => ?_)
    · refine ja_iload_n dtell_16 rfl rfl ?_
      refine ja_ireturn dtell_17 rfl ?_
      exact mo_fin (by omega) rfl (k1 a3 (by omega))
    · refine ja_iconst dtell_12 ?_
      refine ja_goto 17 dtell_13 rfl ?_
      refine ja_ireturn dtell_17 rfl ?_
      exact mo_fin (by omega) rfl (k1 0 (by omega))
  · refine ja_iload_n dtell_4 rfl rfl ?_
    refine ja_goto 17 dtell_5 rfl ?_
    refine ja_ireturn dtell_17 rfl ?_
    exact mo_fin (by omega) rfl (k1 a2 (by omega))
theorem t_tell {a1 a2 a3 : Int} {d nL pc : Nat} {cc : ByteArray} {rt : Option FieldType} {L : List (Nat × ja_V)} {S : List ja_V} {h : ja_H} {Q : Option ja_V → ja_H → Prop} (hdd : 1 < d) (hwd : ja_wd S ≤ 8) (hd : decode cc pc = .ok (.invokestatic 1178, 3)) (g : mo_G mo_zr h) (r1 : -2147483648 ≤ a1 ∧ a1 ≤ 2147483647) (r2 : -2147483648 ≤ a2 ∧ a2 ≤ 2147483647) (r3 : -2147483648 ≤ a3 ∧ a3 ≤ 2147483647) (k1 : ∀ (v : Int), (-2147483648 ≤ v ∧ v ≤ 2147483647) → mJ l D cA ad d cc nL rt (pc + 3) L ((0, v) :: S) h Q) : mJ l D cA ad d cc nL rt pc L ((0, a3) :: (0, a2) :: (0, a1) :: S) h Q :=
  mc_tell hdd hwd hd (s_tell g r1 r2 r3 k1)
end
theorem dheldAt_0 : decode cX12_heldAt 0 = .ok (.sipush 201, 3) := by decide +kernel
theorem dheldAt_3 : decode cX12_heldAt 3 = .ok (.iload_n 1, 1) := by decide +kernel
theorem dheldAt_4 : decode cX12_heldAt 4 = .ok (.imul, 1) := by decide +kernel
theorem dheldAt_5 : decode cX12_heldAt 5 = .ok (.iload_n 2, 1) := by decide +kernel
theorem dheldAt_6 : decode cX12_heldAt 6 = .ok (.iadd, 1) := by decide +kernel
theorem dheldAt_7 : decode cX12_heldAt 7 = .ok (.bipush 10, 2) := by decide +kernel
theorem dheldAt_9 : decode cX12_heldAt 9 = .ok (.imul, 1) := by decide +kernel
theorem dheldAt_10 : decode cX12_heldAt 10 = .ok (.iload_n 3, 1) := by decide +kernel
theorem dheldAt_11 : decode cX12_heldAt 11 = .ok (.iadd, 1) := by decide +kernel
theorem dheldAt_12 : decode cX12_heldAt 12 = .ok (.ireturn, 1) := by decide +kernel
section
variable {l : Launch} {D : va_G} {cA : Nat → ClassId} {ad : Nat → Nat}
theorem s_heldAt {a1 a2 a3 : Int} {h : ja_H} {Q : Option ja_V → ja_H → Prop} (g : mo_G mo_zr h) (r1 : -2147483648 ≤ a1 ∧ a1 ≤ 2147483647) (r2 : -2147483648 ≤ a2 ∧ a2 ≤ 2147483647) (r3 : -2147483648 ≤ a3 ∧ a3 ≤ 2147483647) (p1 : 0 ≤ a1 ∧ a1 ≤ 7) (p2 : 0 ≤ a2 ∧ a2 ≤ 200) (p3 : 0 ≤ a3 ∧ a3 ≤ 9) (k1 : ∀ (v : Int), (0 ≤ v ∧ v ≤ 16079) → Q (some (0, v)) h) : mM_heldAt l D cA ad a1 a2 a3 h Q := by
  show mJ l D cA ad 1 cX12_heldAt 4 (some .int) 0 [(0, (2, ((0 : Nat) : Int))), (1, (0, a1)), (2, (0, a2)), (3, (0, a3))] [] h Q
  refine ja_sipush 201 dheldAt_0 rfl ?_
  refine ja_iload_n dheldAt_3 rfl rfl ?_
  refine ja_imul dheldAt_4 ?_
  refine ja_iload_n dheldAt_5 rfl rfl ?_
  refine ja_iadd dheldAt_6 ?_
  refine ja_bipush 10 dheldAt_7 rfl ?_
  refine ja_imul dheldAt_9 ?_
  refine ja_iload_n dheldAt_10 rfl rfl ?_
  refine ja_iadd dheldAt_11 ?_
  refine ja_ireturn dheldAt_12 rfl ?_
  exact mo_fin (by omega) rfl (k1 ((((201 * a1) + a2) * 10) + a3) (by omega))
theorem t_heldAt {a1 a2 a3 : Int} {d nL pc : Nat} {cc : ByteArray} {rt : Option FieldType} {L : List (Nat × ja_V)} {S : List ja_V} {h : ja_H} {Q : Option ja_V → ja_H → Prop} (hdd : 1 < d) (hwd : ja_wd S ≤ 8) (hd : decode cc pc = .ok (.invokevirtual 1102, 3)) (g : mo_G mo_zr h) (r1 : -2147483648 ≤ a1 ∧ a1 ≤ 2147483647) (r2 : -2147483648 ≤ a2 ∧ a2 ≤ 2147483647) (r3 : -2147483648 ≤ a3 ∧ a3 ≤ 2147483647) (p1 : 0 ≤ a1 ∧ a1 ≤ 7) (p2 : 0 ≤ a2 ∧ a2 ≤ 200) (p3 : 0 ≤ a3 ∧ a3 ≤ 9) (k1 : ∀ (v : Int), (0 ≤ v ∧ v ≤ 16079) → mJ l D cA ad d cc nL rt (pc + 3) L ((0, v) :: S) h Q) : mJ l D cA ad d cc nL rt pc L ((0, a3) :: (0, a2) :: (0, a1) :: (2, ((0 : Nat) : Int)) :: S) h Q :=
  mc_heldAt hdd hwd hd (s_heldAt g r1 r2 r3 p1 p2 p3 k1)
end
theorem dfault_0 : decode cX12_fault 0 = .ok (.aload_n 0, 1) := by decide +kernel
theorem dfault_1 : decode cX12_fault 1 = .ok (.iload_n 1, 1) := by decide +kernel
theorem dfault_2 : decode cX12_fault 2 = .ok (.ifCond .lt 8, 3) := by decide +kernel
theorem dfault_5 : decode cX12_fault 5 = .ok (.iload_n 1, 1) := by decide +kernel
theorem dfault_6 : decode cX12_fault 6 = .ok (.iconst 1, 1) := by decide +kernel
theorem dfault_7 : decode cX12_fault 7 = .ok (.if_icmp .le 7, 3) := by decide +kernel
theorem dfault_10 : decode cX12_fault 10 = .ok (.iconst 1, 1) := by decide +kernel
theorem dfault_11 : decode cX12_fault 11 = .ok (.goto 4, 3) := by decide +kernel
theorem dfault_14 : decode cX12_fault 14 = .ok (.iconst 0, 1) := by decide +kernel
theorem dfault_15 : decode cX12_fault 15 = .ok (.putfield 423, 3) := by decide +kernel
theorem dfault_18 : decode cX12_fault 18 = .ok (.aload_n 0, 1) := by decide +kernel
theorem dfault_19 : decode cX12_fault 19 = .ok (.getfield 423, 3) := by decide +kernel
theorem dfault_22 : decode cX12_fault 22 = .ok (.ifCond .le 7, 3) := by decide +kernel
theorem dfault_25 : decode cX12_fault 25 = .ok (.iconst 0, 1) := by decide +kernel
theorem dfault_26 : decode cX12_fault 26 = .ok (.goto 29, 3) := by decide +kernel
theorem dfault_29 : decode cX12_fault 29 = .ok (.aload_n 0, 1) := by decide +kernel
theorem dfault_30 : decode cX12_fault 30 = .ok (.getfield 577, 3) := by decide +kernel
theorem dfault_33 : decode cX12_fault 33 = .ok (.ifCond .ne 7, 3) := by decide +kernel
theorem dfault_36 : decode cX12_fault 36 = .ok (.iconst (-1), 1) := by decide +kernel
theorem dfault_37 : decode cX12_fault 37 = .ok (.goto 18, 3) := by decide +kernel
theorem dfault_40 : decode cX12_fault 40 = .ok (.iload_n 1, 1) := by decide +kernel
theorem dfault_41 : decode cX12_fault 41 = .ok (.ifCond .ne 10, 3) := by decide +kernel
theorem dfault_44 : decode cX12_fault 44 = .ok (.aload_n 0, 1) := by decide +kernel
theorem dfault_45 : decode cX12_fault 45 = .ok (.getfield 580, 3) := by decide +kernel
theorem dfault_48 : decode cX12_fault 48 = .ok (.goto 7, 3) := by decide +kernel
theorem dfault_51 : decode cX12_fault 51 = .ok (.aload_n 0, 1) := by decide +kernel
theorem dfault_52 : decode cX12_fault 52 = .ok (.getfield 644, 3) := by decide +kernel
theorem dfault_55 : decode cX12_fault 55 = .ok (.ireturn, 1) := by decide +kernel
section
variable {l : Launch} {D : va_G} {cA : Nat → ClassId} {ad : Nat → Nat}
theorem s_fault {a1 : Int} {h : ja_H} {Q : Option ja_V → ja_H → Prop} (g : mo_G mo_zr h) (r1 : -2147483648 ≤ a1 ∧ a1 ≤ 2147483647) (k1 : ∀ (v t : Int), (0 ≤ t ∧ t ≤ 2) → mo_G mo_zr (ja_up h 0 208 t) → Q (some (0, v)) (ja_up h 0 208 t)) : mM_fault l D cA ad a1 h Q := by
  show mJ l D cA ad 1 cX12_fault 2 (some .int) 0 [(0, (2, ((0 : Nat) : Int))), (1, (0, a1))] [] h Q
  have kn_points := gF_points g
  have kn_advices := gF_advices g
  have kn_findings := gF_findings g
  have kn_classes := gF_classes g
  have kn_objects := gF_objects g
  have kn_outputs := gF_outputs g
  have kn_rows := gF_rows g
  refine ja_aload_n dfault_0 rfl rfl ?_
  refine ja_iload_n dfault_1 rfl rfl ?_
  refine ja_if_lt 10 dfault_2 rfl ⟨by omega, by omega⟩ (fun c2 => ?_) (fun c2 => ?_)
  · refine ja_iconst dfault_10 ?_
    refine ja_goto 15 dfault_11 rfl ?_
    have g1 := gP_thrown g (x := 1) ⟨by decide, by decide⟩
    refine fp_thrown dfault_15 ?_
    refine ja_aload_n dfault_18 rfl rfl ?_
    refine fg_thrown (v := 1) rfl dfault_19 ?_
    refine ja_if_le 29 dfault_22 rfl ⟨by decide, by decide⟩ (fun c22 => absurd c22 (by omega)) (fun c22 => ?_)
    refine ja_iconst dfault_25 ?_
    refine ja_goto 55 dfault_26 rfl ?_
    refine ja_ireturn dfault_55 rfl ?_
    exact mo_fin (by omega) rfl (k1 0 1 (by omega) g1)
  · refine ja_iload_n dfault_5 rfl rfl ?_
    refine ja_iconst dfault_6 ?_
    refine ja_icmp_le 14 dfault_7 rfl ⟨by omega, by omega⟩ ⟨by decide, by decide⟩ (fun c7 => ?_) (fun c7 => ?_)
    · refine ja_iconst dfault_14 ?_
      have g2 := gP_thrown g (x := 0) ⟨by decide, by decide⟩
      refine fp_thrown dfault_15 ?_
      refine ja_aload_n dfault_18 rfl rfl ?_
      refine fg_thrown (v := 0) rfl dfault_19 ?_
      refine ja_if_le 29 dfault_22 rfl ⟨by decide, by decide⟩ (fun c22 => ?_) (fun c22 => absurd c22 (by omega))
      refine ja_aload_n dfault_29 rfl rfl ?_
      refine fg_bad (v := h 0 8) rfl dfault_30 ?_
      have f3 := gF_bad g
      refine ja_if_ne 40 dfault_33 rfl ⟨by omega, by omega⟩ (fun c33 => ?_) (fun c33 => ?_)
      · refine ja_iload_n dfault_40 rfl rfl ?_
        refine ja_if_ne 51 dfault_41 rfl ⟨by omega, by omega⟩ (fun c41 => ?_) (fun c41 => ?_)
        · refine ja_aload_n dfault_51 rfl rfl ?_
          refine fg_badLine (v := h 0 10) rfl dfault_52 ?_
          have f4 := gF_badLine g
          refine ja_ireturn dfault_55 rfl ?_
          exact mo_fin (by omega) rfl (k1 (h 0 10) 0 (by omega) g2)
        · refine ja_aload_n dfault_44 rfl rfl ?_
          refine fg_badAt (v := h 0 9) rfl dfault_45 ?_
          have f5 := gF_badAt g
          refine ja_goto 55 dfault_48 rfl ?_
          refine ja_ireturn dfault_55 rfl ?_
          exact mo_fin (by omega) rfl (k1 (h 0 9) 0 (by omega) g2)
      · refine ja_iconst dfault_36 ?_
        refine ja_goto 55 dfault_37 rfl ?_
        refine ja_ireturn dfault_55 rfl ?_
        exact mo_fin (by omega) rfl (k1 (-1) 0 (by omega) g2)
    · refine ja_iconst dfault_10 ?_
      refine ja_goto 15 dfault_11 rfl ?_
      have g6 := gP_thrown g (x := 1) ⟨by decide, by decide⟩
      refine fp_thrown dfault_15 ?_
      refine ja_aload_n dfault_18 rfl rfl ?_
      refine fg_thrown (v := 1) rfl dfault_19 ?_
      refine ja_if_le 29 dfault_22 rfl ⟨by decide, by decide⟩ (fun c22 => absurd c22 (by omega)) (fun c22 => ?_)
      refine ja_iconst dfault_25 ?_
      refine ja_goto 55 dfault_26 rfl ?_
      refine ja_ireturn dfault_55 rfl ?_
      exact mo_fin (by omega) rfl (k1 0 1 (by omega) g6)
end
theorem dcount_0 : decode cX12_count 0 = .ok (.aload_n 0, 1) := by decide +kernel
theorem dcount_1 : decode cX12_count 1 = .ok (.iload_n 1, 1) := by decide +kernel
theorem dcount_2 : decode cX12_count 2 = .ok (.ifCond .lt 9, 3) := by decide +kernel
theorem dcount_5 : decode cX12_count 5 = .ok (.iload_n 1, 1) := by decide +kernel
theorem dcount_6 : decode cX12_count 6 = .ok (.bipush 6, 2) := by decide +kernel
theorem dcount_8 : decode cX12_count 8 = .ok (.if_icmp .le 7, 3) := by decide +kernel
theorem dcount_11 : decode cX12_count 11 = .ok (.iconst 1, 1) := by decide +kernel
theorem dcount_12 : decode cX12_count 12 = .ok (.goto 4, 3) := by decide +kernel
theorem dcount_15 : decode cX12_count 15 = .ok (.iconst 0, 1) := by decide +kernel
theorem dcount_16 : decode cX12_count 16 = .ok (.putfield 423, 3) := by decide +kernel
theorem dcount_19 : decode cX12_count 19 = .ok (.aload_n 0, 1) := by decide +kernel
theorem dcount_20 : decode cX12_count 20 = .ok (.getfield 423, 3) := by decide +kernel
theorem dcount_23 : decode cX12_count 23 = .ok (.ifCond .gt 10, 3) := by decide +kernel
theorem dcount_26 : decode cX12_count 26 = .ok (.aload_n 0, 1) := by decide +kernel
theorem dcount_27 : decode cX12_count 27 = .ok (.getfield 430, 3) := by decide +kernel
theorem dcount_30 : decode cX12_count 30 = .ok (.ifCond .ne 5, 3) := by decide +kernel
theorem dcount_33 : decode cX12_count 33 = .ok (.iconst 0, 1) := by decide +kernel
theorem dcount_34 : decode cX12_count 34 = .ok (.ireturn, 1) := by decide +kernel
theorem dcount_35 : decode cX12_count 35 = .ok (.iload_n 1, 1) := by decide +kernel
theorem dcount_36 : decode cX12_count 36 = .ok (.ifCond .ne 10, 3) := by decide +kernel
theorem dcount_39 : decode cX12_count 39 = .ok (.aload_n 0, 1) := by decide +kernel
theorem dcount_40 : decode cX12_count 40 = .ok (.getfield 647, 3) := by decide +kernel
theorem dcount_43 : decode cX12_count 43 = .ok (.goto 67, 3) := by decide +kernel
theorem dcount_46 : decode cX12_count 46 = .ok (.iload_n 1, 1) := by decide +kernel
theorem dcount_47 : decode cX12_count 47 = .ok (.iconst 1, 1) := by decide +kernel
theorem dcount_48 : decode cX12_count 48 = .ok (.if_icmp .ne 10, 3) := by decide +kernel
theorem dcount_51 : decode cX12_count 51 = .ok (.aload_n 0, 1) := by decide +kernel
theorem dcount_52 : decode cX12_count 52 = .ok (.getfield 656, 3) := by decide +kernel
theorem dcount_55 : decode cX12_count 55 = .ok (.goto 55, 3) := by decide +kernel
theorem dcount_58 : decode cX12_count 58 = .ok (.iload_n 1, 1) := by decide +kernel
theorem dcount_59 : decode cX12_count 59 = .ok (.iconst 2, 1) := by decide +kernel
theorem dcount_60 : decode cX12_count 60 = .ok (.if_icmp .ne 10, 3) := by decide +kernel
theorem dcount_63 : decode cX12_count 63 = .ok (.aload_n 0, 1) := by decide +kernel
theorem dcount_64 : decode cX12_count 64 = .ok (.getfield 650, 3) := by decide +kernel
theorem dcount_67 : decode cX12_count 67 = .ok (.goto 43, 3) := by decide +kernel
theorem dcount_70 : decode cX12_count 70 = .ok (.iload_n 1, 1) := by decide +kernel
theorem dcount_71 : decode cX12_count 71 = .ok (.iconst 3, 1) := by decide +kernel
theorem dcount_72 : decode cX12_count 72 = .ok (.if_icmp .ne 10, 3) := by decide +kernel
theorem dcount_75 : decode cX12_count 75 = .ok (.aload_n 0, 1) := by decide +kernel
theorem dcount_76 : decode cX12_count 76 = .ok (.getfield 662, 3) := by decide +kernel
theorem dcount_79 : decode cX12_count 79 = .ok (.goto 31, 3) := by decide +kernel
theorem dcount_82 : decode cX12_count 82 = .ok (.iload_n 1, 1) := by decide +kernel
theorem dcount_83 : decode cX12_count 83 = .ok (.iconst 4, 1) := by decide +kernel
theorem dcount_84 : decode cX12_count 84 = .ok (.if_icmp .ne 10, 3) := by decide +kernel
theorem dcount_87 : decode cX12_count 87 = .ok (.aload_n 0, 1) := by decide +kernel
theorem dcount_88 : decode cX12_count 88 = .ok (.getfield 617, 3) := by decide +kernel
theorem dcount_91 : decode cX12_count 91 = .ok (.goto 19, 3) := by decide +kernel
theorem dcount_94 : decode cX12_count 94 = .ok (.iload_n 1, 1) := by decide +kernel
theorem dcount_95 : decode cX12_count 95 = .ok (.iconst 5, 1) := by decide +kernel
theorem dcount_96 : decode cX12_count 96 = .ok (.if_icmp .ne 10, 3) := by decide +kernel
theorem dcount_99 : decode cX12_count 99 = .ok (.aload_n 0, 1) := by decide +kernel
theorem dcount_100 : decode cX12_count 100 = .ok (.getfield 665, 3) := by decide +kernel
theorem dcount_103 : decode cX12_count 103 = .ok (.goto 7, 3) := by decide +kernel
theorem dcount_106 : decode cX12_count 106 = .ok (.aload_n 0, 1) := by decide +kernel
theorem dcount_107 : decode cX12_count 107 = .ok (.getfield 707, 3) := by decide +kernel
theorem dcount_110 : decode cX12_count 110 = .ok (.ireturn, 1) := by decide +kernel
section
variable {l : Launch} {D : va_G} {cA : Nat → ClassId} {ad : Nat → Nat}
theorem s_count {a1 : Int} {h : ja_H} {Q : Option ja_V → ja_H → Prop} (g : mo_G mo_zr h) (r1 : -2147483648 ≤ a1 ∧ a1 ≤ 2147483647) (k1 : ∀ (v t : Int), (0 ≤ t ∧ t ≤ 2) → mo_G mo_zr (ja_up h 0 208 t) → Q (some (0, v)) (ja_up h 0 208 t)) : mM_count l D cA ad a1 h Q := by
  show mJ l D cA ad 1 cX12_count 2 (some .int) 0 [(0, (2, ((0 : Nat) : Int))), (1, (0, a1))] [] h Q
  have kn_points := gF_points g
  have kn_advices := gF_advices g
  have kn_findings := gF_findings g
  have kn_classes := gF_classes g
  have kn_objects := gF_objects g
  have kn_outputs := gF_outputs g
  have kn_rows := gF_rows g
  refine ja_aload_n dcount_0 rfl rfl ?_
  refine ja_iload_n dcount_1 rfl rfl ?_
  refine ja_if_lt 11 dcount_2 rfl ⟨by omega, by omega⟩ (fun c2 => ?_) (fun c2 => ?_)
  · refine ja_iconst dcount_11 ?_
    refine ja_goto 16 dcount_12 rfl ?_
    have g1 := gP_thrown g (x := 1) ⟨by decide, by decide⟩
    refine fp_thrown dcount_16 ?_
    refine ja_aload_n dcount_19 rfl rfl ?_
    refine fg_thrown (v := 1) rfl dcount_20 ?_
    refine ja_if_gt 33 dcount_23 rfl ⟨by decide, by decide⟩ (fun c23 => ?_) (fun c23 => absurd c23 (by omega))
    refine ja_iconst dcount_33 ?_
    refine ja_ireturn dcount_34 rfl ?_
    exact mo_fin (by omega) rfl (k1 0 1 (by omega) g1)
  · refine ja_iload_n dcount_5 rfl rfl ?_
    refine ja_bipush 6 dcount_6 rfl ?_
    refine ja_icmp_le 15 dcount_8 rfl ⟨by omega, by omega⟩ ⟨by decide, by decide⟩ (fun c8 => ?_) (fun c8 => ?_)
    · refine ja_iconst dcount_15 ?_
      have g2 := gP_thrown g (x := 0) ⟨by decide, by decide⟩
      refine fp_thrown dcount_16 ?_
      refine ja_aload_n dcount_19 rfl rfl ?_
      refine fg_thrown (v := 0) rfl dcount_20 ?_
      refine ja_if_gt 33 dcount_23 rfl ⟨by decide, by decide⟩ (fun c23 => absurd c23 (by omega)) (fun c23 => ?_)
      refine ja_aload_n dcount_26 rfl rfl ?_
      refine fg_compiled (v := h 0 118) rfl dcount_27 ?_
      have f3 := gF_compiled g
      refine ja_if_ne 35 dcount_30 rfl ⟨by omega, by omega⟩ (fun c30 => ?_) (fun c30 => ?_)
      · refine ja_iload_n dcount_35 rfl rfl ?_
        refine ja_if_ne 46 dcount_36 rfl ⟨by omega, by omega⟩ (fun c36 => ?_) (fun c36 => ?_)
        · refine ja_iload_n dcount_46 rfl rfl ?_
          refine ja_iconst dcount_47 ?_
          refine ja_icmp_ne 58 dcount_48 rfl ⟨by omega, by omega⟩ ⟨by decide, by decide⟩ (fun c48 => ?_) (fun c48 => ?_)
          · refine ja_iload_n dcount_58 rfl rfl ?_
            refine ja_iconst dcount_59 ?_
            refine ja_icmp_ne 70 dcount_60 rfl ⟨by omega, by omega⟩ ⟨by decide, by decide⟩ (fun c60 => ?_) (fun c60 => ?_)
            · refine ja_iload_n dcount_70 rfl rfl ?_
              refine ja_iconst dcount_71 ?_
              refine ja_icmp_ne 82 dcount_72 rfl ⟨by omega, by omega⟩ ⟨by decide, by decide⟩ (fun c72 => ?_) (fun c72 => ?_)
              · refine ja_iload_n dcount_82 rfl rfl ?_
                refine ja_iconst dcount_83 ?_
                refine ja_icmp_ne 94 dcount_84 rfl ⟨by omega, by omega⟩ ⟨by decide, by decide⟩ (fun c84 => ?_) (fun c84 => ?_)
                · refine ja_iload_n dcount_94 rfl rfl ?_
                  refine ja_iconst dcount_95 ?_
                  refine ja_icmp_ne 106 dcount_96 rfl ⟨by omega, by omega⟩ ⟨by decide, by decide⟩ (fun c96 => ?_) (fun c96 => ?_)
                  · refine ja_aload_n dcount_106 rfl rfl ?_
                    refine fg_findings (v := h 0 119) rfl dcount_107 ?_
                    have f4 := gF_findings g
                    refine ja_ireturn dcount_110 rfl ?_
                    exact mo_fin (by omega) rfl (k1 (h 0 119) 0 (by omega) g2)
                  · refine ja_aload_n dcount_99 rfl rfl ?_
                    refine fg_picks (v := h 0 52) rfl dcount_100 ?_
                    have f5 := gF_picks g
                    refine ja_goto 110 dcount_103 rfl ?_
                    refine ja_ireturn dcount_110 rfl ?_
                    exact mo_fin (by omega) rfl (k1 (h 0 52) 0 (by omega) g2)
                · refine ja_aload_n dcount_87 rfl rfl ?_
                  refine fg_points (v := h 0 88) rfl dcount_88 ?_
                  have f6 := gF_points g
                  refine ja_goto 110 dcount_91 rfl ?_
                  refine ja_ireturn dcount_110 rfl ?_
                  exact mo_fin (by omega) rfl (k1 (h 0 88) 0 (by omega) g2)
              · refine ja_aload_n dcount_75 rfl rfl ?_
                refine fg_advices (v := h 0 44) rfl dcount_76 ?_
                have f7 := gF_advices g
                refine ja_goto 110 dcount_79 rfl ?_
                refine ja_ireturn dcount_110 rfl ?_
                exact mo_fin (by omega) rfl (k1 (h 0 44) 0 (by omega) g2)
            · refine ja_aload_n dcount_63 rfl rfl ?_
              refine fg_aspects (v := h 0 26) rfl dcount_64 ?_
              have f8 := gF_aspects g
              refine ja_goto 110 dcount_67 rfl ?_
              refine ja_ireturn dcount_110 rfl ?_
              exact mo_fin (by omega) rfl (k1 (h 0 26) 0 (by omega) g2)
          · refine ja_aload_n dcount_51 rfl rfl ?_
            refine fg_methods (v := h 0 34) rfl dcount_52 ?_
            have f9 := gF_methods g
            refine ja_goto 110 dcount_55 rfl ?_
            refine ja_ireturn dcount_110 rfl ?_
            exact mo_fin (by omega) rfl (k1 (h 0 34) 0 (by omega) g2)
        · refine ja_aload_n dcount_39 rfl rfl ?_
          refine fg_classes (v := h 0 22) rfl dcount_40 ?_
          have f10 := gF_classes g
          refine ja_goto 110 dcount_43 rfl ?_
          refine ja_ireturn dcount_110 rfl ?_
          exact mo_fin (by omega) rfl (k1 (h 0 22) 0 (by omega) g2)
      · refine ja_iconst dcount_33 ?_
        refine ja_ireturn dcount_34 rfl ?_
        exact mo_fin (by omega) rfl (k1 0 0 (by omega) g2)
    · refine ja_iconst dcount_11 ?_
      refine ja_goto 16 dcount_12 rfl ?_
      have g11 := gP_thrown g (x := 1) ⟨by decide, by decide⟩
      refine fp_thrown dcount_16 ?_
      refine ja_aload_n dcount_19 rfl rfl ?_
      refine fg_thrown (v := 1) rfl dcount_20 ?_
      refine ja_if_gt 33 dcount_23 rfl ⟨by decide, by decide⟩ (fun c23 => ?_) (fun c23 => absurd c23 (by omega))
      refine ja_iconst dcount_33 ?_
      refine ja_ireturn dcount_34 rfl ?_
      exact mo_fin (by omega) rfl (k1 0 1 (by omega) g11)
end
theorem dpoint_0 : decode cX12_point 0 = .ok (.aload_n 0, 1) := by decide +kernel
theorem dpoint_1 : decode cX12_point 1 = .ok (.aload_n 0, 1) := by decide +kernel
theorem dpoint_2 : decode cX12_point 2 = .ok (.getfield 430, 3) := by decide +kernel
theorem dpoint_5 : decode cX12_point 5 = .ok (.ifCond .eq 24, 3) := by decide +kernel
theorem dpoint_8 : decode cX12_point 8 = .ok (.iload_n 1, 1) := by decide +kernel
theorem dpoint_9 : decode cX12_point 9 = .ok (.ifCond .lt 20, 3) := by decide +kernel
theorem dpoint_12 : decode cX12_point 12 = .ok (.iload_n 1, 1) := by decide +kernel
theorem dpoint_13 : decode cX12_point 13 = .ok (.aload_n 0, 1) := by decide +kernel
theorem dpoint_14 : decode cX12_point 14 = .ok (.getfield 617, 3) := by decide +kernel
theorem dpoint_17 : decode cX12_point 17 = .ok (.if_icmp .ge 12, 3) := by decide +kernel
theorem dpoint_20 : decode cX12_point 20 = .ok (.iload_n 2, 1) := by decide +kernel
theorem dpoint_21 : decode cX12_point 21 = .ok (.ifCond .lt 8, 3) := by decide +kernel
theorem dpoint_24 : decode cX12_point 24 = .ok (.iload_n 2, 1) := by decide +kernel
theorem dpoint_25 : decode cX12_point 25 = .ok (.iconst 4, 1) := by decide +kernel
theorem dpoint_26 : decode cX12_point 26 = .ok (.if_icmp .le 7, 3) := by decide +kernel
theorem dpoint_29 : decode cX12_point 29 = .ok (.iconst 1, 1) := by decide +kernel
theorem dpoint_30 : decode cX12_point 30 = .ok (.goto 4, 3) := by decide +kernel
theorem dpoint_33 : decode cX12_point 33 = .ok (.iconst 0, 1) := by decide +kernel
theorem dpoint_34 : decode cX12_point 34 = .ok (.putfield 423, 3) := by decide +kernel
theorem dpoint_37 : decode cX12_point 37 = .ok (.aload_n 0, 1) := by decide +kernel
theorem dpoint_38 : decode cX12_point 38 = .ok (.getfield 423, 3) := by decide +kernel
theorem dpoint_41 : decode cX12_point 41 = .ok (.ifCond .le 5, 3) := by decide +kernel
theorem dpoint_44 : decode cX12_point 44 = .ok (.iconst 0, 1) := by decide +kernel
theorem dpoint_45 : decode cX12_point 45 = .ok (.ireturn, 1) := by decide +kernel
theorem dpoint_46 : decode cX12_point 46 = .ok (.iload_n 2, 1) := by decide +kernel
theorem dpoint_47 : decode cX12_point 47 = .ok (.ifCond .ne 12, 3) := by decide +kernel
theorem dpoint_50 : decode cX12_point 50 = .ok (.aload_n 0, 1) := by decide +kernel
theorem dpoint_51 : decode cX12_point 51 = .ok (.getfield 164, 3) := by decide +kernel
theorem dpoint_54 : decode cX12_point 54 = .ok (.iload_n 1, 1) := by decide +kernel
theorem dpoint_55 : decode cX12_point 55 = .ok (.iaload, 1) := by decide +kernel
theorem dpoint_56 : decode cX12_point 56 = .ok (.goto 56, 3) := by decide +kernel
theorem dpoint_59 : decode cX12_point 59 = .ok (.iload_n 2, 1) := by decide +kernel
theorem dpoint_60 : decode cX12_point 60 = .ok (.iconst 1, 1) := by decide +kernel
theorem dpoint_61 : decode cX12_point 61 = .ok (.if_icmp .ne 17, 3) := by decide +kernel
theorem dpoint_64 : decode cX12_point 64 = .ok (.aload_n 0, 1) := by decide +kernel
theorem dpoint_65 : decode cX12_point 65 = .ok (.getfield 16, 3) := by decide +kernel
theorem dpoint_68 : decode cX12_point 68 = .ok (.aload_n 0, 1) := by decide +kernel
theorem dpoint_69 : decode cX12_point 69 = .ok (.getfield 167, 3) := by decide +kernel
theorem dpoint_72 : decode cX12_point 72 = .ok (.iload_n 1, 1) := by decide +kernel
theorem dpoint_73 : decode cX12_point 73 = .ok (.iaload, 1) := by decide +kernel
theorem dpoint_74 : decode cX12_point 74 = .ok (.iaload, 1) := by decide +kernel
theorem dpoint_75 : decode cX12_point 75 = .ok (.goto 37, 3) := by decide +kernel
theorem dpoint_78 : decode cX12_point 78 = .ok (.iload_n 2, 1) := by decide +kernel
theorem dpoint_79 : decode cX12_point 79 = .ok (.iconst 2, 1) := by decide +kernel
theorem dpoint_80 : decode cX12_point 80 = .ok (.if_icmp .ne 12, 3) := by decide +kernel
theorem dpoint_83 : decode cX12_point 83 = .ok (.aload_n 0, 1) := by decide +kernel
theorem dpoint_84 : decode cX12_point 84 = .ok (.getfield 173, 3) := by decide +kernel
theorem dpoint_87 : decode cX12_point 87 = .ok (.iload_n 1, 1) := by decide +kernel
theorem dpoint_88 : decode cX12_point 88 = .ok (.iaload, 1) := by decide +kernel
theorem dpoint_89 : decode cX12_point 89 = .ok (.goto 23, 3) := by decide +kernel
theorem dpoint_92 : decode cX12_point 92 = .ok (.iload_n 2, 1) := by decide +kernel
theorem dpoint_93 : decode cX12_point 93 = .ok (.iconst 3, 1) := by decide +kernel
theorem dpoint_94 : decode cX12_point 94 = .ok (.if_icmp .ne 12, 3) := by decide +kernel
theorem dpoint_97 : decode cX12_point 97 = .ok (.aload_n 0, 1) := by decide +kernel
theorem dpoint_98 : decode cX12_point 98 = .ok (.getfield 176, 3) := by decide +kernel
theorem dpoint_101 : decode cX12_point 101 = .ok (.iload_n 1, 1) := by decide +kernel
theorem dpoint_102 : decode cX12_point 102 = .ok (.iaload, 1) := by decide +kernel
theorem dpoint_103 : decode cX12_point 103 = .ok (.goto 9, 3) := by decide +kernel
theorem dpoint_106 : decode cX12_point 106 = .ok (.aload_n 0, 1) := by decide +kernel
theorem dpoint_107 : decode cX12_point 107 = .ok (.getfield 179, 3) := by decide +kernel
theorem dpoint_110 : decode cX12_point 110 = .ok (.iload_n 1, 1) := by decide +kernel
theorem dpoint_111 : decode cX12_point 111 = .ok (.iaload, 1) := by decide +kernel
theorem dpoint_112 : decode cX12_point 112 = .ok (.ireturn, 1) := by decide +kernel
section
variable {l : Launch} {D : va_G} {cA : Nat → ClassId} {ad : Nat → Nat}
theorem s_point {a1 a2 : Int} {h : ja_H} {Q : Option ja_V → ja_H → Prop} (g : mo_G mo_zr h) (r1 : -2147483648 ≤ a1 ∧ a1 ≤ 2147483647) (r2 : -2147483648 ≤ a2 ∧ a2 ≤ 2147483647) (k1 : ∀ (v t : Int), (0 ≤ t ∧ t ≤ 2) → mo_G mo_zr (ja_up h 0 208 t) → Q (some (0, v)) (ja_up h 0 208 t)) : mM_point l D cA ad a1 a2 h Q := by
  show mJ l D cA ad 1 cX12_point 3 (some .int) 0 [(0, (2, ((0 : Nat) : Int))), (1, (0, a1)), (2, (0, a2))] [] h Q
  have kn_points := gF_points g
  have kn_advices := gF_advices g
  have kn_findings := gF_findings g
  have kn_classes := gF_classes g
  have kn_objects := gF_objects g
  have kn_outputs := gF_outputs g
  have kn_rows := gF_rows g
  refine ja_aload_n dpoint_0 rfl rfl ?_
  refine ja_aload_n dpoint_1 rfl rfl ?_
  refine fg_compiled (v := h 0 118) rfl dpoint_2 ?_
  have f1 := gF_compiled g
  refine ja_if_eq 29 dpoint_5 rfl ⟨by omega, by omega⟩ (fun c5 => ?_) (fun c5 => ?_)
  · refine ja_iconst dpoint_29 ?_
    refine ja_goto 34 dpoint_30 rfl ?_
    have g2 := gP_thrown g (x := 1) ⟨by decide, by decide⟩
    refine fp_thrown dpoint_34 ?_
    refine ja_aload_n dpoint_37 rfl rfl ?_
    refine fg_thrown (v := 1) rfl dpoint_38 ?_
    refine ja_if_le 46 dpoint_41 rfl ⟨by decide, by decide⟩ (fun c41 => absurd c41 (by omega)) (fun c41 => ?_)
    refine ja_iconst dpoint_44 ?_
    refine ja_ireturn dpoint_45 rfl ?_
    exact mo_fin (by omega) rfl (k1 0 1 (by omega) g2)
  · refine ja_iload_n dpoint_8 rfl rfl ?_
    refine ja_if_lt 29 dpoint_9 rfl ⟨by omega, by omega⟩ (fun c9 => ?_) (fun c9 => ?_)
    · refine ja_iconst dpoint_29 ?_
      refine ja_goto 34 dpoint_30 rfl ?_
      have g3 := gP_thrown g (x := 1) ⟨by decide, by decide⟩
      refine fp_thrown dpoint_34 ?_
      refine ja_aload_n dpoint_37 rfl rfl ?_
      refine fg_thrown (v := 1) rfl dpoint_38 ?_
      refine ja_if_le 46 dpoint_41 rfl ⟨by decide, by decide⟩ (fun c41 => absurd c41 (by omega)) (fun c41 => ?_)
      refine ja_iconst dpoint_44 ?_
      refine ja_ireturn dpoint_45 rfl ?_
      exact mo_fin (by omega) rfl (k1 0 1 (by omega) g3)
    · refine ja_iload_n dpoint_12 rfl rfl ?_
      refine ja_aload_n dpoint_13 rfl rfl ?_
      refine fg_points (v := h 0 88) rfl dpoint_14 ?_
      have f4 := gF_points g
      refine ja_icmp_ge 29 dpoint_17 rfl ⟨by omega, by omega⟩ ⟨by omega, by omega⟩ (fun c17 => ?_) (fun c17 => ?_)
      · refine ja_iconst dpoint_29 ?_
        refine ja_goto 34 dpoint_30 rfl ?_
        have g5 := gP_thrown g (x := 1) ⟨by decide, by decide⟩
        refine fp_thrown dpoint_34 ?_
        refine ja_aload_n dpoint_37 rfl rfl ?_
        refine fg_thrown (v := 1) rfl dpoint_38 ?_
        refine ja_if_le 46 dpoint_41 rfl ⟨by decide, by decide⟩ (fun c41 => absurd c41 (by omega)) (fun c41 => ?_)
        refine ja_iconst dpoint_44 ?_
        refine ja_ireturn dpoint_45 rfl ?_
        exact mo_fin (by omega) rfl (k1 0 1 (by omega) g5)
      · refine ja_iload_n dpoint_20 rfl rfl ?_
        refine ja_if_lt 29 dpoint_21 rfl ⟨by omega, by omega⟩ (fun c21 => ?_) (fun c21 => ?_)
        · refine ja_iconst dpoint_29 ?_
          refine ja_goto 34 dpoint_30 rfl ?_
          have g6 := gP_thrown g (x := 1) ⟨by decide, by decide⟩
          refine fp_thrown dpoint_34 ?_
          refine ja_aload_n dpoint_37 rfl rfl ?_
          refine fg_thrown (v := 1) rfl dpoint_38 ?_
          refine ja_if_le 46 dpoint_41 rfl ⟨by decide, by decide⟩ (fun c41 => absurd c41 (by omega)) (fun c41 => ?_)
          refine ja_iconst dpoint_44 ?_
          refine ja_ireturn dpoint_45 rfl ?_
          exact mo_fin (by omega) rfl (k1 0 1 (by omega) g6)
        · refine ja_iload_n dpoint_24 rfl rfl ?_
          refine ja_iconst dpoint_25 ?_
          refine ja_icmp_le 33 dpoint_26 rfl ⟨by omega, by omega⟩ ⟨by decide, by decide⟩ (fun c26 => ?_) (fun c26 => ?_)
          · refine ja_iconst dpoint_33 ?_
            have g7 := gP_thrown g (x := 0) ⟨by decide, by decide⟩
            refine fp_thrown dpoint_34 ?_
            refine ja_aload_n dpoint_37 rfl rfl ?_
            refine fg_thrown (v := 0) rfl dpoint_38 ?_
            refine ja_if_le 46 dpoint_41 rfl ⟨by decide, by decide⟩ (fun c41 => ?_) (fun c41 => absurd c41 (by omega))
            refine ja_iload_n dpoint_46 rfl rfl ?_
            refine ja_if_ne 59 dpoint_47 rfl ⟨by omega, by omega⟩ (fun c47 => ?_) (fun c47 => ?_)
            · refine ja_iload_n dpoint_59 rfl rfl ?_
              refine ja_iconst dpoint_60 ?_
              refine ja_icmp_ne 78 dpoint_61 rfl ⟨by omega, by omega⟩ ⟨by decide, by decide⟩ (fun c61 => ?_) (fun c61 => ?_)
              · refine ja_iload_n dpoint_78 rfl rfl ?_
                refine ja_iconst dpoint_79 ?_
                refine ja_icmp_ne 92 dpoint_80 rfl ⟨by omega, by omega⟩ ⟨by decide, by decide⟩ (fun c80 => ?_) (fun c80 => ?_)
                · refine ja_iload_n dpoint_92 rfl rfl ?_
                  refine ja_iconst dpoint_93 ?_
                  refine ja_icmp_ne 106 dpoint_94 rfl ⟨by omega, by omega⟩ ⟨by decide, by decide⟩ (fun c94 => ?_) (fun c94 => ?_)
                  · refine ja_aload_n dpoint_106 rfl rfl ?_
                    refine fa_pointWhich dpoint_107 ?_
                    refine ja_iload_n dpoint_110 rfl rfl ?_
                    refine il_pointWhich (v := h 57 (a1).toNat) rfl ⟨by omega, by omega⟩ dpoint_111 ?_
                    have f8 := gC_pointWhich g (a1).toNat
                    refine ja_ireturn dpoint_112 rfl ?_
                    exact mo_fin (by omega) rfl (k1 (h 57 (a1).toNat) 0 (by omega) g7)
                  · refine ja_aload_n dpoint_97 rfl rfl ?_
                    refine fa_pointStands dpoint_98 ?_
                    refine ja_iload_n dpoint_101 rfl rfl ?_
                    refine il_pointStands (v := h 56 (a1).toNat) rfl ⟨by omega, by omega⟩ dpoint_102 ?_
                    have f9 := gC_pointStands g (a1).toNat
                    refine ja_goto 112 dpoint_103 rfl ?_
                    refine ja_ireturn dpoint_112 rfl ?_
                    exact mo_fin (by omega) rfl (k1 (h 56 (a1).toNat) 0 (by omega) g7)
                · refine ja_aload_n dpoint_83 rfl rfl ?_
                  refine fa_pointArgs dpoint_84 ?_
                  refine ja_iload_n dpoint_87 rfl rfl ?_
                  refine il_pointArgs (v := h 55 (a1).toNat) rfl ⟨by omega, by omega⟩ dpoint_88 ?_
                  have f10 := gC_pointArgs g (a1).toNat
                  refine ja_goto 112 dpoint_89 rfl ?_
                  refine ja_ireturn dpoint_112 rfl ?_
                  exact mo_fin (by omega) rfl (k1 (h 55 (a1).toNat) 0 (by omega) g7)
              · refine ja_aload_n dpoint_64 rfl rfl ?_
                refine fa_places dpoint_65 ?_
                refine ja_aload_n dpoint_68 rfl rfl ?_
                refine fa_pointToken dpoint_69 ?_
                refine ja_iload_n dpoint_72 rfl rfl ?_
                refine il_pointToken (v := h 53 (a1).toNat) rfl ⟨by omega, by omega⟩ dpoint_73 ?_
                have f11 := gC_pointToken g (a1).toNat
                refine il_places (v := h 3 (h 53 (a1).toNat).toNat) rfl ⟨by omega, by omega⟩ dpoint_74 ?_
                have f12 := gC_places g (h 53 (a1).toNat).toNat
                refine ja_goto 112 dpoint_75 rfl ?_
                refine ja_ireturn dpoint_112 rfl ?_
                exact mo_fin (by omega) rfl (k1 (h 3 (h 53 (a1).toNat).toNat) 0 (by omega) g7)
            · refine ja_aload_n dpoint_50 rfl rfl ?_
              refine fa_pointKind dpoint_51 ?_
              refine ja_iload_n dpoint_54 rfl rfl ?_
              refine il_pointKind (v := h 52 (a1).toNat) rfl ⟨by omega, by omega⟩ dpoint_55 ?_
              have f13 := gC_pointKind g (a1).toNat
              refine ja_goto 112 dpoint_56 rfl ?_
              refine ja_ireturn dpoint_112 rfl ?_
              exact mo_fin (by omega) rfl (k1 (h 52 (a1).toNat) 0 (by omega) g7)
          · refine ja_iconst dpoint_29 ?_
            refine ja_goto 34 dpoint_30 rfl ?_
            have g14 := gP_thrown g (x := 1) ⟨by decide, by decide⟩
            refine fp_thrown dpoint_34 ?_
            refine ja_aload_n dpoint_37 rfl rfl ?_
            refine fg_thrown (v := 1) rfl dpoint_38 ?_
            refine ja_if_le 46 dpoint_41 rfl ⟨by decide, by decide⟩ (fun c41 => absurd c41 (by omega)) (fun c41 => ?_)
            refine ja_iconst dpoint_44 ?_
            refine ja_ireturn dpoint_45 rfl ?_
            exact mo_fin (by omega) rfl (k1 0 1 (by omega) g14)
end
theorem dmeets_0 : decode cX12_meets 0 = .ok (.aload_n 0, 1) := by decide +kernel
theorem dmeets_1 : decode cX12_meets 1 = .ok (.aload_n 0, 1) := by decide +kernel
theorem dmeets_2 : decode cX12_meets 2 = .ok (.getfield 430, 3) := by decide +kernel
theorem dmeets_5 : decode cX12_meets 5 = .ok (.ifCond .eq 36, 3) := by decide +kernel
theorem dmeets_8 : decode cX12_meets 8 = .ok (.iload_n 1, 1) := by decide +kernel
theorem dmeets_9 : decode cX12_meets 9 = .ok (.ifCond .lt 32, 3) := by decide +kernel
theorem dmeets_12 : decode cX12_meets 12 = .ok (.iload_n 1, 1) := by decide +kernel
theorem dmeets_13 : decode cX12_meets 13 = .ok (.aload_n 0, 1) := by decide +kernel
theorem dmeets_14 : decode cX12_meets 14 = .ok (.getfield 662, 3) := by decide +kernel
theorem dmeets_17 : decode cX12_meets 17 = .ok (.if_icmp .ge 24, 3) := by decide +kernel
theorem dmeets_20 : decode cX12_meets 20 = .ok (.iload_n 2, 1) := by decide +kernel
theorem dmeets_21 : decode cX12_meets 21 = .ok (.ifCond .lt 20, 3) := by decide +kernel
theorem dmeets_24 : decode cX12_meets 24 = .ok (.iload_n 2, 1) := by decide +kernel
theorem dmeets_25 : decode cX12_meets 25 = .ok (.aload_n 0, 1) := by decide +kernel
theorem dmeets_26 : decode cX12_meets 26 = .ok (.getfield 617, 3) := by decide +kernel
theorem dmeets_29 : decode cX12_meets 29 = .ok (.if_icmp .ge 12, 3) := by decide +kernel
theorem dmeets_32 : decode cX12_meets 32 = .ok (.iload_n 3, 1) := by decide +kernel
theorem dmeets_33 : decode cX12_meets 33 = .ok (.ifCond .lt 8, 3) := by decide +kernel
theorem dmeets_36 : decode cX12_meets 36 = .ok (.iload_n 3, 1) := by decide +kernel
theorem dmeets_37 : decode cX12_meets 37 = .ok (.iconst 1, 1) := by decide +kernel
theorem dmeets_38 : decode cX12_meets 38 = .ok (.if_icmp .le 7, 3) := by decide +kernel
theorem dmeets_41 : decode cX12_meets 41 = .ok (.iconst 1, 1) := by decide +kernel
theorem dmeets_42 : decode cX12_meets 42 = .ok (.goto 4, 3) := by decide +kernel
theorem dmeets_45 : decode cX12_meets 45 = .ok (.iconst 0, 1) := by decide +kernel
theorem dmeets_46 : decode cX12_meets 46 = .ok (.putfield 423, 3) := by decide +kernel
theorem dmeets_49 : decode cX12_meets 49 = .ok (.aload_n 0, 1) := by decide +kernel
theorem dmeets_50 : decode cX12_meets 50 = .ok (.getfield 423, 3) := by decide +kernel
theorem dmeets_53 : decode cX12_meets 53 = .ok (.ifCond .le 5, 3) := by decide +kernel
theorem dmeets_56 : decode cX12_meets 56 = .ok (.iconst 0, 1) := by decide +kernel
theorem dmeets_57 : decode cX12_meets 57 = .ok (.ireturn, 1) := by decide +kernel
theorem dmeets_58 : decode cX12_meets 58 = .ok (.iload_n 3, 1) := by decide +kernel
theorem dmeets_59 : decode cX12_meets 59 = .ok (.ifCond .ne 23, 3) := by decide +kernel
theorem dmeets_62 : decode cX12_meets 62 = .ok (.aload_n 0, 1) := by decide +kernel
theorem dmeets_63 : decode cX12_meets 63 = .ok (.getfield 222, 3) := by decide +kernel
theorem dmeets_66 : decode cX12_meets 66 = .ok (.sipush 400, 3) := by decide +kernel
theorem dmeets_69 : decode cX12_meets 69 = .ok (.aload_n 0, 1) := by decide +kernel
theorem dmeets_70 : decode cX12_meets 70 = .ok (.getfield 101, 3) := by decide +kernel
theorem dmeets_73 : decode cX12_meets 73 = .ok (.iload_n 1, 1) := by decide +kernel
theorem dmeets_74 : decode cX12_meets 74 = .ok (.iaload, 1) := by decide +kernel
theorem dmeets_75 : decode cX12_meets 75 = .ok (.imul, 1) := by decide +kernel
theorem dmeets_76 : decode cX12_meets 76 = .ok (.iload_n 2, 1) := by decide +kernel
theorem dmeets_77 : decode cX12_meets 77 = .ok (.iadd, 1) := by decide +kernel
theorem dmeets_78 : decode cX12_meets 78 = .ok (.iaload, 1) := by decide +kernel
theorem dmeets_79 : decode cX12_meets 79 = .ok (.goto 20, 3) := by decide +kernel
theorem dmeets_82 : decode cX12_meets 82 = .ok (.aload_n 0, 1) := by decide +kernel
theorem dmeets_83 : decode cX12_meets 83 = .ok (.getfield 225, 3) := by decide +kernel
theorem dmeets_86 : decode cX12_meets 86 = .ok (.sipush 400, 3) := by decide +kernel
theorem dmeets_89 : decode cX12_meets 89 = .ok (.aload_n 0, 1) := by decide +kernel
theorem dmeets_90 : decode cX12_meets 90 = .ok (.getfield 101, 3) := by decide +kernel
theorem dmeets_93 : decode cX12_meets 93 = .ok (.iload_n 1, 1) := by decide +kernel
theorem dmeets_94 : decode cX12_meets 94 = .ok (.iaload, 1) := by decide +kernel
theorem dmeets_95 : decode cX12_meets 95 = .ok (.imul, 1) := by decide +kernel
theorem dmeets_96 : decode cX12_meets 96 = .ok (.iload_n 2, 1) := by decide +kernel
theorem dmeets_97 : decode cX12_meets 97 = .ok (.iadd, 1) := by decide +kernel
theorem dmeets_98 : decode cX12_meets 98 = .ok (.iaload, 1) := by decide +kernel
theorem dmeets_99 : decode cX12_meets 99 = .ok (.ireturn, 1) := by decide +kernel
section
variable {l : Launch} {D : va_G} {cA : Nat → ClassId} {ad : Nat → Nat}
theorem s_meets {a1 a2 a3 : Int} {h : ja_H} {Q : Option ja_V → ja_H → Prop} (g : mo_G mo_zr h) (r1 : -2147483648 ≤ a1 ∧ a1 ≤ 2147483647) (r2 : -2147483648 ≤ a2 ∧ a2 ≤ 2147483647) (r3 : -2147483648 ≤ a3 ∧ a3 ≤ 2147483647) (k1 : ∀ (v t : Int), (0 ≤ t ∧ t ≤ 2) → mo_G mo_zr (ja_up h 0 208 t) → Q (some (0, v)) (ja_up h 0 208 t)) : mM_meets l D cA ad a1 a2 a3 h Q := by
  show mJ l D cA ad 1 cX12_meets 4 (some .int) 0 [(0, (2, ((0 : Nat) : Int))), (1, (0, a1)), (2, (0, a2)), (3, (0, a3))] [] h Q
  have kn_points := gF_points g
  have kn_advices := gF_advices g
  have kn_findings := gF_findings g
  have kn_classes := gF_classes g
  have kn_objects := gF_objects g
  have kn_outputs := gF_outputs g
  have kn_rows := gF_rows g
  refine ja_aload_n dmeets_0 rfl rfl ?_
  refine ja_aload_n dmeets_1 rfl rfl ?_
  refine fg_compiled (v := h 0 118) rfl dmeets_2 ?_
  have f1 := gF_compiled g
  refine ja_if_eq 41 dmeets_5 rfl ⟨by omega, by omega⟩ (fun c5 => ?_) (fun c5 => ?_)
  · refine ja_iconst dmeets_41 ?_
    refine ja_goto 46 dmeets_42 rfl ?_
    have g2 := gP_thrown g (x := 1) ⟨by decide, by decide⟩
    refine fp_thrown dmeets_46 ?_
    refine ja_aload_n dmeets_49 rfl rfl ?_
    refine fg_thrown (v := 1) rfl dmeets_50 ?_
    refine ja_if_le 58 dmeets_53 rfl ⟨by decide, by decide⟩ (fun c53 => absurd c53 (by omega)) (fun c53 => ?_)
    refine ja_iconst dmeets_56 ?_
    refine ja_ireturn dmeets_57 rfl ?_
    exact mo_fin (by omega) rfl (k1 0 1 (by omega) g2)
  · refine ja_iload_n dmeets_8 rfl rfl ?_
    refine ja_if_lt 41 dmeets_9 rfl ⟨by omega, by omega⟩ (fun c9 => ?_) (fun c9 => ?_)
    · refine ja_iconst dmeets_41 ?_
      refine ja_goto 46 dmeets_42 rfl ?_
      have g3 := gP_thrown g (x := 1) ⟨by decide, by decide⟩
      refine fp_thrown dmeets_46 ?_
      refine ja_aload_n dmeets_49 rfl rfl ?_
      refine fg_thrown (v := 1) rfl dmeets_50 ?_
      refine ja_if_le 58 dmeets_53 rfl ⟨by decide, by decide⟩ (fun c53 => absurd c53 (by omega)) (fun c53 => ?_)
      refine ja_iconst dmeets_56 ?_
      refine ja_ireturn dmeets_57 rfl ?_
      exact mo_fin (by omega) rfl (k1 0 1 (by omega) g3)
    · refine ja_iload_n dmeets_12 rfl rfl ?_
      refine ja_aload_n dmeets_13 rfl rfl ?_
      refine fg_advices (v := h 0 44) rfl dmeets_14 ?_
      have f4 := gF_advices g
      refine ja_icmp_ge 41 dmeets_17 rfl ⟨by omega, by omega⟩ ⟨by omega, by omega⟩ (fun c17 => ?_) (fun c17 => ?_)
      · refine ja_iconst dmeets_41 ?_
        refine ja_goto 46 dmeets_42 rfl ?_
        have g5 := gP_thrown g (x := 1) ⟨by decide, by decide⟩
        refine fp_thrown dmeets_46 ?_
        refine ja_aload_n dmeets_49 rfl rfl ?_
        refine fg_thrown (v := 1) rfl dmeets_50 ?_
        refine ja_if_le 58 dmeets_53 rfl ⟨by decide, by decide⟩ (fun c53 => absurd c53 (by omega)) (fun c53 => ?_)
        refine ja_iconst dmeets_56 ?_
        refine ja_ireturn dmeets_57 rfl ?_
        exact mo_fin (by omega) rfl (k1 0 1 (by omega) g5)
      · refine ja_iload_n dmeets_20 rfl rfl ?_
        refine ja_if_lt 41 dmeets_21 rfl ⟨by omega, by omega⟩ (fun c21 => ?_) (fun c21 => ?_)
        · refine ja_iconst dmeets_41 ?_
          refine ja_goto 46 dmeets_42 rfl ?_
          have g6 := gP_thrown g (x := 1) ⟨by decide, by decide⟩
          refine fp_thrown dmeets_46 ?_
          refine ja_aload_n dmeets_49 rfl rfl ?_
          refine fg_thrown (v := 1) rfl dmeets_50 ?_
          refine ja_if_le 58 dmeets_53 rfl ⟨by decide, by decide⟩ (fun c53 => absurd c53 (by omega)) (fun c53 => ?_)
          refine ja_iconst dmeets_56 ?_
          refine ja_ireturn dmeets_57 rfl ?_
          exact mo_fin (by omega) rfl (k1 0 1 (by omega) g6)
        · refine ja_iload_n dmeets_24 rfl rfl ?_
          refine ja_aload_n dmeets_25 rfl rfl ?_
          refine fg_points (v := h 0 88) rfl dmeets_26 ?_
          have f7 := gF_points g
          refine ja_icmp_ge 41 dmeets_29 rfl ⟨by omega, by omega⟩ ⟨by omega, by omega⟩ (fun c29 => ?_) (fun c29 => ?_)
          · refine ja_iconst dmeets_41 ?_
            refine ja_goto 46 dmeets_42 rfl ?_
            have g8 := gP_thrown g (x := 1) ⟨by decide, by decide⟩
            refine fp_thrown dmeets_46 ?_
            refine ja_aload_n dmeets_49 rfl rfl ?_
            refine fg_thrown (v := 1) rfl dmeets_50 ?_
            refine ja_if_le 58 dmeets_53 rfl ⟨by decide, by decide⟩ (fun c53 => absurd c53 (by omega)) (fun c53 => ?_)
            refine ja_iconst dmeets_56 ?_
            refine ja_ireturn dmeets_57 rfl ?_
            exact mo_fin (by omega) rfl (k1 0 1 (by omega) g8)
          · refine ja_iload_n dmeets_32 rfl rfl ?_
            refine ja_if_lt 41 dmeets_33 rfl ⟨by omega, by omega⟩ (fun c33 => ?_) (fun c33 => ?_)
            · refine ja_iconst dmeets_41 ?_
              refine ja_goto 46 dmeets_42 rfl ?_
              have g9 := gP_thrown g (x := 1) ⟨by decide, by decide⟩
              refine fp_thrown dmeets_46 ?_
              refine ja_aload_n dmeets_49 rfl rfl ?_
              refine fg_thrown (v := 1) rfl dmeets_50 ?_
              refine ja_if_le 58 dmeets_53 rfl ⟨by decide, by decide⟩ (fun c53 => absurd c53 (by omega)) (fun c53 => ?_)
              refine ja_iconst dmeets_56 ?_
              refine ja_ireturn dmeets_57 rfl ?_
              exact mo_fin (by omega) rfl (k1 0 1 (by omega) g9)
            · refine ja_iload_n dmeets_36 rfl rfl ?_
              refine ja_iconst dmeets_37 ?_
              refine ja_icmp_le 45 dmeets_38 rfl ⟨by omega, by omega⟩ ⟨by decide, by decide⟩ (fun c38 => ?_) (fun c38 => ?_)
              · refine ja_iconst dmeets_45 ?_
                have g10 := gP_thrown g (x := 0) ⟨by decide, by decide⟩
                refine fp_thrown dmeets_46 ?_
                refine ja_aload_n dmeets_49 rfl rfl ?_
                refine fg_thrown (v := 0) rfl dmeets_50 ?_
                refine ja_if_le 58 dmeets_53 rfl ⟨by decide, by decide⟩ (fun c53 => ?_) (fun c53 => absurd c53 (by omega))
                refine ja_iload_n dmeets_58 rfl rfl ?_
                refine ja_if_ne 82 dmeets_59 rfl ⟨by omega, by omega⟩ (fun c59 => ?_) (fun c59 => ?_)
                · refine ja_aload_n dmeets_82 rfl rfl ?_
                  refine fa_left dmeets_83 ?_
                  refine ja_sipush 400 dmeets_86 rfl ?_
                  refine ja_aload_n dmeets_89 rfl rfl ?_
                  refine fa_adviceRoot dmeets_90 ?_
                  refine ja_iload_n dmeets_93 rfl rfl ?_
                  refine il_adviceRoot (v := h 31 (a1).toNat) rfl ⟨by omega, by omega⟩ dmeets_94 ?_
                  have f11 := gC_adviceRoot g (a1).toNat
                  refine ja_imul dmeets_95 ?_
                  refine ja_iload_n dmeets_96 rfl rfl ?_
                  refine ja_iadd dmeets_97 ?_
                  refine il_left (v := h 72 ((400 * (h 31 (a1).toNat)) + a2).toNat) rfl ⟨by omega, by omega⟩ dmeets_98 ?_
                  have f12 := gC_left g ((400 * (h 31 (a1).toNat)) + a2).toNat
                  refine ja_ireturn dmeets_99 rfl ?_
                  exact mo_fin (by omega) rfl (k1 (h 72 ((400 * (h 31 (a1).toNat)) + a2).toNat) 0 (by omega) g10)
                · refine ja_aload_n dmeets_62 rfl rfl ?_
                  refine fa_ahead dmeets_63 ?_
                  refine ja_sipush 400 dmeets_66 rfl ?_
                  refine ja_aload_n dmeets_69 rfl rfl ?_
                  refine fa_adviceRoot dmeets_70 ?_
                  refine ja_iload_n dmeets_73 rfl rfl ?_
                  refine il_adviceRoot (v := h 31 (a1).toNat) rfl ⟨by omega, by omega⟩ dmeets_74 ?_
                  have f13 := gC_adviceRoot g (a1).toNat
                  refine ja_imul dmeets_75 ?_
                  refine ja_iload_n dmeets_76 rfl rfl ?_
                  refine ja_iadd dmeets_77 ?_
                  refine il_ahead (v := h 71 ((400 * (h 31 (a1).toNat)) + a2).toNat) rfl ⟨by omega, by omega⟩ dmeets_78 ?_
                  have f14 := gC_ahead g ((400 * (h 31 (a1).toNat)) + a2).toNat
                  refine ja_goto 99 dmeets_79 rfl ?_
                  refine ja_ireturn dmeets_99 rfl ?_
                  exact mo_fin (by omega) rfl (k1 (h 71 ((400 * (h 31 (a1).toNat)) + a2).toNat) 0 (by omega) g10)
              · refine ja_iconst dmeets_41 ?_
                refine ja_goto 46 dmeets_42 rfl ?_
                have g15 := gP_thrown g (x := 1) ⟨by decide, by decide⟩
                refine fp_thrown dmeets_46 ?_
                refine ja_aload_n dmeets_49 rfl rfl ?_
                refine fg_thrown (v := 1) rfl dmeets_50 ?_
                refine ja_if_le 58 dmeets_53 rfl ⟨by decide, by decide⟩ (fun c53 => absurd c53 (by omega)) (fun c53 => ?_)
                refine ja_iconst dmeets_56 ?_
                refine ja_ireturn dmeets_57 rfl ?_
                exact mo_fin (by omega) rfl (k1 0 1 (by omega) g15)
end
theorem dfinding_0 : decode cX12_finding 0 = .ok (.aload_n 0, 1) := by decide +kernel
theorem dfinding_1 : decode cX12_finding 1 = .ok (.aload_n 0, 1) := by decide +kernel
theorem dfinding_2 : decode cX12_finding 2 = .ok (.getfield 430, 3) := by decide +kernel
theorem dfinding_5 : decode cX12_finding 5 = .ok (.ifCond .eq 24, 3) := by decide +kernel
theorem dfinding_8 : decode cX12_finding 8 = .ok (.iload_n 1, 1) := by decide +kernel
theorem dfinding_9 : decode cX12_finding 9 = .ok (.ifCond .lt 20, 3) := by decide +kernel
theorem dfinding_12 : decode cX12_finding 12 = .ok (.iload_n 1, 1) := by decide +kernel
theorem dfinding_13 : decode cX12_finding 13 = .ok (.aload_n 0, 1) := by decide +kernel
theorem dfinding_14 : decode cX12_finding 14 = .ok (.getfield 707, 3) := by decide +kernel
theorem dfinding_17 : decode cX12_finding 17 = .ok (.if_icmp .ge 12, 3) := by decide +kernel
theorem dfinding_20 : decode cX12_finding 20 = .ok (.iload_n 2, 1) := by decide +kernel
theorem dfinding_21 : decode cX12_finding 21 = .ok (.ifCond .lt 8, 3) := by decide +kernel
theorem dfinding_24 : decode cX12_finding 24 = .ok (.iload_n 2, 1) := by decide +kernel
theorem dfinding_25 : decode cX12_finding 25 = .ok (.iconst 3, 1) := by decide +kernel
theorem dfinding_26 : decode cX12_finding 26 = .ok (.if_icmp .le 7, 3) := by decide +kernel
theorem dfinding_29 : decode cX12_finding 29 = .ok (.iconst 1, 1) := by decide +kernel
theorem dfinding_30 : decode cX12_finding 30 = .ok (.goto 4, 3) := by decide +kernel
theorem dfinding_33 : decode cX12_finding 33 = .ok (.iconst 0, 1) := by decide +kernel
theorem dfinding_34 : decode cX12_finding 34 = .ok (.putfield 423, 3) := by decide +kernel
theorem dfinding_37 : decode cX12_finding 37 = .ok (.aload_n 0, 1) := by decide +kernel
theorem dfinding_38 : decode cX12_finding 38 = .ok (.getfield 423, 3) := by decide +kernel
theorem dfinding_41 : decode cX12_finding 41 = .ok (.ifCond .le 5, 3) := by decide +kernel
theorem dfinding_44 : decode cX12_finding 44 = .ok (.iconst 0, 1) := by decide +kernel
theorem dfinding_45 : decode cX12_finding 45 = .ok (.ireturn, 1) := by decide +kernel
theorem dfinding_46 : decode cX12_finding 46 = .ok (.iload_n 2, 1) := by decide +kernel
theorem dfinding_47 : decode cX12_finding 47 = .ok (.ifCond .ne 12, 3) := by decide +kernel
theorem dfinding_50 : decode cX12_finding 50 = .ok (.aload_n 0, 1) := by decide +kernel
theorem dfinding_51 : decode cX12_finding 51 = .ok (.getfield 243, 3) := by decide +kernel
theorem dfinding_54 : decode cX12_finding 54 = .ok (.iload_n 1, 1) := by decide +kernel
theorem dfinding_55 : decode cX12_finding 55 = .ok (.iaload, 1) := by decide +kernel
theorem dfinding_56 : decode cX12_finding 56 = .ok (.goto 50, 3) := by decide +kernel
theorem dfinding_59 : decode cX12_finding 59 = .ok (.iload_n 2, 1) := by decide +kernel
theorem dfinding_60 : decode cX12_finding 60 = .ok (.iconst 1, 1) := by decide +kernel
theorem dfinding_61 : decode cX12_finding 61 = .ok (.if_icmp .ne 25, 3) := by decide +kernel
theorem dfinding_64 : decode cX12_finding 64 = .ok (.aload_n 0, 1) := by decide +kernel
theorem dfinding_65 : decode cX12_finding 65 = .ok (.getfield 125, 3) := by decide +kernel
theorem dfinding_68 : decode cX12_finding 68 = .ok (.aload_n 0, 1) := by decide +kernel
theorem dfinding_69 : decode cX12_finding 69 = .ok (.getfield 243, 3) := by decide +kernel
theorem dfinding_72 : decode cX12_finding 72 = .ok (.iload_n 1, 1) := by decide +kernel
theorem dfinding_73 : decode cX12_finding 73 = .ok (.iaload, 1) := by decide +kernel
theorem dfinding_74 : decode cX12_finding 74 = .ok (.baload, 1) := by decide +kernel
theorem dfinding_75 : decode cX12_finding 75 = .ok (.ifCond .eq 7, 3) := by decide +kernel
theorem dfinding_78 : decode cX12_finding 78 = .ok (.iconst 1, 1) := by decide +kernel
theorem dfinding_79 : decode cX12_finding 79 = .ok (.goto 27, 3) := by decide +kernel
theorem dfinding_82 : decode cX12_finding 82 = .ok (.iconst 0, 1) := by decide +kernel
theorem dfinding_83 : decode cX12_finding 83 = .ok (.goto 23, 3) := by decide +kernel
theorem dfinding_86 : decode cX12_finding 86 = .ok (.iload_n 2, 1) := by decide +kernel
theorem dfinding_87 : decode cX12_finding 87 = .ok (.iconst 2, 1) := by decide +kernel
theorem dfinding_88 : decode cX12_finding 88 = .ok (.if_icmp .ne 12, 3) := by decide +kernel
theorem dfinding_91 : decode cX12_finding 91 = .ok (.aload_n 0, 1) := by decide +kernel
theorem dfinding_92 : decode cX12_finding 92 = .ok (.getfield 246, 3) := by decide +kernel
theorem dfinding_95 : decode cX12_finding 95 = .ok (.iload_n 1, 1) := by decide +kernel
theorem dfinding_96 : decode cX12_finding 96 = .ok (.iaload, 1) := by decide +kernel
theorem dfinding_97 : decode cX12_finding 97 = .ok (.goto 9, 3) := by decide +kernel
theorem dfinding_100 : decode cX12_finding 100 = .ok (.aload_n 0, 1) := by decide +kernel
theorem dfinding_101 : decode cX12_finding 101 = .ok (.getfield 249, 3) := by decide +kernel
theorem dfinding_104 : decode cX12_finding 104 = .ok (.iload_n 1, 1) := by decide +kernel
theorem dfinding_105 : decode cX12_finding 105 = .ok (.iaload, 1) := by decide +kernel
theorem dfinding_106 : decode cX12_finding 106 = .ok (.ireturn, 1) := by decide +kernel
section
variable {l : Launch} {D : va_G} {cA : Nat → ClassId} {ad : Nat → Nat}
theorem s_finding {a1 a2 : Int} {h : ja_H} {Q : Option ja_V → ja_H → Prop} (g : mo_G mo_zr h) (r1 : -2147483648 ≤ a1 ∧ a1 ≤ 2147483647) (r2 : -2147483648 ≤ a2 ∧ a2 ≤ 2147483647) (k1 : ∀ (v t : Int), (0 ≤ t ∧ t ≤ 2) → mo_G mo_zr (ja_up h 0 208 t) → Q (some (0, v)) (ja_up h 0 208 t)) : mM_finding l D cA ad a1 a2 h Q := by
  show mJ l D cA ad 1 cX12_finding 3 (some .int) 0 [(0, (2, ((0 : Nat) : Int))), (1, (0, a1)), (2, (0, a2))] [] h Q
  have kn_points := gF_points g
  have kn_advices := gF_advices g
  have kn_findings := gF_findings g
  have kn_classes := gF_classes g
  have kn_objects := gF_objects g
  have kn_outputs := gF_outputs g
  have kn_rows := gF_rows g
  refine ja_aload_n dfinding_0 rfl rfl ?_
  refine ja_aload_n dfinding_1 rfl rfl ?_
  refine fg_compiled (v := h 0 118) rfl dfinding_2 ?_
  have f1 := gF_compiled g
  refine ja_if_eq 29 dfinding_5 rfl ⟨by omega, by omega⟩ (fun c5 => ?_) (fun c5 => ?_)
  · refine ja_iconst dfinding_29 ?_
    refine ja_goto 34 dfinding_30 rfl ?_
    have g2 := gP_thrown g (x := 1) ⟨by decide, by decide⟩
    refine fp_thrown dfinding_34 ?_
    refine ja_aload_n dfinding_37 rfl rfl ?_
    refine fg_thrown (v := 1) rfl dfinding_38 ?_
    refine ja_if_le 46 dfinding_41 rfl ⟨by decide, by decide⟩ (fun c41 => absurd c41 (by omega)) (fun c41 => ?_)
    refine ja_iconst dfinding_44 ?_
    refine ja_ireturn dfinding_45 rfl ?_
    exact mo_fin (by omega) rfl (k1 0 1 (by omega) g2)
  · refine ja_iload_n dfinding_8 rfl rfl ?_
    refine ja_if_lt 29 dfinding_9 rfl ⟨by omega, by omega⟩ (fun c9 => ?_) (fun c9 => ?_)
    · refine ja_iconst dfinding_29 ?_
      refine ja_goto 34 dfinding_30 rfl ?_
      have g3 := gP_thrown g (x := 1) ⟨by decide, by decide⟩
      refine fp_thrown dfinding_34 ?_
      refine ja_aload_n dfinding_37 rfl rfl ?_
      refine fg_thrown (v := 1) rfl dfinding_38 ?_
      refine ja_if_le 46 dfinding_41 rfl ⟨by decide, by decide⟩ (fun c41 => absurd c41 (by omega)) (fun c41 => ?_)
      refine ja_iconst dfinding_44 ?_
      refine ja_ireturn dfinding_45 rfl ?_
      exact mo_fin (by omega) rfl (k1 0 1 (by omega) g3)
    · refine ja_iload_n dfinding_12 rfl rfl ?_
      refine ja_aload_n dfinding_13 rfl rfl ?_
      refine fg_findings (v := h 0 119) rfl dfinding_14 ?_
      have f4 := gF_findings g
      refine ja_icmp_ge 29 dfinding_17 rfl ⟨by omega, by omega⟩ ⟨by omega, by omega⟩ (fun c17 => ?_) (fun c17 => ?_)
      · refine ja_iconst dfinding_29 ?_
        refine ja_goto 34 dfinding_30 rfl ?_
        have g5 := gP_thrown g (x := 1) ⟨by decide, by decide⟩
        refine fp_thrown dfinding_34 ?_
        refine ja_aload_n dfinding_37 rfl rfl ?_
        refine fg_thrown (v := 1) rfl dfinding_38 ?_
        refine ja_if_le 46 dfinding_41 rfl ⟨by decide, by decide⟩ (fun c41 => absurd c41 (by omega)) (fun c41 => ?_)
        refine ja_iconst dfinding_44 ?_
        refine ja_ireturn dfinding_45 rfl ?_
        exact mo_fin (by omega) rfl (k1 0 1 (by omega) g5)
      · refine ja_iload_n dfinding_20 rfl rfl ?_
        refine ja_if_lt 29 dfinding_21 rfl ⟨by omega, by omega⟩ (fun c21 => ?_) (fun c21 => ?_)
        · refine ja_iconst dfinding_29 ?_
          refine ja_goto 34 dfinding_30 rfl ?_
          have g6 := gP_thrown g (x := 1) ⟨by decide, by decide⟩
          refine fp_thrown dfinding_34 ?_
          refine ja_aload_n dfinding_37 rfl rfl ?_
          refine fg_thrown (v := 1) rfl dfinding_38 ?_
          refine ja_if_le 46 dfinding_41 rfl ⟨by decide, by decide⟩ (fun c41 => absurd c41 (by omega)) (fun c41 => ?_)
          refine ja_iconst dfinding_44 ?_
          refine ja_ireturn dfinding_45 rfl ?_
          exact mo_fin (by omega) rfl (k1 0 1 (by omega) g6)
        · refine ja_iload_n dfinding_24 rfl rfl ?_
          refine ja_iconst dfinding_25 ?_
          refine ja_icmp_le 33 dfinding_26 rfl ⟨by omega, by omega⟩ ⟨by decide, by decide⟩ (fun c26 => ?_) (fun c26 => ?_)
          · refine ja_iconst dfinding_33 ?_
            have g7 := gP_thrown g (x := 0) ⟨by decide, by decide⟩
            refine fp_thrown dfinding_34 ?_
            refine ja_aload_n dfinding_37 rfl rfl ?_
            refine fg_thrown (v := 0) rfl dfinding_38 ?_
            refine ja_if_le 46 dfinding_41 rfl ⟨by decide, by decide⟩ (fun c41 => ?_) (fun c41 => absurd c41 (by omega))
            refine ja_iload_n dfinding_46 rfl rfl ?_
            refine ja_if_ne 59 dfinding_47 rfl ⟨by omega, by omega⟩ (fun c47 => ?_) (fun c47 => ?_)
            · refine ja_iload_n dfinding_59 rfl rfl ?_
              refine ja_iconst dfinding_60 ?_
              refine ja_icmp_ne 86 dfinding_61 rfl ⟨by omega, by omega⟩ ⟨by decide, by decide⟩ (fun c61 => ?_) (fun c61 => ?_)
              · refine ja_iload_n dfinding_86 rfl rfl ?_
                refine ja_iconst dfinding_87 ?_
                refine ja_icmp_ne 100 dfinding_88 rfl ⟨by omega, by omega⟩ ⟨by decide, by decide⟩ (fun c88 => ?_) (fun c88 => ?_)
                · refine ja_aload_n dfinding_100 rfl rfl ?_
                  refine fa_findKnown dfinding_101 ?_
                  refine ja_iload_n dfinding_104 rfl rfl ?_
                  refine il_findKnown (v := h 80 (a1).toNat) rfl ⟨by omega, by omega⟩ dfinding_105 ?_
                  have f8 := gC_findKnown g (a1).toNat
                  refine ja_ireturn dfinding_106 rfl ?_
                  exact mo_fin (by omega) rfl (k1 (h 80 (a1).toNat) 0 (by omega) g7)
                · refine ja_aload_n dfinding_91 rfl rfl ?_
                  refine fa_findPoint dfinding_92 ?_
                  refine ja_iload_n dfinding_95 rfl rfl ?_
                  refine il_findPoint (v := h 79 (a1).toNat) rfl ⟨by omega, by omega⟩ dfinding_96 ?_
                  have f9 := gC_findPoint g (a1).toNat
                  refine ja_goto 106 dfinding_97 rfl ?_
                  refine ja_ireturn dfinding_106 rfl ?_
                  exact mo_fin (by omega) rfl (k1 (h 79 (a1).toNat) 0 (by omega) g7)
              · refine ja_aload_n dfinding_64 rfl rfl ?_
                refine fa_barWarns dfinding_65 ?_
                refine ja_aload_n dfinding_68 rfl rfl ?_
                refine fa_findBar dfinding_69 ?_
                refine ja_iload_n dfinding_72 rfl rfl ?_
                refine il_findBar (v := h 78 (a1).toNat) rfl ⟨by omega, by omega⟩ dfinding_73 ?_
                have f10 := gC_findBar g (a1).toNat
                refine il_barWarns (v := h 39 (h 78 (a1).toNat).toNat) rfl ⟨by omega, by omega⟩ dfinding_74 ?_
                have f11 := gC_barWarns g (h 78 (a1).toNat).toNat
                refine ja_if_eq 82 dfinding_75 rfl ⟨by omega, by omega⟩ (fun c75 => ?_) (fun c75 => ?_)
                · refine ja_iconst dfinding_82 ?_
                  refine ja_goto 106 dfinding_83 rfl ?_
                  refine ja_ireturn dfinding_106 rfl ?_
                  exact mo_fin (by omega) rfl (k1 0 0 (by omega) g7)
                · refine ja_iconst dfinding_78 ?_
                  refine ja_goto 106 dfinding_79 rfl ?_
                  refine ja_ireturn dfinding_106 rfl ?_
                  exact mo_fin (by omega) rfl (k1 1 0 (by omega) g7)
            · refine ja_aload_n dfinding_50 rfl rfl ?_
              refine fa_findBar dfinding_51 ?_
              refine ja_iload_n dfinding_54 rfl rfl ?_
              refine il_findBar (v := h 78 (a1).toNat) rfl ⟨by omega, by omega⟩ dfinding_55 ?_
              have f12 := gC_findBar g (a1).toNat
              refine ja_goto 106 dfinding_56 rfl ?_
              refine ja_ireturn dfinding_106 rfl ?_
              exact mo_fin (by omega) rfl (k1 (h 78 (a1).toNat) 0 (by omega) g7)
          · refine ja_iconst dfinding_29 ?_
            refine ja_goto 34 dfinding_30 rfl ?_
            have g13 := gP_thrown g (x := 1) ⟨by decide, by decide⟩
            refine fp_thrown dfinding_34 ?_
            refine ja_aload_n dfinding_37 rfl rfl ?_
            refine fg_thrown (v := 1) rfl dfinding_38 ?_
            refine ja_if_le 46 dfinding_41 rfl ⟨by decide, by decide⟩ (fun c41 => absurd c41 (by omega)) (fun c41 => ?_)
            refine ja_iconst dfinding_44 ?_
            refine ja_ireturn dfinding_45 rfl ?_
            exact mo_fin (by omega) rfl (k1 0 1 (by omega) g13)
end
theorem dordered_0 : decode cX12_ordered 0 = .ok (.aload_n 0, 1) := by decide +kernel
theorem dordered_1 : decode cX12_ordered 1 = .ok (.aload_n 0, 1) := by decide +kernel
theorem dordered_2 : decode cX12_ordered 2 = .ok (.getfield 430, 3) := by decide +kernel
theorem dordered_5 : decode cX12_ordered 5 = .ok (.ifCond .eq 15, 3) := by decide +kernel
theorem dordered_8 : decode cX12_ordered 8 = .ok (.iload_n 1, 1) := by decide +kernel
theorem dordered_9 : decode cX12_ordered 9 = .ok (.ifCond .lt 11, 3) := by decide +kernel
theorem dordered_12 : decode cX12_ordered 12 = .ok (.iload_n 1, 1) := by decide +kernel
theorem dordered_13 : decode cX12_ordered 13 = .ok (.aload_n 0, 1) := by decide +kernel
theorem dordered_14 : decode cX12_ordered 14 = .ok (.getfield 662, 3) := by decide +kernel
theorem dordered_17 : decode cX12_ordered 17 = .ok (.if_icmp .lt 7, 3) := by decide +kernel
theorem dordered_20 : decode cX12_ordered 20 = .ok (.iconst 1, 1) := by decide +kernel
theorem dordered_21 : decode cX12_ordered 21 = .ok (.goto 4, 3) := by decide +kernel
theorem dordered_24 : decode cX12_ordered 24 = .ok (.iconst 0, 1) := by decide +kernel
theorem dordered_25 : decode cX12_ordered 25 = .ok (.putfield 423, 3) := by decide +kernel
theorem dordered_28 : decode cX12_ordered 28 = .ok (.aload_n 0, 1) := by decide +kernel
theorem dordered_29 : decode cX12_ordered 29 = .ok (.getfield 423, 3) := by decide +kernel
theorem dordered_32 : decode cX12_ordered 32 = .ok (.ifCond .le 7, 3) := by decide +kernel
theorem dordered_35 : decode cX12_ordered 35 = .ok (.iconst 0, 1) := by decide +kernel
theorem dordered_36 : decode cX12_ordered 36 = .ok (.goto 9, 3) := by decide +kernel
theorem dordered_39 : decode cX12_ordered 39 = .ok (.aload_n 0, 1) := by decide +kernel
theorem dordered_40 : decode cX12_ordered 40 = .ok (.getfield 252, 3) := by decide +kernel
theorem dordered_43 : decode cX12_ordered 43 = .ok (.iload_n 1, 1) := by decide +kernel
theorem dordered_44 : decode cX12_ordered 44 = .ok (.iaload, 1) := by decide +kernel
theorem dordered_45 : decode cX12_ordered 45 = .ok (.ireturn, 1) := by decide +kernel
section
variable {l : Launch} {D : va_G} {cA : Nat → ClassId} {ad : Nat → Nat}
theorem s_ordered {a1 : Int} {h : ja_H} {Q : Option ja_V → ja_H → Prop} (g : mo_G mo_zr h) (r1 : -2147483648 ≤ a1 ∧ a1 ≤ 2147483647) (k1 : ∀ (v t : Int), (0 ≤ t ∧ t ≤ 2) → mo_G mo_zr (ja_up h 0 208 t) → Q (some (0, v)) (ja_up h 0 208 t)) : mM_ordered l D cA ad a1 h Q := by
  show mJ l D cA ad 1 cX12_ordered 2 (some .int) 0 [(0, (2, ((0 : Nat) : Int))), (1, (0, a1))] [] h Q
  have kn_points := gF_points g
  have kn_advices := gF_advices g
  have kn_findings := gF_findings g
  have kn_classes := gF_classes g
  have kn_objects := gF_objects g
  have kn_outputs := gF_outputs g
  have kn_rows := gF_rows g
  refine ja_aload_n dordered_0 rfl rfl ?_
  refine ja_aload_n dordered_1 rfl rfl ?_
  refine fg_compiled (v := h 0 118) rfl dordered_2 ?_
  have f1 := gF_compiled g
  refine ja_if_eq 20 dordered_5 rfl ⟨by omega, by omega⟩ (fun c5 => ?_) (fun c5 => ?_)
  · refine ja_iconst dordered_20 ?_
    refine ja_goto 25 dordered_21 rfl ?_
    have g2 := gP_thrown g (x := 1) ⟨by decide, by decide⟩
    refine fp_thrown dordered_25 ?_
    refine ja_aload_n dordered_28 rfl rfl ?_
    refine fg_thrown (v := 1) rfl dordered_29 ?_
    refine ja_if_le 39 dordered_32 rfl ⟨by decide, by decide⟩ (fun c32 => absurd c32 (by omega)) (fun c32 => ?_)
    refine ja_iconst dordered_35 ?_
    refine ja_goto 45 dordered_36 rfl ?_
    refine ja_ireturn dordered_45 rfl ?_
    exact mo_fin (by omega) rfl (k1 0 1 (by omega) g2)
  · refine ja_iload_n dordered_8 rfl rfl ?_
    refine ja_if_lt 20 dordered_9 rfl ⟨by omega, by omega⟩ (fun c9 => ?_) (fun c9 => ?_)
    · refine ja_iconst dordered_20 ?_
      refine ja_goto 25 dordered_21 rfl ?_
      have g3 := gP_thrown g (x := 1) ⟨by decide, by decide⟩
      refine fp_thrown dordered_25 ?_
      refine ja_aload_n dordered_28 rfl rfl ?_
      refine fg_thrown (v := 1) rfl dordered_29 ?_
      refine ja_if_le 39 dordered_32 rfl ⟨by decide, by decide⟩ (fun c32 => absurd c32 (by omega)) (fun c32 => ?_)
      refine ja_iconst dordered_35 ?_
      refine ja_goto 45 dordered_36 rfl ?_
      refine ja_ireturn dordered_45 rfl ?_
      exact mo_fin (by omega) rfl (k1 0 1 (by omega) g3)
    · refine ja_iload_n dordered_12 rfl rfl ?_
      refine ja_aload_n dordered_13 rfl rfl ?_
      refine fg_advices (v := h 0 44) rfl dordered_14 ?_
      have f4 := gF_advices g
      refine ja_icmp_lt 24 dordered_17 rfl ⟨by omega, by omega⟩ ⟨by omega, by omega⟩ (fun c17 => ?_) (fun c17 => ?_)
      · refine ja_iconst dordered_24 ?_
        have g5 := gP_thrown g (x := 0) ⟨by decide, by decide⟩
        refine fp_thrown dordered_25 ?_
        refine ja_aload_n dordered_28 rfl rfl ?_
        refine fg_thrown (v := 0) rfl dordered_29 ?_
        refine ja_if_le 39 dordered_32 rfl ⟨by decide, by decide⟩ (fun c32 => ?_) (fun c32 => absurd c32 (by omega))
        refine ja_aload_n dordered_39 rfl rfl ?_
        refine fa_ordered dordered_40 ?_
        refine ja_iload_n dordered_43 rfl rfl ?_
        refine il_ordered (v := h 81 (a1).toNat) rfl ⟨by omega, by omega⟩ dordered_44 ?_
        have f6 := gC_ordered g (a1).toNat
        refine ja_ireturn dordered_45 rfl ?_
        exact mo_fin (by omega) rfl (k1 (h 81 (a1).toNat) 0 (by omega) g5)
      · refine ja_iconst dordered_20 ?_
        refine ja_goto 25 dordered_21 rfl ?_
        have g7 := gP_thrown g (x := 1) ⟨by decide, by decide⟩
        refine fp_thrown dordered_25 ?_
        refine ja_aload_n dordered_28 rfl rfl ?_
        refine fg_thrown (v := 1) rfl dordered_29 ?_
        refine ja_if_le 39 dordered_32 rfl ⟨by decide, by decide⟩ (fun c32 => absurd c32 (by omega)) (fun c32 => ?_)
        refine ja_iconst dordered_35 ?_
        refine ja_goto 45 dordered_36 rfl ?_
        refine ja_ireturn dordered_45 rfl ?_
        exact mo_fin (by omega) rfl (k1 0 1 (by omega) g7)
end
theorem dabove_0 : decode cX12_above 0 = .ok (.aload_n 0, 1) := by decide +kernel
theorem dabove_1 : decode cX12_above 1 = .ok (.aload_n 0, 1) := by decide +kernel
theorem dabove_2 : decode cX12_above 2 = .ok (.getfield 430, 3) := by decide +kernel
theorem dabove_5 : decode cX12_above 5 = .ok (.ifCond .eq 15, 3) := by decide +kernel
theorem dabove_8 : decode cX12_above 8 = .ok (.iload_n 1, 1) := by decide +kernel
theorem dabove_9 : decode cX12_above 9 = .ok (.ifCond .lt 11, 3) := by decide +kernel
theorem dabove_12 : decode cX12_above 12 = .ok (.iload_n 1, 1) := by decide +kernel
theorem dabove_13 : decode cX12_above 13 = .ok (.aload_n 0, 1) := by decide +kernel
theorem dabove_14 : decode cX12_above 14 = .ok (.getfield 647, 3) := by decide +kernel
theorem dabove_17 : decode cX12_above 17 = .ok (.if_icmp .lt 7, 3) := by decide +kernel
theorem dabove_20 : decode cX12_above 20 = .ok (.iconst 1, 1) := by decide +kernel
theorem dabove_21 : decode cX12_above 21 = .ok (.goto 4, 3) := by decide +kernel
theorem dabove_24 : decode cX12_above 24 = .ok (.iconst 0, 1) := by decide +kernel
theorem dabove_25 : decode cX12_above 25 = .ok (.putfield 423, 3) := by decide +kernel
theorem dabove_28 : decode cX12_above 28 = .ok (.aload_n 0, 1) := by decide +kernel
theorem dabove_29 : decode cX12_above 29 = .ok (.getfield 423, 3) := by decide +kernel
theorem dabove_32 : decode cX12_above 32 = .ok (.ifCond .le 7, 3) := by decide +kernel
theorem dabove_35 : decode cX12_above 35 = .ok (.iconst 0, 1) := by decide +kernel
theorem dabove_36 : decode cX12_above 36 = .ok (.goto 9, 3) := by decide +kernel
theorem dabove_39 : decode cX12_above 39 = .ok (.aload_n 0, 1) := by decide +kernel
theorem dabove_40 : decode cX12_above 40 = .ok (.getfield 43, 3) := by decide +kernel
theorem dabove_43 : decode cX12_above 43 = .ok (.iload_n 1, 1) := by decide +kernel
theorem dabove_44 : decode cX12_above 44 = .ok (.iaload, 1) := by decide +kernel
theorem dabove_45 : decode cX12_above 45 = .ok (.ireturn, 1) := by decide +kernel
section
variable {l : Launch} {D : va_G} {cA : Nat → ClassId} {ad : Nat → Nat}
theorem s_above {a1 : Int} {h : ja_H} {Q : Option ja_V → ja_H → Prop} (g : mo_G mo_zr h) (r1 : -2147483648 ≤ a1 ∧ a1 ≤ 2147483647) (k1 : ∀ (v t : Int), (0 ≤ t ∧ t ≤ 2) → mo_G mo_zr (ja_up h 0 208 t) → Q (some (0, v)) (ja_up h 0 208 t)) : mM_above l D cA ad a1 h Q := by
  show mJ l D cA ad 1 cX12_above 2 (some .int) 0 [(0, (2, ((0 : Nat) : Int))), (1, (0, a1))] [] h Q
  have kn_points := gF_points g
  have kn_advices := gF_advices g
  have kn_findings := gF_findings g
  have kn_classes := gF_classes g
  have kn_objects := gF_objects g
  have kn_outputs := gF_outputs g
  have kn_rows := gF_rows g
  refine ja_aload_n dabove_0 rfl rfl ?_
  refine ja_aload_n dabove_1 rfl rfl ?_
  refine fg_compiled (v := h 0 118) rfl dabove_2 ?_
  have f1 := gF_compiled g
  refine ja_if_eq 20 dabove_5 rfl ⟨by omega, by omega⟩ (fun c5 => ?_) (fun c5 => ?_)
  · refine ja_iconst dabove_20 ?_
    refine ja_goto 25 dabove_21 rfl ?_
    have g2 := gP_thrown g (x := 1) ⟨by decide, by decide⟩
    refine fp_thrown dabove_25 ?_
    refine ja_aload_n dabove_28 rfl rfl ?_
    refine fg_thrown (v := 1) rfl dabove_29 ?_
    refine ja_if_le 39 dabove_32 rfl ⟨by decide, by decide⟩ (fun c32 => absurd c32 (by omega)) (fun c32 => ?_)
    refine ja_iconst dabove_35 ?_
    refine ja_goto 45 dabove_36 rfl ?_
    refine ja_ireturn dabove_45 rfl ?_
    exact mo_fin (by omega) rfl (k1 0 1 (by omega) g2)
  · refine ja_iload_n dabove_8 rfl rfl ?_
    refine ja_if_lt 20 dabove_9 rfl ⟨by omega, by omega⟩ (fun c9 => ?_) (fun c9 => ?_)
    · refine ja_iconst dabove_20 ?_
      refine ja_goto 25 dabove_21 rfl ?_
      have g3 := gP_thrown g (x := 1) ⟨by decide, by decide⟩
      refine fp_thrown dabove_25 ?_
      refine ja_aload_n dabove_28 rfl rfl ?_
      refine fg_thrown (v := 1) rfl dabove_29 ?_
      refine ja_if_le 39 dabove_32 rfl ⟨by decide, by decide⟩ (fun c32 => absurd c32 (by omega)) (fun c32 => ?_)
      refine ja_iconst dabove_35 ?_
      refine ja_goto 45 dabove_36 rfl ?_
      refine ja_ireturn dabove_45 rfl ?_
      exact mo_fin (by omega) rfl (k1 0 1 (by omega) g3)
    · refine ja_iload_n dabove_12 rfl rfl ?_
      refine ja_aload_n dabove_13 rfl rfl ?_
      refine fg_classes (v := h 0 22) rfl dabove_14 ?_
      have f4 := gF_classes g
      refine ja_icmp_lt 24 dabove_17 rfl ⟨by omega, by omega⟩ ⟨by omega, by omega⟩ (fun c17 => ?_) (fun c17 => ?_)
      · refine ja_iconst dabove_24 ?_
        have g5 := gP_thrown g (x := 0) ⟨by decide, by decide⟩
        refine fp_thrown dabove_25 ?_
        refine ja_aload_n dabove_28 rfl rfl ?_
        refine fg_thrown (v := 0) rfl dabove_29 ?_
        refine ja_if_le 39 dabove_32 rfl ⟨by decide, by decide⟩ (fun c32 => ?_) (fun c32 => absurd c32 (by omega))
        refine ja_aload_n dabove_39 rfl rfl ?_
        refine fa_classAbove dabove_40 ?_
        refine ja_iload_n dabove_43 rfl rfl ?_
        refine il_classAbove (v := h 12 (a1).toNat) rfl ⟨by omega, by omega⟩ dabove_44 ?_
        have f6 := gC_classAbove g (a1).toNat
        refine ja_ireturn dabove_45 rfl ?_
        exact mo_fin (by omega) rfl (k1 (h 12 (a1).toNat) 0 (by omega) g5)
      · refine ja_iconst dabove_20 ?_
        refine ja_goto 25 dabove_21 rfl ?_
        have g7 := gP_thrown g (x := 1) ⟨by decide, by decide⟩
        refine fp_thrown dabove_25 ?_
        refine ja_aload_n dabove_28 rfl rfl ?_
        refine fg_thrown (v := 1) rfl dabove_29 ?_
        refine ja_if_le 39 dabove_32 rfl ⟨by decide, by decide⟩ (fun c32 => absurd c32 (by omega)) (fun c32 => ?_)
        refine ja_iconst dabove_35 ?_
        refine ja_goto 45 dabove_36 rfl ?_
        refine ja_ireturn dabove_45 rfl ?_
        exact mo_fin (by omega) rfl (k1 0 1 (by omega) g7)
end
theorem dtold__0 : decode cX12_told_ 0 = .ok (.aload_n 0, 1) := by decide +kernel
theorem dtold__1 : decode cX12_told_ 1 = .ok (.aload_n 0, 1) := by decide +kernel
theorem dtold__2 : decode cX12_told_ 2 = .ok (.getfield 434, 3) := by decide +kernel
theorem dtold__5 : decode cX12_told_ 5 = .ok (.ifCond .ne 7, 3) := by decide +kernel
theorem dtold__8 : decode cX12_told_ 8 = .ok (.iconst 1, 1) := by decide +kernel
theorem dtold__9 : decode cX12_told_ 9 = .ok (.goto 18, 3) := by decide +kernel
theorem dtold__12 : decode cX12_told_ 12 = .ok (.iload_n 1, 1) := by decide +kernel
theorem dtold__13 : decode cX12_told_ 13 = .ok (.ifCond .lt 9, 3) := by decide +kernel
theorem dtold__16 : decode cX12_told_ 16 = .ok (.iload_n 1, 1) := by decide +kernel
theorem dtold__17 : decode cX12_told_ 17 = .ok (.bipush 6, 2) := by decide +kernel
theorem dtold__19 : decode cX12_told_ 19 = .ok (.if_icmp .le 7, 3) := by decide +kernel
theorem dtold__22 : decode cX12_told_ 22 = .ok (.iconst 2, 1) := by decide +kernel
theorem dtold__23 : decode cX12_told_ 23 = .ok (.goto 4, 3) := by decide +kernel
theorem dtold__26 : decode cX12_told_ 26 = .ok (.iconst 0, 1) := by decide +kernel
theorem dtold__27 : decode cX12_told_ 27 = .ok (.putfield 423, 3) := by decide +kernel
theorem dtold__30 : decode cX12_told_ 30 = .ok (.aload_n 0, 1) := by decide +kernel
theorem dtold__31 : decode cX12_told_ 31 = .ok (.getfield 423, 3) := by decide +kernel
theorem dtold__34 : decode cX12_told_ 34 = .ok (.ifCond .le 5, 3) := by decide +kernel
theorem dtold__37 : decode cX12_told_ 37 = .ok (.iconst 0, 1) := by decide +kernel
theorem dtold__38 : decode cX12_told_ 38 = .ok (.ireturn, 1) := by decide +kernel
theorem dtold__39 : decode cX12_told_ 39 = .ok (.iload_n 1, 1) := by decide +kernel
theorem dtold__40 : decode cX12_told_ 40 = .ok (.ifCond .ne 10, 3) := by decide +kernel
theorem dtold__43 : decode cX12_told_ 43 = .ok (.aload_n 0, 1) := by decide +kernel
theorem dtold__44 : decode cX12_told_ 44 = .ok (.getfield 975, 3) := by decide +kernel
theorem dtold__47 : decode cX12_told_ 47 = .ok (.goto 67, 3) := by decide +kernel
theorem dtold__50 : decode cX12_told_ 50 = .ok (.iload_n 1, 1) := by decide +kernel
theorem dtold__51 : decode cX12_told_ 51 = .ok (.iconst 1, 1) := by decide +kernel
theorem dtold__52 : decode cX12_told_ 52 = .ok (.if_icmp .ne 10, 3) := by decide +kernel
theorem dtold__55 : decode cX12_told_ 55 = .ok (.aload_n 0, 1) := by decide +kernel
theorem dtold__56 : decode cX12_told_ 56 = .ok (.getfield 978, 3) := by decide +kernel
theorem dtold__59 : decode cX12_told_ 59 = .ok (.goto 55, 3) := by decide +kernel
theorem dtold__62 : decode cX12_told_ 62 = .ok (.iload_n 1, 1) := by decide +kernel
theorem dtold__63 : decode cX12_told_ 63 = .ok (.iconst 2, 1) := by decide +kernel
theorem dtold__64 : decode cX12_told_ 64 = .ok (.if_icmp .ne 10, 3) := by decide +kernel
theorem dtold__67 : decode cX12_told_ 67 = .ok (.aload_n 0, 1) := by decide +kernel
theorem dtold__68 : decode cX12_told_ 68 = .ok (.getfield 981, 3) := by decide +kernel
theorem dtold__71 : decode cX12_told_ 71 = .ok (.goto 43, 3) := by decide +kernel
theorem dtold__74 : decode cX12_told_ 74 = .ok (.iload_n 1, 1) := by decide +kernel
theorem dtold__75 : decode cX12_told_ 75 = .ok (.iconst 3, 1) := by decide +kernel
theorem dtold__76 : decode cX12_told_ 76 = .ok (.if_icmp .ne 10, 3) := by decide +kernel
theorem dtold__79 : decode cX12_told_ 79 = .ok (.aload_n 0, 1) := by decide +kernel
theorem dtold__80 : decode cX12_told_ 80 = .ok (.getfield 984, 3) := by decide +kernel
theorem dtold__83 : decode cX12_told_ 83 = .ok (.goto 31, 3) := by decide +kernel
theorem dtold__86 : decode cX12_told_ 86 = .ok (.iload_n 1, 1) := by decide +kernel
theorem dtold__87 : decode cX12_told_ 87 = .ok (.iconst 4, 1) := by decide +kernel
theorem dtold__88 : decode cX12_told_ 88 = .ok (.if_icmp .ne 10, 3) := by decide +kernel
theorem dtold__91 : decode cX12_told_ 91 = .ok (.aload_n 0, 1) := by decide +kernel
theorem dtold__92 : decode cX12_told_ 92 = .ok (.getfield 987, 3) := by decide +kernel
theorem dtold__95 : decode cX12_told_ 95 = .ok (.goto 19, 3) := by decide +kernel
theorem dtold__98 : decode cX12_told_ 98 = .ok (.iload_n 1, 1) := by decide +kernel
theorem dtold__99 : decode cX12_told_ 99 = .ok (.iconst 5, 1) := by decide +kernel
theorem dtold__100 : decode cX12_told_ 100 = .ok (.if_icmp .ne 10, 3) := by decide +kernel
theorem dtold__103 : decode cX12_told_ 103 = .ok (.aload_n 0, 1) := by decide +kernel
theorem dtold__104 : decode cX12_told_ 104 = .ok (.getfield 1016, 3) := by decide +kernel
theorem dtold__107 : decode cX12_told_ 107 = .ok (.goto 7, 3) := by decide +kernel
theorem dtold__110 : decode cX12_told_ 110 = .ok (.aload_n 0, 1) := by decide +kernel
theorem dtold__111 : decode cX12_told_ 111 = .ok (.getfield 990, 3) := by decide +kernel
theorem dtold__114 : decode cX12_told_ 114 = .ok (.ireturn, 1) := by decide +kernel
section
variable {l : Launch} {D : va_G} {cA : Nat → ClassId} {ad : Nat → Nat}
theorem s_told_ {a1 : Int} {h : ja_H} {Q : Option ja_V → ja_H → Prop} (g : mo_G mo_zr h) (r1 : -2147483648 ≤ a1 ∧ a1 ≤ 2147483647) (k1 : ∀ (v t : Int), (0 ≤ t ∧ t ≤ 2) → mo_G mo_zr (ja_up h 0 208 t) → Q (some (0, v)) (ja_up h 0 208 t)) : mM_told_ l D cA ad a1 h Q := by
  show mJ l D cA ad 1 cX12_told_ 2 (some .int) 0 [(0, (2, ((0 : Nat) : Int))), (1, (0, a1))] [] h Q
  have kn_points := gF_points g
  have kn_advices := gF_advices g
  have kn_findings := gF_findings g
  have kn_classes := gF_classes g
  have kn_objects := gF_objects g
  have kn_outputs := gF_outputs g
  have kn_rows := gF_rows g
  refine ja_aload_n dtold__0 rfl rfl ?_
  refine ja_aload_n dtold__1 rfl rfl ?_
  refine fg_started (v := h 0 127) rfl dtold__2 ?_
  have f1 := gF_started g
  refine ja_if_ne 12 dtold__5 rfl ⟨by omega, by omega⟩ (fun c5 => ?_) (fun c5 => ?_)
  · refine ja_iload_n dtold__12 rfl rfl ?_
    refine ja_if_lt 22 dtold__13 rfl ⟨by omega, by omega⟩ (fun c13 => ?_) (fun c13 => ?_)
    · refine ja_iconst dtold__22 ?_
      refine ja_goto 27 dtold__23 rfl ?_
      have g2 := gP_thrown g (x := 2) ⟨by decide, by decide⟩
      refine fp_thrown dtold__27 ?_
      refine ja_aload_n dtold__30 rfl rfl ?_
      refine fg_thrown (v := 2) rfl dtold__31 ?_
      refine ja_if_le 39 dtold__34 rfl ⟨by decide, by decide⟩ (fun c34 => absurd c34 (by omega)) (fun c34 => ?_)
      refine ja_iconst dtold__37 ?_
      refine ja_ireturn dtold__38 rfl ?_
      exact mo_fin (by omega) rfl (k1 0 2 (by omega) g2)
    · refine ja_iload_n dtold__16 rfl rfl ?_
      refine ja_bipush 6 dtold__17 rfl ?_
      refine ja_icmp_le 26 dtold__19 rfl ⟨by omega, by omega⟩ ⟨by decide, by decide⟩ (fun c19 => ?_) (fun c19 => ?_)
      · refine ja_iconst dtold__26 ?_
        have g3 := gP_thrown g (x := 0) ⟨by decide, by decide⟩
        refine fp_thrown dtold__27 ?_
        refine ja_aload_n dtold__30 rfl rfl ?_
        refine fg_thrown (v := 0) rfl dtold__31 ?_
        refine ja_if_le 39 dtold__34 rfl ⟨by decide, by decide⟩ (fun c34 => ?_) (fun c34 => absurd c34 (by omega))
        refine ja_iload_n dtold__39 rfl rfl ?_
        refine ja_if_ne 50 dtold__40 rfl ⟨by omega, by omega⟩ (fun c40 => ?_) (fun c40 => ?_)
        · refine ja_iload_n dtold__50 rfl rfl ?_
          refine ja_iconst dtold__51 ?_
          refine ja_icmp_ne 62 dtold__52 rfl ⟨by omega, by omega⟩ ⟨by decide, by decide⟩ (fun c52 => ?_) (fun c52 => ?_)
          · refine ja_iload_n dtold__62 rfl rfl ?_
            refine ja_iconst dtold__63 ?_
            refine ja_icmp_ne 74 dtold__64 rfl ⟨by omega, by omega⟩ ⟨by decide, by decide⟩ (fun c64 => ?_) (fun c64 => ?_)
            · refine ja_iload_n dtold__74 rfl rfl ?_
              refine ja_iconst dtold__75 ?_
              refine ja_icmp_ne 86 dtold__76 rfl ⟨by omega, by omega⟩ ⟨by decide, by decide⟩ (fun c76 => ?_) (fun c76 => ?_)
              · refine ja_iload_n dtold__86 rfl rfl ?_
                refine ja_iconst dtold__87 ?_
                refine ja_icmp_ne 98 dtold__88 rfl ⟨by omega, by omega⟩ ⟨by decide, by decide⟩ (fun c88 => ?_) (fun c88 => ?_)
                · refine ja_iload_n dtold__98 rfl rfl ?_
                  refine ja_iconst dtold__99 ?_
                  refine ja_icmp_ne 110 dtold__100 rfl ⟨by omega, by omega⟩ ⟨by decide, by decide⟩ (fun c100 => ?_) (fun c100 => ?_)
                  · refine ja_aload_n dtold__110 rfl rfl ?_
                    refine fg_bodies (v := h 0 144) rfl dtold__111 ?_
                    have f4 := gF_bodies g
                    refine ja_ireturn dtold__114 rfl ?_
                    exact mo_fin (by omega) rfl (k1 (h 0 144) 0 (by omega) g3)
                  · refine ja_aload_n dtold__103 rfl rfl ?_
                    refine fg_state (v := h 0 129) rfl dtold__104 ?_
                    have f5 := gF_state g
                    refine ja_goto 114 dtold__107 rfl ?_
                    refine ja_ireturn dtold__114 rfl ?_
                    exact mo_fin (by omega) rfl (k1 (h 0 129) 0 (by omega) g3)
                · refine ja_aload_n dtold__91 rfl rfl ?_
                  refine fg_objects (v := h 0 138) rfl dtold__92 ?_
                  have f6 := gF_objects g
                  refine ja_goto 114 dtold__95 rfl ?_
                  refine ja_ireturn dtold__114 rfl ?_
                  exact mo_fin (by omega) rfl (k1 (h 0 138) 0 (by omega) g3)
              · refine ja_aload_n dtold__79 rfl rfl ?_
                refine fg_rows (v := h 0 135) rfl dtold__80 ?_
                have f7 := gF_rows g
                refine ja_goto 114 dtold__83 rfl ?_
                refine ja_ireturn dtold__114 rfl ?_
                exact mo_fin (by omega) rfl (k1 (h 0 135) 0 (by omega) g3)
            · refine ja_aload_n dtold__67 rfl rfl ?_
              refine fg_outputs (v := h 0 132) rfl dtold__68 ?_
              have f8 := gF_outputs g
              refine ja_goto 114 dtold__71 rfl ?_
              refine ja_ireturn dtold__114 rfl ?_
              exact mo_fin (by omega) rfl (k1 (h 0 132) 0 (by omega) g3)
          · refine ja_aload_n dtold__55 rfl rfl ?_
            refine fg_tests (v := h 0 131) rfl dtold__56 ?_
            have f9 := gF_tests g
            refine ja_goto 114 dtold__59 rfl ?_
            refine ja_ireturn dtold__114 rfl ?_
            exact mo_fin (by omega) rfl (k1 (h 0 131) 0 (by omega) g3)
        · refine ja_aload_n dtold__43 rfl rfl ?_
          refine fg_steps (v := h 0 130) rfl dtold__44 ?_
          have f10 := gF_steps g
          refine ja_goto 114 dtold__47 rfl ?_
          refine ja_ireturn dtold__114 rfl ?_
          exact mo_fin (by omega) rfl (k1 (h 0 130) 0 (by omega) g3)
      · refine ja_iconst dtold__22 ?_
        refine ja_goto 27 dtold__23 rfl ?_
        have g11 := gP_thrown g (x := 2) ⟨by decide, by decide⟩
        refine fp_thrown dtold__27 ?_
        refine ja_aload_n dtold__30 rfl rfl ?_
        refine fg_thrown (v := 2) rfl dtold__31 ?_
        refine ja_if_le 39 dtold__34 rfl ⟨by decide, by decide⟩ (fun c34 => absurd c34 (by omega)) (fun c34 => ?_)
        refine ja_iconst dtold__37 ?_
        refine ja_ireturn dtold__38 rfl ?_
        exact mo_fin (by omega) rfl (k1 0 2 (by omega) g11)
  · refine ja_iconst dtold__8 ?_
    refine ja_goto 27 dtold__9 rfl ?_
    have g12 := gP_thrown g (x := 1) ⟨by decide, by decide⟩
    refine fp_thrown dtold__27 ?_
    refine ja_aload_n dtold__30 rfl rfl ?_
    refine fg_thrown (v := 1) rfl dtold__31 ?_
    refine ja_if_le 39 dtold__34 rfl ⟨by decide, by decide⟩ (fun c34 => absurd c34 (by omega)) (fun c34 => ?_)
    refine ja_iconst dtold__37 ?_
    refine ja_ireturn dtold__38 rfl ?_
    exact mo_fin (by omega) rfl (k1 0 1 (by omega) g12)
end
theorem dfailure_0 : decode cX12_failure 0 = .ok (.aload_n 0, 1) := by decide +kernel
theorem dfailure_1 : decode cX12_failure 1 = .ok (.aload_n 0, 1) := by decide +kernel
theorem dfailure_2 : decode cX12_failure 2 = .ok (.getfield 434, 3) := by decide +kernel
theorem dfailure_5 : decode cX12_failure 5 = .ok (.ifCond .ne 7, 3) := by decide +kernel
theorem dfailure_8 : decode cX12_failure 8 = .ok (.iconst 1, 1) := by decide +kernel
theorem dfailure_9 : decode cX12_failure 9 = .ok (.goto 17, 3) := by decide +kernel
theorem dfailure_12 : decode cX12_failure 12 = .ok (.iload_n 1, 1) := by decide +kernel
theorem dfailure_13 : decode cX12_failure 13 = .ok (.ifCond .lt 8, 3) := by decide +kernel
theorem dfailure_16 : decode cX12_failure 16 = .ok (.iload_n 1, 1) := by decide +kernel
theorem dfailure_17 : decode cX12_failure 17 = .ok (.iconst 1, 1) := by decide +kernel
theorem dfailure_18 : decode cX12_failure 18 = .ok (.if_icmp .le 7, 3) := by decide +kernel
theorem dfailure_21 : decode cX12_failure 21 = .ok (.iconst 2, 1) := by decide +kernel
theorem dfailure_22 : decode cX12_failure 22 = .ok (.goto 4, 3) := by decide +kernel
theorem dfailure_25 : decode cX12_failure 25 = .ok (.iconst 0, 1) := by decide +kernel
theorem dfailure_26 : decode cX12_failure 26 = .ok (.putfield 423, 3) := by decide +kernel
theorem dfailure_29 : decode cX12_failure 29 = .ok (.aload_n 0, 1) := by decide +kernel
theorem dfailure_30 : decode cX12_failure 30 = .ok (.getfield 423, 3) := by decide +kernel
theorem dfailure_33 : decode cX12_failure 33 = .ok (.ifCond .le 7, 3) := by decide +kernel
theorem dfailure_36 : decode cX12_failure 36 = .ok (.iconst 0, 1) := by decide +kernel
theorem dfailure_37 : decode cX12_failure 37 = .ok (.goto 15, 3) := by decide +kernel
theorem dfailure_40 : decode cX12_failure 40 = .ok (.iload_n 1, 1) := by decide +kernel
theorem dfailure_41 : decode cX12_failure 41 = .ok (.aload_n 0, 1) := by decide +kernel
theorem dfailure_42 : decode cX12_failure 42 = .ok (.getfield 1010, 3) := by decide +kernel
theorem dfailure_45 : decode cX12_failure 45 = .ok (.aload_n 0, 1) := by decide +kernel
theorem dfailure_46 : decode cX12_failure 46 = .ok (.getfield 1013, 3) := by decide +kernel
theorem dfailure_49 : decode cX12_failure 49 = .ok (.invokestatic 1178, 3) := by decide +kernel
theorem dfailure_52 : decode cX12_failure 52 = .ok (.ireturn, 1) := by decide +kernel
section
variable {l : Launch} {D : va_G} {cA : Nat → ClassId} {ad : Nat → Nat}
theorem s_failure {a1 : Int} {h : ja_H} {Q : Option ja_V → ja_H → Prop} (g : mo_G mo_zr h) (r1 : -2147483648 ≤ a1 ∧ a1 ≤ 2147483647) (k1 : ∀ (v t : Int), (0 ≤ t ∧ t ≤ 2) → mo_G mo_zr (ja_up h 0 208 t) → Q (some (0, v)) (ja_up h 0 208 t)) : mM_failure l D cA ad a1 h Q := by
  show mJ l D cA ad 2 cX12_failure 2 (some .int) 0 [(0, (2, ((0 : Nat) : Int))), (1, (0, a1))] [] h Q
  have kn_points := gF_points g
  have kn_advices := gF_advices g
  have kn_findings := gF_findings g
  have kn_classes := gF_classes g
  have kn_objects := gF_objects g
  have kn_outputs := gF_outputs g
  have kn_rows := gF_rows g
  refine ja_aload_n dfailure_0 rfl rfl ?_
  refine ja_aload_n dfailure_1 rfl rfl ?_
  refine fg_started (v := h 0 127) rfl dfailure_2 ?_
  have f1 := gF_started g
  refine ja_if_ne 12 dfailure_5 rfl ⟨by omega, by omega⟩ (fun c5 => ?_) (fun c5 => ?_)
  · refine ja_iload_n dfailure_12 rfl rfl ?_
    refine ja_if_lt 21 dfailure_13 rfl ⟨by omega, by omega⟩ (fun c13 => ?_) (fun c13 => ?_)
    · refine ja_iconst dfailure_21 ?_
      refine ja_goto 26 dfailure_22 rfl ?_
      have g2 := gP_thrown g (x := 2) ⟨by decide, by decide⟩
      refine fp_thrown dfailure_26 ?_
      refine ja_aload_n dfailure_29 rfl rfl ?_
      refine fg_thrown (v := 2) rfl dfailure_30 ?_
      refine ja_if_le 40 dfailure_33 rfl ⟨by decide, by decide⟩ (fun c33 => absurd c33 (by omega)) (fun c33 => ?_)
      refine ja_iconst dfailure_36 ?_
      refine ja_goto 52 dfailure_37 rfl ?_
      refine ja_ireturn dfailure_52 rfl ?_
      exact mo_fin (by omega) rfl (k1 0 2 (by omega) g2)
    · refine ja_iload_n dfailure_16 rfl rfl ?_
      refine ja_iconst dfailure_17 ?_
      refine ja_icmp_le 25 dfailure_18 rfl ⟨by omega, by omega⟩ ⟨by decide, by decide⟩ (fun c18 => ?_) (fun c18 => ?_)
      · refine ja_iconst dfailure_25 ?_
        have g3 := gP_thrown g (x := 0) ⟨by decide, by decide⟩
        refine fp_thrown dfailure_26 ?_
        refine ja_aload_n dfailure_29 rfl rfl ?_
        refine fg_thrown (v := 0) rfl dfailure_30 ?_
        refine ja_if_le 40 dfailure_33 rfl ⟨by decide, by decide⟩ (fun c33 => ?_) (fun c33 => absurd c33 (by omega))
        refine ja_iload_n dfailure_40 rfl rfl ?_
        refine ja_aload_n dfailure_41 rfl rfl ?_
        refine fg_failureKind (v := h 0 145) rfl dfailure_42 ?_
        have f4 := gF_failureKind g
        refine ja_aload_n dfailure_45 rfl rfl ?_
        refine fg_failureValue (v := h 0 146) rfl dfailure_46 ?_
        have f5 := gF_failureValue g
        refine t_tell (by decide) (show (0 : Nat) ≤ 8 by decide) dfailure_49 g3 ⟨by omega, by omega⟩ ⟨by omega, by omega⟩ ⟨by omega, by omega⟩ ?_
        intro w6 k49_0
        replace k49_0 : -2147483648 ≤ w6 ∧ w6 ≤ 2147483647 := k49_0
        refine ja_ireturn dfailure_52 rfl ?_
        exact mo_fin (by omega) rfl (k1 w6 0 (by omega) g3)
      · refine ja_iconst dfailure_21 ?_
        refine ja_goto 26 dfailure_22 rfl ?_
        have g7 := gP_thrown g (x := 2) ⟨by decide, by decide⟩
        refine fp_thrown dfailure_26 ?_
        refine ja_aload_n dfailure_29 rfl rfl ?_
        refine fg_thrown (v := 2) rfl dfailure_30 ?_
        refine ja_if_le 40 dfailure_33 rfl ⟨by decide, by decide⟩ (fun c33 => absurd c33 (by omega)) (fun c33 => ?_)
        refine ja_iconst dfailure_36 ?_
        refine ja_goto 52 dfailure_37 rfl ?_
        refine ja_ireturn dfailure_52 rfl ?_
        exact mo_fin (by omega) rfl (k1 0 2 (by omega) g7)
  · refine ja_iconst dfailure_8 ?_
    refine ja_goto 26 dfailure_9 rfl ?_
    have g8 := gP_thrown g (x := 1) ⟨by decide, by decide⟩
    refine fp_thrown dfailure_26 ?_
    refine ja_aload_n dfailure_29 rfl rfl ?_
    refine fg_thrown (v := 1) rfl dfailure_30 ?_
    refine ja_if_le 40 dfailure_33 rfl ⟨by decide, by decide⟩ (fun c33 => absurd c33 (by omega)) (fun c33 => ?_)
    refine ja_iconst dfailure_36 ?_
    refine ja_goto 52 dfailure_37 rfl ?_
    refine ja_ireturn dfailure_52 rfl ?_
    exact mo_fin (by omega) rfl (k1 0 1 (by omega) g8)
end
theorem doutput_0 : decode cX12_output 0 = .ok (.aload_n 0, 1) := by decide +kernel
theorem doutput_1 : decode cX12_output 1 = .ok (.aload_n 0, 1) := by decide +kernel
theorem doutput_2 : decode cX12_output 2 = .ok (.getfield 434, 3) := by decide +kernel
theorem doutput_5 : decode cX12_output 5 = .ok (.ifCond .ne 7, 3) := by decide +kernel
theorem doutput_8 : decode cX12_output 8 = .ok (.iconst 1, 1) := by decide +kernel
theorem doutput_9 : decode cX12_output 9 = .ok (.goto 36, 3) := by decide +kernel
theorem doutput_12 : decode cX12_output 12 = .ok (.iload_n 1, 1) := by decide +kernel
theorem doutput_13 : decode cX12_output 13 = .ok (.ifCond .lt 27, 3) := by decide +kernel
theorem doutput_16 : decode cX12_output 16 = .ok (.iload_n 1, 1) := by decide +kernel
theorem doutput_17 : decode cX12_output 17 = .ok (.aload_n 0, 1) := by decide +kernel
theorem doutput_18 : decode cX12_output 18 = .ok (.getfield 981, 3) := by decide +kernel
theorem doutput_21 : decode cX12_output 21 = .ok (.if_icmp .ge 19, 3) := by decide +kernel
theorem doutput_24 : decode cX12_output 24 = .ok (.iload_n 1, 1) := by decide +kernel
theorem doutput_25 : decode cX12_output 25 = .ok (.sipush 300, 3) := by decide +kernel
theorem doutput_28 : decode cX12_output 28 = .ok (.if_icmp .ge 12, 3) := by decide +kernel
theorem doutput_31 : decode cX12_output 31 = .ok (.iload_n 2, 1) := by decide +kernel
theorem doutput_32 : decode cX12_output 32 = .ok (.ifCond .lt 8, 3) := by decide +kernel
theorem doutput_35 : decode cX12_output 35 = .ok (.iload_n 2, 1) := by decide +kernel
theorem doutput_36 : decode cX12_output 36 = .ok (.iconst 1, 1) := by decide +kernel
theorem doutput_37 : decode cX12_output 37 = .ok (.if_icmp .le 7, 3) := by decide +kernel
theorem doutput_40 : decode cX12_output 40 = .ok (.iconst 2, 1) := by decide +kernel
theorem doutput_41 : decode cX12_output 41 = .ok (.goto 4, 3) := by decide +kernel
theorem doutput_44 : decode cX12_output 44 = .ok (.iconst 0, 1) := by decide +kernel
theorem doutput_45 : decode cX12_output 45 = .ok (.putfield 423, 3) := by decide +kernel
theorem doutput_48 : decode cX12_output 48 = .ok (.aload_n 0, 1) := by decide +kernel
theorem doutput_49 : decode cX12_output 49 = .ok (.getfield 423, 3) := by decide +kernel
theorem doutput_52 : decode cX12_output 52 = .ok (.ifCond .le 7, 3) := by decide +kernel
theorem doutput_55 : decode cX12_output 55 = .ok (.iconst 0, 1) := by decide +kernel
theorem doutput_56 : decode cX12_output 56 = .ok (.goto 19, 3) := by decide +kernel
theorem doutput_59 : decode cX12_output 59 = .ok (.iload_n 2, 1) := by decide +kernel
theorem doutput_60 : decode cX12_output 60 = .ok (.aload_n 0, 1) := by decide +kernel
theorem doutput_61 : decode cX12_output 61 = .ok (.getfield 264, 3) := by decide +kernel
theorem doutput_64 : decode cX12_output 64 = .ok (.iload_n 1, 1) := by decide +kernel
theorem doutput_65 : decode cX12_output 65 = .ok (.iaload, 1) := by decide +kernel
theorem doutput_66 : decode cX12_output 66 = .ok (.aload_n 0, 1) := by decide +kernel
theorem doutput_67 : decode cX12_output 67 = .ok (.getfield 267, 3) := by decide +kernel
theorem doutput_70 : decode cX12_output 70 = .ok (.iload_n 1, 1) := by decide +kernel
theorem doutput_71 : decode cX12_output 71 = .ok (.iaload, 1) := by decide +kernel
theorem doutput_72 : decode cX12_output 72 = .ok (.invokestatic 1178, 3) := by decide +kernel
theorem doutput_75 : decode cX12_output 75 = .ok (.ireturn, 1) := by decide +kernel
section
variable {l : Launch} {D : va_G} {cA : Nat → ClassId} {ad : Nat → Nat}
theorem s_output {a1 a2 : Int} {h : ja_H} {Q : Option ja_V → ja_H → Prop} (g : mo_G mo_zr h) (r1 : -2147483648 ≤ a1 ∧ a1 ≤ 2147483647) (r2 : -2147483648 ≤ a2 ∧ a2 ≤ 2147483647) (k1 : ∀ (v t : Int), (0 ≤ t ∧ t ≤ 2) → mo_G mo_zr (ja_up h 0 208 t) → Q (some (0, v)) (ja_up h 0 208 t)) : mM_output l D cA ad a1 a2 h Q := by
  show mJ l D cA ad 2 cX12_output 3 (some .int) 0 [(0, (2, ((0 : Nat) : Int))), (1, (0, a1)), (2, (0, a2))] [] h Q
  have kn_points := gF_points g
  have kn_advices := gF_advices g
  have kn_findings := gF_findings g
  have kn_classes := gF_classes g
  have kn_objects := gF_objects g
  have kn_outputs := gF_outputs g
  have kn_rows := gF_rows g
  refine ja_aload_n doutput_0 rfl rfl ?_
  refine ja_aload_n doutput_1 rfl rfl ?_
  refine fg_started (v := h 0 127) rfl doutput_2 ?_
  have f1 := gF_started g
  refine ja_if_ne 12 doutput_5 rfl ⟨by omega, by omega⟩ (fun c5 => ?_) (fun c5 => ?_)
  · refine ja_iload_n doutput_12 rfl rfl ?_
    refine ja_if_lt 40 doutput_13 rfl ⟨by omega, by omega⟩ (fun c13 => ?_) (fun c13 => ?_)
    · refine ja_iconst doutput_40 ?_
      refine ja_goto 45 doutput_41 rfl ?_
      have g2 := gP_thrown g (x := 2) ⟨by decide, by decide⟩
      refine fp_thrown doutput_45 ?_
      refine ja_aload_n doutput_48 rfl rfl ?_
      refine fg_thrown (v := 2) rfl doutput_49 ?_
      refine ja_if_le 59 doutput_52 rfl ⟨by decide, by decide⟩ (fun c52 => absurd c52 (by omega)) (fun c52 => ?_)
      refine ja_iconst doutput_55 ?_
      refine ja_goto 75 doutput_56 rfl ?_
      refine ja_ireturn doutput_75 rfl ?_
      exact mo_fin (by omega) rfl (k1 0 2 (by omega) g2)
    · refine ja_iload_n doutput_16 rfl rfl ?_
      refine ja_aload_n doutput_17 rfl rfl ?_
      refine fg_outputs (v := h 0 132) rfl doutput_18 ?_
      have f3 := gF_outputs g
      refine ja_icmp_ge 40 doutput_21 rfl ⟨by omega, by omega⟩ ⟨by omega, by omega⟩ (fun c21 => ?_) (fun c21 => ?_)
      · refine ja_iconst doutput_40 ?_
        refine ja_goto 45 doutput_41 rfl ?_
        have g4 := gP_thrown g (x := 2) ⟨by decide, by decide⟩
        refine fp_thrown doutput_45 ?_
        refine ja_aload_n doutput_48 rfl rfl ?_
        refine fg_thrown (v := 2) rfl doutput_49 ?_
        refine ja_if_le 59 doutput_52 rfl ⟨by decide, by decide⟩ (fun c52 => absurd c52 (by omega)) (fun c52 => ?_)
        refine ja_iconst doutput_55 ?_
        refine ja_goto 75 doutput_56 rfl ?_
        refine ja_ireturn doutput_75 rfl ?_
        exact mo_fin (by omega) rfl (k1 0 2 (by omega) g4)
      · refine ja_iload_n doutput_24 rfl rfl ?_
        refine ja_sipush 300 doutput_25 rfl ?_
        refine ja_icmp_ge 40 doutput_28 rfl ⟨by omega, by omega⟩ ⟨by decide, by decide⟩ (fun c28 => ?_) (fun c28 => ?_)
        · refine ja_iconst doutput_40 ?_
          refine ja_goto 45 doutput_41 rfl ?_
          have g5 := gP_thrown g (x := 2) ⟨by decide, by decide⟩
          refine fp_thrown doutput_45 ?_
          refine ja_aload_n doutput_48 rfl rfl ?_
          refine fg_thrown (v := 2) rfl doutput_49 ?_
          refine ja_if_le 59 doutput_52 rfl ⟨by decide, by decide⟩ (fun c52 => absurd c52 (by omega)) (fun c52 => ?_)
          refine ja_iconst doutput_55 ?_
          refine ja_goto 75 doutput_56 rfl ?_
          refine ja_ireturn doutput_75 rfl ?_
          exact mo_fin (by omega) rfl (k1 0 2 (by omega) g5)
        · refine ja_iload_n doutput_31 rfl rfl ?_
          refine ja_if_lt 40 doutput_32 rfl ⟨by omega, by omega⟩ (fun c32 => ?_) (fun c32 => ?_)
          · refine ja_iconst doutput_40 ?_
            refine ja_goto 45 doutput_41 rfl ?_
            have g6 := gP_thrown g (x := 2) ⟨by decide, by decide⟩
            refine fp_thrown doutput_45 ?_
            refine ja_aload_n doutput_48 rfl rfl ?_
            refine fg_thrown (v := 2) rfl doutput_49 ?_
            refine ja_if_le 59 doutput_52 rfl ⟨by decide, by decide⟩ (fun c52 => absurd c52 (by omega)) (fun c52 => ?_)
            refine ja_iconst doutput_55 ?_
            refine ja_goto 75 doutput_56 rfl ?_
            refine ja_ireturn doutput_75 rfl ?_
            exact mo_fin (by omega) rfl (k1 0 2 (by omega) g6)
          · refine ja_iload_n doutput_35 rfl rfl ?_
            refine ja_iconst doutput_36 ?_
            refine ja_icmp_le 44 doutput_37 rfl ⟨by omega, by omega⟩ ⟨by decide, by decide⟩ (fun c37 => ?_) (fun c37 => ?_)
            · refine ja_iconst doutput_44 ?_
              have g7 := gP_thrown g (x := 0) ⟨by decide, by decide⟩
              refine fp_thrown doutput_45 ?_
              refine ja_aload_n doutput_48 rfl rfl ?_
              refine fg_thrown (v := 0) rfl doutput_49 ?_
              refine ja_if_le 59 doutput_52 rfl ⟨by decide, by decide⟩ (fun c52 => ?_) (fun c52 => absurd c52 (by omega))
              refine ja_iload_n doutput_59 rfl rfl ?_
              refine ja_aload_n doutput_60 rfl rfl ?_
              refine fa_outputKind doutput_61 ?_
              refine ja_iload_n doutput_64 rfl rfl ?_
              refine il_outputKind (v := h 85 (a1).toNat) rfl ⟨by omega, by omega⟩ doutput_65 ?_
              have f8 := gC_outputKind g (a1).toNat
              refine ja_aload_n doutput_66 rfl rfl ?_
              refine fa_outputValue doutput_67 ?_
              refine ja_iload_n doutput_70 rfl rfl ?_
              refine il_outputValue (v := h 86 (a1).toNat) rfl ⟨by omega, by omega⟩ doutput_71 ?_
              have f9 := gC_outputValue g (a1).toNat
              refine t_tell (by decide) (show (0 : Nat) ≤ 8 by decide) doutput_72 g7 ⟨by omega, by omega⟩ ⟨by omega, by omega⟩ ⟨by omega, by omega⟩ ?_
              intro w10 k72_0
              replace k72_0 : -2147483648 ≤ w10 ∧ w10 ≤ 2147483647 := k72_0
              refine ja_ireturn doutput_75 rfl ?_
              exact mo_fin (by omega) rfl (k1 w10 0 (by omega) g7)
            · refine ja_iconst doutput_40 ?_
              refine ja_goto 45 doutput_41 rfl ?_
              have g11 := gP_thrown g (x := 2) ⟨by decide, by decide⟩
              refine fp_thrown doutput_45 ?_
              refine ja_aload_n doutput_48 rfl rfl ?_
              refine fg_thrown (v := 2) rfl doutput_49 ?_
              refine ja_if_le 59 doutput_52 rfl ⟨by decide, by decide⟩ (fun c52 => absurd c52 (by omega)) (fun c52 => ?_)
              refine ja_iconst doutput_55 ?_
              refine ja_goto 75 doutput_56 rfl ?_
              refine ja_ireturn doutput_75 rfl ?_
              exact mo_fin (by omega) rfl (k1 0 2 (by omega) g11)
  · refine ja_iconst doutput_8 ?_
    refine ja_goto 45 doutput_9 rfl ?_
    have g12 := gP_thrown g (x := 1) ⟨by decide, by decide⟩
    refine fp_thrown doutput_45 ?_
    refine ja_aload_n doutput_48 rfl rfl ?_
    refine fg_thrown (v := 1) rfl doutput_49 ?_
    refine ja_if_le 59 doutput_52 rfl ⟨by decide, by decide⟩ (fun c52 => absurd c52 (by omega)) (fun c52 => ?_)
    refine ja_iconst doutput_55 ?_
    refine ja_goto 75 doutput_56 rfl ?_
    refine ja_ireturn doutput_75 rfl ?_
    exact mo_fin (by omega) rfl (k1 0 1 (by omega) g12)
end
theorem drow_0 : decode cX12_row 0 = .ok (.aload_n 0, 1) := by decide +kernel
theorem drow_1 : decode cX12_row 1 = .ok (.aload_n 0, 1) := by decide +kernel
theorem drow_2 : decode cX12_row 2 = .ok (.getfield 434, 3) := by decide +kernel
theorem drow_5 : decode cX12_row 5 = .ok (.ifCond .ne 7, 3) := by decide +kernel
theorem drow_8 : decode cX12_row 8 = .ok (.iconst 1, 1) := by decide +kernel
theorem drow_9 : decode cX12_row 9 = .ok (.goto 36, 3) := by decide +kernel
theorem drow_12 : decode cX12_row 12 = .ok (.iload_n 1, 1) := by decide +kernel
theorem drow_13 : decode cX12_row 13 = .ok (.ifCond .lt 27, 3) := by decide +kernel
theorem drow_16 : decode cX12_row 16 = .ok (.iload_n 1, 1) := by decide +kernel
theorem drow_17 : decode cX12_row 17 = .ok (.aload_n 0, 1) := by decide +kernel
theorem drow_18 : decode cX12_row 18 = .ok (.getfield 984, 3) := by decide +kernel
theorem drow_21 : decode cX12_row 21 = .ok (.if_icmp .ge 19, 3) := by decide +kernel
theorem drow_24 : decode cX12_row 24 = .ok (.iload_n 1, 1) := by decide +kernel
theorem drow_25 : decode cX12_row 25 = .ok (.sipush 300, 3) := by decide +kernel
theorem drow_28 : decode cX12_row 28 = .ok (.if_icmp .ge 12, 3) := by decide +kernel
theorem drow_31 : decode cX12_row 31 = .ok (.iload_n 2, 1) := by decide +kernel
theorem drow_32 : decode cX12_row 32 = .ok (.ifCond .lt 8, 3) := by decide +kernel
theorem drow_35 : decode cX12_row 35 = .ok (.iload_n 2, 1) := by decide +kernel
theorem drow_36 : decode cX12_row 36 = .ok (.iconst 1, 1) := by decide +kernel
theorem drow_37 : decode cX12_row 37 = .ok (.if_icmp .le 7, 3) := by decide +kernel
theorem drow_40 : decode cX12_row 40 = .ok (.iconst 2, 1) := by decide +kernel
theorem drow_41 : decode cX12_row 41 = .ok (.goto 4, 3) := by decide +kernel
theorem drow_44 : decode cX12_row 44 = .ok (.iconst 0, 1) := by decide +kernel
theorem drow_45 : decode cX12_row 45 = .ok (.putfield 423, 3) := by decide +kernel
theorem drow_48 : decode cX12_row 48 = .ok (.aload_n 0, 1) := by decide +kernel
theorem drow_49 : decode cX12_row 49 = .ok (.getfield 423, 3) := by decide +kernel
theorem drow_52 : decode cX12_row 52 = .ok (.ifCond .le 7, 3) := by decide +kernel
theorem drow_55 : decode cX12_row 55 = .ok (.iconst 0, 1) := by decide +kernel
theorem drow_56 : decode cX12_row 56 = .ok (.goto 22, 3) := by decide +kernel
theorem drow_59 : decode cX12_row 59 = .ok (.iload_n 2, 1) := by decide +kernel
theorem drow_60 : decode cX12_row 60 = .ok (.ifCond .ne 12, 3) := by decide +kernel
theorem drow_63 : decode cX12_row 63 = .ok (.aload_n 0, 1) := by decide +kernel
theorem drow_64 : decode cX12_row 64 = .ok (.getfield 270, 3) := by decide +kernel
theorem drow_67 : decode cX12_row 67 = .ok (.iload_n 1, 1) := by decide +kernel
theorem drow_68 : decode cX12_row 68 = .ok (.iaload, 1) := by decide +kernel
theorem drow_69 : decode cX12_row 69 = .ok (.goto 9, 3) := by decide +kernel
theorem drow_72 : decode cX12_row 72 = .ok (.aload_n 0, 1) := by decide +kernel
theorem drow_73 : decode cX12_row 73 = .ok (.getfield 273, 3) := by decide +kernel
theorem drow_76 : decode cX12_row 76 = .ok (.iload_n 1, 1) := by decide +kernel
theorem drow_77 : decode cX12_row 77 = .ok (.iaload, 1) := by decide +kernel
theorem drow_78 : decode cX12_row 78 = .ok (.ireturn, 1) := by decide +kernel
section
variable {l : Launch} {D : va_G} {cA : Nat → ClassId} {ad : Nat → Nat}
theorem s_row {a1 a2 : Int} {h : ja_H} {Q : Option ja_V → ja_H → Prop} (g : mo_G mo_zr h) (r1 : -2147483648 ≤ a1 ∧ a1 ≤ 2147483647) (r2 : -2147483648 ≤ a2 ∧ a2 ≤ 2147483647) (k1 : ∀ (v t : Int), (0 ≤ t ∧ t ≤ 2) → mo_G mo_zr (ja_up h 0 208 t) → Q (some (0, v)) (ja_up h 0 208 t)) : mM_row l D cA ad a1 a2 h Q := by
  show mJ l D cA ad 1 cX12_row 3 (some .int) 0 [(0, (2, ((0 : Nat) : Int))), (1, (0, a1)), (2, (0, a2))] [] h Q
  have kn_points := gF_points g
  have kn_advices := gF_advices g
  have kn_findings := gF_findings g
  have kn_classes := gF_classes g
  have kn_objects := gF_objects g
  have kn_outputs := gF_outputs g
  have kn_rows := gF_rows g
  refine ja_aload_n drow_0 rfl rfl ?_
  refine ja_aload_n drow_1 rfl rfl ?_
  refine fg_started (v := h 0 127) rfl drow_2 ?_
  have f1 := gF_started g
  refine ja_if_ne 12 drow_5 rfl ⟨by omega, by omega⟩ (fun c5 => ?_) (fun c5 => ?_)
  · refine ja_iload_n drow_12 rfl rfl ?_
    refine ja_if_lt 40 drow_13 rfl ⟨by omega, by omega⟩ (fun c13 => ?_) (fun c13 => ?_)
    · refine ja_iconst drow_40 ?_
      refine ja_goto 45 drow_41 rfl ?_
      have g2 := gP_thrown g (x := 2) ⟨by decide, by decide⟩
      refine fp_thrown drow_45 ?_
      refine ja_aload_n drow_48 rfl rfl ?_
      refine fg_thrown (v := 2) rfl drow_49 ?_
      refine ja_if_le 59 drow_52 rfl ⟨by decide, by decide⟩ (fun c52 => absurd c52 (by omega)) (fun c52 => ?_)
      refine ja_iconst drow_55 ?_
      refine ja_goto 78 drow_56 rfl ?_
      refine ja_ireturn drow_78 rfl ?_
      exact mo_fin (by omega) rfl (k1 0 2 (by omega) g2)
    · refine ja_iload_n drow_16 rfl rfl ?_
      refine ja_aload_n drow_17 rfl rfl ?_
      refine fg_rows (v := h 0 135) rfl drow_18 ?_
      have f3 := gF_rows g
      refine ja_icmp_ge 40 drow_21 rfl ⟨by omega, by omega⟩ ⟨by omega, by omega⟩ (fun c21 => ?_) (fun c21 => ?_)
      · refine ja_iconst drow_40 ?_
        refine ja_goto 45 drow_41 rfl ?_
        have g4 := gP_thrown g (x := 2) ⟨by decide, by decide⟩
        refine fp_thrown drow_45 ?_
        refine ja_aload_n drow_48 rfl rfl ?_
        refine fg_thrown (v := 2) rfl drow_49 ?_
        refine ja_if_le 59 drow_52 rfl ⟨by decide, by decide⟩ (fun c52 => absurd c52 (by omega)) (fun c52 => ?_)
        refine ja_iconst drow_55 ?_
        refine ja_goto 78 drow_56 rfl ?_
        refine ja_ireturn drow_78 rfl ?_
        exact mo_fin (by omega) rfl (k1 0 2 (by omega) g4)
      · refine ja_iload_n drow_24 rfl rfl ?_
        refine ja_sipush 300 drow_25 rfl ?_
        refine ja_icmp_ge 40 drow_28 rfl ⟨by omega, by omega⟩ ⟨by decide, by decide⟩ (fun c28 => ?_) (fun c28 => ?_)
        · refine ja_iconst drow_40 ?_
          refine ja_goto 45 drow_41 rfl ?_
          have g5 := gP_thrown g (x := 2) ⟨by decide, by decide⟩
          refine fp_thrown drow_45 ?_
          refine ja_aload_n drow_48 rfl rfl ?_
          refine fg_thrown (v := 2) rfl drow_49 ?_
          refine ja_if_le 59 drow_52 rfl ⟨by decide, by decide⟩ (fun c52 => absurd c52 (by omega)) (fun c52 => ?_)
          refine ja_iconst drow_55 ?_
          refine ja_goto 78 drow_56 rfl ?_
          refine ja_ireturn drow_78 rfl ?_
          exact mo_fin (by omega) rfl (k1 0 2 (by omega) g5)
        · refine ja_iload_n drow_31 rfl rfl ?_
          refine ja_if_lt 40 drow_32 rfl ⟨by omega, by omega⟩ (fun c32 => ?_) (fun c32 => ?_)
          · refine ja_iconst drow_40 ?_
            refine ja_goto 45 drow_41 rfl ?_
            have g6 := gP_thrown g (x := 2) ⟨by decide, by decide⟩
            refine fp_thrown drow_45 ?_
            refine ja_aload_n drow_48 rfl rfl ?_
            refine fg_thrown (v := 2) rfl drow_49 ?_
            refine ja_if_le 59 drow_52 rfl ⟨by decide, by decide⟩ (fun c52 => absurd c52 (by omega)) (fun c52 => ?_)
            refine ja_iconst drow_55 ?_
            refine ja_goto 78 drow_56 rfl ?_
            refine ja_ireturn drow_78 rfl ?_
            exact mo_fin (by omega) rfl (k1 0 2 (by omega) g6)
          · refine ja_iload_n drow_35 rfl rfl ?_
            refine ja_iconst drow_36 ?_
            refine ja_icmp_le 44 drow_37 rfl ⟨by omega, by omega⟩ ⟨by decide, by decide⟩ (fun c37 => ?_) (fun c37 => ?_)
            · refine ja_iconst drow_44 ?_
              have g7 := gP_thrown g (x := 0) ⟨by decide, by decide⟩
              refine fp_thrown drow_45 ?_
              refine ja_aload_n drow_48 rfl rfl ?_
              refine fg_thrown (v := 0) rfl drow_49 ?_
              refine ja_if_le 59 drow_52 rfl ⟨by decide, by decide⟩ (fun c52 => ?_) (fun c52 => absurd c52 (by omega))
              refine ja_iload_n drow_59 rfl rfl ?_
              refine ja_if_ne 72 drow_60 rfl ⟨by omega, by omega⟩ (fun c60 => ?_) (fun c60 => ?_)
              · refine ja_aload_n drow_72 rfl rfl ?_
                refine fa_rowPoint drow_73 ?_
                refine ja_iload_n drow_76 rfl rfl ?_
                refine il_rowPoint (v := h 88 (a1).toNat) rfl ⟨by omega, by omega⟩ drow_77 ?_
                have f8 := gC_rowPoint g (a1).toNat
                refine ja_ireturn drow_78 rfl ?_
                exact mo_fin (by omega) rfl (k1 (h 88 (a1).toNat) 0 (by omega) g7)
              · refine ja_aload_n drow_63 rfl rfl ?_
                refine fa_rowAdvice drow_64 ?_
                refine ja_iload_n drow_67 rfl rfl ?_
                refine il_rowAdvice (v := h 87 (a1).toNat) rfl ⟨by omega, by omega⟩ drow_68 ?_
                have f9 := gC_rowAdvice g (a1).toNat
                refine ja_goto 78 drow_69 rfl ?_
                refine ja_ireturn drow_78 rfl ?_
                exact mo_fin (by omega) rfl (k1 (h 87 (a1).toNat) 0 (by omega) g7)
            · refine ja_iconst drow_40 ?_
              refine ja_goto 45 drow_41 rfl ?_
              have g10 := gP_thrown g (x := 2) ⟨by decide, by decide⟩
              refine fp_thrown drow_45 ?_
              refine ja_aload_n drow_48 rfl rfl ?_
              refine fg_thrown (v := 2) rfl drow_49 ?_
              refine ja_if_le 59 drow_52 rfl ⟨by decide, by decide⟩ (fun c52 => absurd c52 (by omega)) (fun c52 => ?_)
              refine ja_iconst drow_55 ?_
              refine ja_goto 78 drow_56 rfl ?_
              refine ja_ireturn drow_78 rfl ?_
              exact mo_fin (by omega) rfl (k1 0 2 (by omega) g10)
  · refine ja_iconst drow_8 ?_
    refine ja_goto 45 drow_9 rfl ?_
    have g11 := gP_thrown g (x := 1) ⟨by decide, by decide⟩
    refine fp_thrown drow_45 ?_
    refine ja_aload_n drow_48 rfl rfl ?_
    refine fg_thrown (v := 1) rfl drow_49 ?_
    refine ja_if_le 59 drow_52 rfl ⟨by decide, by decide⟩ (fun c52 => absurd c52 (by omega)) (fun c52 => ?_)
    refine ja_iconst drow_55 ?_
    refine ja_goto 78 drow_56 rfl ?_
    refine ja_ireturn drow_78 rfl ?_
    exact mo_fin (by omega) rfl (k1 0 1 (by omega) g11)
end
theorem dobject_0 : decode cX12_object 0 = .ok (.aload_n 0, 1) := by decide +kernel
theorem dobject_1 : decode cX12_object 1 = .ok (.aload_n 0, 1) := by decide +kernel
theorem dobject_2 : decode cX12_object 2 = .ok (.getfield 434, 3) := by decide +kernel
theorem dobject_5 : decode cX12_object 5 = .ok (.ifCond .ne 7, 3) := by decide +kernel
theorem dobject_8 : decode cX12_object 8 = .ok (.iconst 1, 1) := by decide +kernel
theorem dobject_9 : decode cX12_object 9 = .ok (.goto 4, 3) := by decide +kernel
theorem dobject_12 : decode cX12_object 12 = .ok (.iconst 0, 1) := by decide +kernel
theorem dobject_13 : decode cX12_object 13 = .ok (.putfield 423, 3) := by decide +kernel
theorem dobject_16 : decode cX12_object 16 = .ok (.aload_n 0, 1) := by decide +kernel
theorem dobject_17 : decode cX12_object 17 = .ok (.getfield 423, 3) := by decide +kernel
theorem dobject_20 : decode cX12_object 20 = .ok (.ifCond .le 5, 3) := by decide +kernel
theorem dobject_23 : decode cX12_object 23 = .ok (.iconst 0, 1) := by decide +kernel
theorem dobject_24 : decode cX12_object 24 = .ok (.ireturn, 1) := by decide +kernel
theorem dobject_25 : decode cX12_object 25 = .ok (.iload_n 1, 1) := by decide +kernel
theorem dobject_26 : decode cX12_object 26 = .ok (.iconst 1, 1) := by decide +kernel
theorem dobject_27 : decode cX12_object 27 = .ok (.if_icmp .lt 15, 3) := by decide +kernel
theorem dobject_30 : decode cX12_object 30 = .ok (.iload_n 1, 1) := by decide +kernel
theorem dobject_31 : decode cX12_object 31 = .ok (.aload_n 0, 1) := by decide +kernel
theorem dobject_32 : decode cX12_object 32 = .ok (.getfield 987, 3) := by decide +kernel
theorem dobject_35 : decode cX12_object 35 = .ok (.if_icmp .gt 7, 3) := by decide +kernel
theorem dobject_38 : decode cX12_object 38 = .ok (.iconst 1, 1) := by decide +kernel
theorem dobject_39 : decode cX12_object 39 = .ok (.goto 4, 3) := by decide +kernel
theorem dobject_42 : decode cX12_object 42 = .ok (.iconst 0, 1) := by decide +kernel
theorem dobject_43 : decode cX12_object 43 = .ok (.istore 4, 2) := by decide +kernel
theorem dobject_45 : decode cX12_object 45 = .ok (.iload 4, 2) := by decide +kernel
theorem dobject_47 : decode cX12_object 47 = .ok (.ifCond .eq 47, 3) := by decide +kernel
theorem dobject_50 : decode cX12_object 50 = .ok (.iload_n 2, 1) := by decide +kernel
theorem dobject_51 : decode cX12_object 51 = .ok (.iconst (-1), 1) := by decide +kernel
theorem dobject_52 : decode cX12_object 52 = .ok (.if_icmp .ne 10, 3) := by decide +kernel
theorem dobject_55 : decode cX12_object 55 = .ok (.iload_n 3, 1) := by decide +kernel
theorem dobject_56 : decode cX12_object 56 = .ok (.ifCond .ne 38, 3) := by decide +kernel
theorem dobject_59 : decode cX12_object 59 = .ok (.goto 31, 3) := by decide +kernel
theorem dobject_62 : decode cX12_object 62 = .ok (.iload_n 2, 1) := by decide +kernel
theorem dobject_63 : decode cX12_object 63 = .ok (.ifCond .lt 31, 3) := by decide +kernel
theorem dobject_66 : decode cX12_object 66 = .ok (.iload_n 2, 1) := by decide +kernel
theorem dobject_67 : decode cX12_object 67 = .ok (.aload_n 0, 1) := by decide +kernel
theorem dobject_68 : decode cX12_object 68 = .ok (.getfield 255, 3) := by decide +kernel
theorem dobject_71 : decode cX12_object 71 = .ok (.aload_n 0, 1) := by decide +kernel
theorem dobject_72 : decode cX12_object 72 = .ok (.getfield 276, 3) := by decide +kernel
theorem dobject_75 : decode cX12_object 75 = .ok (.iload_n 1, 1) := by decide +kernel
theorem dobject_76 : decode cX12_object 76 = .ok (.iaload, 1) := by decide +kernel
theorem dobject_77 : decode cX12_object 77 = .ok (.iaload, 1) := by decide +kernel
theorem dobject_78 : decode cX12_object 78 = .ok (.if_icmp .ge 16, 3) := by decide +kernel
theorem dobject_81 : decode cX12_object 81 = .ok (.iload_n 3, 1) := by decide +kernel
theorem dobject_82 : decode cX12_object 82 = .ok (.ifCond .lt 12, 3) := by decide +kernel
theorem dobject_85 : decode cX12_object 85 = .ok (.iload_n 3, 1) := by decide +kernel
theorem dobject_86 : decode cX12_object 86 = .ok (.iconst 1, 1) := by decide +kernel
theorem dobject_87 : decode cX12_object 87 = .ok (.if_icmp .gt 7, 3) := by decide +kernel
theorem dobject_90 : decode cX12_object 90 = .ok (.iconst 1, 1) := by decide +kernel
theorem dobject_91 : decode cX12_object 91 = .ok (.goto 4, 3) := by decide +kernel
theorem dobject_94 : decode cX12_object 94 = .ok (.iconst 0, 1) := by decide +kernel
theorem dobject_95 : decode cX12_object 95 = .ok (.istore 5, 2) := by decide +kernel
theorem dobject_97 : decode cX12_object 97 = .ok (.aload_n 0, 1) := by decide +kernel
theorem dobject_98 : decode cX12_object 98 = .ok (.iload 5, 2) := by decide +kernel
theorem dobject_100 : decode cX12_object 100 = .ok (.ifCond .eq 7, 3) := by decide +kernel
theorem dobject_103 : decode cX12_object 103 = .ok (.iconst 0, 1) := by decide +kernel
theorem dobject_104 : decode cX12_object 104 = .ok (.goto 4, 3) := by decide +kernel
theorem dobject_107 : decode cX12_object 107 = .ok (.iconst 2, 1) := by decide +kernel
theorem dobject_108 : decode cX12_object 108 = .ok (.putfield 423, 3) := by decide +kernel
theorem dobject_111 : decode cX12_object 111 = .ok (.aload_n 0, 1) := by decide +kernel
theorem dobject_112 : decode cX12_object 112 = .ok (.getfield 423, 3) := by decide +kernel
theorem dobject_115 : decode cX12_object 115 = .ok (.ifCond .le 5, 3) := by decide +kernel
theorem dobject_118 : decode cX12_object 118 = .ok (.iconst 0, 1) := by decide +kernel
theorem dobject_119 : decode cX12_object 119 = .ok (.ireturn, 1) := by decide +kernel
theorem dobject_120 : decode cX12_object 120 = .ok (.iload_n 2, 1) := by decide +kernel
theorem dobject_121 : decode cX12_object 121 = .ok (.iconst (-1), 1) := by decide +kernel
theorem dobject_122 : decode cX12_object 122 = .ok (.if_icmp .ne 12, 3) := by decide +kernel
theorem dobject_125 : decode cX12_object 125 = .ok (.aload_n 0, 1) := by decide +kernel
theorem dobject_126 : decode cX12_object 126 = .ok (.getfield 276, 3) := by decide +kernel
theorem dobject_129 : decode cX12_object 129 = .ok (.iload_n 1, 1) := by decide +kernel
theorem dobject_130 : decode cX12_object 130 = .ok (.iaload, 1) := by decide +kernel
theorem dobject_131 : decode cX12_object 131 = .ok (.goto 29, 3) := by decide +kernel
theorem dobject_134 : decode cX12_object 134 = .ok (.iload_n 3, 1) := by decide +kernel
theorem dobject_135 : decode cX12_object 135 = .ok (.aload_n 0, 1) := by decide +kernel
theorem dobject_136 : decode cX12_object 136 = .ok (.getfield 279, 3) := by decide +kernel
theorem dobject_139 : decode cX12_object 139 = .ok (.bipush 120, 2) := by decide +kernel
theorem dobject_141 : decode cX12_object 141 = .ok (.iload_n 1, 1) := by decide +kernel
theorem dobject_142 : decode cX12_object 142 = .ok (.imul, 1) := by decide +kernel
theorem dobject_143 : decode cX12_object 143 = .ok (.iload_n 2, 1) := by decide +kernel
theorem dobject_144 : decode cX12_object 144 = .ok (.iadd, 1) := by decide +kernel
theorem dobject_145 : decode cX12_object 145 = .ok (.iaload, 1) := by decide +kernel
theorem dobject_146 : decode cX12_object 146 = .ok (.aload_n 0, 1) := by decide +kernel
theorem dobject_147 : decode cX12_object 147 = .ok (.getfield 282, 3) := by decide +kernel
theorem dobject_150 : decode cX12_object 150 = .ok (.bipush 120, 2) := by decide +kernel
theorem dobject_152 : decode cX12_object 152 = .ok (.iload_n 1, 1) := by decide +kernel
theorem dobject_153 : decode cX12_object 153 = .ok (.imul, 1) := by decide +kernel
theorem dobject_154 : decode cX12_object 154 = .ok (.iload_n 2, 1) := by decide +kernel
theorem dobject_155 : decode cX12_object 155 = .ok (.iadd, 1) := by decide +kernel
theorem dobject_156 : decode cX12_object 156 = .ok (.iaload, 1) := by decide +kernel
theorem dobject_157 : decode cX12_object 157 = .ok (.invokestatic 1178, 3) := by decide +kernel
theorem dobject_160 : decode cX12_object 160 = .ok (.ireturn, 1) := by decide +kernel
section
variable {l : Launch} {D : va_G} {cA : Nat → ClassId} {ad : Nat → Nat}
theorem s_object {a1 a2 a3 : Int} {h : ja_H} {Q : Option ja_V → ja_H → Prop} (g : mo_G mo_zr h) (r1 : -2147483648 ≤ a1 ∧ a1 ≤ 2147483647) (r2 : -2147483648 ≤ a2 ∧ a2 ≤ 2147483647) (r3 : -2147483648 ≤ a3 ∧ a3 ≤ 2147483647) (k1 : ∀ (v t : Int), (0 ≤ t ∧ t ≤ 2) → mo_G mo_zr (ja_up h 0 208 t) → Q (some (0, v)) (ja_up h 0 208 t)) : mM_object l D cA ad a1 a2 a3 h Q := by
  show mJ l D cA ad 2 cX12_object 6 (some .int) 0 [(0, (2, ((0 : Nat) : Int))), (1, (0, a1)), (2, (0, a2)), (3, (0, a3))] [] h Q
  have kn_points := gF_points g
  have kn_advices := gF_advices g
  have kn_findings := gF_findings g
  have kn_classes := gF_classes g
  have kn_objects := gF_objects g
  have kn_outputs := gF_outputs g
  have kn_rows := gF_rows g
  refine ja_aload_n dobject_0 rfl rfl ?_
  refine ja_aload_n dobject_1 rfl rfl ?_
  refine fg_started (v := h 0 127) rfl dobject_2 ?_
  have f1 := gF_started g
  refine ja_if_ne 12 dobject_5 rfl ⟨by omega, by omega⟩ (fun c5 => ?_) (fun c5 => ?_)
  · refine ja_iconst dobject_12 ?_
    have g2 := gP_thrown g (x := 0) ⟨by decide, by decide⟩
    refine fp_thrown dobject_13 ?_
    refine ja_aload_n dobject_16 rfl rfl ?_
    refine fg_thrown (v := 0) rfl dobject_17 ?_
    refine ja_if_le 25 dobject_20 rfl ⟨by decide, by decide⟩ (fun c20 => ?_) (fun c20 => absurd c20 (by omega))
    refine ja_iload_n dobject_25 rfl rfl ?_
    refine ja_iconst dobject_26 ?_
    refine ja_icmp_lt 42 dobject_27 rfl ⟨by omega, by omega⟩ ⟨by decide, by decide⟩ (fun c27 => ?_) (fun c27 => ?_)
    · refine ja_iconst dobject_42 ?_
      refine ja_istore dobject_43 (by decide) (L2 := [(4, (0, 0)), (0, (2, ((0 : Nat) : Int))), (1, (0, a1)), (2, (0, a2)), (3, (0, a3))]) rfl ?_
      refine ja_iload dobject_45 rfl ?_
      refine ja_if_eq 94 dobject_47 rfl ⟨by decide, by decide⟩ (fun c47 => ?_) (fun c47 => absurd c47 (by omega))
      refine ja_iconst dobject_94 ?_
      refine ja_istore dobject_95 (by decide) (L2 := [(5, (0, 0)), (4, (0, 0)), (0, (2, ((0 : Nat) : Int))), (1, (0, a1)), (2, (0, a2)), (3, (0, a3))]) rfl ?_
      refine ja_aload_n dobject_97 rfl rfl ?_
      refine ja_iload dobject_98 rfl ?_
      refine ja_if_eq 107 dobject_100 rfl ⟨by decide, by decide⟩ (fun c100 => ?_) (fun c100 => absurd c100 (by omega))
      refine ja_iconst dobject_107 ?_
      have g3 := gP_thrown g2 (x := 2) ⟨by decide, by decide⟩
      refine fp_thrown dobject_108 ?_
      refine ja_aload_n dobject_111 rfl rfl ?_
      refine fg_thrown (v := 2) rfl dobject_112 ?_
      refine ja_if_le 120 dobject_115 rfl ⟨by decide, by decide⟩ (fun c115 => absurd c115 (by omega)) (fun c115 => ?_)
      refine ja_iconst dobject_118 ?_
      refine ja_ireturn dobject_119 rfl ?_
      have hE : ja_up (ja_up h 0 208 0) 0 208 2 = ja_up h 0 208 2 := by funext k j; simp only [ja_up]; repeat' split <;> simp_all
      exact mo_fin (by omega) hE (k1 0 2 (by omega) (by rw [← hE]; exact g3))
    · refine ja_iload_n dobject_30 rfl rfl ?_
      refine ja_aload_n dobject_31 rfl rfl ?_
      refine fg_objects (v := h 0 138) rfl dobject_32 ?_
      have f4 := gF_objects g
      refine ja_icmp_gt 42 dobject_35 rfl ⟨by omega, by omega⟩ ⟨by omega, by omega⟩ (fun c35 => ?_) (fun c35 => ?_)
      · refine ja_iconst dobject_42 ?_
        refine ja_istore dobject_43 (by decide) (L2 := [(4, (0, 0)), (0, (2, ((0 : Nat) : Int))), (1, (0, a1)), (2, (0, a2)), (3, (0, a3))]) rfl ?_
        refine ja_iload dobject_45 rfl ?_
        refine ja_if_eq 94 dobject_47 rfl ⟨by decide, by decide⟩ (fun c47 => ?_) (fun c47 => absurd c47 (by omega))
        refine ja_iconst dobject_94 ?_
        refine ja_istore dobject_95 (by decide) (L2 := [(5, (0, 0)), (4, (0, 0)), (0, (2, ((0 : Nat) : Int))), (1, (0, a1)), (2, (0, a2)), (3, (0, a3))]) rfl ?_
        refine ja_aload_n dobject_97 rfl rfl ?_
        refine ja_iload dobject_98 rfl ?_
        refine ja_if_eq 107 dobject_100 rfl ⟨by decide, by decide⟩ (fun c100 => ?_) (fun c100 => absurd c100 (by omega))
        refine ja_iconst dobject_107 ?_
        have g5 := gP_thrown g2 (x := 2) ⟨by decide, by decide⟩
        refine fp_thrown dobject_108 ?_
        refine ja_aload_n dobject_111 rfl rfl ?_
        refine fg_thrown (v := 2) rfl dobject_112 ?_
        refine ja_if_le 120 dobject_115 rfl ⟨by decide, by decide⟩ (fun c115 => absurd c115 (by omega)) (fun c115 => ?_)
        refine ja_iconst dobject_118 ?_
        refine ja_ireturn dobject_119 rfl ?_
        have hE : ja_up (ja_up h 0 208 0) 0 208 2 = ja_up h 0 208 2 := by funext k j; simp only [ja_up]; repeat' split <;> simp_all
        exact mo_fin (by omega) hE (k1 0 2 (by omega) (by rw [← hE]; exact g5))
      · refine ja_iconst dobject_38 ?_
        refine ja_goto 43 dobject_39 rfl ?_
        refine ja_istore dobject_43 (by decide) (L2 := [(4, (0, 1)), (0, (2, ((0 : Nat) : Int))), (1, (0, a1)), (2, (0, a2)), (3, (0, a3))]) rfl ?_
        refine ja_iload dobject_45 rfl ?_
        refine ja_if_eq 94 dobject_47 rfl ⟨by decide, by decide⟩ (fun c47 => absurd c47 (by omega)) (fun c47 => ?_)
        refine ja_iload_n dobject_50 rfl rfl ?_
        refine ja_iconst dobject_51 ?_
        refine ja_icmp_ne 62 dobject_52 rfl ⟨by omega, by omega⟩ ⟨by decide, by decide⟩ (fun c52 => ?_) (fun c52 => ?_)
        · refine ja_iload_n dobject_62 rfl rfl ?_
          refine ja_if_lt 94 dobject_63 rfl ⟨by omega, by omega⟩ (fun c63 => ?_) (fun c63 => ?_)
          · refine ja_iconst dobject_94 ?_
            refine ja_istore dobject_95 (by decide) (L2 := [(5, (0, 0)), (4, (0, 1)), (0, (2, ((0 : Nat) : Int))), (1, (0, a1)), (2, (0, a2)), (3, (0, a3))]) rfl ?_
            refine ja_aload_n dobject_97 rfl rfl ?_
            refine ja_iload dobject_98 rfl ?_
            refine ja_if_eq 107 dobject_100 rfl ⟨by decide, by decide⟩ (fun c100 => ?_) (fun c100 => absurd c100 (by omega))
            refine ja_iconst dobject_107 ?_
            have g6 := gP_thrown g2 (x := 2) ⟨by decide, by decide⟩
            refine fp_thrown dobject_108 ?_
            refine ja_aload_n dobject_111 rfl rfl ?_
            refine fg_thrown (v := 2) rfl dobject_112 ?_
            refine ja_if_le 120 dobject_115 rfl ⟨by decide, by decide⟩ (fun c115 => absurd c115 (by omega)) (fun c115 => ?_)
            refine ja_iconst dobject_118 ?_
            refine ja_ireturn dobject_119 rfl ?_
            have hE : ja_up (ja_up h 0 208 0) 0 208 2 = ja_up h 0 208 2 := by funext k j; simp only [ja_up]; repeat' split <;> simp_all
            exact mo_fin (by omega) hE (k1 0 2 (by omega) (by rw [← hE]; exact g6))
          · refine ja_iload_n dobject_66 rfl rfl ?_
            refine ja_aload_n dobject_67 rfl rfl ?_
            refine fa_layoutMany dobject_68 ?_
            refine ja_aload_n dobject_71 rfl rfl ?_
            refine fa_objectClass dobject_72 ?_
            refine ja_iload_n dobject_75 rfl rfl ?_
            refine il_objectClass (v := h 89 (a1).toNat) rfl ⟨by omega, by omega⟩ dobject_76 ?_
            have f7 := gC_objectClass g (a1).toNat
            refine il_layoutMany (v := h 82 (h 89 (a1).toNat).toNat) rfl ⟨by omega, by omega⟩ dobject_77 ?_
            have f8 := gC_layoutMany g (h 89 (a1).toNat).toNat
            refine ja_icmp_ge 94 dobject_78 rfl ⟨by omega, by omega⟩ ⟨by omega, by omega⟩ (fun c78 => ?_) (fun c78 => ?_)
            · refine ja_iconst dobject_94 ?_
              refine ja_istore dobject_95 (by decide) (L2 := [(5, (0, 0)), (4, (0, 1)), (0, (2, ((0 : Nat) : Int))), (1, (0, a1)), (2, (0, a2)), (3, (0, a3))]) rfl ?_
              refine ja_aload_n dobject_97 rfl rfl ?_
              refine ja_iload dobject_98 rfl ?_
              refine ja_if_eq 107 dobject_100 rfl ⟨by decide, by decide⟩ (fun c100 => ?_) (fun c100 => absurd c100 (by omega))
              refine ja_iconst dobject_107 ?_
              have g9 := gP_thrown g2 (x := 2) ⟨by decide, by decide⟩
              refine fp_thrown dobject_108 ?_
              refine ja_aload_n dobject_111 rfl rfl ?_
              refine fg_thrown (v := 2) rfl dobject_112 ?_
              refine ja_if_le 120 dobject_115 rfl ⟨by decide, by decide⟩ (fun c115 => absurd c115 (by omega)) (fun c115 => ?_)
              refine ja_iconst dobject_118 ?_
              refine ja_ireturn dobject_119 rfl ?_
              have hE : ja_up (ja_up h 0 208 0) 0 208 2 = ja_up h 0 208 2 := by funext k j; simp only [ja_up]; repeat' split <;> simp_all
              exact mo_fin (by omega) hE (k1 0 2 (by omega) (by rw [← hE]; exact g9))
            · refine ja_iload_n dobject_81 rfl rfl ?_
              refine ja_if_lt 94 dobject_82 rfl ⟨by omega, by omega⟩ (fun c82 => ?_) (fun c82 => ?_)
              · refine ja_iconst dobject_94 ?_
                refine ja_istore dobject_95 (by decide) (L2 := [(5, (0, 0)), (4, (0, 1)), (0, (2, ((0 : Nat) : Int))), (1, (0, a1)), (2, (0, a2)), (3, (0, a3))]) rfl ?_
                refine ja_aload_n dobject_97 rfl rfl ?_
                refine ja_iload dobject_98 rfl ?_
                refine ja_if_eq 107 dobject_100 rfl ⟨by decide, by decide⟩ (fun c100 => ?_) (fun c100 => absurd c100 (by omega))
                refine ja_iconst dobject_107 ?_
                have g10 := gP_thrown g2 (x := 2) ⟨by decide, by decide⟩
                refine fp_thrown dobject_108 ?_
                refine ja_aload_n dobject_111 rfl rfl ?_
                refine fg_thrown (v := 2) rfl dobject_112 ?_
                refine ja_if_le 120 dobject_115 rfl ⟨by decide, by decide⟩ (fun c115 => absurd c115 (by omega)) (fun c115 => ?_)
                refine ja_iconst dobject_118 ?_
                refine ja_ireturn dobject_119 rfl ?_
                have hE : ja_up (ja_up h 0 208 0) 0 208 2 = ja_up h 0 208 2 := by funext k j; simp only [ja_up]; repeat' split <;> simp_all
                exact mo_fin (by omega) hE (k1 0 2 (by omega) (by rw [← hE]; exact g10))
              · refine ja_iload_n dobject_85 rfl rfl ?_
                refine ja_iconst dobject_86 ?_
                refine ja_icmp_gt 94 dobject_87 rfl ⟨by omega, by omega⟩ ⟨by decide, by decide⟩ (fun c87 => ?_) (fun c87 => ?_)
                · refine ja_iconst dobject_94 ?_
                  refine ja_istore dobject_95 (by decide) (L2 := [(5, (0, 0)), (4, (0, 1)), (0, (2, ((0 : Nat) : Int))), (1, (0, a1)), (2, (0, a2)), (3, (0, a3))]) rfl ?_
                  refine ja_aload_n dobject_97 rfl rfl ?_
                  refine ja_iload dobject_98 rfl ?_
                  refine ja_if_eq 107 dobject_100 rfl ⟨by decide, by decide⟩ (fun c100 => ?_) (fun c100 => absurd c100 (by omega))
                  refine ja_iconst dobject_107 ?_
                  have g11 := gP_thrown g2 (x := 2) ⟨by decide, by decide⟩
                  refine fp_thrown dobject_108 ?_
                  refine ja_aload_n dobject_111 rfl rfl ?_
                  refine fg_thrown (v := 2) rfl dobject_112 ?_
                  refine ja_if_le 120 dobject_115 rfl ⟨by decide, by decide⟩ (fun c115 => absurd c115 (by omega)) (fun c115 => ?_)
                  refine ja_iconst dobject_118 ?_
                  refine ja_ireturn dobject_119 rfl ?_
                  have hE : ja_up (ja_up h 0 208 0) 0 208 2 = ja_up h 0 208 2 := by funext k j; simp only [ja_up]; repeat' split <;> simp_all
                  exact mo_fin (by omega) hE (k1 0 2 (by omega) (by rw [← hE]; exact g11))
                · refine ja_iconst dobject_90 ?_
                  refine ja_goto 95 dobject_91 rfl ?_
                  refine ja_istore dobject_95 (by decide) (L2 := [(5, (0, 1)), (4, (0, 1)), (0, (2, ((0 : Nat) : Int))), (1, (0, a1)), (2, (0, a2)), (3, (0, a3))]) rfl ?_
                  refine ja_aload_n dobject_97 rfl rfl ?_
                  refine ja_iload dobject_98 rfl ?_
                  refine ja_if_eq 107 dobject_100 rfl ⟨by decide, by decide⟩ (fun c100 => absurd c100 (by omega)) (fun c100 => ?_)
                  refine ja_iconst dobject_103 ?_
                  refine ja_goto 108 dobject_104 rfl ?_
                  have g12 := gP_thrown g2 (x := 0) ⟨by decide, by decide⟩
                  refine fp_thrown dobject_108 ?_
                  refine ja_aload_n dobject_111 rfl rfl ?_
                  refine fg_thrown (v := 0) rfl dobject_112 ?_
                  refine ja_if_le 120 dobject_115 rfl ⟨by decide, by decide⟩ (fun c115 => ?_) (fun c115 => absurd c115 (by omega))
                  refine ja_iload_n dobject_120 rfl rfl ?_
                  refine ja_iconst dobject_121 ?_
                  refine ja_icmp_ne 134 dobject_122 rfl ⟨by omega, by omega⟩ ⟨by decide, by decide⟩ (fun c122 => ?_) (fun c122 => ?_)
                  · refine ja_iload_n dobject_134 rfl rfl ?_
                    refine ja_aload_n dobject_135 rfl rfl ?_
                    refine fa_fieldKind dobject_136 ?_
                    refine ja_bipush 120 dobject_139 rfl ?_
                    refine ja_iload_n dobject_141 rfl rfl ?_
                    refine ja_imul dobject_142 ?_
                    refine ja_iload_n dobject_143 rfl rfl ?_
                    refine ja_iadd dobject_144 ?_
                    refine il_fieldKind (v := h 90 ((120 * a1) + a2).toNat) rfl ⟨by omega, by omega⟩ dobject_145 ?_
                    have f13 := gC_fieldKind g ((120 * a1) + a2).toNat
                    refine ja_aload_n dobject_146 rfl rfl ?_
                    refine fa_fieldValue dobject_147 ?_
                    refine ja_bipush 120 dobject_150 rfl ?_
                    refine ja_iload_n dobject_152 rfl rfl ?_
                    refine ja_imul dobject_153 ?_
                    refine ja_iload_n dobject_154 rfl rfl ?_
                    refine ja_iadd dobject_155 ?_
                    refine il_fieldValue (v := h 91 ((120 * a1) + a2).toNat) rfl ⟨by omega, by omega⟩ dobject_156 ?_
                    have f14 := gC_fieldValue g ((120 * a1) + a2).toNat
                    refine t_tell (by decide) (show (0 : Nat) ≤ 8 by decide) dobject_157 g12 ⟨by omega, by omega⟩ ⟨by omega, by omega⟩ ⟨by omega, by omega⟩ ?_
                    intro w15 k157_0
                    replace k157_0 : -2147483648 ≤ w15 ∧ w15 ≤ 2147483647 := k157_0
                    refine ja_ireturn dobject_160 rfl ?_
                    have hE : ja_up (ja_up h 0 208 0) 0 208 0 = ja_up h 0 208 0 := by funext k j; simp only [ja_up]; repeat' split <;> simp_all
                    exact mo_fin (by omega) hE (k1 w15 0 (by omega) (by rw [← hE]; exact g12))
                  · refine ja_aload_n dobject_125 rfl rfl ?_
                    refine fa_objectClass dobject_126 ?_
                    refine ja_iload_n dobject_129 rfl rfl ?_
                    refine il_objectClass (v := h 89 (a1).toNat) rfl ⟨by omega, by omega⟩ dobject_130 ?_
                    refine ja_goto 160 dobject_131 rfl ?_
                    refine ja_ireturn dobject_160 rfl ?_
                    have hE : ja_up (ja_up h 0 208 0) 0 208 0 = ja_up h 0 208 0 := by funext k j; simp only [ja_up]; repeat' split <;> simp_all
                    exact mo_fin (by omega) hE (k1 (h 89 (a1).toNat) 0 (by omega) (by rw [← hE]; exact g12))
        · refine ja_iload_n dobject_55 rfl rfl ?_
          refine ja_if_ne 94 dobject_56 rfl ⟨by omega, by omega⟩ (fun c56 => ?_) (fun c56 => ?_)
          · refine ja_iconst dobject_94 ?_
            refine ja_istore dobject_95 (by decide) (L2 := [(5, (0, 0)), (4, (0, 1)), (0, (2, ((0 : Nat) : Int))), (1, (0, a1)), (2, (0, a2)), (3, (0, a3))]) rfl ?_
            refine ja_aload_n dobject_97 rfl rfl ?_
            refine ja_iload dobject_98 rfl ?_
            refine ja_if_eq 107 dobject_100 rfl ⟨by decide, by decide⟩ (fun c100 => ?_) (fun c100 => absurd c100 (by omega))
            refine ja_iconst dobject_107 ?_
            have g16 := gP_thrown g2 (x := 2) ⟨by decide, by decide⟩
            refine fp_thrown dobject_108 ?_
            refine ja_aload_n dobject_111 rfl rfl ?_
            refine fg_thrown (v := 2) rfl dobject_112 ?_
            refine ja_if_le 120 dobject_115 rfl ⟨by decide, by decide⟩ (fun c115 => absurd c115 (by omega)) (fun c115 => ?_)
            refine ja_iconst dobject_118 ?_
            refine ja_ireturn dobject_119 rfl ?_
            have hE : ja_up (ja_up h 0 208 0) 0 208 2 = ja_up h 0 208 2 := by funext k j; simp only [ja_up]; repeat' split <;> simp_all
            exact mo_fin (by omega) hE (k1 0 2 (by omega) (by rw [← hE]; exact g16))
          · refine ja_goto 90 dobject_59 rfl ?_
            refine ja_iconst dobject_90 ?_
            refine ja_goto 95 dobject_91 rfl ?_
            refine ja_istore dobject_95 (by decide) (L2 := [(5, (0, 1)), (4, (0, 1)), (0, (2, ((0 : Nat) : Int))), (1, (0, a1)), (2, (0, a2)), (3, (0, a3))]) rfl ?_
            refine ja_aload_n dobject_97 rfl rfl ?_
            refine ja_iload dobject_98 rfl ?_
            refine ja_if_eq 107 dobject_100 rfl ⟨by decide, by decide⟩ (fun c100 => absurd c100 (by omega)) (fun c100 => ?_)
            refine ja_iconst dobject_103 ?_
            refine ja_goto 108 dobject_104 rfl ?_
            have g17 := gP_thrown g2 (x := 0) ⟨by decide, by decide⟩
            refine fp_thrown dobject_108 ?_
            refine ja_aload_n dobject_111 rfl rfl ?_
            refine fg_thrown (v := 0) rfl dobject_112 ?_
            refine ja_if_le 120 dobject_115 rfl ⟨by decide, by decide⟩ (fun c115 => ?_) (fun c115 => absurd c115 (by omega))
            refine ja_iload_n dobject_120 rfl rfl ?_
            refine ja_iconst dobject_121 ?_
            refine ja_icmp_ne 134 dobject_122 rfl ⟨by omega, by omega⟩ ⟨by decide, by decide⟩ (fun c122 => ?_) (fun c122 => ?_)
            · refine ja_iload_n dobject_134 rfl rfl ?_
              refine ja_aload_n dobject_135 rfl rfl ?_
              refine fa_fieldKind dobject_136 ?_
              refine ja_bipush 120 dobject_139 rfl ?_
              refine ja_iload_n dobject_141 rfl rfl ?_
              refine ja_imul dobject_142 ?_
              refine ja_iload_n dobject_143 rfl rfl ?_
              refine ja_iadd dobject_144 ?_
              refine il_fieldKind (v := h 90 ((120 * a1) + a2).toNat) rfl ⟨by omega, by omega⟩ dobject_145 ?_
              have f18 := gC_fieldKind g ((120 * a1) + a2).toNat
              refine ja_aload_n dobject_146 rfl rfl ?_
              refine fa_fieldValue dobject_147 ?_
              refine ja_bipush 120 dobject_150 rfl ?_
              refine ja_iload_n dobject_152 rfl rfl ?_
              refine ja_imul dobject_153 ?_
              refine ja_iload_n dobject_154 rfl rfl ?_
              refine ja_iadd dobject_155 ?_
              refine il_fieldValue (v := h 91 ((120 * a1) + a2).toNat) rfl ⟨by omega, by omega⟩ dobject_156 ?_
              have f19 := gC_fieldValue g ((120 * a1) + a2).toNat
              refine t_tell (by decide) (show (0 : Nat) ≤ 8 by decide) dobject_157 g17 ⟨by omega, by omega⟩ ⟨by omega, by omega⟩ ⟨by omega, by omega⟩ ?_
              intro w20 k157_0
              replace k157_0 : -2147483648 ≤ w20 ∧ w20 ≤ 2147483647 := k157_0
              refine ja_ireturn dobject_160 rfl ?_
              have hE : ja_up (ja_up h 0 208 0) 0 208 0 = ja_up h 0 208 0 := by funext k j; simp only [ja_up]; repeat' split <;> simp_all
              exact mo_fin (by omega) hE (k1 w20 0 (by omega) (by rw [← hE]; exact g17))
            · refine ja_aload_n dobject_125 rfl rfl ?_
              refine fa_objectClass dobject_126 ?_
              refine ja_iload_n dobject_129 rfl rfl ?_
              refine il_objectClass (v := h 89 (a1).toNat) rfl ⟨by omega, by omega⟩ dobject_130 ?_
              have f21 := gC_objectClass g (a1).toNat
              refine ja_goto 160 dobject_131 rfl ?_
              refine ja_ireturn dobject_160 rfl ?_
              have hE : ja_up (ja_up h 0 208 0) 0 208 0 = ja_up h 0 208 0 := by funext k j; simp only [ja_up]; repeat' split <;> simp_all
              exact mo_fin (by omega) hE (k1 (h 89 (a1).toNat) 0 (by omega) (by rw [← hE]; exact g17))
  · refine ja_iconst dobject_8 ?_
    refine ja_goto 13 dobject_9 rfl ?_
    have g22 := gP_thrown g (x := 1) ⟨by decide, by decide⟩
    refine fp_thrown dobject_13 ?_
    refine ja_aload_n dobject_16 rfl rfl ?_
    refine fg_thrown (v := 1) rfl dobject_17 ?_
    refine ja_if_le 25 dobject_20 rfl ⟨by decide, by decide⟩ (fun c20 => absurd c20 (by omega)) (fun c20 => ?_)
    refine ja_iconst dobject_23 ?_
    refine ja_ireturn dobject_24 rfl ?_
    exact mo_fin (by omega) rfl (k1 0 1 (by omega) g22)
end
theorem dheld_0 : decode cX12_held 0 = .ok (.aload_n 0, 1) := by decide +kernel
theorem dheld_1 : decode cX12_held 1 = .ok (.aload_n 0, 1) := by decide +kernel
theorem dheld_2 : decode cX12_held 2 = .ok (.getfield 434, 3) := by decide +kernel
theorem dheld_5 : decode cX12_held 5 = .ok (.ifCond .ne 7, 3) := by decide +kernel
theorem dheld_8 : decode cX12_held 8 = .ok (.iconst 1, 1) := by decide +kernel
theorem dheld_9 : decode cX12_held 9 = .ok (.goto 4, 3) := by decide +kernel
theorem dheld_12 : decode cX12_held 12 = .ok (.iconst 0, 1) := by decide +kernel
theorem dheld_13 : decode cX12_held 13 = .ok (.putfield 423, 3) := by decide +kernel
theorem dheld_16 : decode cX12_held 16 = .ok (.aload_n 0, 1) := by decide +kernel
theorem dheld_17 : decode cX12_held 17 = .ok (.getfield 423, 3) := by decide +kernel
theorem dheld_20 : decode cX12_held 20 = .ok (.ifCond .le 5, 3) := by decide +kernel
theorem dheld_23 : decode cX12_held 23 = .ok (.iconst 0, 1) := by decide +kernel
theorem dheld_24 : decode cX12_held 24 = .ok (.ireturn, 1) := by decide +kernel
theorem dheld_25 : decode cX12_held 25 = .ok (.iload_n 1, 1) := by decide +kernel
theorem dheld_26 : decode cX12_held 26 = .ok (.ifCond .lt 30, 3) := by decide +kernel
theorem dheld_29 : decode cX12_held 29 = .ok (.iload_n 1, 1) := by decide +kernel
theorem dheld_30 : decode cX12_held 30 = .ok (.aload_n 0, 1) := by decide +kernel
theorem dheld_31 : decode cX12_held 31 = .ok (.getfield 650, 3) := by decide +kernel
theorem dheld_34 : decode cX12_held 34 = .ok (.if_icmp .ge 22, 3) := by decide +kernel
theorem dheld_37 : decode cX12_held 37 = .ok (.iload_n 3, 1) := by decide +kernel
theorem dheld_38 : decode cX12_held 38 = .ok (.ifCond .lt 18, 3) := by decide +kernel
theorem dheld_41 : decode cX12_held 41 = .ok (.iload 4, 2) := by decide +kernel
theorem dheld_43 : decode cX12_held 43 = .ok (.ifCond .lt 13, 3) := by decide +kernel
theorem dheld_46 : decode cX12_held 46 = .ok (.iload 4, 2) := by decide +kernel
theorem dheld_48 : decode cX12_held 48 = .ok (.iconst 1, 1) := by decide +kernel
theorem dheld_49 : decode cX12_held 49 = .ok (.if_icmp .gt 7, 3) := by decide +kernel
theorem dheld_52 : decode cX12_held 52 = .ok (.iconst 1, 1) := by decide +kernel
theorem dheld_53 : decode cX12_held 53 = .ok (.goto 4, 3) := by decide +kernel
theorem dheld_56 : decode cX12_held 56 = .ok (.iconst 0, 1) := by decide +kernel
theorem dheld_57 : decode cX12_held 57 = .ok (.istore 5, 2) := by decide +kernel
theorem dheld_59 : decode cX12_held 59 = .ok (.iload 5, 2) := by decide +kernel
theorem dheld_61 : decode cX12_held 61 = .ok (.ifCond .eq 46, 3) := by decide +kernel
theorem dheld_64 : decode cX12_held 64 = .ok (.iload_n 3, 1) := by decide +kernel
theorem dheld_65 : decode cX12_held 65 = .ok (.aload_n 0, 1) := by decide +kernel
theorem dheld_66 : decode cX12_held 66 = .ok (.getfield 53, 3) := by decide +kernel
theorem dheld_69 : decode cX12_held 69 = .ok (.iload_n 1, 1) := by decide +kernel
theorem dheld_70 : decode cX12_held 70 = .ok (.iaload, 1) := by decide +kernel
theorem dheld_71 : decode cX12_held 71 = .ok (.if_icmp .ge 36, 3) := by decide +kernel
theorem dheld_74 : decode cX12_held 74 = .ok (.aload_n 0, 1) := by decide +kernel
theorem dheld_75 : decode cX12_held 75 = .ok (.getfield 49, 3) := by decide +kernel
theorem dheld_78 : decode cX12_held 78 = .ok (.iload_n 1, 1) := by decide +kernel
theorem dheld_79 : decode cX12_held 79 = .ok (.baload, 1) := by decide +kernel
theorem dheld_80 : decode cX12_held 80 = .ok (.ifCond .eq 19, 3) := by decide +kernel
theorem dheld_83 : decode cX12_held 83 = .ok (.iload_n 2, 1) := by decide +kernel
theorem dheld_84 : decode cX12_held 84 = .ok (.iconst 1, 1) := by decide +kernel
theorem dheld_85 : decode cX12_held 85 = .ok (.if_icmp .lt 22, 3) := by decide +kernel
theorem dheld_88 : decode cX12_held 88 = .ok (.iload_n 2, 1) := by decide +kernel
theorem dheld_89 : decode cX12_held 89 = .ok (.aload_n 0, 1) := by decide +kernel
theorem dheld_90 : decode cX12_held 90 = .ok (.getfield 987, 3) := by decide +kernel
theorem dheld_93 : decode cX12_held 93 = .ok (.if_icmp .gt 14, 3) := by decide +kernel
theorem dheld_96 : decode cX12_held 96 = .ok (.goto 7, 3) := by decide +kernel
theorem dheld_99 : decode cX12_held 99 = .ok (.iload_n 2, 1) := by decide +kernel
theorem dheld_100 : decode cX12_held 100 = .ok (.ifCond .ne 7, 3) := by decide +kernel
theorem dheld_103 : decode cX12_held 103 = .ok (.iconst 1, 1) := by decide +kernel
theorem dheld_104 : decode cX12_held 104 = .ok (.goto 4, 3) := by decide +kernel
theorem dheld_107 : decode cX12_held 107 = .ok (.iconst 0, 1) := by decide +kernel
theorem dheld_108 : decode cX12_held 108 = .ok (.istore 5, 2) := by decide +kernel
theorem dheld_110 : decode cX12_held 110 = .ok (.aload_n 0, 1) := by decide +kernel
theorem dheld_111 : decode cX12_held 111 = .ok (.iload 5, 2) := by decide +kernel
theorem dheld_113 : decode cX12_held 113 = .ok (.ifCond .eq 7, 3) := by decide +kernel
theorem dheld_116 : decode cX12_held 116 = .ok (.iconst 0, 1) := by decide +kernel
theorem dheld_117 : decode cX12_held 117 = .ok (.goto 4, 3) := by decide +kernel
theorem dheld_120 : decode cX12_held 120 = .ok (.iconst 2, 1) := by decide +kernel
theorem dheld_121 : decode cX12_held 121 = .ok (.putfield 423, 3) := by decide +kernel
theorem dheld_124 : decode cX12_held 124 = .ok (.aload_n 0, 1) := by decide +kernel
theorem dheld_125 : decode cX12_held 125 = .ok (.getfield 423, 3) := by decide +kernel
theorem dheld_128 : decode cX12_held 128 = .ok (.ifCond .le 5, 3) := by decide +kernel
theorem dheld_131 : decode cX12_held 131 = .ok (.iconst 0, 1) := by decide +kernel
theorem dheld_132 : decode cX12_held 132 = .ok (.ireturn, 1) := by decide +kernel
theorem dheld_133 : decode cX12_held 133 = .ok (.aload_n 0, 1) := by decide +kernel
theorem dheld_134 : decode cX12_held 134 = .ok (.iload_n 1, 1) := by decide +kernel
theorem dheld_135 : decode cX12_held 135 = .ok (.iload_n 2, 1) := by decide +kernel
theorem dheld_136 : decode cX12_held 136 = .ok (.iload_n 3, 1) := by decide +kernel
theorem dheld_137 : decode cX12_held 137 = .ok (.invokevirtual 1102, 3) := by decide +kernel
theorem dheld_140 : decode cX12_held 140 = .ok (.istore 6, 2) := by decide +kernel
theorem dheld_142 : decode cX12_held 142 = .ok (.iload 4, 2) := by decide +kernel
theorem dheld_144 : decode cX12_held 144 = .ok (.aload_n 0, 1) := by decide +kernel
theorem dheld_145 : decode cX12_held 145 = .ok (.getfield 285, 3) := by decide +kernel
theorem dheld_148 : decode cX12_held 148 = .ok (.iload 6, 2) := by decide +kernel
theorem dheld_150 : decode cX12_held 150 = .ok (.iaload, 1) := by decide +kernel
theorem dheld_151 : decode cX12_held 151 = .ok (.aload_n 0, 1) := by decide +kernel
theorem dheld_152 : decode cX12_held 152 = .ok (.getfield 288, 3) := by decide +kernel
theorem dheld_155 : decode cX12_held 155 = .ok (.iload 6, 2) := by decide +kernel
theorem dheld_157 : decode cX12_held 157 = .ok (.iaload, 1) := by decide +kernel
theorem dheld_158 : decode cX12_held 158 = .ok (.invokestatic 1178, 3) := by decide +kernel
theorem dheld_161 : decode cX12_held 161 = .ok (.ireturn, 1) := by decide +kernel
section
variable {l : Launch} {D : va_G} {cA : Nat → ClassId} {ad : Nat → Nat}
theorem s_held {a1 a2 a3 a4 : Int} {h : ja_H} {Q : Option ja_V → ja_H → Prop} (g : mo_G mo_zr h) (r1 : -2147483648 ≤ a1 ∧ a1 ≤ 2147483647) (r2 : -2147483648 ≤ a2 ∧ a2 ≤ 2147483647) (r3 : -2147483648 ≤ a3 ∧ a3 ≤ 2147483647) (r4 : -2147483648 ≤ a4 ∧ a4 ≤ 2147483647) (k1 : ∀ (v t : Int), (0 ≤ t ∧ t ≤ 2) → mo_G mo_zr (ja_up h 0 208 t) → Q (some (0, v)) (ja_up h 0 208 t)) : mM_held l D cA ad a1 a2 a3 a4 h Q := by
  show mJ l D cA ad 2 cX12_held 7 (some .int) 0 [(0, (2, ((0 : Nat) : Int))), (1, (0, a1)), (2, (0, a2)), (3, (0, a3)), (4, (0, a4))] [] h Q
  have kn_points := gF_points g
  have kn_advices := gF_advices g
  have kn_findings := gF_findings g
  have kn_classes := gF_classes g
  have kn_objects := gF_objects g
  have kn_outputs := gF_outputs g
  have kn_rows := gF_rows g
  refine ja_aload_n dheld_0 rfl rfl ?_
  refine ja_aload_n dheld_1 rfl rfl ?_
  refine fg_started (v := h 0 127) rfl dheld_2 ?_
  have f1 := gF_started g
  refine ja_if_ne 12 dheld_5 rfl ⟨by omega, by omega⟩ (fun c5 => ?_) (fun c5 => ?_)
  · refine ja_iconst dheld_12 ?_
    have g2 := gP_thrown g (x := 0) ⟨by decide, by decide⟩
    refine fp_thrown dheld_13 ?_
    refine ja_aload_n dheld_16 rfl rfl ?_
    refine fg_thrown (v := 0) rfl dheld_17 ?_
    refine ja_if_le 25 dheld_20 rfl ⟨by decide, by decide⟩ (fun c20 => ?_) (fun c20 => absurd c20 (by omega))
    refine ja_iload_n dheld_25 rfl rfl ?_
    refine ja_if_lt 56 dheld_26 rfl ⟨by omega, by omega⟩ (fun c26 => ?_) (fun c26 => ?_)
    · refine ja_iconst dheld_56 ?_
      refine ja_istore dheld_57 (by decide) (L2 := [(5, (0, 0)), (0, (2, ((0 : Nat) : Int))), (1, (0, a1)), (2, (0, a2)), (3, (0, a3)), (4, (0, a4))]) rfl ?_
      refine ja_iload dheld_59 rfl ?_
      refine ja_if_eq 107 dheld_61 rfl ⟨by decide, by decide⟩ (fun c61 => ?_) (fun c61 => absurd c61 (by omega))
      refine ja_iconst dheld_107 ?_
      refine ja_istore dheld_108 (by decide) (L2 := [(5, (0, 0)), (0, (2, ((0 : Nat) : Int))), (1, (0, a1)), (2, (0, a2)), (3, (0, a3)), (4, (0, a4))]) rfl ?_
      refine ja_aload_n dheld_110 rfl rfl ?_
      refine ja_iload dheld_111 rfl ?_
      refine ja_if_eq 120 dheld_113 rfl ⟨by decide, by decide⟩ (fun c113 => ?_) (fun c113 => absurd c113 (by omega))
      refine ja_iconst dheld_120 ?_
      have g3 := gP_thrown g2 (x := 2) ⟨by decide, by decide⟩
      refine fp_thrown dheld_121 ?_
      refine ja_aload_n dheld_124 rfl rfl ?_
      refine fg_thrown (v := 2) rfl dheld_125 ?_
      refine ja_if_le 133 dheld_128 rfl ⟨by decide, by decide⟩ (fun c128 => absurd c128 (by omega)) (fun c128 => ?_)
      refine ja_iconst dheld_131 ?_
      refine ja_ireturn dheld_132 rfl ?_
      have hE : ja_up (ja_up h 0 208 0) 0 208 2 = ja_up h 0 208 2 := by funext k j; simp only [ja_up]; repeat' split <;> simp_all
      exact mo_fin (by omega) hE (k1 0 2 (by omega) (by rw [← hE]; exact g3))
    · refine ja_iload_n dheld_29 rfl rfl ?_
      refine ja_aload_n dheld_30 rfl rfl ?_
      refine fg_aspects (v := h 0 26) rfl dheld_31 ?_
      have f4 := gF_aspects g
      refine ja_icmp_ge 56 dheld_34 rfl ⟨by omega, by omega⟩ ⟨by omega, by omega⟩ (fun c34 => ?_) (fun c34 => ?_)
      · refine ja_iconst dheld_56 ?_
        refine ja_istore dheld_57 (by decide) (L2 := [(5, (0, 0)), (0, (2, ((0 : Nat) : Int))), (1, (0, a1)), (2, (0, a2)), (3, (0, a3)), (4, (0, a4))]) rfl ?_
        refine ja_iload dheld_59 rfl ?_
        refine ja_if_eq 107 dheld_61 rfl ⟨by decide, by decide⟩ (fun c61 => ?_) (fun c61 => absurd c61 (by omega))
        refine ja_iconst dheld_107 ?_
        refine ja_istore dheld_108 (by decide) (L2 := [(5, (0, 0)), (0, (2, ((0 : Nat) : Int))), (1, (0, a1)), (2, (0, a2)), (3, (0, a3)), (4, (0, a4))]) rfl ?_
        refine ja_aload_n dheld_110 rfl rfl ?_
        refine ja_iload dheld_111 rfl ?_
        refine ja_if_eq 120 dheld_113 rfl ⟨by decide, by decide⟩ (fun c113 => ?_) (fun c113 => absurd c113 (by omega))
        refine ja_iconst dheld_120 ?_
        have g5 := gP_thrown g2 (x := 2) ⟨by decide, by decide⟩
        refine fp_thrown dheld_121 ?_
        refine ja_aload_n dheld_124 rfl rfl ?_
        refine fg_thrown (v := 2) rfl dheld_125 ?_
        refine ja_if_le 133 dheld_128 rfl ⟨by decide, by decide⟩ (fun c128 => absurd c128 (by omega)) (fun c128 => ?_)
        refine ja_iconst dheld_131 ?_
        refine ja_ireturn dheld_132 rfl ?_
        have hE : ja_up (ja_up h 0 208 0) 0 208 2 = ja_up h 0 208 2 := by funext k j; simp only [ja_up]; repeat' split <;> simp_all
        exact mo_fin (by omega) hE (k1 0 2 (by omega) (by rw [← hE]; exact g5))
      · refine ja_iload_n dheld_37 rfl rfl ?_
        refine ja_if_lt 56 dheld_38 rfl ⟨by omega, by omega⟩ (fun c38 => ?_) (fun c38 => ?_)
        · refine ja_iconst dheld_56 ?_
          refine ja_istore dheld_57 (by decide) (L2 := [(5, (0, 0)), (0, (2, ((0 : Nat) : Int))), (1, (0, a1)), (2, (0, a2)), (3, (0, a3)), (4, (0, a4))]) rfl ?_
          refine ja_iload dheld_59 rfl ?_
          refine ja_if_eq 107 dheld_61 rfl ⟨by decide, by decide⟩ (fun c61 => ?_) (fun c61 => absurd c61 (by omega))
          refine ja_iconst dheld_107 ?_
          refine ja_istore dheld_108 (by decide) (L2 := [(5, (0, 0)), (0, (2, ((0 : Nat) : Int))), (1, (0, a1)), (2, (0, a2)), (3, (0, a3)), (4, (0, a4))]) rfl ?_
          refine ja_aload_n dheld_110 rfl rfl ?_
          refine ja_iload dheld_111 rfl ?_
          refine ja_if_eq 120 dheld_113 rfl ⟨by decide, by decide⟩ (fun c113 => ?_) (fun c113 => absurd c113 (by omega))
          refine ja_iconst dheld_120 ?_
          have g6 := gP_thrown g2 (x := 2) ⟨by decide, by decide⟩
          refine fp_thrown dheld_121 ?_
          refine ja_aload_n dheld_124 rfl rfl ?_
          refine fg_thrown (v := 2) rfl dheld_125 ?_
          refine ja_if_le 133 dheld_128 rfl ⟨by decide, by decide⟩ (fun c128 => absurd c128 (by omega)) (fun c128 => ?_)
          refine ja_iconst dheld_131 ?_
          refine ja_ireturn dheld_132 rfl ?_
          have hE : ja_up (ja_up h 0 208 0) 0 208 2 = ja_up h 0 208 2 := by funext k j; simp only [ja_up]; repeat' split <;> simp_all
          exact mo_fin (by omega) hE (k1 0 2 (by omega) (by rw [← hE]; exact g6))
        · refine ja_iload dheld_41 rfl ?_
          refine ja_if_lt 56 dheld_43 rfl ⟨by omega, by omega⟩ (fun c43 => ?_) (fun c43 => ?_)
          · refine ja_iconst dheld_56 ?_
            refine ja_istore dheld_57 (by decide) (L2 := [(5, (0, 0)), (0, (2, ((0 : Nat) : Int))), (1, (0, a1)), (2, (0, a2)), (3, (0, a3)), (4, (0, a4))]) rfl ?_
            refine ja_iload dheld_59 rfl ?_
            refine ja_if_eq 107 dheld_61 rfl ⟨by decide, by decide⟩ (fun c61 => ?_) (fun c61 => absurd c61 (by omega))
            refine ja_iconst dheld_107 ?_
            refine ja_istore dheld_108 (by decide) (L2 := [(5, (0, 0)), (0, (2, ((0 : Nat) : Int))), (1, (0, a1)), (2, (0, a2)), (3, (0, a3)), (4, (0, a4))]) rfl ?_
            refine ja_aload_n dheld_110 rfl rfl ?_
            refine ja_iload dheld_111 rfl ?_
            refine ja_if_eq 120 dheld_113 rfl ⟨by decide, by decide⟩ (fun c113 => ?_) (fun c113 => absurd c113 (by omega))
            refine ja_iconst dheld_120 ?_
            have g7 := gP_thrown g2 (x := 2) ⟨by decide, by decide⟩
            refine fp_thrown dheld_121 ?_
            refine ja_aload_n dheld_124 rfl rfl ?_
            refine fg_thrown (v := 2) rfl dheld_125 ?_
            refine ja_if_le 133 dheld_128 rfl ⟨by decide, by decide⟩ (fun c128 => absurd c128 (by omega)) (fun c128 => ?_)
            refine ja_iconst dheld_131 ?_
            refine ja_ireturn dheld_132 rfl ?_
            have hE : ja_up (ja_up h 0 208 0) 0 208 2 = ja_up h 0 208 2 := by funext k j; simp only [ja_up]; repeat' split <;> simp_all
            exact mo_fin (by omega) hE (k1 0 2 (by omega) (by rw [← hE]; exact g7))
          · refine ja_iload dheld_46 rfl ?_
            refine ja_iconst dheld_48 ?_
            refine ja_icmp_gt 56 dheld_49 rfl ⟨by omega, by omega⟩ ⟨by decide, by decide⟩ (fun c49 => ?_) (fun c49 => ?_)
            · refine ja_iconst dheld_56 ?_
              refine ja_istore dheld_57 (by decide) (L2 := [(5, (0, 0)), (0, (2, ((0 : Nat) : Int))), (1, (0, a1)), (2, (0, a2)), (3, (0, a3)), (4, (0, a4))]) rfl ?_
              refine ja_iload dheld_59 rfl ?_
              refine ja_if_eq 107 dheld_61 rfl ⟨by decide, by decide⟩ (fun c61 => ?_) (fun c61 => absurd c61 (by omega))
              refine ja_iconst dheld_107 ?_
              refine ja_istore dheld_108 (by decide) (L2 := [(5, (0, 0)), (0, (2, ((0 : Nat) : Int))), (1, (0, a1)), (2, (0, a2)), (3, (0, a3)), (4, (0, a4))]) rfl ?_
              refine ja_aload_n dheld_110 rfl rfl ?_
              refine ja_iload dheld_111 rfl ?_
              refine ja_if_eq 120 dheld_113 rfl ⟨by decide, by decide⟩ (fun c113 => ?_) (fun c113 => absurd c113 (by omega))
              refine ja_iconst dheld_120 ?_
              have g8 := gP_thrown g2 (x := 2) ⟨by decide, by decide⟩
              refine fp_thrown dheld_121 ?_
              refine ja_aload_n dheld_124 rfl rfl ?_
              refine fg_thrown (v := 2) rfl dheld_125 ?_
              refine ja_if_le 133 dheld_128 rfl ⟨by decide, by decide⟩ (fun c128 => absurd c128 (by omega)) (fun c128 => ?_)
              refine ja_iconst dheld_131 ?_
              refine ja_ireturn dheld_132 rfl ?_
              have hE : ja_up (ja_up h 0 208 0) 0 208 2 = ja_up h 0 208 2 := by funext k j; simp only [ja_up]; repeat' split <;> simp_all
              exact mo_fin (by omega) hE (k1 0 2 (by omega) (by rw [← hE]; exact g8))
            · refine ja_iconst dheld_52 ?_
              refine ja_goto 57 dheld_53 rfl ?_
              refine ja_istore dheld_57 (by decide) (L2 := [(5, (0, 1)), (0, (2, ((0 : Nat) : Int))), (1, (0, a1)), (2, (0, a2)), (3, (0, a3)), (4, (0, a4))]) rfl ?_
              refine ja_iload dheld_59 rfl ?_
              refine ja_if_eq 107 dheld_61 rfl ⟨by decide, by decide⟩ (fun c61 => absurd c61 (by omega)) (fun c61 => ?_)
              refine ja_iload_n dheld_64 rfl rfl ?_
              refine ja_aload_n dheld_65 rfl rfl ?_
              refine fa_aspectFields dheld_66 ?_
              refine ja_iload_n dheld_69 rfl rfl ?_
              refine il_aspectFields (v := h 15 (a1).toNat) rfl ⟨by omega, by omega⟩ dheld_70 ?_
              have f9 := gC_aspectFields g (a1).toNat
              refine ja_icmp_ge 107 dheld_71 rfl ⟨by omega, by omega⟩ ⟨by omega, by omega⟩ (fun c71 => ?_) (fun c71 => ?_)
              · refine ja_iconst dheld_107 ?_
                refine ja_istore dheld_108 (by decide) (L2 := [(5, (0, 0)), (0, (2, ((0 : Nat) : Int))), (1, (0, a1)), (2, (0, a2)), (3, (0, a3)), (4, (0, a4))]) rfl ?_
                refine ja_aload_n dheld_110 rfl rfl ?_
                refine ja_iload dheld_111 rfl ?_
                refine ja_if_eq 120 dheld_113 rfl ⟨by decide, by decide⟩ (fun c113 => ?_) (fun c113 => absurd c113 (by omega))
                refine ja_iconst dheld_120 ?_
                have g10 := gP_thrown g2 (x := 2) ⟨by decide, by decide⟩
                refine fp_thrown dheld_121 ?_
                refine ja_aload_n dheld_124 rfl rfl ?_
                refine fg_thrown (v := 2) rfl dheld_125 ?_
                refine ja_if_le 133 dheld_128 rfl ⟨by decide, by decide⟩ (fun c128 => absurd c128 (by omega)) (fun c128 => ?_)
                refine ja_iconst dheld_131 ?_
                refine ja_ireturn dheld_132 rfl ?_
                have hE : ja_up (ja_up h 0 208 0) 0 208 2 = ja_up h 0 208 2 := by funext k j; simp only [ja_up]; repeat' split <;> simp_all
                exact mo_fin (by omega) hE (k1 0 2 (by omega) (by rw [← hE]; exact g10))
              · refine ja_aload_n dheld_74 rfl rfl ?_
                refine fa_aspectEach dheld_75 ?_
                refine ja_iload_n dheld_78 rfl rfl ?_
                refine il_aspectEach (v := h 14 (a1).toNat) rfl ⟨by omega, by omega⟩ dheld_79 ?_
                have f11 := gC_aspectEach g (a1).toNat
                refine ja_if_eq 99 dheld_80 rfl ⟨by omega, by omega⟩ (fun c80 => ?_) (fun c80 => ?_)
                · refine ja_iload_n dheld_99 rfl rfl ?_
                  refine ja_if_ne 107 dheld_100 rfl ⟨by omega, by omega⟩ (fun c100 => ?_) (fun c100 => ?_)
                  · refine ja_iconst dheld_107 ?_
                    refine ja_istore dheld_108 (by decide) (L2 := [(5, (0, 0)), (0, (2, ((0 : Nat) : Int))), (1, (0, a1)), (2, (0, a2)), (3, (0, a3)), (4, (0, a4))]) rfl ?_
                    refine ja_aload_n dheld_110 rfl rfl ?_
                    refine ja_iload dheld_111 rfl ?_
                    refine ja_if_eq 120 dheld_113 rfl ⟨by decide, by decide⟩ (fun c113 => ?_) (fun c113 => absurd c113 (by omega))
                    refine ja_iconst dheld_120 ?_
                    have g12 := gP_thrown g2 (x := 2) ⟨by decide, by decide⟩
                    refine fp_thrown dheld_121 ?_
                    refine ja_aload_n dheld_124 rfl rfl ?_
                    refine fg_thrown (v := 2) rfl dheld_125 ?_
                    refine ja_if_le 133 dheld_128 rfl ⟨by decide, by decide⟩ (fun c128 => absurd c128 (by omega)) (fun c128 => ?_)
                    refine ja_iconst dheld_131 ?_
                    refine ja_ireturn dheld_132 rfl ?_
                    have hE : ja_up (ja_up h 0 208 0) 0 208 2 = ja_up h 0 208 2 := by funext k j; simp only [ja_up]; repeat' split <;> simp_all
                    exact mo_fin (by omega) hE (k1 0 2 (by omega) (by rw [← hE]; exact g12))
                  · refine ja_iconst dheld_103 ?_
                    refine ja_goto 108 dheld_104 rfl ?_
                    refine ja_istore dheld_108 (by decide) (L2 := [(5, (0, 1)), (0, (2, ((0 : Nat) : Int))), (1, (0, a1)), (2, (0, a2)), (3, (0, a3)), (4, (0, a4))]) rfl ?_
                    refine ja_aload_n dheld_110 rfl rfl ?_
                    refine ja_iload dheld_111 rfl ?_
                    refine ja_if_eq 120 dheld_113 rfl ⟨by decide, by decide⟩ (fun c113 => absurd c113 (by omega)) (fun c113 => ?_)
                    refine ja_iconst dheld_116 ?_
                    refine ja_goto 121 dheld_117 rfl ?_
                    have g13 := gP_thrown g2 (x := 0) ⟨by decide, by decide⟩
                    refine fp_thrown dheld_121 ?_
                    refine ja_aload_n dheld_124 rfl rfl ?_
                    refine fg_thrown (v := 0) rfl dheld_125 ?_
                    refine ja_if_le 133 dheld_128 rfl ⟨by decide, by decide⟩ (fun c128 => ?_) (fun c128 => absurd c128 (by omega))
                    refine ja_aload_n dheld_133 rfl rfl ?_
                    refine ja_iload_n dheld_134 rfl rfl ?_
                    refine ja_iload_n dheld_135 rfl rfl ?_
                    refine ja_iload_n dheld_136 rfl rfl ?_
                    refine t_heldAt (by decide) (show (0 : Nat) ≤ 8 by decide) dheld_137 g13 ⟨by omega, by omega⟩ ⟨by omega, by omega⟩ ⟨by omega, by omega⟩ (show 0 ≤ a1 ∧ a1 ≤ 7 by omega) (show 0 ≤ a2 ∧ a2 ≤ 200 by omega) (show 0 ≤ a3 ∧ a3 ≤ 9 by omega) ?_
                    intro w14 k137_0
                    replace k137_0 : 0 ≤ w14 ∧ w14 ≤ 16079 := k137_0
                    refine ja_istore dheld_140 (by decide) (L2 := [(6, (0, w14)), (5, (0, 1)), (0, (2, ((0 : Nat) : Int))), (1, (0, a1)), (2, (0, a2)), (3, (0, a3)), (4, (0, a4))]) rfl ?_
                    refine ja_iload dheld_142 rfl ?_
                    refine ja_aload_n dheld_144 rfl rfl ?_
                    refine fa_heldKind dheld_145 ?_
                    refine ja_iload dheld_148 rfl ?_
                    refine il_heldKind (v := h 92 (w14).toNat) rfl ⟨by omega, by omega⟩ dheld_150 ?_
                    have f15 := gC_heldKind g (w14).toNat
                    refine ja_aload_n dheld_151 rfl rfl ?_
                    refine fa_heldValue dheld_152 ?_
                    refine ja_iload dheld_155 rfl ?_
                    refine il_heldValue (v := h 93 (w14).toNat) rfl ⟨by omega, by omega⟩ dheld_157 ?_
                    have f16 := gC_heldValue g (w14).toNat
                    refine t_tell (by decide) (show (0 : Nat) ≤ 8 by decide) dheld_158 g13 ⟨by omega, by omega⟩ ⟨by omega, by omega⟩ ⟨by omega, by omega⟩ ?_
                    intro w17 k158_0
                    replace k158_0 : -2147483648 ≤ w17 ∧ w17 ≤ 2147483647 := k158_0
                    refine ja_ireturn dheld_161 rfl ?_
                    have hE : ja_up (ja_up h 0 208 0) 0 208 0 = ja_up h 0 208 0 := by funext k j; simp only [ja_up]; repeat' split <;> simp_all
                    exact mo_fin (by omega) hE (k1 w17 0 (by omega) (by rw [← hE]; exact g13))
                · refine ja_iload_n dheld_83 rfl rfl ?_
                  refine ja_iconst dheld_84 ?_
                  refine ja_icmp_lt 107 dheld_85 rfl ⟨by omega, by omega⟩ ⟨by decide, by decide⟩ (fun c85 => ?_) (fun c85 => ?_)
                  · refine ja_iconst dheld_107 ?_
                    refine ja_istore dheld_108 (by decide) (L2 := [(5, (0, 0)), (0, (2, ((0 : Nat) : Int))), (1, (0, a1)), (2, (0, a2)), (3, (0, a3)), (4, (0, a4))]) rfl ?_
                    refine ja_aload_n dheld_110 rfl rfl ?_
                    refine ja_iload dheld_111 rfl ?_
                    refine ja_if_eq 120 dheld_113 rfl ⟨by decide, by decide⟩ (fun c113 => ?_) (fun c113 => absurd c113 (by omega))
                    refine ja_iconst dheld_120 ?_
                    have g18 := gP_thrown g2 (x := 2) ⟨by decide, by decide⟩
                    refine fp_thrown dheld_121 ?_
                    refine ja_aload_n dheld_124 rfl rfl ?_
                    refine fg_thrown (v := 2) rfl dheld_125 ?_
                    refine ja_if_le 133 dheld_128 rfl ⟨by decide, by decide⟩ (fun c128 => absurd c128 (by omega)) (fun c128 => ?_)
                    refine ja_iconst dheld_131 ?_
                    refine ja_ireturn dheld_132 rfl ?_
                    have hE : ja_up (ja_up h 0 208 0) 0 208 2 = ja_up h 0 208 2 := by funext k j; simp only [ja_up]; repeat' split <;> simp_all
                    exact mo_fin (by omega) hE (k1 0 2 (by omega) (by rw [← hE]; exact g18))
                  · refine ja_iload_n dheld_88 rfl rfl ?_
                    refine ja_aload_n dheld_89 rfl rfl ?_
                    refine fg_objects (v := h 0 138) rfl dheld_90 ?_
                    have f19 := gF_objects g
                    refine ja_icmp_gt 107 dheld_93 rfl ⟨by omega, by omega⟩ ⟨by omega, by omega⟩ (fun c93 => ?_) (fun c93 => ?_)
                    · refine ja_iconst dheld_107 ?_
                      refine ja_istore dheld_108 (by decide) (L2 := [(5, (0, 0)), (0, (2, ((0 : Nat) : Int))), (1, (0, a1)), (2, (0, a2)), (3, (0, a3)), (4, (0, a4))]) rfl ?_
                      refine ja_aload_n dheld_110 rfl rfl ?_
                      refine ja_iload dheld_111 rfl ?_
                      refine ja_if_eq 120 dheld_113 rfl ⟨by decide, by decide⟩ (fun c113 => ?_) (fun c113 => absurd c113 (by omega))
                      refine ja_iconst dheld_120 ?_
                      have g20 := gP_thrown g2 (x := 2) ⟨by decide, by decide⟩
                      refine fp_thrown dheld_121 ?_
                      refine ja_aload_n dheld_124 rfl rfl ?_
                      refine fg_thrown (v := 2) rfl dheld_125 ?_
                      refine ja_if_le 133 dheld_128 rfl ⟨by decide, by decide⟩ (fun c128 => absurd c128 (by omega)) (fun c128 => ?_)
                      refine ja_iconst dheld_131 ?_
                      refine ja_ireturn dheld_132 rfl ?_
                      have hE : ja_up (ja_up h 0 208 0) 0 208 2 = ja_up h 0 208 2 := by funext k j; simp only [ja_up]; repeat' split <;> simp_all
                      exact mo_fin (by omega) hE (k1 0 2 (by omega) (by rw [← hE]; exact g20))
                    · refine ja_goto 103 dheld_96 rfl ?_
                      refine ja_iconst dheld_103 ?_
                      refine ja_goto 108 dheld_104 rfl ?_
                      refine ja_istore dheld_108 (by decide) (L2 := [(5, (0, 1)), (0, (2, ((0 : Nat) : Int))), (1, (0, a1)), (2, (0, a2)), (3, (0, a3)), (4, (0, a4))]) rfl ?_
                      refine ja_aload_n dheld_110 rfl rfl ?_
                      refine ja_iload dheld_111 rfl ?_
                      refine ja_if_eq 120 dheld_113 rfl ⟨by decide, by decide⟩ (fun c113 => absurd c113 (by omega)) (fun c113 => ?_)
                      refine ja_iconst dheld_116 ?_
                      refine ja_goto 121 dheld_117 rfl ?_
                      have g21 := gP_thrown g2 (x := 0) ⟨by decide, by decide⟩
                      refine fp_thrown dheld_121 ?_
                      refine ja_aload_n dheld_124 rfl rfl ?_
                      refine fg_thrown (v := 0) rfl dheld_125 ?_
                      refine ja_if_le 133 dheld_128 rfl ⟨by decide, by decide⟩ (fun c128 => ?_) (fun c128 => absurd c128 (by omega))
                      refine ja_aload_n dheld_133 rfl rfl ?_
                      refine ja_iload_n dheld_134 rfl rfl ?_
                      refine ja_iload_n dheld_135 rfl rfl ?_
                      refine ja_iload_n dheld_136 rfl rfl ?_
                      refine t_heldAt (by decide) (show (0 : Nat) ≤ 8 by decide) dheld_137 g21 ⟨by omega, by omega⟩ ⟨by omega, by omega⟩ ⟨by omega, by omega⟩ (show 0 ≤ a1 ∧ a1 ≤ 7 by omega) (show 0 ≤ a2 ∧ a2 ≤ 200 by omega) (show 0 ≤ a3 ∧ a3 ≤ 9 by omega) ?_
                      intro w22 k137_0
                      replace k137_0 : 0 ≤ w22 ∧ w22 ≤ 16079 := k137_0
                      refine ja_istore dheld_140 (by decide) (L2 := [(6, (0, w22)), (5, (0, 1)), (0, (2, ((0 : Nat) : Int))), (1, (0, a1)), (2, (0, a2)), (3, (0, a3)), (4, (0, a4))]) rfl ?_
                      refine ja_iload dheld_142 rfl ?_
                      refine ja_aload_n dheld_144 rfl rfl ?_
                      refine fa_heldKind dheld_145 ?_
                      refine ja_iload dheld_148 rfl ?_
                      refine il_heldKind (v := h 92 (w22).toNat) rfl ⟨by omega, by omega⟩ dheld_150 ?_
                      have f23 := gC_heldKind g (w22).toNat
                      refine ja_aload_n dheld_151 rfl rfl ?_
                      refine fa_heldValue dheld_152 ?_
                      refine ja_iload dheld_155 rfl ?_
                      refine il_heldValue (v := h 93 (w22).toNat) rfl ⟨by omega, by omega⟩ dheld_157 ?_
                      have f24 := gC_heldValue g (w22).toNat
                      refine t_tell (by decide) (show (0 : Nat) ≤ 8 by decide) dheld_158 g21 ⟨by omega, by omega⟩ ⟨by omega, by omega⟩ ⟨by omega, by omega⟩ ?_
                      intro w25 k158_0
                      replace k158_0 : -2147483648 ≤ w25 ∧ w25 ≤ 2147483647 := k158_0
                      refine ja_ireturn dheld_161 rfl ?_
                      have hE : ja_up (ja_up h 0 208 0) 0 208 0 = ja_up h 0 208 0 := by funext k j; simp only [ja_up]; repeat' split <;> simp_all
                      exact mo_fin (by omega) hE (k1 w25 0 (by omega) (by rw [← hE]; exact g21))
  · refine ja_iconst dheld_8 ?_
    refine ja_goto 13 dheld_9 rfl ?_
    have g26 := gP_thrown g (x := 1) ⟨by decide, by decide⟩
    refine fp_thrown dheld_13 ?_
    refine ja_aload_n dheld_16 rfl rfl ?_
    refine fg_thrown (v := 1) rfl dheld_17 ?_
    refine ja_if_le 25 dheld_20 rfl ⟨by decide, by decide⟩ (fun c20 => absurd c20 (by omega)) (fun c20 => ?_)
    refine ja_iconst dheld_23 ?_
    refine ja_ireturn dheld_24 rfl ?_
    exact mo_fin (by omega) rfl (k1 0 1 (by omega) g26)
end
