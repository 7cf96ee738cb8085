/-! the reference: ITEMS, told, fields, classes (written by a program) -/
variable {Zz : Zc}
/-! the reference's parser: told, fields of an aspect, classes -/
theorem wt_W {h h1 H : ja_H} {t : Int} (e : H = mo_W h1 0 t 0) (w0 : 0 ≤ (h1 0 68)) (hv : ∀ k a b, pw_wt h k a b → pw_wt h1 k a b) : ∀ k a b, pw_wt h k a b → pw_wt H k a b := by
  intro k a b q
  rw [e]
  exact mo_W_wt w0 (hv k a b q)
theorem wt_ag {h h1 H : ja_H} (ag : mo_ag (mo_F [68] [45, 44, 46]) h1 H) (hv : ∀ k a b, pw_wt h k a b → pw_wt h1 k a b) : ∀ k a b, pw_wt h k a b → pw_wt H k a b := fun k a b q =>
  wt_same (ag _ _ rfl) (funext fun j => ag _ _ rfl) (funext fun j => ag _ _ rfl) (funext fun j => ag _ _ rfl) k a b (hv k a b q)
def lo_T (h u : ja_H) (x : Int) : Prop := (x = 1 ∧ (∃ ht st rg : Nat → Int, it u ht st rg) ∧ (h 0 7) < (u 0 7) ∧ mo_ag FKP h u) ∨ (x = 0 ∧ 0 < (u 0 8) ∧ (u 0 1) = (h 0 1) ∧ (u 0 118) = (h 0 118) ∧ (u 0 127) = (h 0 127))
theorem dtold_0 : decode cX12_told 0 = .ok (.aload_n 0, 1) := by decide +kernel
theorem dtold_1 : decode cX12_told 1 = .ok (.getfield 574, 3) := by decide +kernel
theorem dtold_4 : decode cX12_told 4 = .ok (.istore_n 1, 1) := by decide +kernel
theorem dtold_5 : decode cX12_told 5 = .ok (.aload_n 0, 1) := by decide +kernel
theorem dtold_6 : decode cX12_told 6 = .ok (.invokevirtual 739, 3) := by decide +kernel
theorem dtold_9 : decode cX12_told 9 = .ok (.ifCond .ne 5, 3) := by decide +kernel
theorem dtold_12 : decode cX12_told 12 = .ok (.iconst 0, 1) := by decide +kernel
theorem dtold_13 : decode cX12_told 13 = .ok (.ireturn, 1) := by decide +kernel
theorem dtold_14 : decode cX12_told 14 = .ok (.aload_n 0, 1) := by decide +kernel
theorem dtold_15 : decode cX12_told 15 = .ok (.iconst 0, 1) := by decide +kernel
theorem dtold_16 : decode cX12_told 16 = .ok (.iload_n 1, 1) := by decide +kernel
theorem dtold_17 : decode cX12_told 17 = .ok (.iconst 0, 1) := by decide +kernel
theorem dtold_18 : decode cX12_told 18 = .ok (.invokevirtual 783, 3) := by decide +kernel
theorem dtold_21 : decode cX12_told 21 = .ok (.aload_n 0, 1) := by decide +kernel
theorem dtold_22 : decode cX12_told 22 = .ok (.bipush 41, 2) := by decide +kernel
theorem dtold_24 : decode cX12_told 24 = .ok (.invokevirtual 596, 3) := by decide +kernel
theorem dtold_27 : decode cX12_told 27 = .ok (.ifCond .ne 9, 3) := by decide +kernel
theorem dtold_30 : decode cX12_told 30 = .ok (.aload_n 0, 1) := by decide +kernel
theorem dtold_31 : decode cX12_told 31 = .ok (.iload_n 1, 1) := by decide +kernel
theorem dtold_32 : decode cX12_told 32 = .ok (.invokevirtual 745, 3) := by decide +kernel
theorem dtold_35 : decode cX12_told 35 = .ok (.ireturn, 1) := by decide +kernel
theorem dtold_36 : decode cX12_told 36 = .ok (.aload_n 0, 1) := by decide +kernel
theorem dtold_37 : decode cX12_told 37 = .ok (.invokevirtual 589, 3) := by decide +kernel
theorem dtold_40 : decode cX12_told 40 = .ok (.ifCond .ne 5, 3) := by decide +kernel
theorem dtold_43 : decode cX12_told 43 = .ok (.iconst 0, 1) := by decide +kernel
theorem dtold_44 : decode cX12_told 44 = .ok (.ireturn, 1) := by decide +kernel
theorem dtold_45 : decode cX12_told 45 = .ok (.aload_n 0, 1) := by decide +kernel
theorem dtold_46 : decode cX12_told 46 = .ok (.getfield 131, 3) := by decide +kernel
theorem dtold_49 : decode cX12_told 49 = .ok (.aload_n 0, 1) := by decide +kernel
theorem dtold_50 : decode cX12_told 50 = .ok (.getfield 671, 3) := by decide +kernel
theorem dtold_53 : decode cX12_told 53 = .ok (.iload_n 1, 1) := by decide +kernel
theorem dtold_54 : decode cX12_told 54 = .ok (.iastore, 1) := by decide +kernel
theorem dtold_55 : decode cX12_told 55 = .ok (.aload_n 0, 1) := by decide +kernel
theorem dtold_56 : decode cX12_told 56 = .ok (.getfield 134, 3) := by decide +kernel
theorem dtold_59 : decode cX12_told 59 = .ok (.aload_n 0, 1) := by decide +kernel
theorem dtold_60 : decode cX12_told 60 = .ok (.getfield 671, 3) := by decide +kernel
theorem dtold_63 : decode cX12_told 63 = .ok (.aload_n 0, 1) := by decide +kernel
theorem dtold_64 : decode cX12_told 64 = .ok (.getfield 574, 3) := by decide +kernel
theorem dtold_67 : decode cX12_told 67 = .ok (.iastore, 1) := by decide +kernel
theorem dtold_68 : decode cX12_told 68 = .ok (.aload_n 0, 1) := by decide +kernel
theorem dtold_69 : decode cX12_told 69 = .ok (.invokevirtual 739, 3) := by decide +kernel
theorem dtold_72 : decode cX12_told 72 = .ok (.ifCond .ne 5, 3) := by decide +kernel
theorem dtold_75 : decode cX12_told 75 = .ok (.iconst 0, 1) := by decide +kernel
theorem dtold_76 : decode cX12_told 76 = .ok (.ireturn, 1) := by decide +kernel
theorem dtold_77 : decode cX12_told 77 = .ok (.aload_n 0, 1) := by decide +kernel
theorem dtold_78 : decode cX12_told 78 = .ok (.iconst 0, 1) := by decide +kernel
theorem dtold_79 : decode cX12_told 79 = .ok (.aload_n 0, 1) := by decide +kernel
theorem dtold_80 : decode cX12_told 80 = .ok (.getfield 134, 3) := by decide +kernel
theorem dtold_83 : decode cX12_told 83 = .ok (.aload_n 0, 1) := by decide +kernel
theorem dtold_84 : decode cX12_told 84 = .ok (.getfield 671, 3) := by decide +kernel
theorem dtold_87 : decode cX12_told 87 = .ok (.iaload, 1) := by decide +kernel
theorem dtold_88 : decode cX12_told 88 = .ok (.iconst 0, 1) := by decide +kernel
theorem dtold_89 : decode cX12_told 89 = .ok (.invokevirtual 783, 3) := by decide +kernel
theorem dtold_92 : decode cX12_told 92 = .ok (.aload_n 0, 1) := by decide +kernel
theorem dtold_93 : decode cX12_told 93 = .ok (.dup, 1) := by decide +kernel
theorem dtold_94 : decode cX12_told 94 = .ok (.getfield 671, 3) := by decide +kernel
theorem dtold_97 : decode cX12_told 97 = .ok (.iconst 1, 1) := by decide +kernel
theorem dtold_98 : decode cX12_told 98 = .ok (.iadd, 1) := by decide +kernel
theorem dtold_99 : decode cX12_told 99 = .ok (.putfield 671, 3) := by decide +kernel
theorem dtold_102 : decode cX12_told 102 = .ok (.aload_n 0, 1) := by decide +kernel
theorem dtold_103 : decode cX12_told 103 = .ok (.bipush 59, 2) := by decide +kernel
theorem dtold_105 : decode cX12_told 105 = .ok (.invokevirtual 742, 3) := by decide +kernel
theorem dtold_108 : decode cX12_told 108 = .ok (.ireturn, 1) := by decide +kernel
section
variable {l : Launch} {D : va_G} {cA : Nat → ClassId} {ad : Nat → Nat}
theorem s_told {ht st rg : Nat → Int} {h : ja_H} {Q : Option ja_V → ja_H → Prop} (g : mo_G Zz h) (p1 : it h ht st rg) (k1 : ∀ (h' : ja_H), ((∃ ht st rg : Nat → Int, it h' ht st rg) ∧ (h 0 7) < (h' 0 7) ∧ mo_ag FKP h h') → mo_G Zz h' → Q (some (0, 1)) h') (k2 : ∀ (h' : ja_H), (0 < (h' 0 8) ∧ (h' 0 1) = (h 0 1) ∧ (h' 0 118) = (h 0 118) ∧ (h' 0 127) = (h 0 127)) → mo_G Zz h' → Q (some (0, 0)) h') : mM_told l D cA ad  h Q := by
  show mJ l D cA ad 11 cX12_told 2 (some .boolean) 0 [(0, (2, ((0 : Nat) : Int)))] [] h Q
  have kn_at := gF_at g
  have kn_unders := gF_unders g
  have kn_wants := gF_wants g
  obtain ⟨z1, z2, z3, z4, z5, z6, z7, z8, z9, z10, z11, z12, z13, z14⟩ := p1.2.2.1
  refine ja_aload_n dtold_0 rfl rfl ?_
  refine fg_at (v := h 0 7) rfl dtold_1 ?_
  have f1 := gF_at g
  refine ja_istore_n dtold_4 rfl (by decide) (L2 := [(1, (0, (h 0 7))), (0, (2, ((0 : Nat) : Int)))]) rfl ?_
  refine ja_aload_n dtold_5 rfl rfl ?_
  refine t_name (by decide) (show (0 : Nat) ≤ 8 by decide) dtold_6 g  ?_ ?_
  · intro k6_0 g2
    replace k6_0 : (h 0 7) < 900 ∧ (h 2 (h 0 7).toNat) = 2 := k6_0
    replace g2 : mo_G Zz (ja_up h 0 7 ((h 0 7) + 1)) := g2
    show mJ l D cA ad 11 cX12_told 2 (some .boolean) 9 [(1, (0, (h 0 7))), (0, (2, ((0 : Nat) : Int)))] [(0, 1)] (ja_up h 0 7 ((h 0 7) + 1)) Q
    refine ja_if_ne 14 dtold_9 rfl ⟨by decide, by decide⟩ (fun c9 => ?_) (fun c9 => absurd c9 (by omega))
    refine ja_aload_n dtold_14 rfl rfl ?_
    refine ja_iconst dtold_15 ?_
    refine ja_iload_n dtold_16 rfl rfl ?_
    refine ja_iconst dtold_17 ?_
    refine t_want (by decide) (show (0 : Nat) ≤ 8 by decide) dtold_18 g2 ⟨by decide, by decide⟩ ⟨by omega, by omega⟩ ⟨by decide, by decide⟩ (show 0 ≤ 0 ∧ 0 ≤ 1 by omega) (show 0 ≤ (h 0 7) ∧ (h 0 7) ≤ 900 by omega) (show 0 ≤ 0 ∧ 0 ≤ 7 by omega) (show (h 0 68) < 900 by omega) ?_
    intro g3
    replace g3 : mo_G Zz (ja_up (ja_up (ja_up (ja_up (ja_up h 0 7 ((h 0 7) + 1)) 45 ((h 0 68).toNat) 0) 44 ((h 0 68).toNat) (h 0 7)) 46 ((h 0 68).toNat) 0) 0 68 ((h 0 68) + 1)) := g3
    show mJ l D cA ad 11 cX12_told 2 (some .boolean) 21 [(1, (0, (h 0 7))), (0, (2, ((0 : Nat) : Int)))] [] (ja_up (ja_up (ja_up (ja_up (ja_up h 0 7 ((h 0 7) + 1)) 45 ((h 0 68).toNat) 0) 44 ((h 0 68).toNat) (h 0 7)) 46 ((h 0 68).toNat) 0) 0 68 ((h 0 68) + 1)) Q
    refine ja_aload_n dtold_21 rfl rfl ?_
    refine ja_bipush 41 dtold_22 rfl ?_
    refine t_isWord (by decide) (show (0 : Nat) ≤ 8 by decide) dtold_24 g3 ⟨by decide, by decide⟩ ?_
    intro w4 k24_0
    replace k24_0 : (w4 = 1 ∧ (h 2 ((h 0 7) + 1).toNat) = 1 ∧ (h 5 ((h 0 7) + 1).toNat) = 41) ∨ (w4 = 0 ∧ ¬ ((h 2 ((h 0 7) + 1).toNat) = 1 ∧ (h 5 ((h 0 7) + 1).toNat) = 41)) := k24_0
    refine ja_if_ne 36 dtold_27 rfl ⟨by omega, by omega⟩ (fun c27 => ?_) (fun c27 => ?_)
    · have z27 := is1v k24_0 c27
      replace k24_0 := is1 k24_0 c27
      refine ja_aload_n dtold_36 rfl rfl ?_
      refine t_take (by decide) (show (0 : Nat) ≤ 8 by decide) dtold_37 g3  ?_ ?_
      · intro k37_0 g5
        replace k37_0 : ((h 0 7) + 1) < 900 := k37_0
        replace g5 : mo_G Zz (ja_up (ja_up (ja_up (ja_up (ja_up (ja_up h 0 7 ((h 0 7) + 1)) 45 ((h 0 68).toNat) 0) 44 ((h 0 68).toNat) (h 0 7)) 46 ((h 0 68).toNat) 0) 0 68 ((h 0 68) + 1)) 0 7 (((h 0 7) + 1) + 1)) := g5
        show mJ l D cA ad 11 cX12_told 2 (some .boolean) 40 [(1, (0, (h 0 7))), (0, (2, ((0 : Nat) : Int)))] [(0, 1)] (ja_up (ja_up (ja_up (ja_up (ja_up (ja_up h 0 7 ((h 0 7) + 1)) 45 ((h 0 68).toNat) 0) 44 ((h 0 68).toNat) (h 0 7)) 46 ((h 0 68).toNat) 0) 0 68 ((h 0 68) + 1)) 0 7 (((h 0 7) + 1) + 1)) Q
        refine ja_if_ne 45 dtold_40 rfl ⟨by decide, by decide⟩ (fun c40 => ?_) (fun c40 => absurd c40 (by omega))
        refine ja_aload_n dtold_45 rfl rfl ?_
        refine fa_underOf dtold_46 ?_
        refine ja_aload_n dtold_49 rfl rfl ?_
        refine fg_unders (v := h 0 61) rfl dtold_50 ?_
        have f6 := gF_unders g
        refine ja_iload_n dtold_53 rfl rfl ?_
        have g7 := gW_underOf g5 (h 0 61).toNat (x := h 0 7) ⟨by omega, by omega⟩
        refine is_underOf ⟨by omega, by omega⟩ dtold_54 ?_
        refine ja_aload_n dtold_55 rfl rfl ?_
        refine fa_underName dtold_56 ?_
        refine ja_aload_n dtold_59 rfl rfl ?_
        refine fg_unders (v := h 0 61) rfl dtold_60 ?_
        refine ja_aload_n dtold_63 rfl rfl ?_
        refine fg_at (v := ((h 0 7) + 1) + 1) rfl dtold_64 ?_
        have g8 := gW_underName g7 (h 0 61).toNat (x := ((h 0 7) + 1) + 1) ⟨by omega, by omega⟩
        refine is_underName ⟨by omega, by omega⟩ dtold_67 ?_
        refine ja_aload_n dtold_68 rfl rfl ?_
        refine t_name (by decide) (show (0 : Nat) ≤ 8 by decide) dtold_69 g8  ?_ ?_
        · intro k69_0 g9
          replace k69_0 : (((h 0 7) + 1) + 1) < 900 ∧ (h 2 (((h 0 7) + 1) + 1).toNat) = 2 := k69_0
          replace g9 : mo_G Zz (ja_up (ja_up (ja_up (ja_up (ja_up (ja_up (ja_up (ja_up (ja_up h 0 7 ((h 0 7) + 1)) 45 ((h 0 68).toNat) 0) 44 ((h 0 68).toNat) (h 0 7)) 46 ((h 0 68).toNat) 0) 0 68 ((h 0 68) + 1)) 0 7 (((h 0 7) + 1) + 1)) 41 ((h 0 61).toNat) (h 0 7)) 42 ((h 0 61).toNat) (((h 0 7) + 1) + 1)) 0 7 ((((h 0 7) + 1) + 1) + 1)) := g9
          show mJ l D cA ad 11 cX12_told 2 (some .boolean) 72 [(1, (0, (h 0 7))), (0, (2, ((0 : Nat) : Int)))] [(0, 1)] (ja_up (ja_up (ja_up (ja_up (ja_up (ja_up (ja_up (ja_up (ja_up h 0 7 ((h 0 7) + 1)) 45 ((h 0 68).toNat) 0) 44 ((h 0 68).toNat) (h 0 7)) 46 ((h 0 68).toNat) 0) 0 68 ((h 0 68) + 1)) 0 7 (((h 0 7) + 1) + 1)) 41 ((h 0 61).toNat) (h 0 7)) 42 ((h 0 61).toNat) (((h 0 7) + 1) + 1)) 0 7 ((((h 0 7) + 1) + 1) + 1)) Q
          refine ja_if_ne 77 dtold_72 rfl ⟨by decide, by decide⟩ (fun c72 => ?_) (fun c72 => absurd c72 (by omega))
          refine ja_aload_n dtold_77 rfl rfl ?_
          refine ja_iconst dtold_78 ?_
          refine ja_aload_n dtold_79 rfl rfl ?_
          refine fa_underName dtold_80 ?_
          refine ja_aload_n dtold_83 rfl rfl ?_
          refine fg_unders (v := h 0 61) rfl dtold_84 ?_
          refine il_underName (v := ((h 0 7) + 1) + 1) (by simp [ja_up]) ⟨by omega, by omega⟩ dtold_87 ?_
          refine ja_iconst dtold_88 ?_
          refine t_want (by decide) (show (0 : Nat) ≤ 8 by decide) dtold_89 g9 ⟨by decide, by decide⟩ ⟨by omega, by omega⟩ ⟨by decide, by decide⟩ (show 0 ≤ 0 ∧ 0 ≤ 1 by omega) (show 0 ≤ (((h 0 7) + 1) + 1) ∧ (((h 0 7) + 1) + 1) ≤ 900 by omega) (show 0 ≤ 0 ∧ 0 ≤ 7 by omega) (show ((h 0 68) + 1) < 900 by omega) ?_
          intro g10
          replace g10 : mo_G Zz (ja_up (ja_up (ja_up (ja_up (ja_up (ja_up (ja_up (ja_up (ja_up (ja_up (ja_up (ja_up (ja_up h 0 7 ((h 0 7) + 1)) 45 ((h 0 68).toNat) 0) 44 ((h 0 68).toNat) (h 0 7)) 46 ((h 0 68).toNat) 0) 0 68 ((h 0 68) + 1)) 0 7 (((h 0 7) + 1) + 1)) 41 ((h 0 61).toNat) (h 0 7)) 42 ((h 0 61).toNat) (((h 0 7) + 1) + 1)) 0 7 ((((h 0 7) + 1) + 1) + 1)) 45 (((h 0 68) + 1).toNat) 0) 44 (((h 0 68) + 1).toNat) (((h 0 7) + 1) + 1)) 46 (((h 0 68) + 1).toNat) 0) 0 68 (((h 0 68) + 1) + 1)) := g10
          show mJ l D cA ad 11 cX12_told 2 (some .boolean) 92 [(1, (0, (h 0 7))), (0, (2, ((0 : Nat) : Int)))] [] (ja_up (ja_up (ja_up (ja_up (ja_up (ja_up (ja_up (ja_up (ja_up (ja_up (ja_up (ja_up (ja_up h 0 7 ((h 0 7) + 1)) 45 ((h 0 68).toNat) 0) 44 ((h 0 68).toNat) (h 0 7)) 46 ((h 0 68).toNat) 0) 0 68 ((h 0 68) + 1)) 0 7 (((h 0 7) + 1) + 1)) 41 ((h 0 61).toNat) (h 0 7)) 42 ((h 0 61).toNat) (((h 0 7) + 1) + 1)) 0 7 ((((h 0 7) + 1) + 1) + 1)) 45 (((h 0 68) + 1).toNat) 0) 44 (((h 0 68) + 1).toNat) (((h 0 7) + 1) + 1)) 46 (((h 0 68) + 1).toNat) 0) 0 68 (((h 0 68) + 1) + 1)) Q
          refine ja_aload_n dtold_92 rfl rfl ?_
          refine ja_dup dtold_93 (by decide) ?_
          refine fg_unders (v := h 0 61) rfl dtold_94 ?_
          refine ja_iconst dtold_97 ?_
          refine ja_iadd dtold_98 ?_
          have g11 := gP_unders g10 (x := (h 0 61) + 1) ⟨by omega, by omega⟩
          refine fp_unders dtold_99 ?_
          refine ja_aload_n dtold_102 rfl rfl ?_
          refine ja_bipush 59 dtold_103 rfl ?_
          refine t_sign (by decide) (show (0 : Nat) ≤ 8 by decide) dtold_105 g11 ⟨by decide, by decide⟩ ?_ ?_
          · intro k105_0 g12
            replace k105_0 : ((((h 0 7) + 1) + 1) + 1) < 900 ∧ (h 2 ((((h 0 7) + 1) + 1) + 1).toNat) = 5 ∧ (h 5 ((((h 0 7) + 1) + 1) + 1).toNat) = 59 := k105_0
            replace g12 : mo_G Zz (ja_up (ja_up (ja_up (ja_up (ja_up (ja_up (ja_up (ja_up (ja_up (ja_up (ja_up (ja_up (ja_up (ja_up (ja_up h 0 7 ((h 0 7) + 1)) 45 ((h 0 68).toNat) 0) 44 ((h 0 68).toNat) (h 0 7)) 46 ((h 0 68).toNat) 0) 0 68 ((h 0 68) + 1)) 0 7 (((h 0 7) + 1) + 1)) 41 ((h 0 61).toNat) (h 0 7)) 42 ((h 0 61).toNat) (((h 0 7) + 1) + 1)) 0 7 ((((h 0 7) + 1) + 1) + 1)) 45 (((h 0 68) + 1).toNat) 0) 44 (((h 0 68) + 1).toNat) (((h 0 7) + 1) + 1)) 46 (((h 0 68) + 1).toNat) 0) 0 68 (((h 0 68) + 1) + 1)) 0 61 ((h 0 61) + 1)) 0 7 (((((h 0 7) + 1) + 1) + 1) + 1)) := g12
            show mJ l D cA ad 11 cX12_told 2 (some .boolean) 108 [(1, (0, (h 0 7))), (0, (2, ((0 : Nat) : Int)))] [(0, 1)] (ja_up (ja_up (ja_up (ja_up (ja_up (ja_up (ja_up (ja_up (ja_up (ja_up (ja_up (ja_up (ja_up (ja_up (ja_up h 0 7 ((h 0 7) + 1)) 45 ((h 0 68).toNat) 0) 44 ((h 0 68).toNat) (h 0 7)) 46 ((h 0 68).toNat) 0) 0 68 ((h 0 68) + 1)) 0 7 (((h 0 7) + 1) + 1)) 41 ((h 0 61).toNat) (h 0 7)) 42 ((h 0 61).toNat) (((h 0 7) + 1) + 1)) 0 7 ((((h 0 7) + 1) + 1) + 1)) 45 (((h 0 68) + 1).toNat) 0) 44 (((h 0 68) + 1).toNat) (((h 0 7) + 1) + 1)) 46 (((h 0 68) + 1).toNat) 0) 0 68 (((h 0 68) + 1) + 1)) 0 61 ((h 0 61) + 1)) 0 7 (((((h 0 7) + 1) + 1) + 1) + 1)) Q
            refine ja_zreturn dtold_108 rfl (by omega) ?_
            exact mo_fin (by omega) rfl (k1 (ja_up (ja_up (ja_up (ja_up (ja_up (ja_up (ja_up (ja_up (ja_up (ja_up (ja_up (ja_up (ja_up (ja_up (ja_up h 0 7 ((h 0 7) + 1)) 45 ((h 0 68).toNat) 0) 44 ((h 0 68).toNat) (h 0 7)) 46 ((h 0 68).toNat) 0) 0 68 ((h 0 68) + 1)) 0 7 (((h 0 7) + 1) + 1)) 41 ((h 0 61).toNat) (h 0 7)) 42 ((h 0 61).toNat) (((h 0 7) + 1) + 1)) 0 7 ((((h 0 7) + 1) + 1) + 1)) 45 (((h 0 68) + 1).toNat) 0) 44 (((h 0 68) + 1).toNat) (((h 0 7) + 1) + 1)) 46 (((h 0 68) + 1).toNat) 0) 0 68 (((h 0 68) + 1) + 1)) 0 61 ((h 0 61) + 1)) 0 7 (((((h 0 7) + 1) + 1) + 1) + 1)) (⟨⟨_, _, _, it_keep p1 (by (repeat (first | exact ag_refl | refine ag_up rfl ?_))) (show it_nn (((((h 0 7) + 1) + 1) + 1) + 1) (h 0 113) (h 0 95) (((h 0 68) + 1) + 1) (h 0 72) (h 0 31) (h 0 41) (h 0 64) ((h 0 61) + 1) (h 0 18) (h 0 84) (h 0 87) (h 0 86) (h 0 85) (h 0 109) (h 0 66) from by unfold it_nn; omega) (it_F_eq (it_F_of p1) rfl rfl) (fun z => z) (wt_ag (h1 := (ja_up (ja_up (ja_up (ja_up (ja_up (ja_up (ja_up (ja_up (ja_up (ja_up (ja_up (ja_up (ja_up h 0 7 ((h 0 7) + 1)) 45 ((h 0 68).toNat) 0) 44 ((h 0 68).toNat) (h 0 7)) 46 ((h 0 68).toNat) 0) 0 68 ((h 0 68) + 1)) 0 7 (((h 0 7) + 1) + 1)) 41 ((h 0 61).toNat) (h 0 7)) 42 ((h 0 61).toNat) (((h 0 7) + 1) + 1)) 0 7 ((((h 0 7) + 1) + 1) + 1)) 45 (((h 0 68) + 1).toNat) 0) 44 (((h 0 68) + 1).toNat) (((h 0 7) + 1) + 1)) 46 (((h 0 68) + 1).toNat) 0) 0 68 (((h 0 68) + 1) + 1))) (by (repeat (first | exact ag_refl | refine ag_up rfl ?_))) (wt_W (h1 := (ja_up (ja_up (ja_up (ja_up (ja_up (ja_up (ja_up (ja_up (ja_up h 0 7 ((h 0 7) + 1)) 45 ((h 0 68).toNat) 0) 44 ((h 0 68).toNat) (h 0 7)) 46 ((h 0 68).toNat) 0) 0 68 ((h 0 68) + 1)) 0 7 (((h 0 7) + 1) + 1)) 41 ((h 0 61).toNat) (h 0 7)) 42 ((h 0 61).toNat) (((h 0 7) + 1) + 1)) 0 7 ((((h 0 7) + 1) + 1) + 1))) (t := (((h 0 7) + 1) + 1)) rfl (show 0 ≤ ((h 0 68) + 1) by omega) (wt_ag (h1 := (ja_up (ja_up (ja_up (ja_up (ja_up h 0 7 ((h 0 7) + 1)) 45 ((h 0 68).toNat) 0) 44 ((h 0 68).toNat) (h 0 7)) 46 ((h 0 68).toNat) 0) 0 68 ((h 0 68) + 1))) (by (repeat (first | exact ag_refl | refine ag_up rfl ?_))) (wt_W (h1 := (ja_up h 0 7 ((h 0 7) + 1))) (t := (h 0 7)) rfl (show 0 ≤ (h 0 68) by omega) (wt_ag (h1 := h) (by (repeat (first | exact ag_refl | refine ag_up rfl ?_))) (fun _ _ _ z => z)))))) (Int.le_refl _)⟩, (show (h 0 7) < (((((h 0 7) + 1) + 1) + 1) + 1) by omega), (by (repeat (first | exact ag_refl | refine ag_up rfl ?_)))⟩) g12)
          · intro h13 k105_1 g14
            replace k105_1 : 0 < (h13 0 8) ∧ (h13 0 1) = (h 0 1) ∧ (h13 0 118) = (h 0 118) ∧ (h13 0 127) = (h 0 127) := k105_1
            refine ja_zreturn dtold_108 rfl (by omega) ?_
            exact mo_fin (by omega) rfl (k2 h13 (by omega) g14)
        · intro h15 k69_1 g16
          replace k69_1 : 0 < (h15 0 8) ∧ (h15 0 1) = (h 0 1) ∧ (h15 0 118) = (h 0 118) ∧ (h15 0 127) = (h 0 127) := k69_1
          refine ja_if_ne 77 dtold_72 rfl ⟨by decide, by decide⟩ (fun c72 => absurd c72 (by omega)) (fun c72 => ?_)
          refine ja_iconst dtold_75 ?_
          refine ja_zreturn dtold_76 rfl (by omega) ?_
          exact mo_fin (by omega) rfl (k2 h15 (by omega) g16)
      · intro h17 k37_1 g18
        replace k37_1 : 0 < (h17 0 8) ∧ (h17 0 1) = (h 0 1) ∧ (h17 0 118) = (h 0 118) ∧ (h17 0 127) = (h 0 127) := k37_1
        refine ja_if_ne 45 dtold_40 rfl ⟨by decide, by decide⟩ (fun c40 => absurd c40 (by omega)) (fun c40 => ?_)
        refine ja_iconst dtold_43 ?_
        refine ja_zreturn dtold_44 rfl (by omega) ?_
        exact mo_fin (by omega) rfl (k2 h17 (by omega) g18)
    · replace k24_0 := is0 k24_0 c27
      refine ja_aload_n dtold_30 rfl rfl ?_
      refine ja_iload_n dtold_31 rfl rfl ?_
      refine t_member (by decide) (show (0 : Nat) ≤ 8 by decide) dtold_32 g3 ⟨by omega, by omega⟩ (it_keep p1 (by (repeat (first | exact ag_refl | refine ag_up rfl ?_))) (show it_nn ((h 0 7) + 1) (h 0 113) (h 0 95) ((h 0 68) + 1) (h 0 72) (h 0 31) (h 0 41) (h 0 64) (h 0 61) (h 0 18) (h 0 84) (h 0 87) (h 0 86) (h 0 85) (h 0 109) (h 0 66) from by unfold it_nn; omega) (it_F_eq (it_F_of p1) rfl rfl) (fun z => z) (wt_ag (h1 := (ja_up (ja_up (ja_up (ja_up (ja_up h 0 7 ((h 0 7) + 1)) 45 ((h 0 68).toNat) 0) 44 ((h 0 68).toNat) (h 0 7)) 46 ((h 0 68).toNat) 0) 0 68 ((h 0 68) + 1))) (by (repeat (first | exact ag_refl | refine ag_up rfl ?_))) (wt_W (h1 := (ja_up h 0 7 ((h 0 7) + 1))) (t := (h 0 7)) rfl (show 0 ≤ (h 0 68) by omega) (wt_ag (h1 := h) (by (repeat (first | exact ag_refl | refine ag_up rfl ?_))) (fun _ _ _ z => z)))) (Int.le_refl _)) (show 0 ≤ (h 0 7) ∧ (h 0 7) ≤ 900 by omega) ?_ ?_
      · intro h19 k32_0 g20
        refine ja_zreturn dtold_35 rfl (by omega) ?_
        exact mo_fin (by omega) rfl (k1 h19 (⟨k32_0.1, Int.lt_of_le_of_lt (show (h 0 7) ≤ (h 0 7) + 1 by omega) k32_0.2.1, ag_trans (by (repeat (first | exact ag_refl | refine ag_up rfl ?_))) k32_0.2.2⟩) g20)
      · intro h21 k32_1 g22
        replace k32_1 : 0 < (h21 0 8) ∧ (h21 0 1) = (h 0 1) ∧ (h21 0 118) = (h 0 118) ∧ (h21 0 127) = (h 0 127) := k32_1
        refine ja_zreturn dtold_35 rfl (by omega) ?_
        exact mo_fin (by omega) rfl (k2 h21 (by omega) g22)
  · intro h23 k6_1 g24
    refine ja_if_ne 14 dtold_9 rfl ⟨by decide, by decide⟩ (fun c9 => absurd c9 (by omega)) (fun c9 => ?_)
    refine ja_iconst dtold_12 ?_
    refine ja_zreturn dtold_13 rfl (by omega) ?_
    exact mo_fin (by omega) rfl (k2 h23 (by omega) g24)
theorem t_told {ht st rg : Nat → Int} {d nL pc : Nat} {cc : ByteArray} {rt : Option FieldType} {L : List (Nat × ja_V)} {S : List ja_V} {h : ja_H} {Q : Option ja_V → ja_H → Prop} (hdd : 11 < d) (hwd : ja_wd S ≤ 8) (hd : decode cc pc = .ok (.invokevirtual 771, 3)) (g : mo_G Zz h) (p1 : it h ht st rg) (k1 : ∀ (h' : ja_H), ((∃ ht st rg : Nat → Int, it h' ht st rg) ∧ (h 0 7) < (h' 0 7) ∧ mo_ag FKP h h') → mo_G Zz h' → mJ l D cA ad d cc nL rt (pc + 3) L ((0, 1) :: S) h' Q) (k2 : ∀ (h' : ja_H), (0 < (h' 0 8) ∧ (h' 0 1) = (h 0 1) ∧ (h' 0 118) = (h 0 118) ∧ (h' 0 127) = (h 0 127)) → mo_G Zz h' → mJ l D cA ad d cc nL rt (pc + 3) L ((0, 0) :: S) h' Q) : mJ l D cA ad d cc nL rt pc L ((2, ((0 : Nat) : Int)) :: S) h Q :=
  mc_told hdd hwd hd (s_told g p1 k1 k2)
end
theorem daspectField_0 : decode cX12_aspectField 0 = .ok (.aload_n 0, 1) := by decide +kernel
theorem daspectField_1 : decode cX12_aspectField 1 = .ok (.getfield 760, 3) := by decide +kernel
theorem daspectField_4 : decode cX12_aspectField 4 = .ok (.istore_n 1, 1) := by decide +kernel
theorem daspectField_5 : decode cX12_aspectField 5 = .ok (.aload_n 0, 1) := by decide +kernel
theorem daspectField_6 : decode cX12_aspectField 6 = .ok (.invokevirtual 599, 3) := by decide +kernel
theorem daspectField_9 : decode cX12_aspectField 9 = .ok (.ifCond .eq 20, 3) := by decide +kernel
theorem daspectField_12 : decode cX12_aspectField 12 = .ok (.aload_n 0, 1) := by decide +kernel
theorem daspectField_13 : decode cX12_aspectField 13 = .ok (.getfield 53, 3) := by decide +kernel
theorem daspectField_16 : decode cX12_aspectField 16 = .ok (.iload_n 1, 1) := by decide +kernel
theorem daspectField_17 : decode cX12_aspectField 17 = .ok (.iaload, 1) := by decide +kernel
theorem daspectField_18 : decode cX12_aspectField 18 = .ok (.bipush 10, 2) := by decide +kernel
theorem daspectField_20 : decode cX12_aspectField 20 = .ok (.if_icmp .ne 9, 3) := by decide +kernel
theorem daspectField_23 : decode cX12_aspectField 23 = .ok (.aload_n 0, 1) := by decide +kernel
theorem daspectField_24 : decode cX12_aspectField 24 = .ok (.iconst 3, 1) := by decide +kernel
theorem daspectField_25 : decode cX12_aspectField 25 = .ok (.invokevirtual 583, 3) := by decide +kernel
theorem daspectField_28 : decode cX12_aspectField 28 = .ok (.ireturn, 1) := by decide +kernel
theorem daspectField_29 : decode cX12_aspectField 29 = .ok (.aload_n 0, 1) := by decide +kernel
theorem daspectField_30 : decode cX12_aspectField 30 = .ok (.getfield 574, 3) := by decide +kernel
theorem daspectField_33 : decode cX12_aspectField 33 = .ok (.istore_n 2, 1) := by decide +kernel
theorem daspectField_34 : decode cX12_aspectField 34 = .ok (.aload_n 0, 1) := by decide +kernel
theorem daspectField_35 : decode cX12_aspectField 35 = .ok (.invokevirtual 739, 3) := by decide +kernel
theorem daspectField_38 : decode cX12_aspectField 38 = .ok (.ifCond .ne 5, 3) := by decide +kernel
theorem daspectField_41 : decode cX12_aspectField 41 = .ok (.iconst 0, 1) := by decide +kernel
theorem daspectField_42 : decode cX12_aspectField 42 = .ok (.ireturn, 1) := by decide +kernel
theorem daspectField_43 : decode cX12_aspectField 43 = .ok (.iconst 0, 1) := by decide +kernel
theorem daspectField_44 : decode cX12_aspectField 44 = .ok (.istore_n 3, 1) := by decide +kernel
theorem daspectField_45 : decode cX12_aspectField 45 = .ok (.iload_n 3, 1) := by decide +kernel
theorem daspectField_46 : decode cX12_aspectField 46 = .ok (.aload_n 0, 1) := by decide +kernel
theorem daspectField_47 : decode cX12_aspectField 47 = .ok (.getfield 53, 3) := by decide +kernel
theorem daspectField_50 : decode cX12_aspectField 50 = .ok (.iload_n 1, 1) := by decide +kernel
theorem daspectField_51 : decode cX12_aspectField 51 = .ok (.iaload, 1) := by decide +kernel
theorem daspectField_52 : decode cX12_aspectField 52 = .ok (.if_icmp .ge 34, 3) := by decide +kernel
theorem daspectField_55 : decode cX12_aspectField 55 = .ok (.aload_n 0, 1) := by decide +kernel
theorem daspectField_56 : decode cX12_aspectField 56 = .ok (.getfield 56, 3) := by decide +kernel
theorem daspectField_59 : decode cX12_aspectField 59 = .ok (.bipush 10, 2) := by decide +kernel
theorem daspectField_61 : decode cX12_aspectField 61 = .ok (.iload_n 1, 1) := by decide +kernel
theorem daspectField_62 : decode cX12_aspectField 62 = .ok (.imul, 1) := by decide +kernel
theorem daspectField_63 : decode cX12_aspectField 63 = .ok (.iload_n 3, 1) := by decide +kernel
theorem daspectField_64 : decode cX12_aspectField 64 = .ok (.iadd, 1) := by decide +kernel
theorem daspectField_65 : decode cX12_aspectField 65 = .ok (.iaload, 1) := by decide +kernel
theorem daspectField_66 : decode cX12_aspectField 66 = .ok (.aload_n 0, 1) := by decide +kernel
theorem daspectField_67 : decode cX12_aspectField 67 = .ok (.iload_n 2, 1) := by decide +kernel
theorem daspectField_68 : decode cX12_aspectField 68 = .ok (.invokevirtual 716, 3) := by decide +kernel
theorem daspectField_71 : decode cX12_aspectField 71 = .ok (.if_icmp .ne 9, 3) := by decide +kernel
theorem daspectField_74 : decode cX12_aspectField 74 = .ok (.aload_n 0, 1) := by decide +kernel
theorem daspectField_75 : decode cX12_aspectField 75 = .ok (.iconst 4, 1) := by decide +kernel
theorem daspectField_76 : decode cX12_aspectField 76 = .ok (.iload_n 2, 1) := by decide +kernel
theorem daspectField_77 : decode cX12_aspectField 77 = .ok (.invokevirtual 719, 3) := by decide +kernel
theorem daspectField_80 : decode cX12_aspectField 80 = .ok (.iinc 3 1, 3) := by decide +kernel
theorem daspectField_83 : decode cX12_aspectField 83 = .ok (.goto (-38), 3) := by decide +kernel
theorem daspectField_86 : decode cX12_aspectField 86 = .ok (.aload_n 0, 1) := by decide +kernel
theorem daspectField_87 : decode cX12_aspectField 87 = .ok (.getfield 56, 3) := by decide +kernel
theorem daspectField_90 : decode cX12_aspectField 90 = .ok (.bipush 10, 2) := by decide +kernel
theorem daspectField_92 : decode cX12_aspectField 92 = .ok (.iload_n 1, 1) := by decide +kernel
theorem daspectField_93 : decode cX12_aspectField 93 = .ok (.imul, 1) := by decide +kernel
theorem daspectField_94 : decode cX12_aspectField 94 = .ok (.aload_n 0, 1) := by decide +kernel
theorem daspectField_95 : decode cX12_aspectField 95 = .ok (.getfield 53, 3) := by decide +kernel
theorem daspectField_98 : decode cX12_aspectField 98 = .ok (.iload_n 1, 1) := by decide +kernel
theorem daspectField_99 : decode cX12_aspectField 99 = .ok (.iaload, 1) := by decide +kernel
theorem daspectField_100 : decode cX12_aspectField 100 = .ok (.iadd, 1) := by decide +kernel
theorem daspectField_101 : decode cX12_aspectField 101 = .ok (.aload_n 0, 1) := by decide +kernel
theorem daspectField_102 : decode cX12_aspectField 102 = .ok (.iload_n 2, 1) := by decide +kernel
theorem daspectField_103 : decode cX12_aspectField 103 = .ok (.invokevirtual 716, 3) := by decide +kernel
theorem daspectField_106 : decode cX12_aspectField 106 = .ok (.iastore, 1) := by decide +kernel
theorem daspectField_107 : decode cX12_aspectField 107 = .ok (.aload_n 0, 1) := by decide +kernel
theorem daspectField_108 : decode cX12_aspectField 108 = .ok (.getfield 53, 3) := by decide +kernel
theorem daspectField_111 : decode cX12_aspectField 111 = .ok (.iload_n 1, 1) := by decide +kernel
theorem daspectField_112 : decode cX12_aspectField 112 = .ok (.dup2, 1) := by decide +kernel
theorem daspectField_113 : decode cX12_aspectField 113 = .ok (.iaload, 1) := by decide +kernel
theorem daspectField_114 : decode cX12_aspectField 114 = .ok (.iconst 1, 1) := by decide +kernel
theorem daspectField_115 : decode cX12_aspectField 115 = .ok (.iadd, 1) := by decide +kernel
theorem daspectField_116 : decode cX12_aspectField 116 = .ok (.iastore, 1) := by decide +kernel
theorem daspectField_117 : decode cX12_aspectField 117 = .ok (.aload_n 0, 1) := by decide +kernel
theorem daspectField_118 : decode cX12_aspectField 118 = .ok (.bipush 59, 2) := by decide +kernel
theorem daspectField_120 : decode cX12_aspectField 120 = .ok (.invokevirtual 742, 3) := by decide +kernel
theorem daspectField_123 : decode cX12_aspectField 123 = .ok (.ireturn, 1) := by decide +kernel
section
variable {l : Launch} {D : va_G} {cA : Nat → ClassId} {ad : Nat → Nat}
theorem s_aspectField {ht st rg : Nat → Int} {h : ja_H} {Q : Option ja_V → ja_H → Prop} (g : mo_G Zz h) (p1 : it h ht st rg) (k1 : ∀ (h' : ja_H), ((∃ ht st rg : Nat → Int, it h' ht st rg) ∧ (h 0 7) < (h' 0 7) ∧ mo_ag FKP h h') → mo_G Zz h' → Q (some (0, 1)) h') (k2 : ∀ (h' : ja_H), (0 < (h' 0 8) ∧ (h' 0 1) = (h 0 1) ∧ (h' 0 118) = (h 0 118) ∧ (h' 0 127) = (h 0 127)) → mo_G Zz h' → Q (some (0, 0)) h') : mM_aspectField l D cA ad  h Q := by
  show mJ l D cA ad 4 cX12_aspectField 4 (some .boolean) 0 [(0, (2, ((0 : Nat) : Int)))] [] h Q
  have kn_at := gF_at g
  have kn_inAspect := gF_inAspect g
  have kn_false1 := gF_false1 g
  have kn_falseAt := gF_falseAt g
  have CUT : ∀ n : Nat, (∀ (f p x3 : Int), mo_G Zz (ja_up (ja_up (ja_up h 0 7 ((h 0 7) + 1)) 0 11 f) 0 12 p) → (-2147483648 ≤ f ∧ f ≤ 2147483647) → (-2147483648 ≤ p ∧ p ≤ 2147483647) → (-2147483648 ≤ x3 ∧ x3 ≤ 2147483647) → (0 ≤ x3 ∧ 0 ≤ f ∧ f ≤ 8 ∧ (1 ≤ f ∨ f = (h 0 11)) ∧ (h 2 (h 0 7).toNat) = 2 ∧ (h 0 7) + 1 ≤ 900 ∧ ¬ ((h 15 (h 0 76).toNat) = 10)) → ((20 - x3).toNat) = n → mJ l D cA ad 4 cX12_aspectField 4 (some .boolean) 45 [(0, (2, ((0 : Nat) : Int))), (1, (0, (h 0 76))), (2, (0, (h 0 7))), (3, (0, x3))] [] (ja_up (ja_up (ja_up h 0 7 ((h 0 7) + 1)) 0 11 f) 0 12 p) Q) := by
    intro n
    induction n using Nat.strongRecOn with
    | _ n ih =>
      skip
      · intro f p x3 gu qf qp qx3 iv hm
        subst hm
        obtain ⟨z1, z2, z3, z4, z5, z6, z7, z8, z9, z10, z11, z12, z13, z14⟩ := p1.2.2.1
        have kaf := gC_aspectFields g (h 0 76).toNat
        refine ja_iload_n daspectField_45 rfl rfl ?_
        refine ja_aload_n daspectField_46 rfl rfl ?_
        refine fa_aspectFields daspectField_47 ?_
        refine ja_iload_n daspectField_50 rfl rfl ?_
        refine il_aspectFields (v := h 15 (h 0 76).toNat) rfl ⟨by omega, by omega⟩ daspectField_51 ?_
        have f1 := gC_aspectFields g (h 0 76).toNat
        refine ja_icmp_ge 86 daspectField_52 rfl ⟨by omega, by omega⟩ ⟨by omega, by omega⟩ (fun c52 => ?_) (fun c52 => ?_)
        · refine ja_aload_n daspectField_86 rfl rfl ?_
          refine fa_aspectField daspectField_87 ?_
          refine ja_bipush 10 daspectField_90 rfl ?_
          refine ja_iload_n daspectField_92 rfl rfl ?_
          refine ja_imul daspectField_93 ?_
          refine ja_aload_n daspectField_94 rfl rfl ?_
          refine fa_aspectFields daspectField_95 ?_
          refine ja_iload_n daspectField_98 rfl rfl ?_
          refine il_aspectFields (v := h 15 (h 0 76).toNat) rfl ⟨by omega, by omega⟩ daspectField_99 ?_
          refine ja_iadd daspectField_100 ?_
          refine ja_aload_n daspectField_101 rfl rfl ?_
          refine ja_iload_n daspectField_102 rfl rfl ?_
          refine t_id (by decide) (show (2 : Nat) ≤ 8 by decide) daspectField_103 gu ⟨by omega, by omega⟩ (show 0 ≤ (h 0 7) ∧ (h 0 7) ≤ 900 by omega) ?_
          intro k103_0
          replace k103_0 : -2147483648 ≤ (h 5 (h 0 7).toNat) ∧ (h 5 (h 0 7).toNat) ≤ 2147483647 := k103_0
          show mJ l D cA ad 4 cX12_aspectField 4 (some .boolean) 106 [(0, (2, ((0 : Nat) : Int))), (1, (0, (h 0 76))), (2, (0, (h 0 7))), (3, (0, x3))] [(0, (h 5 (h 0 7).toNat)), (0, ((10 * (h 0 76)) + (h 15 (h 0 76).toNat))), (2, ((16 : Nat) : Int))] (ja_up (ja_up (ja_up h 0 7 ((h 0 7) + 1)) 0 11 f) 0 12 p) Q
          have g2 := gW_aspectField gu ((10 * (h 0 76)) + (h 15 (h 0 76).toNat)).toNat (x := h 5 (h 0 7).toNat) ⟨by omega, by omega⟩
          refine is_aspectField ⟨by omega, by omega⟩ daspectField_106 ?_
          refine ja_aload_n daspectField_107 rfl rfl ?_
          refine fa_aspectFields daspectField_108 ?_
          refine ja_iload_n daspectField_111 rfl rfl ?_
          refine ja_dup2 daspectField_112 (by first | decide | (dsimp only; decide)) (by first | decide | (dsimp only; decide)) ?_
          refine il_aspectFields (v := h 15 (h 0 76).toNat) rfl ⟨by omega, by omega⟩ daspectField_113 ?_
          refine ja_iconst daspectField_114 ?_
          refine ja_iadd daspectField_115 ?_
          have g3 := gW_aspectFields g2 (h 0 76).toNat (x := (h 15 (h 0 76).toNat) + 1) ⟨by omega, by omega⟩
          refine is_aspectFields ⟨by omega, by omega⟩ daspectField_116 ?_
          refine ja_aload_n daspectField_117 rfl rfl ?_
          refine ja_bipush 59 daspectField_118 rfl ?_
          refine t_sign (by decide) (show (0 : Nat) ≤ 8 by decide) daspectField_120 g3 ⟨by decide, by decide⟩ ?_ ?_
          · intro k120_0 g4
            replace k120_0 : ((h 0 7) + 1) < 900 ∧ (h 2 ((h 0 7) + 1).toNat) = 5 ∧ (h 5 ((h 0 7) + 1).toNat) = 59 := k120_0
            replace g4 : mo_G Zz (ja_up (ja_up (ja_up (ja_up (ja_up (ja_up h 0 7 ((h 0 7) + 1)) 0 11 f) 0 12 p) 16 (((10 * (h 0 76)) + (h 15 (h 0 76).toNat)).toNat) (h 5 (h 0 7).toNat)) 15 ((h 0 76).toNat) ((h 15 (h 0 76).toNat) + 1)) 0 7 (((h 0 7) + 1) + 1)) := g4
            show mJ l D cA ad 4 cX12_aspectField 4 (some .boolean) 123 [(0, (2, ((0 : Nat) : Int))), (1, (0, (h 0 76))), (2, (0, (h 0 7))), (3, (0, x3))] [(0, 1)] (ja_up (ja_up (ja_up (ja_up (ja_up (ja_up h 0 7 ((h 0 7) + 1)) 0 11 f) 0 12 p) 16 (((10 * (h 0 76)) + (h 15 (h 0 76).toNat)).toNat) (h 5 (h 0 7).toNat)) 15 ((h 0 76).toNat) ((h 15 (h 0 76).toNat) + 1)) 0 7 (((h 0 7) + 1) + 1)) Q
            refine ja_zreturn daspectField_123 rfl (by omega) ?_
            exact mo_fin (by omega) rfl (k1 (ja_up (ja_up (ja_up (ja_up (ja_up (ja_up h 0 7 ((h 0 7) + 1)) 0 11 f) 0 12 p) 16 (((10 * (h 0 76)) + (h 15 (h 0 76).toNat)).toNat) (h 5 (h 0 7).toNat)) 15 ((h 0 76).toNat) ((h 15 (h 0 76).toNat) + 1)) 0 7 (((h 0 7) + 1) + 1)) (⟨⟨_, _, _, it_keep p1 (by (repeat (first | exact ag_refl | refine ag_up rfl ?_))) (show it_nn (((h 0 7) + 1) + 1) (h 0 113) (h 0 95) (h 0 68) (h 0 72) (h 0 31) (h 0 41) (h 0 64) (h 0 61) (h 0 18) (h 0 84) (h 0 87) (h 0 86) (h 0 85) (h 0 109) (h 0 66) from by unfold it_nn; omega) (it_F_eq (it_F_of p1) rfl rfl) (fun z => by have z2 : f = 0 := z; omega) (fun _ _ _ z => z) (Int.le_refl _)⟩, (show (h 0 7) < (((h 0 7) + 1) + 1) by omega), (by (repeat (first | exact ag_refl | refine ag_up rfl ?_)))⟩) g4)
          · intro h5 k120_1 g6
            replace k120_1 : 0 < (h5 0 8) ∧ (h5 0 1) = (h 0 1) ∧ (h5 0 118) = (h 0 118) ∧ (h5 0 127) = (h 0 127) := k120_1
            refine ja_zreturn daspectField_123 rfl (by omega) ?_
            exact mo_fin (by omega) rfl (k2 h5 (by omega) g6)
        · refine ja_aload_n daspectField_55 rfl rfl ?_
          refine fa_aspectField daspectField_56 ?_
          refine ja_bipush 10 daspectField_59 rfl ?_
          refine ja_iload_n daspectField_61 rfl rfl ?_
          refine ja_imul daspectField_62 ?_
          refine ja_iload_n daspectField_63 rfl rfl ?_
          refine ja_iadd daspectField_64 ?_
          refine il_aspectField (v := h 16 ((10 * (h 0 76)) + x3).toNat) rfl ⟨by omega, by omega⟩ daspectField_65 ?_
          have f7 := gC_aspectField g ((10 * (h 0 76)) + x3).toNat
          refine ja_aload_n daspectField_66 rfl rfl ?_
          refine ja_iload_n daspectField_67 rfl rfl ?_
          refine t_id (by decide) (show (1 : Nat) ≤ 8 by decide) daspectField_68 gu ⟨by omega, by omega⟩ (show 0 ≤ (h 0 7) ∧ (h 0 7) ≤ 900 by omega) ?_
          intro k68_0
          replace k68_0 : -2147483648 ≤ (h 5 (h 0 7).toNat) ∧ (h 5 (h 0 7).toNat) ≤ 2147483647 := k68_0
          show mJ l D cA ad 4 cX12_aspectField 4 (some .boolean) 71 [(0, (2, ((0 : Nat) : Int))), (1, (0, (h 0 76))), (2, (0, (h 0 7))), (3, (0, x3))] [(0, (h 5 (h 0 7).toNat)), (0, (h 16 ((10 * (h 0 76)) + x3).toNat))] (ja_up (ja_up (ja_up h 0 7 ((h 0 7) + 1)) 0 11 f) 0 12 p) Q
          refine ja_icmp_ne 80 daspectField_71 rfl ⟨by omega, by omega⟩ ⟨by omega, by omega⟩ (fun c71 => ?_) (fun c71 => ?_)
          · refine ja_iinc daspectField_80 rfl (by decide) (L2 := [(3, (0, (x3 + 1))), (0, (2, ((0 : Nat) : Int))), (1, (0, (h 0 76))), (2, (0, (h 0 7)))]) rfl ?_
            refine ja_goto 45 daspectField_83 rfl ?_
            exact ja_wk (fun q hq => by simp only [List.mem_cons, List.not_mem_nil, or_false] at hq; rcases hq with rfl | rfl | rfl | rfl <;> rfl) ((ih ((20 - (x3 + 1)).toNat) (by omega)) f p (x3 + 1) gu ⟨by omega, by omega⟩ ⟨by omega, by omega⟩ ⟨by omega, by omega⟩ (show 0 ≤ (x3 + 1) ∧ 0 ≤ f ∧ f ≤ 8 ∧ (1 ≤ f ∨ f = (h 0 11)) ∧ (h 2 (h 0 7).toNat) = 2 ∧ (h 0 7) + 1 ≤ 900 ∧ ¬ ((h 15 (h 0 76).toNat) = 10) by omega) rfl)
          · refine ja_aload_n daspectField_74 rfl rfl ?_
            refine ja_iconst daspectField_75 ?_
            refine ja_iload_n daspectField_76 rfl rfl ?_
            refine t_judge (by decide) (show (0 : Nat) ≤ 8 by decide) daspectField_77 gu ⟨by decide, by decide⟩ ⟨by omega, by omega⟩ (show 1 ≤ 4 ∧ 4 ≤ 8 by omega) (show 0 ≤ (h 0 7) ∧ (h 0 7) ≤ 900 by omega) ?_
            intro w8 w9 k77_0 g10
            replace k77_0 : 1 ≤ w8 ∧ w8 ≤ 8 ∧ -2147483648 ≤ w9 ∧ w9 ≤ 2147483647 := k77_0
            replace g10 : mo_G Zz (ja_up (ja_up (ja_up (ja_up (ja_up h 0 7 ((h 0 7) + 1)) 0 11 f) 0 12 p) 0 11 w8) 0 12 w9) := g10
            show mJ l D cA ad 4 cX12_aspectField 4 (some .boolean) 80 [(0, (2, ((0 : Nat) : Int))), (1, (0, (h 0 76))), (2, (0, (h 0 7))), (3, (0, x3))] [] (ja_up (ja_up (ja_up (ja_up (ja_up h 0 7 ((h 0 7) + 1)) 0 11 f) 0 12 p) 0 11 w8) 0 12 w9) Q
            refine ja_iinc daspectField_80 rfl (by decide) (L2 := [(3, (0, (x3 + 1))), (0, (2, ((0 : Nat) : Int))), (1, (0, (h 0 76))), (2, (0, (h 0 7)))]) rfl ?_
            refine ja_goto 45 daspectField_83 rfl ?_
            have hE45 : ja_up (ja_up (ja_up (ja_up (ja_up h 0 7 ((h 0 7) + 1)) 0 11 f) 0 12 p) 0 11 w8) 0 12 w9 = ja_up (ja_up (ja_up h 0 7 ((h 0 7) + 1)) 0 11 w8) 0 12 w9 := by funext k j; simp only [ja_up]; repeat' split <;> simp_all
            rw [hE45]
            exact ja_wk (fun q hq => by simp only [List.mem_cons, List.not_mem_nil, or_false] at hq; rcases hq with rfl | rfl | rfl | rfl <;> rfl) ((ih ((20 - (x3 + 1)).toNat) (by omega)) w8 w9 (x3 + 1) (by rw [← hE45]; exact g10) ⟨by omega, by omega⟩ ⟨by omega, by omega⟩ ⟨by omega, by omega⟩ (show 0 ≤ (x3 + 1) ∧ 0 ≤ w8 ∧ w8 ≤ 8 ∧ (1 ≤ w8 ∨ w8 = (h 0 11)) ∧ (h 2 (h 0 7).toNat) = 2 ∧ (h 0 7) + 1 ≤ 900 ∧ ¬ ((h 15 (h 0 76).toNat) = 10) by omega) rfl)
  obtain ⟨z1, z2, z3, z4, z5, z6, z7, z8, z9, z10, z11, z12, z13, z14⟩ := p1.2.2.1
  have kaf := gC_aspectFields g (h 0 76).toNat
  refine ja_aload_n daspectField_0 rfl rfl ?_
  refine fg_inAspect (v := h 0 76) rfl daspectField_1 ?_
  have f11 := gF_inAspect g
  refine ja_istore_n daspectField_4 rfl (by decide) (L2 := [(1, (0, (h 0 76))), (0, (2, ((0 : Nat) : Int)))]) rfl ?_
  refine ja_aload_n daspectField_5 rfl rfl ?_
  refine t_isName (by decide) (show (0 : Nat) ≤ 8 by decide) daspectField_6 g  ?_
  intro w12 k6_0
  refine ja_if_eq 29 daspectField_9 rfl ⟨by omega, by omega⟩ (fun c9 => ?_) (fun c9 => ?_)
  · replace k6_0 := is0 k6_0 c9
    refine ja_aload_n daspectField_29 rfl rfl ?_
    refine fg_at (v := h 0 7) rfl daspectField_30 ?_
    have f13 := gF_at g
    refine ja_istore_n daspectField_33 rfl (by decide) (L2 := [(2, (0, (h 0 7))), (1, (0, (h 0 76))), (0, (2, ((0 : Nat) : Int)))]) rfl ?_
    refine ja_aload_n daspectField_34 rfl rfl ?_
    refine t_name (by decide) (show (0 : Nat) ≤ 8 by decide) daspectField_35 g  ?_ ?_
    · intro k35_0 g14
      replace k35_0 : (h 0 7) < 900 ∧ (h 2 (h 0 7).toNat) = 2 := k35_0
      replace g14 : mo_G Zz (ja_up h 0 7 ((h 0 7) + 1)) := g14
      show mJ l D cA ad 4 cX12_aspectField 4 (some .boolean) 38 [(2, (0, (h 0 7))), (1, (0, (h 0 76))), (0, (2, ((0 : Nat) : Int)))] [(0, 1)] (ja_up h 0 7 ((h 0 7) + 1)) Q
      refine ja_if_ne 43 daspectField_38 rfl ⟨by decide, by decide⟩ (fun c38 => ?_) (fun c38 => absurd c38 (by omega))
      refine ja_iconst daspectField_43 ?_
      refine ja_istore_n daspectField_44 rfl (by decide) (L2 := [(3, (0, 0)), (2, (0, (h 0 7))), (1, (0, (h 0 76))), (0, (2, ((0 : Nat) : Int)))]) rfl ?_
      have hE45 : ja_up h 0 7 ((h 0 7) + 1) = ja_up (ja_up (ja_up h 0 7 ((h 0 7) + 1)) 0 11 (h 0 11)) 0 12 (h 0 12) := by funext k j; simp only [ja_up]; repeat' split <;> simp_all
      rw [hE45]
      exact ja_wk (fun q hq => by simp only [List.mem_cons, List.not_mem_nil, or_false] at hq; rcases hq with rfl | rfl | rfl | rfl <;> rfl) ((CUT _) (h 0 11) (h 0 12) 0 (by rw [← hE45]; exact g14) ⟨by omega, by omega⟩ ⟨by omega, by omega⟩ ⟨by decide, by decide⟩ (show 0 ≤ 0 ∧ 0 ≤ (h 0 11) ∧ (h 0 11) ≤ 8 ∧ (1 ≤ (h 0 11) ∨ (h 0 11) = (h 0 11)) ∧ (h 2 (h 0 7).toNat) = 2 ∧ (h 0 7) + 1 ≤ 900 ∧ ¬ ((h 15 (h 0 76).toNat) = 10) by omega) rfl)
    · intro h15 k35_1 g16
      refine ja_if_ne 43 daspectField_38 rfl ⟨by decide, by decide⟩ (fun c38 => absurd c38 (by omega)) (fun c38 => ?_)
      refine ja_iconst daspectField_41 ?_
      refine ja_zreturn daspectField_42 rfl (by omega) ?_
      exact mo_fin (by omega) rfl (k2 h15 (by omega) g16)
  · have z9 := is1v k6_0 c9
    replace k6_0 := is1 k6_0 c9
    refine ja_aload_n daspectField_12 rfl rfl ?_
    refine fa_aspectFields daspectField_13 ?_
    refine ja_iload_n daspectField_16 rfl rfl ?_
    refine il_aspectFields (v := h 15 (h 0 76).toNat) rfl ⟨by omega, by omega⟩ daspectField_17 ?_
    have f17 := gC_aspectFields g (h 0 76).toNat
    refine ja_bipush 10 daspectField_18 rfl ?_
    refine ja_icmp_ne 29 daspectField_20 rfl ⟨by omega, by omega⟩ ⟨by decide, by decide⟩ (fun c20 => ?_) (fun c20 => ?_)
    · refine ja_aload_n daspectField_29 rfl rfl ?_
      refine fg_at (v := h 0 7) rfl daspectField_30 ?_
      have f18 := gF_at g
      refine ja_istore_n daspectField_33 rfl (by decide) (L2 := [(2, (0, (h 0 7))), (1, (0, (h 0 76))), (0, (2, ((0 : Nat) : Int)))]) rfl ?_
      refine ja_aload_n daspectField_34 rfl rfl ?_
      refine t_name (by decide) (show (0 : Nat) ≤ 8 by decide) daspectField_35 g  ?_ ?_
      · intro k35_0 g19
        replace k35_0 : (h 0 7) < 900 ∧ (h 2 (h 0 7).toNat) = 2 := k35_0
        replace g19 : mo_G Zz (ja_up h 0 7 ((h 0 7) + 1)) := g19
        show mJ l D cA ad 4 cX12_aspectField 4 (some .boolean) 38 [(2, (0, (h 0 7))), (1, (0, (h 0 76))), (0, (2, ((0 : Nat) : Int)))] [(0, 1)] (ja_up h 0 7 ((h 0 7) + 1)) Q
        refine ja_if_ne 43 daspectField_38 rfl ⟨by decide, by decide⟩ (fun c38 => ?_) (fun c38 => absurd c38 (by omega))
        refine ja_iconst daspectField_43 ?_
        refine ja_istore_n daspectField_44 rfl (by decide) (L2 := [(3, (0, 0)), (2, (0, (h 0 7))), (1, (0, (h 0 76))), (0, (2, ((0 : Nat) : Int)))]) rfl ?_
        have hE45 : ja_up h 0 7 ((h 0 7) + 1) = ja_up (ja_up (ja_up h 0 7 ((h 0 7) + 1)) 0 11 (h 0 11)) 0 12 (h 0 12) := by funext k j; simp only [ja_up]; repeat' split <;> simp_all
        rw [hE45]
        exact ja_wk (fun q hq => by simp only [List.mem_cons, List.not_mem_nil, or_false] at hq; rcases hq with rfl | rfl | rfl | rfl <;> rfl) ((CUT _) (h 0 11) (h 0 12) 0 (by rw [← hE45]; exact g19) ⟨by omega, by omega⟩ ⟨by omega, by omega⟩ ⟨by decide, by decide⟩ (show 0 ≤ 0 ∧ 0 ≤ (h 0 11) ∧ (h 0 11) ≤ 8 ∧ (1 ≤ (h 0 11) ∨ (h 0 11) = (h 0 11)) ∧ (h 2 (h 0 7).toNat) = 2 ∧ (h 0 7) + 1 ≤ 900 ∧ ¬ ((h 15 (h 0 76).toNat) = 10) by omega) rfl)
      · intro h20 k35_1 g21
        refine ja_if_ne 43 daspectField_38 rfl ⟨by decide, by decide⟩ (fun c38 => absurd c38 (by omega)) (fun c38 => ?_)
        refine ja_iconst daspectField_41 ?_
        refine ja_zreturn daspectField_42 rfl (by omega) ?_
        exact mo_fin (by omega) rfl (k2 h20 (by omega) g21)
    · refine ja_aload_n daspectField_23 rfl rfl ?_
      refine ja_iconst daspectField_24 ?_
      refine t_halt (by decide) (show (0 : Nat) ≤ 8 by decide) daspectField_25 g ⟨by decide, by decide⟩ (show 1 ≤ 3 ∧ 3 ≤ 8 by omega) ?_
      intro h22 k25_0 g23
      refine ja_zreturn daspectField_28 rfl (by omega) ?_
      exact mo_fin (by omega) rfl (k2 h22 (by omega) g23)
theorem t_aspectField {ht st rg : Nat → Int} {d nL pc : Nat} {cc : ByteArray} {rt : Option FieldType} {L : List (Nat × ja_V)} {S : List ja_V} {h : ja_H} {Q : Option ja_V → ja_H → Prop} (hdd : 4 < d) (hwd : ja_wd S ≤ 8) (hd : decode cc pc = .ok (.invokevirtual 769, 3)) (g : mo_G Zz h) (p1 : it h ht st rg) (k1 : ∀ (h' : ja_H), ((∃ ht st rg : Nat → Int, it h' ht st rg) ∧ (h 0 7) < (h' 0 7) ∧ mo_ag FKP h h') → mo_G Zz h' → mJ l D cA ad d cc nL rt (pc + 3) L ((0, 1) :: S) h' Q) (k2 : ∀ (h' : ja_H), (0 < (h' 0 8) ∧ (h' 0 1) = (h 0 1) ∧ (h' 0 118) = (h 0 118) ∧ (h' 0 127) = (h 0 127)) → mo_G Zz h' → mJ l D cA ad d cc nL rt (pc + 3) L ((0, 0) :: S) h' Q) : mJ l D cA ad d cc nL rt pc L ((2, ((0 : Nat) : Int)) :: S) h Q :=
  mc_aspectField hdd hwd hd (s_aspectField g p1 k1 k2)
end
theorem dclassItem_0 : decode cX12_classItem 0 = .ok (.aload_n 0, 1) := by decide +kernel
theorem dclassItem_1 : decode cX12_classItem 1 = .ok (.invokevirtual 599, 3) := by decide +kernel
theorem dclassItem_4 : decode cX12_classItem 4 = .ok (.ifCond .eq 18, 3) := by decide +kernel
theorem dclassItem_7 : decode cX12_classItem 7 = .ok (.aload_n 0, 1) := by decide +kernel
theorem dclassItem_8 : decode cX12_classItem 8 = .ok (.getfield 647, 3) := by decide +kernel
theorem dclassItem_11 : decode cX12_classItem 11 = .ok (.bipush 12, 2) := by decide +kernel
theorem dclassItem_13 : decode cX12_classItem 13 = .ok (.if_icmp .ne 9, 3) := by decide +kernel
theorem dclassItem_16 : decode cX12_classItem 16 = .ok (.aload_n 0, 1) := by decide +kernel
theorem dclassItem_17 : decode cX12_classItem 17 = .ok (.iconst 3, 1) := by decide +kernel
theorem dclassItem_18 : decode cX12_classItem 18 = .ok (.invokevirtual 583, 3) := by decide +kernel
theorem dclassItem_21 : decode cX12_classItem 21 = .ok (.ireturn, 1) := by decide +kernel
theorem dclassItem_22 : decode cX12_classItem 22 = .ok (.aload_n 0, 1) := by decide +kernel
theorem dclassItem_23 : decode cX12_classItem 23 = .ok (.getfield 647, 3) := by decide +kernel
theorem dclassItem_26 : decode cX12_classItem 26 = .ok (.istore_n 1, 1) := by decide +kernel
theorem dclassItem_27 : decode cX12_classItem 27 = .ok (.aload_n 0, 1) := by decide +kernel
theorem dclassItem_28 : decode cX12_classItem 28 = .ok (.getfield 37, 3) := by decide +kernel
theorem dclassItem_31 : decode cX12_classItem 31 = .ok (.iload_n 1, 1) := by decide +kernel
theorem dclassItem_32 : decode cX12_classItem 32 = .ok (.aload_n 0, 1) := by decide +kernel
theorem dclassItem_33 : decode cX12_classItem 33 = .ok (.getfield 574, 3) := by decide +kernel
theorem dclassItem_36 : decode cX12_classItem 36 = .ok (.iastore, 1) := by decide +kernel
theorem dclassItem_37 : decode cX12_classItem 37 = .ok (.aload_n 0, 1) := by decide +kernel
theorem dclassItem_38 : decode cX12_classItem 38 = .ok (.getfield 40, 3) := by decide +kernel
theorem dclassItem_41 : decode cX12_classItem 41 = .ok (.iload_n 1, 1) := by decide +kernel
theorem dclassItem_42 : decode cX12_classItem 42 = .ok (.iconst (-1), 1) := by decide +kernel
theorem dclassItem_43 : decode cX12_classItem 43 = .ok (.iastore, 1) := by decide +kernel
theorem dclassItem_44 : decode cX12_classItem 44 = .ok (.aload_n 0, 1) := by decide +kernel
theorem dclassItem_45 : decode cX12_classItem 45 = .ok (.invokevirtual 739, 3) := by decide +kernel
theorem dclassItem_48 : decode cX12_classItem 48 = .ok (.ifCond .ne 5, 3) := by decide +kernel
theorem dclassItem_51 : decode cX12_classItem 51 = .ok (.iconst 0, 1) := by decide +kernel
theorem dclassItem_52 : decode cX12_classItem 52 = .ok (.ireturn, 1) := by decide +kernel
theorem dclassItem_53 : decode cX12_classItem 53 = .ok (.aload_n 0, 1) := by decide +kernel
theorem dclassItem_54 : decode cX12_classItem 54 = .ok (.dup, 1) := by decide +kernel
theorem dclassItem_55 : decode cX12_classItem 55 = .ok (.getfield 647, 3) := by decide +kernel
theorem dclassItem_58 : decode cX12_classItem 58 = .ok (.iconst 1, 1) := by decide +kernel
theorem dclassItem_59 : decode cX12_classItem 59 = .ok (.iadd, 1) := by decide +kernel
theorem dclassItem_60 : decode cX12_classItem 60 = .ok (.putfield 647, 3) := by decide +kernel
theorem dclassItem_63 : decode cX12_classItem 63 = .ok (.aload_n 0, 1) := by decide +kernel
theorem dclassItem_64 : decode cX12_classItem 64 = .ok (.bipush 41, 2) := by decide +kernel
theorem dclassItem_66 : decode cX12_classItem 66 = .ok (.invokevirtual 596, 3) := by decide +kernel
theorem dclassItem_69 : decode cX12_classItem 69 = .ok (.ifCond .eq 31, 3) := by decide +kernel
theorem dclassItem_72 : decode cX12_classItem 72 = .ok (.aload_n 0, 1) := by decide +kernel
theorem dclassItem_73 : decode cX12_classItem 73 = .ok (.invokevirtual 589, 3) := by decide +kernel
theorem dclassItem_76 : decode cX12_classItem 76 = .ok (.ifCond .ne 5, 3) := by decide +kernel
theorem dclassItem_79 : decode cX12_classItem 79 = .ok (.iconst 0, 1) := by decide +kernel
theorem dclassItem_80 : decode cX12_classItem 80 = .ok (.ireturn, 1) := by decide +kernel
theorem dclassItem_81 : decode cX12_classItem 81 = .ok (.aload_n 0, 1) := by decide +kernel
theorem dclassItem_82 : decode cX12_classItem 82 = .ok (.getfield 40, 3) := by decide +kernel
theorem dclassItem_85 : decode cX12_classItem 85 = .ok (.iload_n 1, 1) := by decide +kernel
theorem dclassItem_86 : decode cX12_classItem 86 = .ok (.aload_n 0, 1) := by decide +kernel
theorem dclassItem_87 : decode cX12_classItem 87 = .ok (.getfield 574, 3) := by decide +kernel
theorem dclassItem_90 : decode cX12_classItem 90 = .ok (.iastore, 1) := by decide +kernel
theorem dclassItem_91 : decode cX12_classItem 91 = .ok (.aload_n 0, 1) := by decide +kernel
theorem dclassItem_92 : decode cX12_classItem 92 = .ok (.invokevirtual 739, 3) := by decide +kernel
theorem dclassItem_95 : decode cX12_classItem 95 = .ok (.ifCond .ne 5, 3) := by decide +kernel
theorem dclassItem_98 : decode cX12_classItem 98 = .ok (.iconst 0, 1) := by decide +kernel
theorem dclassItem_99 : decode cX12_classItem 99 = .ok (.ireturn, 1) := by decide +kernel
theorem dclassItem_100 : decode cX12_classItem 100 = .ok (.aload_n 0, 1) := by decide +kernel
theorem dclassItem_101 : decode cX12_classItem 101 = .ok (.bipush 123, 2) := by decide +kernel
theorem dclassItem_103 : decode cX12_classItem 103 = .ok (.invokevirtual 742, 3) := by decide +kernel
theorem dclassItem_106 : decode cX12_classItem 106 = .ok (.istore_n 2, 1) := by decide +kernel
theorem dclassItem_107 : decode cX12_classItem 107 = .ok (.iload_n 2, 1) := by decide +kernel
theorem dclassItem_108 : decode cX12_classItem 108 = .ok (.ifCond .eq 26, 3) := by decide +kernel
theorem dclassItem_111 : decode cX12_classItem 111 = .ok (.aload_n 0, 1) := by decide +kernel
theorem dclassItem_112 : decode cX12_classItem 112 = .ok (.bipush 125, 2) := by decide +kernel
theorem dclassItem_114 : decode cX12_classItem 114 = .ok (.invokevirtual 586, 3) := by decide +kernel
theorem dclassItem_117 : decode cX12_classItem 117 = .ok (.ifCond .ne 17, 3) := by decide +kernel
theorem dclassItem_120 : decode cX12_classItem 120 = .ok (.aload_n 0, 1) := by decide +kernel
theorem dclassItem_121 : decode cX12_classItem 121 = .ok (.aload_n 0, 1) := by decide +kernel
theorem dclassItem_122 : decode cX12_classItem 122 = .ok (.getfield 37, 3) := by decide +kernel
theorem dclassItem_125 : decode cX12_classItem 125 = .ok (.iload_n 1, 1) := by decide +kernel
theorem dclassItem_126 : decode cX12_classItem 126 = .ok (.iaload, 1) := by decide +kernel
theorem dclassItem_127 : decode cX12_classItem 127 = .ok (.invokevirtual 745, 3) := by decide +kernel
theorem dclassItem_130 : decode cX12_classItem 130 = .ok (.istore_n 2, 1) := by decide +kernel
theorem dclassItem_131 : decode cX12_classItem 131 = .ok (.goto (-24), 3) := by decide +kernel
theorem dclassItem_134 : decode cX12_classItem 134 = .ok (.iload_n 2, 1) := by decide +kernel
theorem dclassItem_135 : decode cX12_classItem 135 = .ok (.ifCond .eq 14, 3) := by decide +kernel
theorem dclassItem_138 : decode cX12_classItem 138 = .ok (.aload_n 0, 1) := by decide +kernel
theorem dclassItem_139 : decode cX12_classItem 139 = .ok (.invokevirtual 589, 3) := by decide +kernel
theorem dclassItem_142 : decode cX12_classItem 142 = .ok (.ifCond .eq 7, 3) := by decide +kernel
theorem dclassItem_145 : decode cX12_classItem 145 = .ok (.iconst 1, 1) := by decide +kernel
theorem dclassItem_146 : decode cX12_classItem 146 = .ok (.goto 4, 3) := by decide +kernel
theorem dclassItem_149 : decode cX12_classItem 149 = .ok (.iconst 0, 1) := by decide +kernel
theorem dclassItem_150 : decode cX12_classItem 150 = .ok (.ireturn, 1) := by decide +kernel
section
variable {l : Launch} {D : va_G} {cA : Nat → ClassId} {ad : Nat → Nat}
theorem s_classItem {ht st rg : Nat → Int} {h : ja_H} {Q : Option ja_V → ja_H → Prop} (g : mo_G Zz h) (p1 : it h ht st rg) (k1 : ∀ (h' : ja_H), ((∃ ht st rg : Nat → Int, it h' ht st rg) ∧ (h 0 7) < (h' 0 7) ∧ mo_ag FKP h h') → mo_G Zz h' → Q (some (0, 1)) h') (k2 : ∀ (h' : ja_H), (0 < (h' 0 8) ∧ (h' 0 1) = (h 0 1) ∧ (h' 0 118) = (h 0 118) ∧ (h' 0 127) = (h 0 127)) → mo_G Zz h' → Q (some (0, 0)) h') : mM_classItem l D cA ad  h Q := by
  show mJ l D cA ad 11 cX12_classItem 3 (some .boolean) 0 [(0, (2, ((0 : Nat) : Int)))] [] h Q
  have kn_at := gF_at g
  have kn_classes := gF_classes g
  have CUT : ∀ n : Nat, (∀ (x2 : Int) (u : ja_H), mo_G Zz u → (-2147483648 ≤ x2 ∧ x2 ≤ 2147483647) → (lo_T h u x2) → ((if x2 = 1 then (1001 - (u 0 7)).toNat else 0)) = n → mJ l D cA ad 11 cX12_classItem 3 (some .boolean) 107 [(0, (2, ((0 : Nat) : Int))), (1, (0, (h 0 22))), (2, (0, x2))] [] u Q) := by
    intro n
    induction n using Nat.strongRecOn with
    | _ n ih =>
      skip
      · intro x2 u gu qx2 iv hm
        subst hm
        have ku_at := gF_at gu
        have ku_classes := gF_classes gu
        have kua := gF_at gu
        refine ja_iload_n dclassItem_107 rfl rfl ?_
        refine ja_if_eq 134 dclassItem_108 rfl ⟨by omega, by omega⟩ (fun c108 => ?_) (fun c108 => ?_)
        · rcases iv with iv | iv
          case inl => exact absurd iv.1 (by omega)
          refine ja_iload_n dclassItem_134 rfl rfl ?_
          refine ja_if_eq 149 dclassItem_135 rfl ⟨by omega, by omega⟩ (fun c135 => ?_) (fun c135 => ?_)
          · refine ja_iconst dclassItem_149 ?_
            refine ja_zreturn dclassItem_150 rfl (by omega) ?_
            exact mo_fin (by omega) rfl (k2 u (by omega) gu)
          · exfalso; omega
        · rcases iv with ⟨ex, ⟨ht1, st1, rg1, hit⟩, lat, lag⟩ | iv
          case inr => exact absurd iv.1 (by omega)
          have l_size : (u 0 1) = (h 0 1) := lag 0 1 rfl
          have l_compiled : (u 0 118) = (h 0 118) := lag 0 118 rfl
          have l_started : (u 0 127) = (h 0 127) := lag 0 127 rfl
          refine ja_aload_n dclassItem_111 rfl rfl ?_
          refine ja_bipush 125 dclassItem_112 rfl ?_
          refine t_isSign (by decide) (show (0 : Nat) ≤ 8 by decide) dclassItem_114 gu ⟨by decide, by decide⟩ ?_
          intro w1 k114_0
          refine ja_if_ne 134 dclassItem_117 rfl ⟨by omega, by omega⟩ (fun c117 => ?_) (fun c117 => ?_)
          · have z117 := is1v k114_0 c117
            replace k114_0 := is1 k114_0 c117
            refine ja_iload_n dclassItem_134 rfl rfl ?_
            refine ja_if_eq 149 dclassItem_135 rfl ⟨by omega, by omega⟩ (fun c135 => ?_) (fun c135 => ?_)
            · refine ja_iconst dclassItem_149 ?_
              refine ja_zreturn dclassItem_150 rfl (by omega) ?_
              exact mo_fin (by omega) rfl (k2 u (by omega) gu)
            · obtain ⟨y1, y2, y3, y4, y5, y6, y7, y8, y9, y10, y11, y12, y13, y14⟩ := hit.2.2.1
              refine ja_aload_n dclassItem_138 rfl rfl ?_
              refine t_take (by decide) (show (0 : Nat) ≤ 8 by decide) dclassItem_139 gu  ?_ ?_
              · intro k139_0 g2
                replace k139_0 : (u 0 7) < 900 := k139_0
                replace g2 : mo_G Zz (ja_up u 0 7 ((u 0 7) + 1)) := g2
                show mJ l D cA ad 11 cX12_classItem 3 (some .boolean) 142 [(0, (2, ((0 : Nat) : Int))), (1, (0, (h 0 22))), (2, (0, x2))] [(0, 1)] (ja_up u 0 7 ((u 0 7) + 1)) Q
                refine ja_if_eq 149 dclassItem_142 rfl ⟨by decide, by decide⟩ (fun c142 => absurd c142 (by omega)) (fun c142 => ?_)
                refine ja_iconst dclassItem_145 ?_
                refine ja_goto 150 dclassItem_146 rfl ?_
                refine ja_zreturn dclassItem_150 rfl (by omega) ?_
                exact mo_fin (by omega) rfl (k1 (ja_up u 0 7 ((u 0 7) + 1)) (⟨⟨_, _, _, it_keep hit (by (repeat (first | exact ag_refl | refine ag_up rfl ?_))) (show it_nn ((u 0 7) + 1) (u 0 113) (u 0 95) (u 0 68) (u 0 72) (u 0 31) (u 0 41) (u 0 64) (u 0 61) (u 0 18) (u 0 84) (u 0 87) (u 0 86) (u 0 85) (u 0 109) (u 0 66) from by unfold it_nn; omega) (it_F_eq (it_F_of hit) rfl rfl) (fun z => z) (fun _ _ _ z => z) (Int.le_refl _)⟩, (show (h 0 7) < ((u 0 7) + 1) by omega), ag_trans lag (by (repeat (first | exact ag_refl | refine ag_up rfl ?_)))⟩) g2)
              · intro h3 k139_1 g4
                refine ja_if_eq 149 dclassItem_142 rfl ⟨by decide, by decide⟩ (fun c142 => ?_) (fun c142 => absurd c142 (by omega))
                refine ja_iconst dclassItem_149 ?_
                refine ja_zreturn dclassItem_150 rfl (by omega) ?_
                exact mo_fin (by omega) rfl (k2 h3 (by omega) g4)
          · replace k114_0 := is0 k114_0 c117
            refine ja_aload_n dclassItem_120 rfl rfl ?_
            refine ja_aload_n dclassItem_121 rfl rfl ?_
            refine fa_className dclassItem_122 ?_
            refine ja_iload_n dclassItem_125 rfl rfl ?_
            refine il_className (v := u 10 (h 0 22).toNat) rfl ⟨by omega, by omega⟩ dclassItem_126 ?_
            have f5 := gC_className gu (h 0 22).toNat
            refine t_member (by decide) (show (0 : Nat) ≤ 8 by decide) dclassItem_127 gu ⟨by omega, by omega⟩ (hit) (show 0 ≤ (u 10 (h 0 22).toNat) ∧ (u 10 (h 0 22).toNat) ≤ 900 by omega) ?_ ?_
            · intro h6 k127_0 g7
              refine ja_istore_n dclassItem_130 rfl (by decide) (L2 := [(2, (0, 1)), (0, (2, ((0 : Nat) : Int))), (1, (0, (h 0 22)))]) rfl ?_
              refine ja_goto 107 dclassItem_131 rfl ?_
              exact ja_wk (fun q hq => by simp only [List.mem_cons, List.not_mem_nil, or_false] at hq; rcases hq with rfl | rfl | rfl <;> rfl) ((ih ((if 1 = 1 then (1001 - (h6 0 7)).toNat else 0)) (by (repeat' split) <;> omega)) 1 h6 g7 ⟨by decide, by decide⟩ ((Or.inl ⟨rfl, k127_0.1, Int.lt_trans lat k127_0.2.1, ag_trans lag k127_0.2.2⟩)) rfl)
            · intro h8 k127_1 g9
              refine ja_istore_n dclassItem_130 rfl (by decide) (L2 := [(2, (0, 0)), (0, (2, ((0 : Nat) : Int))), (1, (0, (h 0 22)))]) rfl ?_
              refine ja_goto 107 dclassItem_131 rfl ?_
              exact ja_wk (fun q hq => by simp only [List.mem_cons, List.not_mem_nil, or_false] at hq; rcases hq with rfl | rfl | rfl <;> rfl) ((ih ((if 0 = 1 then (1001 - (h8 0 7)).toNat else 0)) (by (repeat' split) <;> omega)) 0 h8 g9 ⟨by decide, by decide⟩ ((Or.inr (by refine ⟨rfl, ?_, ?_, ?_, ?_⟩ <;> omega))) rfl)
  obtain ⟨z1, z2, z3, z4, z5, z6, z7, z8, z9, z10, z11, z12, z13, z14⟩ := p1.2.2.1
  refine ja_aload_n dclassItem_0 rfl rfl ?_
  refine t_isName (by decide) (show (0 : Nat) ≤ 8 by decide) dclassItem_1 g  ?_
  intro w10 k1_0
  refine ja_if_eq 22 dclassItem_4 rfl ⟨by omega, by omega⟩ (fun c4 => ?_) (fun c4 => ?_)
  · replace k1_0 := is0 k1_0 c4
    refine ja_aload_n dclassItem_22 rfl rfl ?_
    refine fg_classes (v := h 0 22) rfl dclassItem_23 ?_
    have f11 := gF_classes g
    refine ja_istore_n dclassItem_26 rfl (by decide) (L2 := [(1, (0, (h 0 22))), (0, (2, ((0 : Nat) : Int)))]) rfl ?_
    refine ja_aload_n dclassItem_27 rfl rfl ?_
    refine fa_className dclassItem_28 ?_
    refine ja_iload_n dclassItem_31 rfl rfl ?_
    refine ja_aload_n dclassItem_32 rfl rfl ?_
    refine fg_at (v := h 0 7) rfl dclassItem_33 ?_
    have f12 := gF_at g
    have g13 := gW_className g (h 0 22).toNat (x := h 0 7) ⟨by omega, by omega⟩
    refine is_className ⟨by omega, by omega⟩ dclassItem_36 ?_
    refine ja_aload_n dclassItem_37 rfl rfl ?_
    refine fa_classUnder dclassItem_38 ?_
    refine ja_iload_n dclassItem_41 rfl rfl ?_
    refine ja_iconst dclassItem_42 ?_
    have g14 := gW_classUnder g13 (h 0 22).toNat (x := (-1)) ⟨by decide, by decide⟩
    refine is_classUnder ⟨by omega, by omega⟩ dclassItem_43 ?_
    refine ja_aload_n dclassItem_44 rfl rfl ?_
    refine t_name (by decide) (show (0 : Nat) ≤ 8 by decide) dclassItem_45 g14  ?_ ?_
    · intro k45_0 g15
      replace k45_0 : (h 0 7) < 900 ∧ (h 2 (h 0 7).toNat) = 2 := k45_0
      replace g15 : mo_G Zz (ja_up (ja_up (ja_up h 10 ((h 0 22).toNat) (h 0 7)) 11 ((h 0 22).toNat) (-1)) 0 7 ((h 0 7) + 1)) := g15
      show mJ l D cA ad 11 cX12_classItem 3 (some .boolean) 48 [(1, (0, (h 0 22))), (0, (2, ((0 : Nat) : Int)))] [(0, 1)] (ja_up (ja_up (ja_up h 10 ((h 0 22).toNat) (h 0 7)) 11 ((h 0 22).toNat) (-1)) 0 7 ((h 0 7) + 1)) Q
      refine ja_if_ne 53 dclassItem_48 rfl ⟨by decide, by decide⟩ (fun c48 => ?_) (fun c48 => absurd c48 (by omega))
      refine ja_aload_n dclassItem_53 rfl rfl ?_
      refine ja_dup dclassItem_54 (by decide) ?_
      refine fg_classes (v := h 0 22) rfl dclassItem_55 ?_
      refine ja_iconst dclassItem_58 ?_
      refine ja_iadd dclassItem_59 ?_
      have g16 := gP_classes g15 (x := (h 0 22) + 1) ⟨by omega, by omega⟩
      refine fp_classes dclassItem_60 ?_
      refine ja_aload_n dclassItem_63 rfl rfl ?_
      refine ja_bipush 41 dclassItem_64 rfl ?_
      refine t_isWord (by decide) (show (0 : Nat) ≤ 8 by decide) dclassItem_66 g16 ⟨by decide, by decide⟩ ?_
      intro w17 k66_0
      replace k66_0 : (w17 = 1 ∧ (h 2 ((h 0 7) + 1).toNat) = 1 ∧ (h 5 ((h 0 7) + 1).toNat) = 41) ∨ (w17 = 0 ∧ ¬ ((h 2 ((h 0 7) + 1).toNat) = 1 ∧ (h 5 ((h 0 7) + 1).toNat) = 41)) := k66_0
      refine ja_if_eq 100 dclassItem_69 rfl ⟨by omega, by omega⟩ (fun c69 => ?_) (fun c69 => ?_)
      · replace k66_0 := is0 k66_0 c69
        refine ja_aload_n dclassItem_100 rfl rfl ?_
        refine ja_bipush 123 dclassItem_101 rfl ?_
        refine t_sign (by decide) (show (0 : Nat) ≤ 8 by decide) dclassItem_103 g16 ⟨by decide, by decide⟩ ?_ ?_
        · intro k103_0 g18
          replace k103_0 : ((h 0 7) + 1) < 900 ∧ (h 2 ((h 0 7) + 1).toNat) = 5 ∧ (h 5 ((h 0 7) + 1).toNat) = 123 := k103_0
          replace g18 : mo_G Zz (ja_up (ja_up (ja_up (ja_up (ja_up h 10 ((h 0 22).toNat) (h 0 7)) 11 ((h 0 22).toNat) (-1)) 0 7 ((h 0 7) + 1)) 0 22 ((h 0 22) + 1)) 0 7 (((h 0 7) + 1) + 1)) := g18
          show mJ l D cA ad 11 cX12_classItem 3 (some .boolean) 106 [(1, (0, (h 0 22))), (0, (2, ((0 : Nat) : Int)))] [(0, 1)] (ja_up (ja_up (ja_up (ja_up (ja_up h 10 ((h 0 22).toNat) (h 0 7)) 11 ((h 0 22).toNat) (-1)) 0 7 ((h 0 7) + 1)) 0 22 ((h 0 22) + 1)) 0 7 (((h 0 7) + 1) + 1)) Q
          refine ja_istore_n dclassItem_106 rfl (by decide) (L2 := [(2, (0, 1)), (1, (0, (h 0 22))), (0, (2, ((0 : Nat) : Int)))]) rfl ?_
          exact ja_wk (fun q hq => by simp only [List.mem_cons, List.not_mem_nil, or_false] at hq; rcases hq with rfl | rfl | rfl <;> rfl) ((CUT _) 1 (ja_up (ja_up (ja_up (ja_up (ja_up h 10 ((h 0 22).toNat) (h 0 7)) 11 ((h 0 22).toNat) (-1)) 0 7 ((h 0 7) + 1)) 0 22 ((h 0 22) + 1)) 0 7 (((h 0 7) + 1) + 1)) g18 ⟨by decide, by decide⟩ ((Or.inl ⟨rfl, ⟨_, _, _, it_keep p1 (by (repeat (first | exact ag_refl | refine ag_up rfl ?_))) (show it_nn (((h 0 7) + 1) + 1) (h 0 113) (h 0 95) (h 0 68) (h 0 72) (h 0 31) (h 0 41) (h 0 64) (h 0 61) (h 0 18) (h 0 84) (h 0 87) (h 0 86) (h 0 85) (h 0 109) (h 0 66) from by unfold it_nn; omega) (it_F_eq (it_F_of p1) rfl rfl) (fun z => z) (fun _ _ _ z => z) (Int.le_refl _)⟩, (show (h 0 7) < (((h 0 7) + 1) + 1) by omega), (by (repeat (first | exact ag_refl | refine ag_up rfl ?_)))⟩)) rfl)
        · intro h19 k103_1 g20
          replace k103_1 : 0 < (h19 0 8) ∧ (h19 0 1) = (h 0 1) ∧ (h19 0 118) = (h 0 118) ∧ (h19 0 127) = (h 0 127) := k103_1
          refine ja_istore_n dclassItem_106 rfl (by decide) (L2 := [(2, (0, 0)), (1, (0, (h 0 22))), (0, (2, ((0 : Nat) : Int)))]) rfl ?_
          exact ja_wk (fun q hq => by simp only [List.mem_cons, List.not_mem_nil, or_false] at hq; rcases hq with rfl | rfl | rfl <;> rfl) ((CUT _) 0 h19 g20 ⟨by decide, by decide⟩ ((Or.inr (by refine ⟨rfl, ?_, ?_, ?_, ?_⟩ <;> omega))) rfl)
      · have z69 := is1v k66_0 c69
        replace k66_0 := is1 k66_0 c69
        refine ja_aload_n dclassItem_72 rfl rfl ?_
        refine t_take (by decide) (show (0 : Nat) ≤ 8 by decide) dclassItem_73 g16  ?_ ?_
        · intro k73_0 g21
          replace k73_0 : ((h 0 7) + 1) < 900 := k73_0
          replace g21 : mo_G Zz (ja_up (ja_up (ja_up (ja_up (ja_up h 10 ((h 0 22).toNat) (h 0 7)) 11 ((h 0 22).toNat) (-1)) 0 7 ((h 0 7) + 1)) 0 22 ((h 0 22) + 1)) 0 7 (((h 0 7) + 1) + 1)) := g21
          show mJ l D cA ad 11 cX12_classItem 3 (some .boolean) 76 [(1, (0, (h 0 22))), (0, (2, ((0 : Nat) : Int)))] [(0, 1)] (ja_up (ja_up (ja_up (ja_up (ja_up h 10 ((h 0 22).toNat) (h 0 7)) 11 ((h 0 22).toNat) (-1)) 0 7 ((h 0 7) + 1)) 0 22 ((h 0 22) + 1)) 0 7 (((h 0 7) + 1) + 1)) Q
          refine ja_if_ne 81 dclassItem_76 rfl ⟨by decide, by decide⟩ (fun c76 => ?_) (fun c76 => absurd c76 (by omega))
          refine ja_aload_n dclassItem_81 rfl rfl ?_
          refine fa_classUnder dclassItem_82 ?_
          refine ja_iload_n dclassItem_85 rfl rfl ?_
          refine ja_aload_n dclassItem_86 rfl rfl ?_
          refine fg_at (v := ((h 0 7) + 1) + 1) rfl dclassItem_87 ?_
          have g22 := gW_classUnder g21 (h 0 22).toNat (x := ((h 0 7) + 1) + 1) ⟨by omega, by omega⟩
          refine is_classUnder ⟨by omega, by omega⟩ dclassItem_90 ?_
          refine ja_aload_n dclassItem_91 rfl rfl ?_
          refine t_name (by decide) (show (0 : Nat) ≤ 8 by decide) dclassItem_92 g22  ?_ ?_
          · intro k92_0 g23
            replace k92_0 : (((h 0 7) + 1) + 1) < 900 ∧ (h 2 (((h 0 7) + 1) + 1).toNat) = 2 := k92_0
            replace g23 : mo_G Zz (ja_up (ja_up (ja_up (ja_up (ja_up (ja_up (ja_up h 10 ((h 0 22).toNat) (h 0 7)) 11 ((h 0 22).toNat) (-1)) 0 7 ((h 0 7) + 1)) 0 22 ((h 0 22) + 1)) 0 7 (((h 0 7) + 1) + 1)) 11 ((h 0 22).toNat) (((h 0 7) + 1) + 1)) 0 7 ((((h 0 7) + 1) + 1) + 1)) := g23
            show mJ l D cA ad 11 cX12_classItem 3 (some .boolean) 95 [(1, (0, (h 0 22))), (0, (2, ((0 : Nat) : Int)))] [(0, 1)] (ja_up (ja_up (ja_up (ja_up (ja_up (ja_up (ja_up h 10 ((h 0 22).toNat) (h 0 7)) 11 ((h 0 22).toNat) (-1)) 0 7 ((h 0 7) + 1)) 0 22 ((h 0 22) + 1)) 0 7 (((h 0 7) + 1) + 1)) 11 ((h 0 22).toNat) (((h 0 7) + 1) + 1)) 0 7 ((((h 0 7) + 1) + 1) + 1)) Q
            refine ja_if_ne 100 dclassItem_95 rfl ⟨by decide, by decide⟩ (fun c95 => ?_) (fun c95 => absurd c95 (by omega))
            refine ja_aload_n dclassItem_100 rfl rfl ?_
            refine ja_bipush 123 dclassItem_101 rfl ?_
            refine t_sign (by decide) (show (0 : Nat) ≤ 8 by decide) dclassItem_103 g23 ⟨by decide, by decide⟩ ?_ ?_
            · intro k103_0 g24
              replace k103_0 : ((((h 0 7) + 1) + 1) + 1) < 900 ∧ (h 2 ((((h 0 7) + 1) + 1) + 1).toNat) = 5 ∧ (h 5 ((((h 0 7) + 1) + 1) + 1).toNat) = 123 := k103_0
              replace g24 : mo_G Zz (ja_up (ja_up (ja_up (ja_up (ja_up (ja_up (ja_up (ja_up h 10 ((h 0 22).toNat) (h 0 7)) 11 ((h 0 22).toNat) (-1)) 0 7 ((h 0 7) + 1)) 0 22 ((h 0 22) + 1)) 0 7 (((h 0 7) + 1) + 1)) 11 ((h 0 22).toNat) (((h 0 7) + 1) + 1)) 0 7 ((((h 0 7) + 1) + 1) + 1)) 0 7 (((((h 0 7) + 1) + 1) + 1) + 1)) := g24
              show mJ l D cA ad 11 cX12_classItem 3 (some .boolean) 106 [(1, (0, (h 0 22))), (0, (2, ((0 : Nat) : Int)))] [(0, 1)] (ja_up (ja_up (ja_up (ja_up (ja_up (ja_up (ja_up (ja_up h 10 ((h 0 22).toNat) (h 0 7)) 11 ((h 0 22).toNat) (-1)) 0 7 ((h 0 7) + 1)) 0 22 ((h 0 22) + 1)) 0 7 (((h 0 7) + 1) + 1)) 11 ((h 0 22).toNat) (((h 0 7) + 1) + 1)) 0 7 ((((h 0 7) + 1) + 1) + 1)) 0 7 (((((h 0 7) + 1) + 1) + 1) + 1)) Q
              refine ja_istore_n dclassItem_106 rfl (by decide) (L2 := [(2, (0, 1)), (1, (0, (h 0 22))), (0, (2, ((0 : Nat) : Int)))]) rfl ?_
              exact ja_wk (fun q hq => by simp only [List.mem_cons, List.not_mem_nil, or_false] at hq; rcases hq with rfl | rfl | rfl <;> rfl) ((CUT _) 1 (ja_up (ja_up (ja_up (ja_up (ja_up (ja_up (ja_up (ja_up h 10 ((h 0 22).toNat) (h 0 7)) 11 ((h 0 22).toNat) (-1)) 0 7 ((h 0 7) + 1)) 0 22 ((h 0 22) + 1)) 0 7 (((h 0 7) + 1) + 1)) 11 ((h 0 22).toNat) (((h 0 7) + 1) + 1)) 0 7 ((((h 0 7) + 1) + 1) + 1)) 0 7 (((((h 0 7) + 1) + 1) + 1) + 1)) g24 ⟨by decide, by decide⟩ ((Or.inl ⟨rfl, ⟨_, _, _, it_keep p1 (by (repeat (first | exact ag_refl | refine ag_up rfl ?_))) (show it_nn (((((h 0 7) + 1) + 1) + 1) + 1) (h 0 113) (h 0 95) (h 0 68) (h 0 72) (h 0 31) (h 0 41) (h 0 64) (h 0 61) (h 0 18) (h 0 84) (h 0 87) (h 0 86) (h 0 85) (h 0 109) (h 0 66) from by unfold it_nn; omega) (it_F_eq (it_F_of p1) rfl rfl) (fun z => z) (fun _ _ _ z => z) (Int.le_refl _)⟩, (show (h 0 7) < (((((h 0 7) + 1) + 1) + 1) + 1) by omega), (by (repeat (first | exact ag_refl | refine ag_up rfl ?_)))⟩)) rfl)
            · intro h25 k103_1 g26
              replace k103_1 : 0 < (h25 0 8) ∧ (h25 0 1) = (h 0 1) ∧ (h25 0 118) = (h 0 118) ∧ (h25 0 127) = (h 0 127) := k103_1
              refine ja_istore_n dclassItem_106 rfl (by decide) (L2 := [(2, (0, 0)), (1, (0, (h 0 22))), (0, (2, ((0 : Nat) : Int)))]) rfl ?_
              exact ja_wk (fun q hq => by simp only [List.mem_cons, List.not_mem_nil, or_false] at hq; rcases hq with rfl | rfl | rfl <;> rfl) ((CUT _) 0 h25 g26 ⟨by decide, by decide⟩ ((Or.inr (by refine ⟨rfl, ?_, ?_, ?_, ?_⟩ <;> omega))) rfl)
          · intro h27 k92_1 g28
            replace k92_1 : 0 < (h27 0 8) ∧ (h27 0 1) = (h 0 1) ∧ (h27 0 118) = (h 0 118) ∧ (h27 0 127) = (h 0 127) := k92_1
            refine ja_if_ne 100 dclassItem_95 rfl ⟨by decide, by decide⟩ (fun c95 => absurd c95 (by omega)) (fun c95 => ?_)
            refine ja_iconst dclassItem_98 ?_
            refine ja_zreturn dclassItem_99 rfl (by omega) ?_
            exact mo_fin (by omega) rfl (k2 h27 (by omega) g28)
        · intro h29 k73_1 g30
          replace k73_1 : 0 < (h29 0 8) ∧ (h29 0 1) = (h 0 1) ∧ (h29 0 118) = (h 0 118) ∧ (h29 0 127) = (h 0 127) := k73_1
          refine ja_if_ne 81 dclassItem_76 rfl ⟨by decide, by decide⟩ (fun c76 => absurd c76 (by omega)) (fun c76 => ?_)
          refine ja_iconst dclassItem_79 ?_
          refine ja_zreturn dclassItem_80 rfl (by omega) ?_
          exact mo_fin (by omega) rfl (k2 h29 (by omega) g30)
    · intro h31 k45_1 g32
      replace k45_1 : 0 < (h31 0 8) ∧ (h31 0 1) = (h 0 1) ∧ (h31 0 118) = (h 0 118) ∧ (h31 0 127) = (h 0 127) := k45_1
      refine ja_if_ne 53 dclassItem_48 rfl ⟨by decide, by decide⟩ (fun c48 => absurd c48 (by omega)) (fun c48 => ?_)
      refine ja_iconst dclassItem_51 ?_
      refine ja_zreturn dclassItem_52 rfl (by omega) ?_
      exact mo_fin (by omega) rfl (k2 h31 (by omega) g32)
  · have z4 := is1v k1_0 c4
    replace k1_0 := is1 k1_0 c4
    refine ja_aload_n dclassItem_7 rfl rfl ?_
    refine fg_classes (v := h 0 22) rfl dclassItem_8 ?_
    have f33 := gF_classes g
    refine ja_bipush 12 dclassItem_11 rfl ?_
    refine ja_icmp_ne 22 dclassItem_13 rfl ⟨by omega, by omega⟩ ⟨by decide, by decide⟩ (fun c13 => ?_) (fun c13 => ?_)
    · refine ja_aload_n dclassItem_22 rfl rfl ?_
      refine fg_classes (v := h 0 22) rfl dclassItem_23 ?_
      refine ja_istore_n dclassItem_26 rfl (by decide) (L2 := [(1, (0, (h 0 22))), (0, (2, ((0 : Nat) : Int)))]) rfl ?_
      refine ja_aload_n dclassItem_27 rfl rfl ?_
      refine fa_className dclassItem_28 ?_
      refine ja_iload_n dclassItem_31 rfl rfl ?_
      refine ja_aload_n dclassItem_32 rfl rfl ?_
      refine fg_at (v := h 0 7) rfl dclassItem_33 ?_
      have f34 := gF_at g
      have g35 := gW_className g (h 0 22).toNat (x := h 0 7) ⟨by omega, by omega⟩
      refine is_className ⟨by omega, by omega⟩ dclassItem_36 ?_
      refine ja_aload_n dclassItem_37 rfl rfl ?_
      refine fa_classUnder dclassItem_38 ?_
      refine ja_iload_n dclassItem_41 rfl rfl ?_
      refine ja_iconst dclassItem_42 ?_
      have g36 := gW_classUnder g35 (h 0 22).toNat (x := (-1)) ⟨by decide, by decide⟩
      refine is_classUnder ⟨by omega, by omega⟩ dclassItem_43 ?_
      refine ja_aload_n dclassItem_44 rfl rfl ?_
      refine t_name (by decide) (show (0 : Nat) ≤ 8 by decide) dclassItem_45 g36  ?_ ?_
      · intro k45_0 g37
        replace k45_0 : (h 0 7) < 900 ∧ (h 2 (h 0 7).toNat) = 2 := k45_0
        replace g37 : mo_G Zz (ja_up (ja_up (ja_up h 10 ((h 0 22).toNat) (h 0 7)) 11 ((h 0 22).toNat) (-1)) 0 7 ((h 0 7) + 1)) := g37
        show mJ l D cA ad 11 cX12_classItem 3 (some .boolean) 48 [(1, (0, (h 0 22))), (0, (2, ((0 : Nat) : Int)))] [(0, 1)] (ja_up (ja_up (ja_up h 10 ((h 0 22).toNat) (h 0 7)) 11 ((h 0 22).toNat) (-1)) 0 7 ((h 0 7) + 1)) Q
        refine ja_if_ne 53 dclassItem_48 rfl ⟨by decide, by decide⟩ (fun c48 => ?_) (fun c48 => absurd c48 (by omega))
        refine ja_aload_n dclassItem_53 rfl rfl ?_
        refine ja_dup dclassItem_54 (by decide) ?_
        refine fg_classes (v := h 0 22) rfl dclassItem_55 ?_
        refine ja_iconst dclassItem_58 ?_
        refine ja_iadd dclassItem_59 ?_
        have g38 := gP_classes g37 (x := (h 0 22) + 1) ⟨by omega, by omega⟩
        refine fp_classes dclassItem_60 ?_
        refine ja_aload_n dclassItem_63 rfl rfl ?_
        refine ja_bipush 41 dclassItem_64 rfl ?_
        refine t_isWord (by decide) (show (0 : Nat) ≤ 8 by decide) dclassItem_66 g38 ⟨by decide, by decide⟩ ?_
        intro w39 k66_0
        replace k66_0 : (w39 = 1 ∧ (h 2 ((h 0 7) + 1).toNat) = 1 ∧ (h 5 ((h 0 7) + 1).toNat) = 41) ∨ (w39 = 0 ∧ ¬ ((h 2 ((h 0 7) + 1).toNat) = 1 ∧ (h 5 ((h 0 7) + 1).toNat) = 41)) := k66_0
        refine ja_if_eq 100 dclassItem_69 rfl ⟨by omega, by omega⟩ (fun c69 => ?_) (fun c69 => ?_)
        · replace k66_0 := is0 k66_0 c69
          refine ja_aload_n dclassItem_100 rfl rfl ?_
          refine ja_bipush 123 dclassItem_101 rfl ?_
          refine t_sign (by decide) (show (0 : Nat) ≤ 8 by decide) dclassItem_103 g38 ⟨by decide, by decide⟩ ?_ ?_
          · intro k103_0 g40
            replace k103_0 : ((h 0 7) + 1) < 900 ∧ (h 2 ((h 0 7) + 1).toNat) = 5 ∧ (h 5 ((h 0 7) + 1).toNat) = 123 := k103_0
            replace g40 : mo_G Zz (ja_up (ja_up (ja_up (ja_up (ja_up h 10 ((h 0 22).toNat) (h 0 7)) 11 ((h 0 22).toNat) (-1)) 0 7 ((h 0 7) + 1)) 0 22 ((h 0 22) + 1)) 0 7 (((h 0 7) + 1) + 1)) := g40
            show mJ l D cA ad 11 cX12_classItem 3 (some .boolean) 106 [(1, (0, (h 0 22))), (0, (2, ((0 : Nat) : Int)))] [(0, 1)] (ja_up (ja_up (ja_up (ja_up (ja_up h 10 ((h 0 22).toNat) (h 0 7)) 11 ((h 0 22).toNat) (-1)) 0 7 ((h 0 7) + 1)) 0 22 ((h 0 22) + 1)) 0 7 (((h 0 7) + 1) + 1)) Q
            refine ja_istore_n dclassItem_106 rfl (by decide) (L2 := [(2, (0, 1)), (1, (0, (h 0 22))), (0, (2, ((0 : Nat) : Int)))]) rfl ?_
            exact ja_wk (fun q hq => by simp only [List.mem_cons, List.not_mem_nil, or_false] at hq; rcases hq with rfl | rfl | rfl <;> rfl) ((CUT _) 1 (ja_up (ja_up (ja_up (ja_up (ja_up h 10 ((h 0 22).toNat) (h 0 7)) 11 ((h 0 22).toNat) (-1)) 0 7 ((h 0 7) + 1)) 0 22 ((h 0 22) + 1)) 0 7 (((h 0 7) + 1) + 1)) g40 ⟨by decide, by decide⟩ ((Or.inl ⟨rfl, ⟨_, _, _, it_keep p1 (by (repeat (first | exact ag_refl | refine ag_up rfl ?_))) (show it_nn (((h 0 7) + 1) + 1) (h 0 113) (h 0 95) (h 0 68) (h 0 72) (h 0 31) (h 0 41) (h 0 64) (h 0 61) (h 0 18) (h 0 84) (h 0 87) (h 0 86) (h 0 85) (h 0 109) (h 0 66) from by unfold it_nn; omega) (it_F_eq (it_F_of p1) rfl rfl) (fun z => z) (fun _ _ _ z => z) (Int.le_refl _)⟩, (show (h 0 7) < (((h 0 7) + 1) + 1) by omega), (by (repeat (first | exact ag_refl | refine ag_up rfl ?_)))⟩)) rfl)
          · intro h41 k103_1 g42
            replace k103_1 : 0 < (h41 0 8) ∧ (h41 0 1) = (h 0 1) ∧ (h41 0 118) = (h 0 118) ∧ (h41 0 127) = (h 0 127) := k103_1
            refine ja_istore_n dclassItem_106 rfl (by decide) (L2 := [(2, (0, 0)), (1, (0, (h 0 22))), (0, (2, ((0 : Nat) : Int)))]) rfl ?_
            exact ja_wk (fun q hq => by simp only [List.mem_cons, List.not_mem_nil, or_false] at hq; rcases hq with rfl | rfl | rfl <;> rfl) ((CUT _) 0 h41 g42 ⟨by decide, by decide⟩ ((Or.inr (by refine ⟨rfl, ?_, ?_, ?_, ?_⟩ <;> omega))) rfl)
        · have z69 := is1v k66_0 c69
          replace k66_0 := is1 k66_0 c69
          refine ja_aload_n dclassItem_72 rfl rfl ?_
          refine t_take (by decide) (show (0 : Nat) ≤ 8 by decide) dclassItem_73 g38  ?_ ?_
          · intro k73_0 g43
            replace k73_0 : ((h 0 7) + 1) < 900 := k73_0
            replace g43 : mo_G Zz (ja_up (ja_up (ja_up (ja_up (ja_up h 10 ((h 0 22).toNat) (h 0 7)) 11 ((h 0 22).toNat) (-1)) 0 7 ((h 0 7) + 1)) 0 22 ((h 0 22) + 1)) 0 7 (((h 0 7) + 1) + 1)) := g43
            show mJ l D cA ad 11 cX12_classItem 3 (some .boolean) 76 [(1, (0, (h 0 22))), (0, (2, ((0 : Nat) : Int)))] [(0, 1)] (ja_up (ja_up (ja_up (ja_up (ja_up h 10 ((h 0 22).toNat) (h 0 7)) 11 ((h 0 22).toNat) (-1)) 0 7 ((h 0 7) + 1)) 0 22 ((h 0 22) + 1)) 0 7 (((h 0 7) + 1) + 1)) Q
            refine ja_if_ne 81 dclassItem_76 rfl ⟨by decide, by decide⟩ (fun c76 => ?_) (fun c76 => absurd c76 (by omega))
            refine ja_aload_n dclassItem_81 rfl rfl ?_
            refine fa_classUnder dclassItem_82 ?_
            refine ja_iload_n dclassItem_85 rfl rfl ?_
            refine ja_aload_n dclassItem_86 rfl rfl ?_
            refine fg_at (v := ((h 0 7) + 1) + 1) rfl dclassItem_87 ?_
            have g44 := gW_classUnder g43 (h 0 22).toNat (x := ((h 0 7) + 1) + 1) ⟨by omega, by omega⟩
            refine is_classUnder ⟨by omega, by omega⟩ dclassItem_90 ?_
            refine ja_aload_n dclassItem_91 rfl rfl ?_
            refine t_name (by decide) (show (0 : Nat) ≤ 8 by decide) dclassItem_92 g44  ?_ ?_
            · intro k92_0 g45
              replace k92_0 : (((h 0 7) + 1) + 1) < 900 ∧ (h 2 (((h 0 7) + 1) + 1).toNat) = 2 := k92_0
              replace g45 : mo_G Zz (ja_up (ja_up (ja_up (ja_up (ja_up (ja_up (ja_up h 10 ((h 0 22).toNat) (h 0 7)) 11 ((h 0 22).toNat) (-1)) 0 7 ((h 0 7) + 1)) 0 22 ((h 0 22) + 1)) 0 7 (((h 0 7) + 1) + 1)) 11 ((h 0 22).toNat) (((h 0 7) + 1) + 1)) 0 7 ((((h 0 7) + 1) + 1) + 1)) := g45
              show mJ l D cA ad 11 cX12_classItem 3 (some .boolean) 95 [(1, (0, (h 0 22))), (0, (2, ((0 : Nat) : Int)))] [(0, 1)] (ja_up (ja_up (ja_up (ja_up (ja_up (ja_up (ja_up h 10 ((h 0 22).toNat) (h 0 7)) 11 ((h 0 22).toNat) (-1)) 0 7 ((h 0 7) + 1)) 0 22 ((h 0 22) + 1)) 0 7 (((h 0 7) + 1) + 1)) 11 ((h 0 22).toNat) (((h 0 7) + 1) + 1)) 0 7 ((((h 0 7) + 1) + 1) + 1)) Q
              refine ja_if_ne 100 dclassItem_95 rfl ⟨by decide, by decide⟩ (fun c95 => ?_) (fun c95 => absurd c95 (by omega))
              refine ja_aload_n dclassItem_100 rfl rfl ?_
              refine ja_bipush 123 dclassItem_101 rfl ?_
              refine t_sign (by decide) (show (0 : Nat) ≤ 8 by decide) dclassItem_103 g45 ⟨by decide, by decide⟩ ?_ ?_
              · intro k103_0 g46
                replace k103_0 : ((((h 0 7) + 1) + 1) + 1) < 900 ∧ (h 2 ((((h 0 7) + 1) + 1) + 1).toNat) = 5 ∧ (h 5 ((((h 0 7) + 1) + 1) + 1).toNat) = 123 := k103_0
                replace g46 : mo_G Zz (ja_up (ja_up (ja_up (ja_up (ja_up (ja_up (ja_up (ja_up h 10 ((h 0 22).toNat) (h 0 7)) 11 ((h 0 22).toNat) (-1)) 0 7 ((h 0 7) + 1)) 0 22 ((h 0 22) + 1)) 0 7 (((h 0 7) + 1) + 1)) 11 ((h 0 22).toNat) (((h 0 7) + 1) + 1)) 0 7 ((((h 0 7) + 1) + 1) + 1)) 0 7 (((((h 0 7) + 1) + 1) + 1) + 1)) := g46
                show mJ l D cA ad 11 cX12_classItem 3 (some .boolean) 106 [(1, (0, (h 0 22))), (0, (2, ((0 : Nat) : Int)))] [(0, 1)] (ja_up (ja_up (ja_up (ja_up (ja_up (ja_up (ja_up (ja_up h 10 ((h 0 22).toNat) (h 0 7)) 11 ((h 0 22).toNat) (-1)) 0 7 ((h 0 7) + 1)) 0 22 ((h 0 22) + 1)) 0 7 (((h 0 7) + 1) + 1)) 11 ((h 0 22).toNat) (((h 0 7) + 1) + 1)) 0 7 ((((h 0 7) + 1) + 1) + 1)) 0 7 (((((h 0 7) + 1) + 1) + 1) + 1)) Q
                refine ja_istore_n dclassItem_106 rfl (by decide) (L2 := [(2, (0, 1)), (1, (0, (h 0 22))), (0, (2, ((0 : Nat) : Int)))]) rfl ?_
                exact ja_wk (fun q hq => by simp only [List.mem_cons, List.not_mem_nil, or_false] at hq; rcases hq with rfl | rfl | rfl <;> rfl) ((CUT _) 1 (ja_up (ja_up (ja_up (ja_up (ja_up (ja_up (ja_up (ja_up h 10 ((h 0 22).toNat) (h 0 7)) 11 ((h 0 22).toNat) (-1)) 0 7 ((h 0 7) + 1)) 0 22 ((h 0 22) + 1)) 0 7 (((h 0 7) + 1) + 1)) 11 ((h 0 22).toNat) (((h 0 7) + 1) + 1)) 0 7 ((((h 0 7) + 1) + 1) + 1)) 0 7 (((((h 0 7) + 1) + 1) + 1) + 1)) g46 ⟨by decide, by decide⟩ ((Or.inl ⟨rfl, ⟨_, _, _, it_keep p1 (by (repeat (first | exact ag_refl | refine ag_up rfl ?_))) (show it_nn (((((h 0 7) + 1) + 1) + 1) + 1) (h 0 113) (h 0 95) (h 0 68) (h 0 72) (h 0 31) (h 0 41) (h 0 64) (h 0 61) (h 0 18) (h 0 84) (h 0 87) (h 0 86) (h 0 85) (h 0 109) (h 0 66) from by unfold it_nn; omega) (it_F_eq (it_F_of p1) rfl rfl) (fun z => z) (fun _ _ _ z => z) (Int.le_refl _)⟩, (show (h 0 7) < (((((h 0 7) + 1) + 1) + 1) + 1) by omega), (by (repeat (first | exact ag_refl | refine ag_up rfl ?_)))⟩)) rfl)
              · intro h47 k103_1 g48
                replace k103_1 : 0 < (h47 0 8) ∧ (h47 0 1) = (h 0 1) ∧ (h47 0 118) = (h 0 118) ∧ (h47 0 127) = (h 0 127) := k103_1
                refine ja_istore_n dclassItem_106 rfl (by decide) (L2 := [(2, (0, 0)), (1, (0, (h 0 22))), (0, (2, ((0 : Nat) : Int)))]) rfl ?_
                exact ja_wk (fun q hq => by simp only [List.mem_cons, List.not_mem_nil, or_false] at hq; rcases hq with rfl | rfl | rfl <;> rfl) ((CUT _) 0 h47 g48 ⟨by decide, by decide⟩ ((Or.inr (by refine ⟨rfl, ?_, ?_, ?_, ?_⟩ <;> omega))) rfl)
            · intro h49 k92_1 g50
              replace k92_1 : 0 < (h49 0 8) ∧ (h49 0 1) = (h 0 1) ∧ (h49 0 118) = (h 0 118) ∧ (h49 0 127) = (h 0 127) := k92_1
              refine ja_if_ne 100 dclassItem_95 rfl ⟨by decide, by decide⟩ (fun c95 => absurd c95 (by omega)) (fun c95 => ?_)
              refine ja_iconst dclassItem_98 ?_
              refine ja_zreturn dclassItem_99 rfl (by omega) ?_
              exact mo_fin (by omega) rfl (k2 h49 (by omega) g50)
          · intro h51 k73_1 g52
            replace k73_1 : 0 < (h51 0 8) ∧ (h51 0 1) = (h 0 1) ∧ (h51 0 118) = (h 0 118) ∧ (h51 0 127) = (h 0 127) := k73_1
            refine ja_if_ne 81 dclassItem_76 rfl ⟨by decide, by decide⟩ (fun c76 => absurd c76 (by omega)) (fun c76 => ?_)
            refine ja_iconst dclassItem_79 ?_
            refine ja_zreturn dclassItem_80 rfl (by omega) ?_
            exact mo_fin (by omega) rfl (k2 h51 (by omega) g52)
      · intro h53 k45_1 g54
        replace k45_1 : 0 < (h53 0 8) ∧ (h53 0 1) = (h 0 1) ∧ (h53 0 118) = (h 0 118) ∧ (h53 0 127) = (h 0 127) := k45_1
        refine ja_if_ne 53 dclassItem_48 rfl ⟨by decide, by decide⟩ (fun c48 => absurd c48 (by omega)) (fun c48 => ?_)
        refine ja_iconst dclassItem_51 ?_
        refine ja_zreturn dclassItem_52 rfl (by omega) ?_
        exact mo_fin (by omega) rfl (k2 h53 (by omega) g54)
    · refine ja_aload_n dclassItem_16 rfl rfl ?_
      refine ja_iconst dclassItem_17 ?_
      refine t_halt (by decide) (show (0 : Nat) ≤ 8 by decide) dclassItem_18 g ⟨by decide, by decide⟩ (show 1 ≤ 3 ∧ 3 ≤ 8 by omega) ?_
      intro h55 k18_0 g56
      refine ja_zreturn dclassItem_21 rfl (by omega) ?_
      exact mo_fin (by omega) rfl (k2 h55 (by omega) g56)
theorem t_classItem {ht st rg : Nat → Int} {d nL pc : Nat} {cc : ByteArray} {rt : Option FieldType} {L : List (Nat × ja_V)} {S : List ja_V} {h : ja_H} {Q : Option ja_V → ja_H → Prop} (hdd : 11 < d) (hwd : ja_wd S ≤ 8) (hd : decode cc pc = .ok (.invokevirtual 723, 3)) (g : mo_G Zz h) (p1 : it h ht st rg) (k1 : ∀ (h' : ja_H), ((∃ ht st rg : Nat → Int, it h' ht st rg) ∧ (h 0 7) < (h' 0 7) ∧ mo_ag FKP h h') → mo_G Zz h' → mJ l D cA ad d cc nL rt (pc + 3) L ((0, 1) :: S) h' Q) (k2 : ∀ (h' : ja_H), (0 < (h' 0 8) ∧ (h' 0 1) = (h 0 1) ∧ (h' 0 118) = (h 0 118) ∧ (h' 0 127) = (h 0 127)) → mo_G Zz h' → mJ l D cA ad d cc nL rt (pc + 3) L ((0, 0) :: S) h' Q) : mJ l D cA ad d cc nL rt pc L ((2, ((0 : Nat) : Int)) :: S) h Q :=
  mc_classItem hdd hwd hd (s_classItem g p1 k1 k2)
end
