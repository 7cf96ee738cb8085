/-! the reference: frames are pushed, left (written by a program) -/
/-! the reference: frames -/
def mo_PB (h : ja_H) (a1 a2 a3 : Int) : ja_H := ja_up (ja_up (ja_up (ja_up (ja_up (ja_up (ja_up h 0 150 ((h 0 150) + 1)) 96 ((h 0 150).toNat) a1) 97 ((h 0 150).toNat) a2) 98 ((h 0 150).toNat) a3) 99 ((h 0 150).toNat) (h 0 149)) 100 ((h 0 150).toNat) (h 0 168)) 101 ((h 0 150).toNat) (h 0 165)
def FLC : Nat → Nat → Bool := mo_X [] [110, 111]
/-- a body has been pushed -/
def pbF (h u : ja_H) (a1 a2 a3 : Int) : Prop := ∃ v : ja_H, mo_ag FLC (mo_PB h a1 a2 a3) v ∧ u = ja_up v 0 165 ((h 0 165) + 10)
def FAR : Nat → Nat → Bool := mo_X [] [128, 129]
theorem dpushBody_0 : decode cX12_pushBody 0 = .ok (.aload_n 0, 1) := by decide +kernel
theorem dpushBody_1 : decode cX12_pushBody 1 = .ok (.iload_n 1, 1) := by decide +kernel
theorem dpushBody_2 : decode cX12_pushBody 2 = .ok (.invokevirtual 1021, 3) := by decide +kernel
theorem dpushBody_5 : decode cX12_pushBody 5 = .ok (.istore 4, 2) := by decide +kernel
theorem dpushBody_7 : decode cX12_pushBody 7 = .ok (.aload_n 0, 1) := by decide +kernel
theorem dpushBody_8 : decode cX12_pushBody 8 = .ok (.getfield 300, 3) := by decide +kernel
theorem dpushBody_11 : decode cX12_pushBody 11 = .ok (.iload 4, 2) := by decide +kernel
theorem dpushBody_13 : decode cX12_pushBody 13 = .ok (.iload_n 2, 1) := by decide +kernel
theorem dpushBody_14 : decode cX12_pushBody 14 = .ok (.iastore, 1) := by decide +kernel
theorem dpushBody_15 : decode cX12_pushBody 15 = .ok (.aload_n 0, 1) := by decide +kernel
theorem dpushBody_16 : decode cX12_pushBody 16 = .ok (.getfield 303, 3) := by decide +kernel
theorem dpushBody_19 : decode cX12_pushBody 19 = .ok (.iload 4, 2) := by decide +kernel
theorem dpushBody_21 : decode cX12_pushBody 21 = .ok (.iload_n 3, 1) := by decide +kernel
theorem dpushBody_22 : decode cX12_pushBody 22 = .ok (.iastore, 1) := by decide +kernel
theorem dpushBody_23 : decode cX12_pushBody 23 = .ok (.aload_n 0, 1) := by decide +kernel
theorem dpushBody_24 : decode cX12_pushBody 24 = .ok (.getfield 306, 3) := by decide +kernel
theorem dpushBody_27 : decode cX12_pushBody 27 = .ok (.iload 4, 2) := by decide +kernel
theorem dpushBody_29 : decode cX12_pushBody 29 = .ok (.aload_n 0, 1) := by decide +kernel
theorem dpushBody_30 : decode cX12_pushBody 30 = .ok (.getfield 993, 3) := by decide +kernel
theorem dpushBody_33 : decode cX12_pushBody 33 = .ok (.iastore, 1) := by decide +kernel
theorem dpushBody_34 : decode cX12_pushBody 34 = .ok (.aload_n 0, 1) := by decide +kernel
theorem dpushBody_35 : decode cX12_pushBody 35 = .ok (.getfield 309, 3) := by decide +kernel
theorem dpushBody_38 : decode cX12_pushBody 38 = .ok (.iload 4, 2) := by decide +kernel
theorem dpushBody_40 : decode cX12_pushBody 40 = .ok (.aload_n 0, 1) := by decide +kernel
theorem dpushBody_41 : decode cX12_pushBody 41 = .ok (.getfield 1002, 3) := by decide +kernel
theorem dpushBody_44 : decode cX12_pushBody 44 = .ok (.iastore, 1) := by decide +kernel
theorem dpushBody_45 : decode cX12_pushBody 45 = .ok (.aload_n 0, 1) := by decide +kernel
theorem dpushBody_46 : decode cX12_pushBody 46 = .ok (.getfield 312, 3) := by decide +kernel
theorem dpushBody_49 : decode cX12_pushBody 49 = .ok (.iload 4, 2) := by decide +kernel
theorem dpushBody_51 : decode cX12_pushBody 51 = .ok (.aload_n 0, 1) := by decide +kernel
theorem dpushBody_52 : decode cX12_pushBody 52 = .ok (.getfield 999, 3) := by decide +kernel
theorem dpushBody_55 : decode cX12_pushBody 55 = .ok (.iastore, 1) := by decide +kernel
theorem dpushBody_56 : decode cX12_pushBody 56 = .ok (.iconst 0, 1) := by decide +kernel
theorem dpushBody_57 : decode cX12_pushBody 57 = .ok (.istore 5, 2) := by decide +kernel
theorem dpushBody_59 : decode cX12_pushBody 59 = .ok (.iload 5, 2) := by decide +kernel
theorem dpushBody_61 : decode cX12_pushBody 61 = .ok (.bipush 10, 2) := by decide +kernel
theorem dpushBody_63 : decode cX12_pushBody 63 = .ok (.if_icmp .ge 35, 3) := by decide +kernel
theorem dpushBody_66 : decode cX12_pushBody 66 = .ok (.aload_n 0, 1) := by decide +kernel
theorem dpushBody_67 : decode cX12_pushBody 67 = .ok (.getfield 339, 3) := by decide +kernel
theorem dpushBody_70 : decode cX12_pushBody 70 = .ok (.aload_n 0, 1) := by decide +kernel
theorem dpushBody_71 : decode cX12_pushBody 71 = .ok (.getfield 999, 3) := by decide +kernel
theorem dpushBody_74 : decode cX12_pushBody 74 = .ok (.iload 5, 2) := by decide +kernel
theorem dpushBody_76 : decode cX12_pushBody 76 = .ok (.iadd, 1) := by decide +kernel
theorem dpushBody_77 : decode cX12_pushBody 77 = .ok (.iconst 0, 1) := by decide +kernel
theorem dpushBody_78 : decode cX12_pushBody 78 = .ok (.iastore, 1) := by decide +kernel
theorem dpushBody_79 : decode cX12_pushBody 79 = .ok (.aload_n 0, 1) := by decide +kernel
theorem dpushBody_80 : decode cX12_pushBody 80 = .ok (.getfield 342, 3) := by decide +kernel
theorem dpushBody_83 : decode cX12_pushBody 83 = .ok (.aload_n 0, 1) := by decide +kernel
theorem dpushBody_84 : decode cX12_pushBody 84 = .ok (.getfield 999, 3) := by decide +kernel
theorem dpushBody_87 : decode cX12_pushBody 87 = .ok (.iload 5, 2) := by decide +kernel
theorem dpushBody_89 : decode cX12_pushBody 89 = .ok (.iadd, 1) := by decide +kernel
theorem dpushBody_90 : decode cX12_pushBody 90 = .ok (.iconst 0, 1) := by decide +kernel
theorem dpushBody_91 : decode cX12_pushBody 91 = .ok (.iastore, 1) := by decide +kernel
theorem dpushBody_92 : decode cX12_pushBody 92 = .ok (.iinc 5 1, 3) := by decide +kernel
theorem dpushBody_95 : decode cX12_pushBody 95 = .ok (.goto (-36), 3) := by decide +kernel
theorem dpushBody_98 : decode cX12_pushBody 98 = .ok (.aload_n 0, 1) := by decide +kernel
theorem dpushBody_99 : decode cX12_pushBody 99 = .ok (.aload_n 0, 1) := by decide +kernel
theorem dpushBody_100 : decode cX12_pushBody 100 = .ok (.getfield 999, 3) := by decide +kernel
theorem dpushBody_103 : decode cX12_pushBody 103 = .ok (.bipush 10, 2) := by decide +kernel
theorem dpushBody_105 : decode cX12_pushBody 105 = .ok (.iadd, 1) := by decide +kernel
theorem dpushBody_106 : decode cX12_pushBody 106 = .ok (.putfield 999, 3) := by decide +kernel
theorem dpushBody_109 : decode cX12_pushBody 109 = .ok (.iload 4, 2) := by decide +kernel
theorem dpushBody_111 : decode cX12_pushBody 111 = .ok (.ireturn, 1) := by decide +kernel
section
variable {l : Launch} {D : va_G} {cA : Nat → ClassId} {ad : Nat → Nat}
theorem s_pushBody {a1 a2 a3 : Int} {h : ja_H} {Q : Option ja_V → ja_H → Prop} (g : mo_G mo_zr h) (r1 : -2147483648 ≤ a1 ∧ a1 ≤ 2147483647) (r2 : -2147483648 ≤ a2 ∧ a2 ≤ 2147483647) (r3 : -2147483648 ≤ a3 ∧ a3 ≤ 2147483647) (p1 : 0 ≤ a1 ∧ a1 ≤ 2) (p2 : 0 ≤ a2 ∧ a2 ≤ 5000) (p3 : 0 ≤ a3 ∧ a3 ≤ 200) (p4 : (h 0 150) < 3000) (p5 : (h 0 165) ≤ 490) (p6 : VI h) (k1 : ∀ (h' : ja_H), (pbF h h' a1 a2 a3 ∧ VI h') → mo_G mo_zr h' → Q (some (0, (h 0 150))) h') : mM_pushBody l D cA ad a1 a2 a3 h Q := by
  show mJ l D cA ad 2 cX12_pushBody 6 (some .int) 0 [(0, (2, ((0 : Nat) : Int))), (1, (0, a1)), (2, (0, a2)), (3, (0, a3))] [] h Q
  have kn_frames := gF_frames g
  have kn_localTop := gF_localTop g
  have kn_pile := gF_pile g
  have kn_tries := gF_tries g
  have CUT : ∀ n : Nat, (∀ (x5 : Int) (u : ja_H), mo_G mo_zr u → (-2147483648 ≤ x5 ∧ x5 ≤ 2147483647) → ((0 ≤ x5 ∧ x5 ≤ 10) ∧ mo_ag FLC (mo_PB h a1 a2 a3) u ∧ VI u) → (((20 : Int) - x5).toNat) = n → mJ l D cA ad 2 cX12_pushBody 6 (some .int) 59 [(0, (2, ((0 : Nat) : Int))), (4, (0, (h 0 150))), (5, (0, x5))] [] u Q) := by
    intro n
    induction n using Nat.strongRecOn with
    | _ n ih =>
      skip
      · intro x5 u gu qx5 iv hm
        subst hm
        have ku_frames := gF_frames gu
        have ku_localTop := gF_localTop gu
        have ku_pile := gF_pile gu
        have ku_tries := gF_tries gu
        obtain ⟨iv, ag, qv⟩ := iv
        have e_lt : (u 0 165) = (h 0 165) := ag 0 165 rfl
        refine ja_iload dpushBody_59 rfl ?_
        refine ja_bipush 10 dpushBody_61 rfl ?_
        refine ja_icmp_ge 98 dpushBody_63 rfl ⟨by omega, by omega⟩ ⟨by decide, by decide⟩ (fun c63 => ?_) (fun c63 => ?_)
        · refine ja_aload_n dpushBody_98 rfl rfl ?_
          refine ja_aload_n dpushBody_99 rfl rfl ?_
          refine fg_localTop (v := u 0 165) rfl dpushBody_100 ?_
          have f1 := gF_localTop gu
          refine ja_bipush 10 dpushBody_103 rfl ?_
          refine ja_iadd dpushBody_105 ?_
          have g2 := gP_localTop gu (x := (u 0 165) + 10) ⟨by omega, by omega⟩
          refine fp_localTop dpushBody_106 ?_
          refine ja_iload dpushBody_109 rfl ?_
          refine ja_ireturn dpushBody_111 rfl ?_
          exact mo_fin (by omega) rfl (k1 (ja_up u 0 165 ((u 0 165) + 10)) (⟨⟨u, ag, (by rw [← e_lt])⟩, (by (repeat (first | exact qv | refine vi_set (by decide) (by decide) (by decide) ?_ (by first | exact (fun z => absurd z (by decide)) | exact vi_aS qv (by decide) _ | exact (fun z => ⟨by omega, hca⟩) | exact (fun z => ⟨by omega, hca z⟩) | (intro z; exfalso; omega)) | refine vi_res ?_ (by first | exact (fun z => absurd z (by decide)) | exact vi_aS qv (by decide) _ | exact (fun z => ⟨by omega, hca⟩) | exact (fun z => ⟨by omega, hca z⟩) | (intro z; exfalso; omega)) | refine vi_arr (by decide) (by decide) ?_ | refine vi_up (by decide) (by decide) ?_)))⟩) g2)
        · refine ja_aload_n dpushBody_66 rfl rfl ?_
          refine fa_localKind dpushBody_67 ?_
          refine ja_aload_n dpushBody_70 rfl rfl ?_
          refine fg_localTop (v := u 0 165) rfl dpushBody_71 ?_
          have f3 := gF_localTop gu
          refine ja_iload dpushBody_74 rfl ?_
          refine ja_iadd dpushBody_76 ?_
          refine ja_iconst dpushBody_77 ?_
          have g4 := gW_localKind gu ((u 0 165) + x5).toNat (x := 0) ⟨by decide, by decide⟩
          refine is_localKind ⟨by omega, by omega⟩ dpushBody_78 ?_
          refine ja_aload_n dpushBody_79 rfl rfl ?_
          refine fa_localValue dpushBody_80 ?_
          refine ja_aload_n dpushBody_83 rfl rfl ?_
          refine fg_localTop (v := u 0 165) rfl dpushBody_84 ?_
          refine ja_iload dpushBody_87 rfl ?_
          refine ja_iadd dpushBody_89 ?_
          refine ja_iconst dpushBody_90 ?_
          have g5 := gW_localValue g4 ((u 0 165) + x5).toNat (x := 0) ⟨by decide, by decide⟩
          refine is_localValue ⟨by omega, by omega⟩ dpushBody_91 ?_
          refine ja_iinc dpushBody_92 rfl (by decide) (L2 := [(5, (0, (x5 + 1))), (0, (2, ((0 : Nat) : Int))), (4, (0, (h 0 150)))]) rfl ?_
          refine ja_goto 59 dpushBody_95 rfl ?_
          exact ja_wk (fun q hq => by simp only [List.mem_cons, List.not_mem_nil, or_false] at hq; rcases hq with rfl | rfl | rfl <;> rfl) ((ih (((20 : Int) - (x5 + 1)).toNat) (by omega)) (x5 + 1) (ja_up (ja_up u 110 (((u 0 165) + x5).toNat) 0) 111 (((u 0 165) + x5).toNat) 0) g5 ⟨by omega, by omega⟩ (⟨by omega, (ag_trans ag (by (repeat (first | exact ag_refl | refine ag_up rfl ?_)))), (by (repeat (first | exact qv | refine vi_set (by decide) (by decide) (by decide) ?_ (by first | exact (fun z => absurd z (by decide)) | exact vi_aS qv (by decide) _ | exact (fun z => ⟨by omega, hca⟩) | exact (fun z => ⟨by omega, hca z⟩) | (intro z; exfalso; omega)) | refine vi_res ?_ (by first | exact (fun z => absurd z (by decide)) | exact vi_aS qv (by decide) _ | exact (fun z => ⟨by omega, hca⟩) | exact (fun z => ⟨by omega, hca z⟩) | (intro z; exfalso; omega)) | refine vi_arr (by decide) (by decide) ?_ | refine vi_up (by decide) (by decide) ?_)))⟩) rfl)
  refine ja_aload_n dpushBody_0 rfl rfl ?_
  refine ja_iload_n dpushBody_1 rfl rfl ?_
  refine t_push (by decide) (show (0 : Nat) ≤ 8 by decide) dpushBody_2 g ⟨by omega, by omega⟩ (show 0 ≤ a1 ∧ a1 ≤ 5 by omega) (show (h 0 150) < 3000 by omega) ?_
  intro g6
  replace g6 : mo_G mo_zr (ja_up (ja_up h 0 150 ((h 0 150) + 1)) 96 ((h 0 150).toNat) a1) := g6
  show mJ l D cA ad 2 cX12_pushBody 6 (some .int) 5 [(0, (2, ((0 : Nat) : Int))), (1, (0, a1)), (2, (0, a2)), (3, (0, a3))] [(0, (h 0 150))] (ja_up (ja_up h 0 150 ((h 0 150) + 1)) 96 ((h 0 150).toNat) a1) Q
  refine ja_istore dpushBody_5 (by decide) (L2 := [(4, (0, (h 0 150))), (0, (2, ((0 : Nat) : Int))), (1, (0, a1)), (2, (0, a2)), (3, (0, a3))]) rfl ?_
  refine ja_aload_n dpushBody_7 rfl rfl ?_
  refine fa_framePc dpushBody_8 ?_
  refine ja_iload dpushBody_11 rfl ?_
  refine ja_iload_n dpushBody_13 rfl rfl ?_
  have g7 := gW_framePc g6 (h 0 150).toNat (x := a2) ⟨by omega, by omega⟩
  refine is_framePc ⟨by omega, by omega⟩ dpushBody_14 ?_
  refine ja_aload_n dpushBody_15 rfl rfl ?_
  refine fa_frameSelf dpushBody_16 ?_
  refine ja_iload dpushBody_19 rfl ?_
  refine ja_iload_n dpushBody_21 rfl rfl ?_
  have g8 := gW_frameSelf g7 (h 0 150).toNat (x := a3) ⟨by omega, by omega⟩
  refine is_frameSelf ⟨by omega, by omega⟩ dpushBody_22 ?_
  refine ja_aload_n dpushBody_23 rfl rfl ?_
  refine fa_frameBase dpushBody_24 ?_
  refine ja_iload dpushBody_27 rfl ?_
  refine ja_aload_n dpushBody_29 rfl rfl ?_
  refine fg_pile (v := h 0 149) rfl dpushBody_30 ?_
  have f9 := gF_pile g
  have g10 := gW_frameBase g8 (h 0 150).toNat (x := h 0 149) ⟨by omega, by omega⟩
  refine is_frameBase ⟨by omega, by omega⟩ dpushBody_33 ?_
  refine ja_aload_n dpushBody_34 rfl rfl ?_
  refine fa_frameTries dpushBody_35 ?_
  refine ja_iload dpushBody_38 rfl ?_
  refine ja_aload_n dpushBody_40 rfl rfl ?_
  refine fg_tries (v := h 0 168) rfl dpushBody_41 ?_
  have f11 := gF_tries g
  have g12 := gW_frameTries g10 (h 0 150).toNat (x := h 0 168) ⟨by omega, by omega⟩
  refine is_frameTries ⟨by omega, by omega⟩ dpushBody_44 ?_
  refine ja_aload_n dpushBody_45 rfl rfl ?_
  refine fa_frameLocals dpushBody_46 ?_
  refine ja_iload dpushBody_49 rfl ?_
  refine ja_aload_n dpushBody_51 rfl rfl ?_
  refine fg_localTop (v := h 0 165) rfl dpushBody_52 ?_
  have f13 := gF_localTop g
  have g14 := gW_frameLocals g12 (h 0 150).toNat (x := h 0 165) ⟨by omega, by omega⟩
  refine is_frameLocals ⟨by omega, by omega⟩ dpushBody_55 ?_
  refine ja_iconst dpushBody_56 ?_
  refine ja_istore dpushBody_57 (by decide) (L2 := [(5, (0, 0)), (4, (0, (h 0 150))), (0, (2, ((0 : Nat) : Int))), (1, (0, a1)), (2, (0, a2)), (3, (0, a3))]) rfl ?_
  exact ja_wk (fun q hq => by simp only [List.mem_cons, List.not_mem_nil, or_false] at hq; rcases hq with rfl | rfl | rfl <;> rfl) ((CUT _) 0 (ja_up (ja_up (ja_up (ja_up (ja_up (ja_up (ja_up h 0 150 ((h 0 150) + 1)) 96 ((h 0 150).toNat) a1) 97 ((h 0 150).toNat) a2) 98 ((h 0 150).toNat) a3) 99 ((h 0 150).toNat) (h 0 149)) 100 ((h 0 150).toNat) (h 0 168)) 101 ((h 0 150).toNat) (h 0 165)) g14 ⟨by decide, by decide⟩ (⟨by omega, (show mo_ag FLC (mo_PB h a1 a2 a3) (ja_up (ja_up (ja_up (ja_up (ja_up (ja_up (ja_up h 0 150 ((h 0 150) + 1)) 96 ((h 0 150).toNat) a1) 97 ((h 0 150).toNat) a2) 98 ((h 0 150).toNat) a3) 99 ((h 0 150).toNat) (h 0 149)) 100 ((h 0 150).toNat) (h 0 168)) 101 ((h 0 150).toNat) (h 0 165)) from fun _ _ _ => rfl), (by (repeat (first | exact p6 | refine vi_set (by decide) (by decide) (by decide) ?_ (by first | exact (fun z => absurd z (by decide)) | exact vi_aS p6 (by decide) _ | exact (fun z => ⟨by omega, hca⟩) | exact (fun z => ⟨by omega, hca z⟩) | (intro z; exfalso; omega)) | refine vi_res ?_ (by first | exact (fun z => absurd z (by decide)) | exact vi_aS p6 (by decide) _ | exact (fun z => ⟨by omega, hca⟩) | exact (fun z => ⟨by omega, hca z⟩) | (intro z; exfalso; omega)) | refine vi_arr (by decide) (by decide) ?_ | refine vi_up (by decide) (by decide) ?_)))⟩) rfl)
theorem t_pushBody {a1 a2 a3 : Int} {d nL pc : Nat} {cc : ByteArray} {rt : Option FieldType} {L : List (Nat × ja_V)} {S : List ja_V} {h : ja_H} {Q : Option ja_V → ja_H → Prop} (hdd : 2 < d) (hwd : ja_wd S ≤ 8) (hd : decode cc pc = .ok (.invokevirtual 1018, 3)) (g : mo_G mo_zr h) (r1 : -2147483648 ≤ a1 ∧ a1 ≤ 2147483647) (r2 : -2147483648 ≤ a2 ∧ a2 ≤ 2147483647) (r3 : -2147483648 ≤ a3 ∧ a3 ≤ 2147483647) (p1 : 0 ≤ a1 ∧ a1 ≤ 2) (p2 : 0 ≤ a2 ∧ a2 ≤ 5000) (p3 : 0 ≤ a3 ∧ a3 ≤ 200) (p4 : (h 0 150) < 3000) (p5 : (h 0 165) ≤ 490) (p6 : VI h) (k1 : ∀ (h' : ja_H), (pbF h h' a1 a2 a3 ∧ VI h') → mo_G mo_zr h' → mJ l D cA ad d cc nL rt (pc + 3) L ((0, (h 0 150)) :: S) h' Q) : mJ l D cA ad d cc nL rt pc L ((0, a3) :: (0, a2) :: (0, a1) :: (2, ((0 : Nat) : Int)) :: S) h Q :=
  mc_pushBody hdd hwd hd (s_pushBody g r1 r2 r3 p1 p2 p3 p4 p5 p6 k1)
end
theorem dtakeArgs_0 : decode cX12_takeArgs 0 = .ok (.iconst 0, 1) := by decide +kernel
theorem dtakeArgs_1 : decode cX12_takeArgs 1 = .ok (.istore_n 2, 1) := by decide +kernel
theorem dtakeArgs_2 : decode cX12_takeArgs 2 = .ok (.iload_n 2, 1) := by decide +kernel
theorem dtakeArgs_3 : decode cX12_takeArgs 3 = .ok (.bipush 6, 2) := by decide +kernel
theorem dtakeArgs_5 : decode cX12_takeArgs 5 = .ok (.if_icmp .ge 43, 3) := by decide +kernel
theorem dtakeArgs_8 : decode cX12_takeArgs 8 = .ok (.aload_n 0, 1) := by decide +kernel
theorem dtakeArgs_9 : decode cX12_takeArgs 9 = .ok (.getfield 393, 3) := by decide +kernel
theorem dtakeArgs_12 : decode cX12_takeArgs 12 = .ok (.iload_n 2, 1) := by decide +kernel
theorem dtakeArgs_13 : decode cX12_takeArgs 13 = .ok (.aload_n 0, 1) := by decide +kernel
theorem dtakeArgs_14 : decode cX12_takeArgs 14 = .ok (.getfield 333, 3) := by decide +kernel
theorem dtakeArgs_17 : decode cX12_takeArgs 17 = .ok (.bipush 6, 2) := by decide +kernel
theorem dtakeArgs_19 : decode cX12_takeArgs 19 = .ok (.iload_n 1, 1) := by decide +kernel
theorem dtakeArgs_20 : decode cX12_takeArgs 20 = .ok (.imul, 1) := by decide +kernel
theorem dtakeArgs_21 : decode cX12_takeArgs 21 = .ok (.iload_n 2, 1) := by decide +kernel
theorem dtakeArgs_22 : decode cX12_takeArgs 22 = .ok (.iadd, 1) := by decide +kernel
theorem dtakeArgs_23 : decode cX12_takeArgs 23 = .ok (.iaload, 1) := by decide +kernel
theorem dtakeArgs_24 : decode cX12_takeArgs 24 = .ok (.iastore, 1) := by decide +kernel
theorem dtakeArgs_25 : decode cX12_takeArgs 25 = .ok (.aload_n 0, 1) := by decide +kernel
theorem dtakeArgs_26 : decode cX12_takeArgs 26 = .ok (.getfield 396, 3) := by decide +kernel
theorem dtakeArgs_29 : decode cX12_takeArgs 29 = .ok (.iload_n 2, 1) := by decide +kernel
theorem dtakeArgs_30 : decode cX12_takeArgs 30 = .ok (.aload_n 0, 1) := by decide +kernel
theorem dtakeArgs_31 : decode cX12_takeArgs 31 = .ok (.getfield 336, 3) := by decide +kernel
theorem dtakeArgs_34 : decode cX12_takeArgs 34 = .ok (.bipush 6, 2) := by decide +kernel
theorem dtakeArgs_36 : decode cX12_takeArgs 36 = .ok (.iload_n 1, 1) := by decide +kernel
theorem dtakeArgs_37 : decode cX12_takeArgs 37 = .ok (.imul, 1) := by decide +kernel
theorem dtakeArgs_38 : decode cX12_takeArgs 38 = .ok (.iload_n 2, 1) := by decide +kernel
theorem dtakeArgs_39 : decode cX12_takeArgs 39 = .ok (.iadd, 1) := by decide +kernel
theorem dtakeArgs_40 : decode cX12_takeArgs 40 = .ok (.iaload, 1) := by decide +kernel
theorem dtakeArgs_41 : decode cX12_takeArgs 41 = .ok (.iastore, 1) := by decide +kernel
theorem dtakeArgs_42 : decode cX12_takeArgs 42 = .ok (.iinc 2 1, 3) := by decide +kernel
theorem dtakeArgs_45 : decode cX12_takeArgs 45 = .ok (.goto (-43), 3) := by decide +kernel
theorem dtakeArgs_48 : decode cX12_takeArgs 48 = .ok (.return_, 1) := by decide +kernel
section
variable {l : Launch} {D : va_G} {cA : Nat → ClassId} {ad : Nat → Nat}
theorem s_takeArgs {a1 : Int} {h : ja_H} {Q : Option ja_V → ja_H → Prop} (g : mo_G mo_zr h) (r1 : -2147483648 ≤ a1 ∧ a1 ≤ 2147483647) (p1 : 0 ≤ a1 ∧ a1 ≤ 2999) (p2 : VI h) (k1 : ∀ (h' : ja_H), (mo_ag FAR h h' ∧ VI h') → mo_G mo_zr h' → Q none h') : mM_takeArgs l D cA ad a1 h Q := by
  show mJ l D cA ad 1 cX12_takeArgs 3 none 0 [(0, (2, ((0 : Nat) : Int))), (1, (0, a1))] [] h Q
  have CUT : ∀ n : Nat, (∀ (x2 : Int) (u : ja_H), mo_G mo_zr u → (-2147483648 ≤ x2 ∧ x2 ≤ 2147483647) → ((0 ≤ x2 ∧ x2 ≤ 6) ∧ mo_ag FAR h u ∧ VI u) → (((20 : Int) - x2).toNat) = n → mJ l D cA ad 1 cX12_takeArgs 3 none 2 [(0, (2, ((0 : Nat) : Int))), (1, (0, a1)), (2, (0, x2))] [] u Q) := by
    intro n
    induction n using Nat.strongRecOn with
    | _ n ih =>
      skip
      · intro x2 u gu qx2 iv hm
        subst hm
        obtain ⟨iv, ag, qv⟩ := iv
        refine ja_iload_n dtakeArgs_2 rfl rfl ?_
        refine ja_bipush 6 dtakeArgs_3 rfl ?_
        refine ja_icmp_ge 48 dtakeArgs_5 rfl ⟨by omega, by omega⟩ ⟨by decide, by decide⟩ (fun c5 => ?_) (fun c5 => ?_)
        · refine ja_return dtakeArgs_48 rfl ?_
          exact k1 u (⟨ag, qv⟩) gu
        · refine ja_aload_n dtakeArgs_8 rfl rfl ?_
          refine fa_argKind dtakeArgs_9 ?_
          refine ja_iload_n dtakeArgs_12 rfl rfl ?_
          refine ja_aload_n dtakeArgs_13 rfl rfl ?_
          refine fa_frameArgKind dtakeArgs_14 ?_
          refine ja_bipush 6 dtakeArgs_17 rfl ?_
          refine ja_iload_n dtakeArgs_19 rfl rfl ?_
          refine ja_imul dtakeArgs_20 ?_
          refine ja_iload_n dtakeArgs_21 rfl rfl ?_
          refine ja_iadd dtakeArgs_22 ?_
          refine il_frameArgKind (v := u 108 ((6 * a1) + x2).toNat) rfl ⟨by omega, by omega⟩ dtakeArgs_23 ?_
          have f1 := gC_frameArgKind gu ((6 * a1) + x2).toNat
          have g2 := gW_argKind gu (x2).toNat (x := u 108 ((6 * a1) + x2).toNat) ⟨by omega, by omega⟩
          refine is_argKind ⟨by omega, by omega⟩ dtakeArgs_24 ?_
          refine ja_aload_n dtakeArgs_25 rfl rfl ?_
          refine fa_argValue dtakeArgs_26 ?_
          refine ja_iload_n dtakeArgs_29 rfl rfl ?_
          refine ja_aload_n dtakeArgs_30 rfl rfl ?_
          refine fa_frameArgValue dtakeArgs_31 ?_
          refine ja_bipush 6 dtakeArgs_34 rfl ?_
          refine ja_iload_n dtakeArgs_36 rfl rfl ?_
          refine ja_imul dtakeArgs_37 ?_
          refine ja_iload_n dtakeArgs_38 rfl rfl ?_
          refine ja_iadd dtakeArgs_39 ?_
          refine il_frameArgValue (v := u 109 ((6 * a1) + x2).toNat) rfl ⟨by omega, by omega⟩ dtakeArgs_40 ?_
          have f3 := gC_frameArgValue gu ((6 * a1) + x2).toNat
          have g4 := gW_argValue g2 (x2).toNat (x := u 109 ((6 * a1) + x2).toNat) ⟨by omega, by omega⟩
          refine is_argValue ⟨by omega, by omega⟩ dtakeArgs_41 ?_
          refine ja_iinc dtakeArgs_42 rfl (by decide) (L2 := [(2, (0, (x2 + 1))), (0, (2, ((0 : Nat) : Int))), (1, (0, a1))]) rfl ?_
          refine ja_goto 2 dtakeArgs_45 rfl ?_
          exact ja_wk (fun q hq => by simp only [List.mem_cons, List.not_mem_nil, or_false] at hq; rcases hq with rfl | rfl | rfl <;> rfl) ((ih (((20 : Int) - (x2 + 1)).toNat) (by omega)) (x2 + 1) (ja_up (ja_up u 128 ((x2).toNat) (u 108 ((6 * a1) + x2).toNat)) 129 ((x2).toNat) (u 109 ((6 * a1) + x2).toNat)) g4 ⟨by omega, by omega⟩ (⟨by omega, (ag_trans ag (by (repeat (first | exact ag_refl | refine ag_up rfl ?_)))), (by (repeat (first | exact qv | refine vi_set (by decide) (by decide) (by decide) ?_ (by first | exact (fun z => absurd z (by decide)) | exact vi_aS qv (by decide) _ | exact (fun z => ⟨by omega, hca⟩) | exact (fun z => ⟨by omega, hca z⟩) | (intro z; exfalso; omega)) | refine vi_res ?_ (by first | exact (fun z => absurd z (by decide)) | exact vi_aS qv (by decide) _ | exact (fun z => ⟨by omega, hca⟩) | exact (fun z => ⟨by omega, hca z⟩) | (intro z; exfalso; omega)) | refine vi_arr (by decide) (by decide) ?_ | refine vi_up (by decide) (by decide) ?_)))⟩) rfl)
  refine ja_iconst dtakeArgs_0 ?_
  refine ja_istore_n dtakeArgs_1 rfl (by decide) (L2 := [(2, (0, 0)), (0, (2, ((0 : Nat) : Int))), (1, (0, a1))]) rfl ?_
  exact ja_wk (fun q hq => by simp only [List.mem_cons, List.not_mem_nil, or_false] at hq; rcases hq with rfl | rfl | rfl <;> rfl) ((CUT _) 0 h g ⟨by decide, by decide⟩ (⟨by omega, ag_refl, p2⟩) rfl)
theorem t_takeArgs {a1 : Int} {d nL pc : Nat} {cc : ByteArray} {rt : Option FieldType} {L : List (Nat × ja_V)} {S : List ja_V} {h : ja_H} {Q : Option ja_V → ja_H → Prop} (hdd : 1 < d) (hwd : ja_wd S ≤ 8) (hd : decode cc pc = .ok (.invokevirtual 1063, 3)) (g : mo_G mo_zr h) (r1 : -2147483648 ≤ a1 ∧ a1 ≤ 2147483647) (p1 : 0 ≤ a1 ∧ a1 ≤ 2999) (p2 : VI h) (k1 : ∀ (h' : ja_H), (mo_ag FAR h h' ∧ VI h') → mo_G mo_zr h' → mJ l D cA ad d cc nL rt (pc + 3) L S h' Q) : mJ l D cA ad d cc nL rt pc L ((0, a1) :: (2, ((0 : Nat) : Int)) :: S) h Q :=
  mc_takeArgs hdd hwd hd (s_takeArgs g r1 p1 p2 k1)
end
theorem dleave_0 : decode cX12_leave 0 = .ok (.aload_n 0, 1) := by decide +kernel
theorem dleave_1 : decode cX12_leave 1 = .ok (.dup, 1) := by decide +kernel
theorem dleave_2 : decode cX12_leave 2 = .ok (.getfield 996, 3) := by decide +kernel
theorem dleave_5 : decode cX12_leave 5 = .ok (.iconst 1, 1) := by decide +kernel
theorem dleave_6 : decode cX12_leave 6 = .ok (.isub, 1) := by decide +kernel
theorem dleave_7 : decode cX12_leave 7 = .ok (.putfield 996, 3) := by decide +kernel
theorem dleave_10 : decode cX12_leave 10 = .ok (.aload_n 0, 1) := by decide +kernel
theorem dleave_11 : decode cX12_leave 11 = .ok (.aload_n 0, 1) := by decide +kernel
theorem dleave_12 : decode cX12_leave 12 = .ok (.getfield 306, 3) := by decide +kernel
theorem dleave_15 : decode cX12_leave 15 = .ok (.aload_n 0, 1) := by decide +kernel
theorem dleave_16 : decode cX12_leave 16 = .ok (.getfield 996, 3) := by decide +kernel
theorem dleave_19 : decode cX12_leave 19 = .ok (.iaload, 1) := by decide +kernel
theorem dleave_20 : decode cX12_leave 20 = .ok (.putfield 993, 3) := by decide +kernel
theorem dleave_23 : decode cX12_leave 23 = .ok (.aload_n 0, 1) := by decide +kernel
theorem dleave_24 : decode cX12_leave 24 = .ok (.aload_n 0, 1) := by decide +kernel
theorem dleave_25 : decode cX12_leave 25 = .ok (.getfield 309, 3) := by decide +kernel
theorem dleave_28 : decode cX12_leave 28 = .ok (.aload_n 0, 1) := by decide +kernel
theorem dleave_29 : decode cX12_leave 29 = .ok (.getfield 996, 3) := by decide +kernel
theorem dleave_32 : decode cX12_leave 32 = .ok (.iaload, 1) := by decide +kernel
theorem dleave_33 : decode cX12_leave 33 = .ok (.putfield 1002, 3) := by decide +kernel
theorem dleave_36 : decode cX12_leave 36 = .ok (.aload_n 0, 1) := by decide +kernel
theorem dleave_37 : decode cX12_leave 37 = .ok (.aload_n 0, 1) := by decide +kernel
theorem dleave_38 : decode cX12_leave 38 = .ok (.getfield 312, 3) := by decide +kernel
theorem dleave_41 : decode cX12_leave 41 = .ok (.aload_n 0, 1) := by decide +kernel
theorem dleave_42 : decode cX12_leave 42 = .ok (.getfield 996, 3) := by decide +kernel
theorem dleave_45 : decode cX12_leave 45 = .ok (.iaload, 1) := by decide +kernel
theorem dleave_46 : decode cX12_leave 46 = .ok (.putfield 999, 3) := by decide +kernel
theorem dleave_49 : decode cX12_leave 49 = .ok (.aload_n 0, 1) := by decide +kernel
theorem dleave_50 : decode cX12_leave 50 = .ok (.aload_n 0, 1) := by decide +kernel
theorem dleave_51 : decode cX12_leave 51 = .ok (.getfield 297, 3) := by decide +kernel
theorem dleave_54 : decode cX12_leave 54 = .ok (.aload_n 0, 1) := by decide +kernel
theorem dleave_55 : decode cX12_leave 55 = .ok (.getfield 996, 3) := by decide +kernel
theorem dleave_58 : decode cX12_leave 58 = .ok (.iaload, 1) := by decide +kernel
theorem dleave_59 : decode cX12_leave 59 = .ok (.ifCond .ne 10, 3) := by decide +kernel
theorem dleave_62 : decode cX12_leave 62 = .ok (.aload_n 0, 1) := by decide +kernel
theorem dleave_63 : decode cX12_leave 63 = .ok (.getfield 990, 3) := by decide +kernel
theorem dleave_66 : decode cX12_leave 66 = .ok (.goto 9, 3) := by decide +kernel
theorem dleave_69 : decode cX12_leave 69 = .ok (.aload_n 0, 1) := by decide +kernel
theorem dleave_70 : decode cX12_leave 70 = .ok (.getfield 990, 3) := by decide +kernel
theorem dleave_73 : decode cX12_leave 73 = .ok (.iconst 1, 1) := by decide +kernel
theorem dleave_74 : decode cX12_leave 74 = .ok (.isub, 1) := by decide +kernel
theorem dleave_75 : decode cX12_leave 75 = .ok (.putfield 990, 3) := by decide +kernel
theorem dleave_78 : decode cX12_leave 78 = .ok (.return_, 1) := by decide +kernel
section
variable {l : Launch} {D : va_G} {cA : Nat → ClassId} {ad : Nat → Nat}
theorem s_leave {h : ja_H} {Q : Option ja_V → ja_H → Prop} (g : mo_G mo_zr h) (p1 : 1 ≤ (h 0 150)) (p2 : 0 ≤ (h 0 144)) (k1 : ∀ (b : Int), (((h 96 ((h 0 150) - 1).toNat) = 0 ∧ b = (h 0 144)) ∨ (¬ (h 96 ((h 0 150) - 1).toNat) = 0 ∧ b = (h 0 144) - 1)) → mo_G mo_zr (ja_up (ja_up (ja_up (ja_up (ja_up h 0 150 ((h 0 150) - 1)) 0 149 (h 99 ((h 0 150) - 1).toNat)) 0 168 (h 100 ((h 0 150) - 1).toNat)) 0 165 (h 101 ((h 0 150) - 1).toNat)) 0 144 b) → Q none (ja_up (ja_up (ja_up (ja_up (ja_up h 0 150 ((h 0 150) - 1)) 0 149 (h 99 ((h 0 150) - 1).toNat)) 0 168 (h 100 ((h 0 150) - 1).toNat)) 0 165 (h 101 ((h 0 150) - 1).toNat)) 0 144 b)) : mM_leave l D cA ad  h Q := by
  show mJ l D cA ad 1 cX12_leave 1 none 0 [(0, (2, ((0 : Nat) : Int)))] [] h Q
  have kn_frames := gF_frames g
  have kn_bodies := gF_bodies g
  refine ja_aload_n dleave_0 rfl rfl ?_
  refine ja_dup dleave_1 (by decide) ?_
  refine fg_frames (v := h 0 150) rfl dleave_2 ?_
  have f1 := gF_frames g
  refine ja_iconst dleave_5 ?_
  refine ja_isub dleave_6 ?_
  have g2 := gP_frames g (x := (h 0 150) - 1) ⟨by omega, by omega⟩
  refine fp_frames dleave_7 ?_
  refine ja_aload_n dleave_10 rfl rfl ?_
  refine ja_aload_n dleave_11 rfl rfl ?_
  refine fa_frameBase dleave_12 ?_
  refine ja_aload_n dleave_15 rfl rfl ?_
  refine fg_frames (v := (h 0 150) - 1) rfl dleave_16 ?_
  refine il_frameBase (v := h 99 ((h 0 150) - 1).toNat) rfl ⟨by omega, by omega⟩ dleave_19 ?_
  have f3 := gC_frameBase g ((h 0 150) - 1).toNat
  have g4 := gP_pile g2 (x := h 99 ((h 0 150) - 1).toNat) ⟨by omega, by omega⟩
  refine fp_pile dleave_20 ?_
  refine ja_aload_n dleave_23 rfl rfl ?_
  refine ja_aload_n dleave_24 rfl rfl ?_
  refine fa_frameTries dleave_25 ?_
  refine ja_aload_n dleave_28 rfl rfl ?_
  refine fg_frames (v := (h 0 150) - 1) rfl dleave_29 ?_
  refine il_frameTries (v := h 100 ((h 0 150) - 1).toNat) rfl ⟨by omega, by omega⟩ dleave_32 ?_
  have f5 := gC_frameTries g ((h 0 150) - 1).toNat
  have g6 := gP_tries g4 (x := h 100 ((h 0 150) - 1).toNat) ⟨by omega, by omega⟩
  refine fp_tries dleave_33 ?_
  refine ja_aload_n dleave_36 rfl rfl ?_
  refine ja_aload_n dleave_37 rfl rfl ?_
  refine fa_frameLocals dleave_38 ?_
  refine ja_aload_n dleave_41 rfl rfl ?_
  refine fg_frames (v := (h 0 150) - 1) rfl dleave_42 ?_
  refine il_frameLocals (v := h 101 ((h 0 150) - 1).toNat) rfl ⟨by omega, by omega⟩ dleave_45 ?_
  have f7 := gC_frameLocals g ((h 0 150) - 1).toNat
  have g8 := gP_localTop g6 (x := h 101 ((h 0 150) - 1).toNat) ⟨by omega, by omega⟩
  refine fp_localTop dleave_46 ?_
  refine ja_aload_n dleave_49 rfl rfl ?_
  refine ja_aload_n dleave_50 rfl rfl ?_
  refine fa_frameType dleave_51 ?_
  refine ja_aload_n dleave_54 rfl rfl ?_
  refine fg_frames (v := (h 0 150) - 1) rfl dleave_55 ?_
  refine il_frameType (v := h 96 ((h 0 150) - 1).toNat) rfl ⟨by omega, by omega⟩ dleave_58 ?_
  have f9 := gC_frameType g ((h 0 150) - 1).toNat
  refine ja_if_ne 69 dleave_59 rfl ⟨by omega, by omega⟩ (fun c59 => ?_) (fun c59 => ?_)
  · refine ja_aload_n dleave_69 rfl rfl ?_
    refine fg_bodies (v := h 0 144) rfl dleave_70 ?_
    have f10 := gF_bodies g
    refine ja_iconst dleave_73 ?_
    refine ja_isub dleave_74 ?_
    have g11 := gP_bodies g8 (x := (h 0 144) - 1) ⟨by omega, by omega⟩
    refine fp_bodies dleave_75 ?_
    refine ja_return dleave_78 rfl ?_
    exact k1 ((h 0 144) - 1) (by omega) g11
  · refine ja_aload_n dleave_62 rfl rfl ?_
    refine fg_bodies (v := h 0 144) rfl dleave_63 ?_
    have f12 := gF_bodies g
    refine ja_goto 75 dleave_66 rfl ?_
    have g13 := gP_bodies g8 (x := h 0 144) ⟨by omega, by omega⟩
    refine fp_bodies dleave_75 ?_
    refine ja_return dleave_78 rfl ?_
    exact k1 (h 0 144) (by omega) g13
theorem t_leave {d nL pc : Nat} {cc : ByteArray} {rt : Option FieldType} {L : List (Nat × ja_V)} {S : List ja_V} {h : ja_H} {Q : Option ja_V → ja_H → Prop} (hdd : 1 < d) (hwd : ja_wd S ≤ 8) (hd : decode cc pc = .ok (.invokevirtual 1054, 3)) (g : mo_G mo_zr h) (p1 : 1 ≤ (h 0 150)) (p2 : 0 ≤ (h 0 144)) (k1 : ∀ (b : Int), (((h 96 ((h 0 150) - 1).toNat) = 0 ∧ b = (h 0 144)) ∨ (¬ (h 96 ((h 0 150) - 1).toNat) = 0 ∧ b = (h 0 144) - 1)) → mo_G mo_zr (ja_up (ja_up (ja_up (ja_up (ja_up h 0 150 ((h 0 150) - 1)) 0 149 (h 99 ((h 0 150) - 1).toNat)) 0 168 (h 100 ((h 0 150) - 1).toNat)) 0 165 (h 101 ((h 0 150) - 1).toNat)) 0 144 b) → mJ l D cA ad d cc nL rt (pc + 3) L S (ja_up (ja_up (ja_up (ja_up (ja_up h 0 150 ((h 0 150) - 1)) 0 149 (h 99 ((h 0 150) - 1).toNat)) 0 168 (h 100 ((h 0 150) - 1).toNat)) 0 165 (h 101 ((h 0 150) - 1).toNat)) 0 144 b) Q) : mJ l D cA ad d cc nL rt pc L ((2, ((0 : Nat) : Int)) :: S) h Q :=
  mc_leave hdd hwd hd (s_leave g p1 p2 k1)
end
