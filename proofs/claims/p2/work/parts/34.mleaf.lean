/-! the reference: the smallest methods of its parser (written by a program) -/
variable {Zz : Zc}
theorem djudge_0 : decode cX12_judge 0 = .ok (.aload_n 0, 1) := by decide +kernel
theorem djudge_1 : decode cX12_judge 1 = .ok (.getfield 16, 3) := by decide +kernel
theorem djudge_4 : decode cX12_judge 4 = .ok (.iload_n 2, 1) := by decide +kernel
theorem djudge_5 : decode cX12_judge 5 = .ok (.iaload, 1) := by decide +kernel
theorem djudge_6 : decode cX12_judge 6 = .ok (.istore_n 3, 1) := by decide +kernel
theorem djudge_7 : decode cX12_judge 7 = .ok (.aload_n 0, 1) := by decide +kernel
theorem djudge_8 : decode cX12_judge 8 = .ok (.getfield 602, 3) := by decide +kernel
theorem djudge_11 : decode cX12_judge 11 = .ok (.ifCond .eq 27, 3) := by decide +kernel
theorem djudge_14 : decode cX12_judge 14 = .ok (.iload_n 3, 1) := by decide +kernel
theorem djudge_15 : decode cX12_judge 15 = .ok (.aload_n 0, 1) := by decide +kernel
theorem djudge_16 : decode cX12_judge 16 = .ok (.getfield 605, 3) := by decide +kernel
theorem djudge_19 : decode cX12_judge 19 = .ok (.if_icmp .lt 19, 3) := by decide +kernel
theorem djudge_22 : decode cX12_judge 22 = .ok (.iload_n 3, 1) := by decide +kernel
theorem djudge_23 : decode cX12_judge 23 = .ok (.aload_n 0, 1) := by decide +kernel
theorem djudge_24 : decode cX12_judge 24 = .ok (.getfield 605, 3) := by decide +kernel
theorem djudge_27 : decode cX12_judge 27 = .ok (.if_icmp .ne 21, 3) := by decide +kernel
theorem djudge_30 : decode cX12_judge 30 = .ok (.iload_n 1, 1) := by decide +kernel
theorem djudge_31 : decode cX12_judge 31 = .ok (.aload_n 0, 1) := by decide +kernel
theorem djudge_32 : decode cX12_judge 32 = .ok (.getfield 602, 3) := by decide +kernel
theorem djudge_35 : decode cX12_judge 35 = .ok (.if_icmp .ge 13, 3) := by decide +kernel
theorem djudge_38 : decode cX12_judge 38 = .ok (.aload_n 0, 1) := by decide +kernel
theorem djudge_39 : decode cX12_judge 39 = .ok (.iload_n 1, 1) := by decide +kernel
theorem djudge_40 : decode cX12_judge 40 = .ok (.putfield 602, 3) := by decide +kernel
theorem djudge_43 : decode cX12_judge 43 = .ok (.aload_n 0, 1) := by decide +kernel
theorem djudge_44 : decode cX12_judge 44 = .ok (.iload_n 3, 1) := by decide +kernel
theorem djudge_45 : decode cX12_judge 45 = .ok (.putfield 605, 3) := by decide +kernel
theorem djudge_48 : decode cX12_judge 48 = .ok (.return_, 1) := by decide +kernel
section
variable {l : Launch} {D : va_G} {cA : Nat → ClassId} {ad : Nat → Nat}
theorem s_judge {a1 a2 : Int} {h : ja_H} {Q : Option ja_V → ja_H → Prop} (g : mo_G Zz h) (r1 : -2147483648 ≤ a1 ∧ a1 ≤ 2147483647) (r2 : -2147483648 ≤ a2 ∧ a2 ≤ 2147483647) (p1 : 1 ≤ a1 ∧ a1 ≤ 8) (p2 : 0 ≤ a2 ∧ a2 ≤ 900) (k1 : ∀ (f p : Int), (1 ≤ f ∧ f ≤ 8 ∧ -2147483648 ≤ p ∧ p ≤ 2147483647) → mo_G Zz (ja_up (ja_up h 0 11 f) 0 12 p) → Q none (ja_up (ja_up h 0 11 f) 0 12 p)) : mM_judge l D cA ad a1 a2 h Q := by
  show mJ l D cA ad 1 cX12_judge 4 none 0 [(0, (2, ((0 : Nat) : Int))), (1, (0, a1)), (2, (0, a2))] [] h Q
  have kn_false1 := gF_false1 g
  have kn_falseAt := gF_falseAt g
  refine ja_aload_n djudge_0 rfl rfl ?_
  refine fa_places djudge_1 ?_
  refine ja_iload_n djudge_4 rfl rfl ?_
  refine il_places (v := h 3 (a2).toNat) rfl ⟨by omega, by omega⟩ djudge_5 ?_
  have f1 := gC_places g (a2).toNat
  refine ja_istore_n djudge_6 rfl (by decide) (L2 := [(3, (0, (h 3 (a2).toNat))), (0, (2, ((0 : Nat) : Int))), (1, (0, a1)), (2, (0, a2))]) rfl ?_
  refine ja_aload_n djudge_7 rfl rfl ?_
  refine fg_false1 (v := h 0 11) rfl djudge_8 ?_
  have f2 := gF_false1 g
  refine ja_if_eq 38 djudge_11 rfl ⟨by omega, by omega⟩ (fun c11 => ?_) (fun c11 => ?_)
  · refine ja_aload_n djudge_38 rfl rfl ?_
    refine ja_iload_n djudge_39 rfl rfl ?_
    have g3 := gP_false1 g (x := a1) ⟨by omega, by omega⟩
    refine fp_false1 djudge_40 ?_
    refine ja_aload_n djudge_43 rfl rfl ?_
    refine ja_iload_n djudge_44 rfl rfl ?_
    have g4 := gP_falseAt g3 (x := h 3 (a2).toNat) ⟨by omega, by omega⟩
    refine fp_falseAt djudge_45 ?_
    refine ja_return djudge_48 rfl ?_
    exact k1 a1 (h 3 (a2).toNat) (by omega) g4
  · refine ja_iload_n djudge_14 rfl rfl ?_
    refine ja_aload_n djudge_15 rfl rfl ?_
    refine fg_falseAt (v := h 0 12) rfl djudge_16 ?_
    have f5 := gF_falseAt g
    refine ja_icmp_lt 38 djudge_19 rfl ⟨by omega, by omega⟩ ⟨by omega, by omega⟩ (fun c19 => ?_) (fun c19 => ?_)
    · refine ja_aload_n djudge_38 rfl rfl ?_
      refine ja_iload_n djudge_39 rfl rfl ?_
      have g6 := gP_false1 g (x := a1) ⟨by omega, by omega⟩
      refine fp_false1 djudge_40 ?_
      refine ja_aload_n djudge_43 rfl rfl ?_
      refine ja_iload_n djudge_44 rfl rfl ?_
      have g7 := gP_falseAt g6 (x := h 3 (a2).toNat) ⟨by omega, by omega⟩
      refine fp_falseAt djudge_45 ?_
      refine ja_return djudge_48 rfl ?_
      exact k1 a1 (h 3 (a2).toNat) (by omega) g7
    · refine ja_iload_n djudge_22 rfl rfl ?_
      refine ja_aload_n djudge_23 rfl rfl ?_
      refine fg_falseAt (v := h 0 12) rfl djudge_24 ?_
      refine ja_icmp_ne 48 djudge_27 rfl ⟨by omega, by omega⟩ ⟨by omega, by omega⟩ (fun c27 => ?_) (fun c27 => ?_)
      · refine ja_return djudge_48 rfl ?_
        have hE : h = ja_up (ja_up h 0 11 (h 0 11)) 0 12 (h 0 12) := by funext k j; simp only [ja_up]; repeat' split <;> simp_all
        rw [hE]; exact k1 (h 0 11) (h 0 12) (by omega) (by rw [← hE]; exact g)
      · refine ja_iload_n djudge_30 rfl rfl ?_
        refine ja_aload_n djudge_31 rfl rfl ?_
        refine fg_false1 (v := h 0 11) rfl djudge_32 ?_
        refine ja_icmp_ge 48 djudge_35 rfl ⟨by omega, by omega⟩ ⟨by omega, by omega⟩ (fun c35 => ?_) (fun c35 => ?_)
        · refine ja_return djudge_48 rfl ?_
          have hE : h = ja_up (ja_up h 0 11 (h 0 11)) 0 12 (h 0 12) := by funext k j; simp only [ja_up]; repeat' split <;> simp_all
          rw [hE]; exact k1 (h 0 11) (h 0 12) (by omega) (by rw [← hE]; exact g)
        · refine ja_aload_n djudge_38 rfl rfl ?_
          refine ja_iload_n djudge_39 rfl rfl ?_
          have g8 := gP_false1 g (x := a1) ⟨by omega, by omega⟩
          refine fp_false1 djudge_40 ?_
          refine ja_aload_n djudge_43 rfl rfl ?_
          refine ja_iload_n djudge_44 rfl rfl ?_
          have g9 := gP_falseAt g8 (x := h 3 (a2).toNat) ⟨by omega, by omega⟩
          refine fp_falseAt djudge_45 ?_
          refine ja_return djudge_48 rfl ?_
          exact k1 a1 (h 3 (a2).toNat) (by omega) g9
theorem t_judge {a1 a2 : Int} {d nL pc : Nat} {cc : ByteArray} {rt : Option FieldType} {L : List (Nat × ja_V)} {S : List ja_V} {h : ja_H} {Q : Option ja_V → ja_H → Prop} (hdd : 1 < d) (hwd : ja_wd S ≤ 8) (hd : decode cc pc = .ok (.invokevirtual 719, 3)) (g : mo_G Zz h) (r1 : -2147483648 ≤ a1 ∧ a1 ≤ 2147483647) (r2 : -2147483648 ≤ a2 ∧ a2 ≤ 2147483647) (p1 : 1 ≤ a1 ∧ a1 ≤ 8) (p2 : 0 ≤ a2 ∧ a2 ≤ 900) (k1 : ∀ (f p : Int), (1 ≤ f ∧ f ≤ 8 ∧ -2147483648 ≤ p ∧ p ≤ 2147483647) → mo_G Zz (ja_up (ja_up h 0 11 f) 0 12 p) → mJ l D cA ad d cc nL rt (pc + 3) L S (ja_up (ja_up h 0 11 f) 0 12 p) Q) : mJ l D cA ad d cc nL rt pc L ((0, a2) :: (0, a1) :: (2, ((0 : Nat) : Int)) :: S) h Q :=
  mc_judge hdd hwd hd (s_judge g r1 r2 p1 p2 k1)
end
theorem dnewPoint_0 : decode cX12_newPoint 0 = .ok (.aload_n 0, 1) := by decide +kernel
theorem dnewPoint_1 : decode cX12_newPoint 1 = .ok (.getfield 617, 3) := by decide +kernel
theorem dnewPoint_4 : decode cX12_newPoint 4 = .ok (.sipush 400, 3) := by decide +kernel
theorem dnewPoint_7 : decode cX12_newPoint 7 = .ok (.if_icmp .ne 11, 3) := by decide +kernel
theorem dnewPoint_10 : decode cX12_newPoint 10 = .ok (.aload_n 0, 1) := by decide +kernel
theorem dnewPoint_11 : decode cX12_newPoint 11 = .ok (.iconst 3, 1) := by decide +kernel
theorem dnewPoint_12 : decode cX12_newPoint 12 = .ok (.invokevirtual 583, 3) := by decide +kernel
theorem dnewPoint_15 : decode cX12_newPoint 15 = .ok (.istore_n 2, 1) := by decide +kernel
theorem dnewPoint_16 : decode cX12_newPoint 16 = .ok (.iconst (-1), 1) := by decide +kernel
theorem dnewPoint_17 : decode cX12_newPoint 17 = .ok (.ireturn, 1) := by decide +kernel
theorem dnewPoint_18 : decode cX12_newPoint 18 = .ok (.aload_n 0, 1) := by decide +kernel
theorem dnewPoint_19 : decode cX12_newPoint 19 = .ok (.getfield 164, 3) := by decide +kernel
theorem dnewPoint_22 : decode cX12_newPoint 22 = .ok (.aload_n 0, 1) := by decide +kernel
theorem dnewPoint_23 : decode cX12_newPoint 23 = .ok (.getfield 617, 3) := by decide +kernel
theorem dnewPoint_26 : decode cX12_newPoint 26 = .ok (.iload_n 1, 1) := by decide +kernel
theorem dnewPoint_27 : decode cX12_newPoint 27 = .ok (.iastore, 1) := by decide +kernel
theorem dnewPoint_28 : decode cX12_newPoint 28 = .ok (.aload_n 0, 1) := by decide +kernel
theorem dnewPoint_29 : decode cX12_newPoint 29 = .ok (.getfield 167, 3) := by decide +kernel
theorem dnewPoint_32 : decode cX12_newPoint 32 = .ok (.aload_n 0, 1) := by decide +kernel
theorem dnewPoint_33 : decode cX12_newPoint 33 = .ok (.getfield 617, 3) := by decide +kernel
theorem dnewPoint_36 : decode cX12_newPoint 36 = .ok (.aload_n 0, 1) := by decide +kernel
theorem dnewPoint_37 : decode cX12_newPoint 37 = .ok (.getfield 574, 3) := by decide +kernel
theorem dnewPoint_40 : decode cX12_newPoint 40 = .ok (.iastore, 1) := by decide +kernel
theorem dnewPoint_41 : decode cX12_newPoint 41 = .ok (.aload_n 0, 1) := by decide +kernel
theorem dnewPoint_42 : decode cX12_newPoint 42 = .ok (.getfield 170, 3) := by decide +kernel
theorem dnewPoint_45 : decode cX12_newPoint 45 = .ok (.aload_n 0, 1) := by decide +kernel
theorem dnewPoint_46 : decode cX12_newPoint 46 = .ok (.getfield 617, 3) := by decide +kernel
theorem dnewPoint_49 : decode cX12_newPoint 49 = .ok (.iconst (-1), 1) := by decide +kernel
theorem dnewPoint_50 : decode cX12_newPoint 50 = .ok (.iastore, 1) := by decide +kernel
theorem dnewPoint_51 : decode cX12_newPoint 51 = .ok (.aload_n 0, 1) := by decide +kernel
theorem dnewPoint_52 : decode cX12_newPoint 52 = .ok (.getfield 173, 3) := by decide +kernel
theorem dnewPoint_55 : decode cX12_newPoint 55 = .ok (.aload_n 0, 1) := by decide +kernel
theorem dnewPoint_56 : decode cX12_newPoint 56 = .ok (.getfield 617, 3) := by decide +kernel
theorem dnewPoint_59 : decode cX12_newPoint 59 = .ok (.iconst 0, 1) := by decide +kernel
theorem dnewPoint_60 : decode cX12_newPoint 60 = .ok (.iastore, 1) := by decide +kernel
theorem dnewPoint_61 : decode cX12_newPoint 61 = .ok (.aload_n 0, 1) := by decide +kernel
theorem dnewPoint_62 : decode cX12_newPoint 62 = .ok (.getfield 176, 3) := by decide +kernel
theorem dnewPoint_65 : decode cX12_newPoint 65 = .ok (.aload_n 0, 1) := by decide +kernel
theorem dnewPoint_66 : decode cX12_newPoint 66 = .ok (.getfield 617, 3) := by decide +kernel
theorem dnewPoint_69 : decode cX12_newPoint 69 = .ok (.aload_n 0, 1) := by decide +kernel
theorem dnewPoint_70 : decode cX12_newPoint 70 = .ok (.getfield 620, 3) := by decide +kernel
theorem dnewPoint_73 : decode cX12_newPoint 73 = .ok (.iconst 3, 1) := by decide +kernel
theorem dnewPoint_74 : decode cX12_newPoint 74 = .ok (.if_icmp .ne 7, 3) := by decide +kernel
theorem dnewPoint_77 : decode cX12_newPoint 77 = .ok (.iconst 2, 1) := by decide +kernel
theorem dnewPoint_78 : decode cX12_newPoint 78 = .ok (.goto 7, 3) := by decide +kernel
theorem dnewPoint_81 : decode cX12_newPoint 81 = .ok (.aload_n 0, 1) := by decide +kernel
theorem dnewPoint_82 : decode cX12_newPoint 82 = .ok (.getfield 620, 3) := by decide +kernel
theorem dnewPoint_85 : decode cX12_newPoint 85 = .ok (.iastore, 1) := by decide +kernel
theorem dnewPoint_86 : decode cX12_newPoint 86 = .ok (.aload_n 0, 1) := by decide +kernel
theorem dnewPoint_87 : decode cX12_newPoint 87 = .ok (.getfield 179, 3) := by decide +kernel
theorem dnewPoint_90 : decode cX12_newPoint 90 = .ok (.aload_n 0, 1) := by decide +kernel
theorem dnewPoint_91 : decode cX12_newPoint 91 = .ok (.getfield 617, 3) := by decide +kernel
theorem dnewPoint_94 : decode cX12_newPoint 94 = .ok (.aload_n 0, 1) := by decide +kernel
theorem dnewPoint_95 : decode cX12_newPoint 95 = .ok (.getfield 620, 3) := by decide +kernel
theorem dnewPoint_98 : decode cX12_newPoint 98 = .ok (.ifCond .ne 7, 3) := by decide +kernel
theorem dnewPoint_101 : decode cX12_newPoint 101 = .ok (.iconst 0, 1) := by decide +kernel
theorem dnewPoint_102 : decode cX12_newPoint 102 = .ok (.goto 7, 3) := by decide +kernel
theorem dnewPoint_105 : decode cX12_newPoint 105 = .ok (.aload_n 0, 1) := by decide +kernel
theorem dnewPoint_106 : decode cX12_newPoint 106 = .ok (.getfield 623, 3) := by decide +kernel
theorem dnewPoint_109 : decode cX12_newPoint 109 = .ok (.iastore, 1) := by decide +kernel
theorem dnewPoint_110 : decode cX12_newPoint 110 = .ok (.aload_n 0, 1) := by decide +kernel
theorem dnewPoint_111 : decode cX12_newPoint 111 = .ok (.dup, 1) := by decide +kernel
theorem dnewPoint_112 : decode cX12_newPoint 112 = .ok (.getfield 617, 3) := by decide +kernel
theorem dnewPoint_115 : decode cX12_newPoint 115 = .ok (.iconst 1, 1) := by decide +kernel
theorem dnewPoint_116 : decode cX12_newPoint 116 = .ok (.iadd, 1) := by decide +kernel
theorem dnewPoint_117 : decode cX12_newPoint 117 = .ok (.putfield 617, 3) := by decide +kernel
theorem dnewPoint_120 : decode cX12_newPoint 120 = .ok (.aload_n 0, 1) := by decide +kernel
theorem dnewPoint_121 : decode cX12_newPoint 121 = .ok (.getfield 617, 3) := by decide +kernel
theorem dnewPoint_124 : decode cX12_newPoint 124 = .ok (.iconst 1, 1) := by decide +kernel
theorem dnewPoint_125 : decode cX12_newPoint 125 = .ok (.isub, 1) := by decide +kernel
theorem dnewPoint_126 : decode cX12_newPoint 126 = .ok (.ireturn, 1) := by decide +kernel
section
variable {l : Launch} {D : va_G} {cA : Nat → ClassId} {ad : Nat → Nat}
theorem s_newPoint {a1 : Int} {h : ja_H} {Q : Option ja_V → ja_H → Prop} (g : mo_G Zz h) (r1 : -2147483648 ≤ a1 ∧ a1 ≤ 2147483647) (p1 : 0 ≤ a1 ∧ a1 ≤ 5) (k1 : ∀ (s w : Int), ((h 0 88) < 400 ∧ (((h 0 74) = 3 ∧ s = 2) ∨ (¬ (h 0 74) = 3 ∧ s = (h 0 74))) ∧ (((h 0 74) = 0 ∧ w = 0) ∨ (¬ (h 0 74) = 0 ∧ w = (h 0 75)))) → mo_G Zz (ja_up (ja_up (ja_up (ja_up (ja_up (ja_up (ja_up h 52 (((h 0 88)).toNat) a1) 53 (((h 0 88)).toNat) (h 0 7)) 54 (((h 0 88)).toNat) (-1)) 55 (((h 0 88)).toNat) 0) 56 (((h 0 88)).toNat) s) 57 (((h 0 88)).toNat) w) 0 88 ((h 0 88) + 1)) → Q (some (0, (h 0 88))) (ja_up (ja_up (ja_up (ja_up (ja_up (ja_up (ja_up h 52 (((h 0 88)).toNat) a1) 53 (((h 0 88)).toNat) (h 0 7)) 54 (((h 0 88)).toNat) (-1)) 55 (((h 0 88)).toNat) 0) 56 (((h 0 88)).toNat) s) 57 (((h 0 88)).toNat) w) 0 88 ((h 0 88) + 1))) (k2 : ∀ (h' : ja_H), (0 < (h' 0 8) ∧ (h' 0 1) = (h 0 1) ∧ (h' 0 118) = (h 0 118) ∧ (h' 0 127) = (h 0 127) ∧ (h' 0 41) = (h 0 41)) → mo_G Zz h' → Q (some (0, (-1))) h') : mM_newPoint l D cA ad a1 h Q := by
  show mJ l D cA ad 2 cX12_newPoint 3 (some .int) 0 [(0, (2, ((0 : Nat) : Int))), (1, (0, a1))] [] h Q
  have kn_body := gF_body g
  have kn_bodyNumber := gF_bodyNumber g
  have kn_points := gF_points g
  refine ja_aload_n dnewPoint_0 rfl rfl ?_
  refine fg_points (v := h 0 88) rfl dnewPoint_1 ?_
  have f1 := gF_points g
  refine ja_sipush 400 dnewPoint_4 rfl ?_
  refine ja_icmp_ne 18 dnewPoint_7 rfl ⟨by omega, by omega⟩ ⟨by decide, by decide⟩ (fun c7 => ?_) (fun c7 => ?_)
  · refine ja_aload_n dnewPoint_18 rfl rfl ?_
    refine fa_pointKind dnewPoint_19 ?_
    refine ja_aload_n dnewPoint_22 rfl rfl ?_
    refine fg_points (v := h 0 88) rfl dnewPoint_23 ?_
    refine ja_iload_n dnewPoint_26 rfl rfl ?_
    have g2 := gW_pointKind g (h 0 88).toNat (x := a1) ⟨by omega, by omega⟩
    refine is_pointKind ⟨by omega, by omega⟩ dnewPoint_27 ?_
    refine ja_aload_n dnewPoint_28 rfl rfl ?_
    refine fa_pointToken dnewPoint_29 ?_
    refine ja_aload_n dnewPoint_32 rfl rfl ?_
    refine fg_points (v := h 0 88) rfl dnewPoint_33 ?_
    refine ja_aload_n dnewPoint_36 rfl rfl ?_
    refine fg_at (v := h 0 7) rfl dnewPoint_37 ?_
    have f3 := gF_at g
    have g4 := gW_pointToken g2 (h 0 88).toNat (x := h 0 7) ⟨by omega, by omega⟩
    refine is_pointToken ⟨by omega, by omega⟩ dnewPoint_40 ?_
    refine ja_aload_n dnewPoint_41 rfl rfl ?_
    refine fa_pointName dnewPoint_42 ?_
    refine ja_aload_n dnewPoint_45 rfl rfl ?_
    refine fg_points (v := h 0 88) rfl dnewPoint_46 ?_
    refine ja_iconst dnewPoint_49 ?_
    have g5 := gW_pointName g4 (h 0 88).toNat (x := (-1)) ⟨by decide, by decide⟩
    refine is_pointName ⟨by omega, by omega⟩ dnewPoint_50 ?_
    refine ja_aload_n dnewPoint_51 rfl rfl ?_
    refine fa_pointArgs dnewPoint_52 ?_
    refine ja_aload_n dnewPoint_55 rfl rfl ?_
    refine fg_points (v := h 0 88) rfl dnewPoint_56 ?_
    refine ja_iconst dnewPoint_59 ?_
    have g6 := gW_pointArgs g5 (h 0 88).toNat (x := 0) ⟨by decide, by decide⟩
    refine is_pointArgs ⟨by omega, by omega⟩ dnewPoint_60 ?_
    refine ja_aload_n dnewPoint_61 rfl rfl ?_
    refine fa_pointStands dnewPoint_62 ?_
    refine ja_aload_n dnewPoint_65 rfl rfl ?_
    refine fg_points (v := h 0 88) rfl dnewPoint_66 ?_
    refine ja_aload_n dnewPoint_69 rfl rfl ?_
    refine fg_body (v := h 0 74) rfl dnewPoint_70 ?_
    have f7 := gF_body g
    refine ja_iconst dnewPoint_73 ?_
    refine ja_icmp_ne 81 dnewPoint_74 rfl ⟨by omega, by omega⟩ ⟨by decide, by decide⟩ (fun c74 => ?_) (fun c74 => ?_)
    · refine ja_aload_n dnewPoint_81 rfl rfl ?_
      refine fg_body (v := h 0 74) rfl dnewPoint_82 ?_
      have g8 := gW_pointStands g6 (h 0 88).toNat (x := h 0 74) ⟨by omega, by omega⟩
      refine is_pointStands ⟨by omega, by omega⟩ dnewPoint_85 ?_
      refine ja_aload_n dnewPoint_86 rfl rfl ?_
      refine fa_pointWhich dnewPoint_87 ?_
      refine ja_aload_n dnewPoint_90 rfl rfl ?_
      refine fg_points (v := h 0 88) rfl dnewPoint_91 ?_
      refine ja_aload_n dnewPoint_94 rfl rfl ?_
      refine fg_body (v := h 0 74) rfl dnewPoint_95 ?_
      refine ja_if_ne 105 dnewPoint_98 rfl ⟨by omega, by omega⟩ (fun c98 => ?_) (fun c98 => ?_)
      · refine ja_aload_n dnewPoint_105 rfl rfl ?_
        refine fg_bodyNumber (v := h 0 75) rfl dnewPoint_106 ?_
        have f9 := gF_bodyNumber g
        have g10 := gW_pointWhich g8 (h 0 88).toNat (x := h 0 75) ⟨by omega, by omega⟩
        refine is_pointWhich ⟨by omega, by omega⟩ dnewPoint_109 ?_
        refine ja_aload_n dnewPoint_110 rfl rfl ?_
        refine ja_dup dnewPoint_111 (by decide) ?_
        refine fg_points (v := h 0 88) rfl dnewPoint_112 ?_
        refine ja_iconst dnewPoint_115 ?_
        refine ja_iadd dnewPoint_116 ?_
        have g11 := gP_points g10 (x := (h 0 88) + 1) ⟨by omega, by omega⟩
        refine fp_points dnewPoint_117 ?_
        refine ja_aload_n dnewPoint_120 rfl rfl ?_
        refine fg_points (v := (h 0 88) + 1) rfl dnewPoint_121 ?_
        refine ja_iconst dnewPoint_124 ?_
        refine ja_isub dnewPoint_125 ?_
        refine ja_ireturn dnewPoint_126 rfl ?_
        exact mo_fin (by omega) rfl (k1 (h 0 74) (h 0 75) (by omega) g11)
      · refine ja_iconst dnewPoint_101 ?_
        refine ja_goto 109 dnewPoint_102 rfl ?_
        have g12 := gW_pointWhich g8 (h 0 88).toNat (x := 0) ⟨by decide, by decide⟩
        refine is_pointWhich ⟨by omega, by omega⟩ dnewPoint_109 ?_
        refine ja_aload_n dnewPoint_110 rfl rfl ?_
        refine ja_dup dnewPoint_111 (by decide) ?_
        refine fg_points (v := h 0 88) rfl dnewPoint_112 ?_
        refine ja_iconst dnewPoint_115 ?_
        refine ja_iadd dnewPoint_116 ?_
        have g13 := gP_points g12 (x := (h 0 88) + 1) ⟨by omega, by omega⟩
        refine fp_points dnewPoint_117 ?_
        refine ja_aload_n dnewPoint_120 rfl rfl ?_
        refine fg_points (v := (h 0 88) + 1) rfl dnewPoint_121 ?_
        refine ja_iconst dnewPoint_124 ?_
        refine ja_isub dnewPoint_125 ?_
        refine ja_ireturn dnewPoint_126 rfl ?_
        exact mo_fin (by omega) rfl (k1 (h 0 74) 0 (by omega) g13)
    · refine ja_iconst dnewPoint_77 ?_
      refine ja_goto 85 dnewPoint_78 rfl ?_
      have g14 := gW_pointStands g6 (h 0 88).toNat (x := 2) ⟨by decide, by decide⟩
      refine is_pointStands ⟨by omega, by omega⟩ dnewPoint_85 ?_
      refine ja_aload_n dnewPoint_86 rfl rfl ?_
      refine fa_pointWhich dnewPoint_87 ?_
      refine ja_aload_n dnewPoint_90 rfl rfl ?_
      refine fg_points (v := h 0 88) rfl dnewPoint_91 ?_
      refine ja_aload_n dnewPoint_94 rfl rfl ?_
      refine fg_body (v := h 0 74) rfl dnewPoint_95 ?_
      refine ja_if_ne 105 dnewPoint_98 rfl ⟨by omega, by omega⟩ (fun c98 => ?_) (fun c98 => ?_)
      · refine ja_aload_n dnewPoint_105 rfl rfl ?_
        refine fg_bodyNumber (v := h 0 75) rfl dnewPoint_106 ?_
        have f15 := gF_bodyNumber g
        have g16 := gW_pointWhich g14 (h 0 88).toNat (x := h 0 75) ⟨by omega, by omega⟩
        refine is_pointWhich ⟨by omega, by omega⟩ dnewPoint_109 ?_
        refine ja_aload_n dnewPoint_110 rfl rfl ?_
        refine ja_dup dnewPoint_111 (by decide) ?_
        refine fg_points (v := h 0 88) rfl dnewPoint_112 ?_
        refine ja_iconst dnewPoint_115 ?_
        refine ja_iadd dnewPoint_116 ?_
        have g17 := gP_points g16 (x := (h 0 88) + 1) ⟨by omega, by omega⟩
        refine fp_points dnewPoint_117 ?_
        refine ja_aload_n dnewPoint_120 rfl rfl ?_
        refine fg_points (v := (h 0 88) + 1) rfl dnewPoint_121 ?_
        refine ja_iconst dnewPoint_124 ?_
        refine ja_isub dnewPoint_125 ?_
        refine ja_ireturn dnewPoint_126 rfl ?_
        exact mo_fin (by omega) rfl (k1 2 (h 0 75) (by omega) g17)
      · refine ja_iconst dnewPoint_101 ?_
        refine ja_goto 109 dnewPoint_102 rfl ?_
        have g18 := gW_pointWhich g14 (h 0 88).toNat (x := 0) ⟨by decide, by decide⟩
        refine is_pointWhich ⟨by omega, by omega⟩ dnewPoint_109 ?_
        refine ja_aload_n dnewPoint_110 rfl rfl ?_
        refine ja_dup dnewPoint_111 (by decide) ?_
        refine fg_points (v := h 0 88) rfl dnewPoint_112 ?_
        refine ja_iconst dnewPoint_115 ?_
        refine ja_iadd dnewPoint_116 ?_
        have g19 := gP_points g18 (x := (h 0 88) + 1) ⟨by omega, by omega⟩
        refine fp_points dnewPoint_117 ?_
        refine ja_aload_n dnewPoint_120 rfl rfl ?_
        refine fg_points (v := (h 0 88) + 1) rfl dnewPoint_121 ?_
        refine ja_iconst dnewPoint_124 ?_
        refine ja_isub dnewPoint_125 ?_
        refine ja_ireturn dnewPoint_126 rfl ?_
        exact mo_fin (by omega) rfl (k1 2 0 (by omega) g19)
  · refine ja_aload_n dnewPoint_10 rfl rfl ?_
    refine ja_iconst dnewPoint_11 ?_
    refine t_halt (by decide) (show (0 : Nat) ≤ 8 by decide) dnewPoint_12 g ⟨by decide, by decide⟩ (show 1 ≤ 3 ∧ 3 ≤ 8 by omega) ?_
    intro h20 k12_0 g21
    refine ja_istore_n dnewPoint_15 rfl (by decide) (L2 := [(2, (0, 0)), (0, (2, ((0 : Nat) : Int))), (1, (0, a1))]) rfl ?_
    refine ja_iconst dnewPoint_16 ?_
    refine ja_ireturn dnewPoint_17 rfl ?_
    exact mo_fin (by omega) rfl (k2 h20 (by omega) g21)
theorem t_newPoint {a1 : Int} {d nL pc : Nat} {cc : ByteArray} {rt : Option FieldType} {L : List (Nat × ja_V)} {S : List ja_V} {h : ja_H} {Q : Option ja_V → ja_H → Prop} (hdd : 2 < d) (hwd : ja_wd S ≤ 8) (hd : decode cc pc = .ok (.invokevirtual 751, 3)) (g : mo_G Zz h) (r1 : -2147483648 ≤ a1 ∧ a1 ≤ 2147483647) (p1 : 0 ≤ a1 ∧ a1 ≤ 5) (k1 : ∀ (s w : Int), ((h 0 88) < 400 ∧ (((h 0 74) = 3 ∧ s = 2) ∨ (¬ (h 0 74) = 3 ∧ s = (h 0 74))) ∧ (((h 0 74) = 0 ∧ w = 0) ∨ (¬ (h 0 74) = 0 ∧ w = (h 0 75)))) → mo_G Zz (ja_up (ja_up (ja_up (ja_up (ja_up (ja_up (ja_up h 52 (((h 0 88)).toNat) a1) 53 (((h 0 88)).toNat) (h 0 7)) 54 (((h 0 88)).toNat) (-1)) 55 (((h 0 88)).toNat) 0) 56 (((h 0 88)).toNat) s) 57 (((h 0 88)).toNat) w) 0 88 ((h 0 88) + 1)) → mJ l D cA ad d cc nL rt (pc + 3) L ((0, (h 0 88)) :: S) (ja_up (ja_up (ja_up (ja_up (ja_up (ja_up (ja_up h 52 (((h 0 88)).toNat) a1) 53 (((h 0 88)).toNat) (h 0 7)) 54 (((h 0 88)).toNat) (-1)) 55 (((h 0 88)).toNat) 0) 56 (((h 0 88)).toNat) s) 57 (((h 0 88)).toNat) w) 0 88 ((h 0 88) + 1)) Q) (k2 : ∀ (h' : ja_H), (0 < (h' 0 8) ∧ (h' 0 1) = (h 0 1) ∧ (h' 0 118) = (h 0 118) ∧ (h' 0 127) = (h 0 127) ∧ (h' 0 41) = (h 0 41)) → mo_G Zz h' → mJ l D cA ad d cc nL rt (pc + 3) L ((0, (-1)) :: S) h' Q) : mJ l D cA ad d cc nL rt pc L ((0, a1) :: (2, ((0 : Nat) : Int)) :: S) h Q :=
  mc_newPoint hdd hwd hd (s_newPoint g r1 p1 k1 k2)
end
theorem dknow_0 : decode cX12_know 0 = .ok (.iconst 0, 1) := by decide +kernel
theorem dknow_1 : decode cX12_know 1 = .ok (.istore_n 2, 1) := by decide +kernel
theorem dknow_2 : decode cX12_know 2 = .ok (.iload_n 2, 1) := by decide +kernel
theorem dknow_3 : decode cX12_know 3 = .ok (.aload_n 0, 1) := by decide +kernel
theorem dknow_4 : decode cX12_know 4 = .ok (.getfield 713, 3) := by decide +kernel
theorem dknow_7 : decode cX12_know 7 = .ok (.if_icmp .ge 29, 3) := by decide +kernel
theorem dknow_10 : decode cX12_know 10 = .ok (.aload_n 0, 1) := by decide +kernel
theorem dknow_11 : decode cX12_know 11 = .ok (.getfield 155, 3) := by decide +kernel
theorem dknow_14 : decode cX12_know 14 = .ok (.iload_n 2, 1) := by decide +kernel
theorem dknow_15 : decode cX12_know 15 = .ok (.iaload, 1) := by decide +kernel
theorem dknow_16 : decode cX12_know 16 = .ok (.aload_n 0, 1) := by decide +kernel
theorem dknow_17 : decode cX12_know 17 = .ok (.iload_n 1, 1) := by decide +kernel
theorem dknow_18 : decode cX12_know 18 = .ok (.invokevirtual 716, 3) := by decide +kernel
theorem dknow_21 : decode cX12_know 21 = .ok (.if_icmp .ne 9, 3) := by decide +kernel
theorem dknow_24 : decode cX12_know 24 = .ok (.aload_n 0, 1) := by decide +kernel
theorem dknow_25 : decode cX12_know 25 = .ok (.iconst 4, 1) := by decide +kernel
theorem dknow_26 : decode cX12_know 26 = .ok (.iload_n 1, 1) := by decide +kernel
theorem dknow_27 : decode cX12_know 27 = .ok (.invokevirtual 719, 3) := by decide +kernel
theorem dknow_30 : decode cX12_know 30 = .ok (.iinc 2 1, 3) := by decide +kernel
theorem dknow_33 : decode cX12_know 33 = .ok (.goto (-31), 3) := by decide +kernel
theorem dknow_36 : decode cX12_know 36 = .ok (.aload_n 0, 1) := by decide +kernel
theorem dknow_37 : decode cX12_know 37 = .ok (.getfield 155, 3) := by decide +kernel
theorem dknow_40 : decode cX12_know 40 = .ok (.aload_n 0, 1) := by decide +kernel
theorem dknow_41 : decode cX12_know 41 = .ok (.getfield 713, 3) := by decide +kernel
theorem dknow_44 : decode cX12_know 44 = .ok (.aload_n 0, 1) := by decide +kernel
theorem dknow_45 : decode cX12_know 45 = .ok (.iload_n 1, 1) := by decide +kernel
theorem dknow_46 : decode cX12_know 46 = .ok (.invokevirtual 716, 3) := by decide +kernel
theorem dknow_49 : decode cX12_know 49 = .ok (.iastore, 1) := by decide +kernel
theorem dknow_50 : decode cX12_know 50 = .ok (.aload_n 0, 1) := by decide +kernel
theorem dknow_51 : decode cX12_know 51 = .ok (.getfield 158, 3) := by decide +kernel
theorem dknow_54 : decode cX12_know 54 = .ok (.aload_n 0, 1) := by decide +kernel
theorem dknow_55 : decode cX12_know 55 = .ok (.getfield 713, 3) := by decide +kernel
theorem dknow_58 : decode cX12_know 58 = .ok (.aload_n 0, 1) := by decide +kernel
theorem dknow_59 : decode cX12_know 59 = .ok (.getfield 710, 3) := by decide +kernel
theorem dknow_62 : decode cX12_know 62 = .ok (.iastore, 1) := by decide +kernel
theorem dknow_63 : decode cX12_know 63 = .ok (.aload_n 0, 1) := by decide +kernel
theorem dknow_64 : decode cX12_know 64 = .ok (.dup, 1) := by decide +kernel
theorem dknow_65 : decode cX12_know 65 = .ok (.getfield 713, 3) := by decide +kernel
theorem dknow_68 : decode cX12_know 68 = .ok (.iconst 1, 1) := by decide +kernel
theorem dknow_69 : decode cX12_know 69 = .ok (.iadd, 1) := by decide +kernel
theorem dknow_70 : decode cX12_know 70 = .ok (.putfield 713, 3) := by decide +kernel
theorem dknow_73 : decode cX12_know 73 = .ok (.aload_n 0, 1) := by decide +kernel
theorem dknow_74 : decode cX12_know 74 = .ok (.dup, 1) := by decide +kernel
theorem dknow_75 : decode cX12_know 75 = .ok (.getfield 710, 3) := by decide +kernel
theorem dknow_78 : decode cX12_know 78 = .ok (.iconst 1, 1) := by decide +kernel
theorem dknow_79 : decode cX12_know 79 = .ok (.iadd, 1) := by decide +kernel
theorem dknow_80 : decode cX12_know 80 = .ok (.putfield 710, 3) := by decide +kernel
theorem dknow_83 : decode cX12_know 83 = .ok (.return_, 1) := by decide +kernel
section
variable {l : Launch} {D : va_G} {cA : Nat → ClassId} {ad : Nat → Nat}
theorem s_know {a1 : Int} {h : ja_H} {Q : Option ja_V → ja_H → Prop} (g : mo_G Zz h) (r1 : -2147483648 ≤ a1 ∧ a1 ≤ 2147483647) (p1 : 0 ≤ a1 ∧ a1 ≤ 900) (p2 : (h 0 79) ≤ 15) (p3 : (h 0 77) ≤ 14) (k1 : ∀ (f p : Int), (0 ≤ f ∧ f ≤ 8 ∧ (1 ≤ f ∨ f = (h 0 11)) ∧ -2147483648 ≤ p ∧ p ≤ 2147483647) → mo_G Zz (ja_up (ja_up (ja_up (ja_up (ja_up (ja_up h 0 11 f) 0 12 p) 49 (((h 0 79)).toNat) (h 5 (a1).toNat)) 50 (((h 0 79)).toNat) (h 0 77)) 0 79 ((h 0 79) + 1)) 0 77 ((h 0 77) + 1)) → Q none (ja_up (ja_up (ja_up (ja_up (ja_up (ja_up h 0 11 f) 0 12 p) 49 (((h 0 79)).toNat) (h 5 (a1).toNat)) 50 (((h 0 79)).toNat) (h 0 77)) 0 79 ((h 0 79) + 1)) 0 77 ((h 0 77) + 1))) : mM_know l D cA ad a1 h Q := by
  show mJ l D cA ad 2 cX12_know 3 none 0 [(0, (2, ((0 : Nat) : Int))), (1, (0, a1))] [] h Q
  have kn_known := gF_known g
  have kn_locals := gF_locals g
  have kn_false1 := gF_false1 g
  have kn_falseAt := gF_falseAt g
  have CUT : ∀ n : Nat, (∀ (f p x2 : Int), mo_G Zz (ja_up (ja_up h 0 11 f) 0 12 p) → (-2147483648 ≤ f ∧ f ≤ 2147483647) → (-2147483648 ≤ p ∧ p ≤ 2147483647) → (-2147483648 ≤ x2 ∧ x2 ≤ 2147483647) → (0 ≤ x2 ∧ x2 ≤ (h 0 79) ∧ 0 ≤ f ∧ f ≤ 8 ∧ (1 ≤ f ∨ f = (h 0 11))) → ((20 - x2).toNat) = n → mJ l D cA ad 2 cX12_know 3 none 2 [(0, (2, ((0 : Nat) : Int))), (1, (0, a1)), (2, (0, x2))] [] (ja_up (ja_up h 0 11 f) 0 12 p) Q) := by
    intro n
    induction n using Nat.strongRecOn with
    | _ n ih =>
      skip
      · intro f p x2 gu qf qp qx2 iv hm
        subst hm
        refine ja_iload_n dknow_2 rfl rfl ?_
        refine ja_aload_n dknow_3 rfl rfl ?_
        refine fg_known (v := h 0 79) rfl dknow_4 ?_
        have f1 := gF_known g
        refine ja_icmp_ge 36 dknow_7 rfl ⟨by omega, by omega⟩ ⟨by omega, by omega⟩ (fun c7 => ?_) (fun c7 => ?_)
        · refine ja_aload_n dknow_36 rfl rfl ?_
          refine fa_knownName dknow_37 ?_
          refine ja_aload_n dknow_40 rfl rfl ?_
          refine fg_known (v := h 0 79) rfl dknow_41 ?_
          refine ja_aload_n dknow_44 rfl rfl ?_
          refine ja_iload_n dknow_45 rfl rfl ?_
          refine t_id (by decide) (show (2 : Nat) ≤ 8 by decide) dknow_46 gu ⟨by omega, by omega⟩ (show 0 ≤ a1 ∧ a1 ≤ 900 by omega) ?_
          intro k46_0
          replace k46_0 : -2147483648 ≤ (h 5 (a1).toNat) ∧ (h 5 (a1).toNat) ≤ 2147483647 := k46_0
          show mJ l D cA ad 2 cX12_know 3 none 49 [(0, (2, ((0 : Nat) : Int))), (1, (0, a1)), (2, (0, x2))] [(0, (h 5 (a1).toNat)), (0, (h 0 79)), (2, ((49 : Nat) : Int))] (ja_up (ja_up h 0 11 f) 0 12 p) Q
          have g2 := gW_knownName gu (h 0 79).toNat (x := h 5 (a1).toNat) ⟨by omega, by omega⟩
          refine is_knownName ⟨by omega, by omega⟩ dknow_49 ?_
          refine ja_aload_n dknow_50 rfl rfl ?_
          refine fa_knownSlot dknow_51 ?_
          refine ja_aload_n dknow_54 rfl rfl ?_
          refine fg_known (v := h 0 79) rfl dknow_55 ?_
          refine ja_aload_n dknow_58 rfl rfl ?_
          refine fg_locals (v := h 0 77) rfl dknow_59 ?_
          have f3 := gF_locals g
          have g4 := gW_knownSlot g2 (h 0 79).toNat (x := h 0 77) ⟨by omega, by omega⟩
          refine is_knownSlot ⟨by omega, by omega⟩ dknow_62 ?_
          refine ja_aload_n dknow_63 rfl rfl ?_
          refine ja_dup dknow_64 (by decide) ?_
          refine fg_known (v := h 0 79) rfl dknow_65 ?_
          refine ja_iconst dknow_68 ?_
          refine ja_iadd dknow_69 ?_
          have g5 := gP_known g4 (x := (h 0 79) + 1) ⟨by omega, by omega⟩
          refine fp_known dknow_70 ?_
          refine ja_aload_n dknow_73 rfl rfl ?_
          refine ja_dup dknow_74 (by decide) ?_
          refine fg_locals (v := h 0 77) rfl dknow_75 ?_
          refine ja_iconst dknow_78 ?_
          refine ja_iadd dknow_79 ?_
          have g6 := gP_locals g5 (x := (h 0 77) + 1) ⟨by omega, by omega⟩
          refine fp_locals dknow_80 ?_
          refine ja_return dknow_83 rfl ?_
          exact k1 f p (by omega) g6
        · refine ja_aload_n dknow_10 rfl rfl ?_
          refine fa_knownName dknow_11 ?_
          refine ja_iload_n dknow_14 rfl rfl ?_
          refine il_knownName (v := h 49 (x2).toNat) rfl ⟨by omega, by omega⟩ dknow_15 ?_
          have f7 := gC_knownName g (x2).toNat
          refine ja_aload_n dknow_16 rfl rfl ?_
          refine ja_iload_n dknow_17 rfl rfl ?_
          refine t_id (by decide) (show (1 : Nat) ≤ 8 by decide) dknow_18 gu ⟨by omega, by omega⟩ (show 0 ≤ a1 ∧ a1 ≤ 900 by omega) ?_
          intro k18_0
          replace k18_0 : -2147483648 ≤ (h 5 (a1).toNat) ∧ (h 5 (a1).toNat) ≤ 2147483647 := k18_0
          show mJ l D cA ad 2 cX12_know 3 none 21 [(0, (2, ((0 : Nat) : Int))), (1, (0, a1)), (2, (0, x2))] [(0, (h 5 (a1).toNat)), (0, (h 49 (x2).toNat))] (ja_up (ja_up h 0 11 f) 0 12 p) Q
          refine ja_icmp_ne 30 dknow_21 rfl ⟨by omega, by omega⟩ ⟨by omega, by omega⟩ (fun c21 => ?_) (fun c21 => ?_)
          · refine ja_iinc dknow_30 rfl (by decide) (L2 := [(2, (0, (x2 + 1))), (0, (2, ((0 : Nat) : Int))), (1, (0, a1))]) rfl ?_
            refine ja_goto 2 dknow_33 rfl ?_
            exact ja_wk (fun q hq => by simp only [List.mem_cons, List.not_mem_nil, or_false] at hq; rcases hq with rfl | rfl | rfl <;> rfl) ((ih ((20 - (x2 + 1)).toNat) (by omega)) f p (x2 + 1) gu ⟨by omega, by omega⟩ ⟨by omega, by omega⟩ ⟨by omega, by omega⟩ (show 0 ≤ (x2 + 1) ∧ (x2 + 1) ≤ (h 0 79) ∧ 0 ≤ f ∧ f ≤ 8 ∧ (1 ≤ f ∨ f = (h 0 11)) by omega) rfl)
          · refine ja_aload_n dknow_24 rfl rfl ?_
            refine ja_iconst dknow_25 ?_
            refine ja_iload_n dknow_26 rfl rfl ?_
            refine t_judge (by decide) (show (0 : Nat) ≤ 8 by decide) dknow_27 gu ⟨by decide, by decide⟩ ⟨by omega, by omega⟩ (show 1 ≤ 4 ∧ 4 ≤ 8 by omega) (show 0 ≤ a1 ∧ a1 ≤ 900 by omega) ?_
            intro w8 w9 k27_0 g10
            replace k27_0 : 1 ≤ w8 ∧ w8 ≤ 8 ∧ -2147483648 ≤ w9 ∧ w9 ≤ 2147483647 := k27_0
            replace g10 : mo_G Zz (ja_up (ja_up (ja_up (ja_up h 0 11 f) 0 12 p) 0 11 w8) 0 12 w9) := g10
            show mJ l D cA ad 2 cX12_know 3 none 30 [(0, (2, ((0 : Nat) : Int))), (1, (0, a1)), (2, (0, x2))] [] (ja_up (ja_up (ja_up (ja_up h 0 11 f) 0 12 p) 0 11 w8) 0 12 w9) Q
            refine ja_iinc dknow_30 rfl (by decide) (L2 := [(2, (0, (x2 + 1))), (0, (2, ((0 : Nat) : Int))), (1, (0, a1))]) rfl ?_
            refine ja_goto 2 dknow_33 rfl ?_
            have hE2 : ja_up (ja_up (ja_up (ja_up h 0 11 f) 0 12 p) 0 11 w8) 0 12 w9 = ja_up (ja_up h 0 11 w8) 0 12 w9 := by funext k j; simp only [ja_up]; repeat' split <;> simp_all
            rw [hE2]
            exact ja_wk (fun q hq => by simp only [List.mem_cons, List.not_mem_nil, or_false] at hq; rcases hq with rfl | rfl | rfl <;> rfl) ((ih ((20 - (x2 + 1)).toNat) (by omega)) w8 w9 (x2 + 1) (by rw [← hE2]; exact g10) ⟨by omega, by omega⟩ ⟨by omega, by omega⟩ ⟨by omega, by omega⟩ (show 0 ≤ (x2 + 1) ∧ (x2 + 1) ≤ (h 0 79) ∧ 0 ≤ w8 ∧ w8 ≤ 8 ∧ (1 ≤ w8 ∨ w8 = (h 0 11)) by omega) rfl)
  refine ja_iconst dknow_0 ?_
  refine ja_istore_n dknow_1 rfl (by decide) (L2 := [(2, (0, 0)), (0, (2, ((0 : Nat) : Int))), (1, (0, a1))]) rfl ?_
  have hE2 : h = ja_up (ja_up h 0 11 (h 0 11)) 0 12 (h 0 12) := by funext k j; simp only [ja_up]; repeat' split <;> simp_all
  rw [hE2]
  exact ja_wk (fun q hq => by simp only [List.mem_cons, List.not_mem_nil, or_false] at hq; rcases hq with rfl | rfl | rfl <;> rfl) ((CUT _) (h 0 11) (h 0 12) 0 (by rw [← hE2]; exact g) ⟨by omega, by omega⟩ ⟨by omega, by omega⟩ ⟨by decide, by decide⟩ (show 0 ≤ 0 ∧ 0 ≤ (h 0 79) ∧ 0 ≤ (h 0 11) ∧ (h 0 11) ≤ 8 ∧ (1 ≤ (h 0 11) ∨ (h 0 11) = (h 0 11)) by omega) rfl)
theorem t_know {a1 : Int} {d nL pc : Nat} {cc : ByteArray} {rt : Option FieldType} {L : List (Nat × ja_V)} {S : List ja_V} {h : ja_H} {Q : Option ja_V → ja_H → Prop} (hdd : 2 < d) (hwd : ja_wd S ≤ 8) (hd : decode cc pc = .ok (.invokevirtual 820, 3)) (g : mo_G Zz h) (r1 : -2147483648 ≤ a1 ∧ a1 ≤ 2147483647) (p1 : 0 ≤ a1 ∧ a1 ≤ 900) (p2 : (h 0 79) ≤ 15) (p3 : (h 0 77) ≤ 14) (k1 : ∀ (f p : Int), (0 ≤ f ∧ f ≤ 8 ∧ (1 ≤ f ∨ f = (h 0 11)) ∧ -2147483648 ≤ p ∧ p ≤ 2147483647) → mo_G Zz (ja_up (ja_up (ja_up (ja_up (ja_up (ja_up h 0 11 f) 0 12 p) 49 (((h 0 79)).toNat) (h 5 (a1).toNat)) 50 (((h 0 79)).toNat) (h 0 77)) 0 79 ((h 0 79) + 1)) 0 77 ((h 0 77) + 1)) → mJ l D cA ad d cc nL rt (pc + 3) L S (ja_up (ja_up (ja_up (ja_up (ja_up (ja_up h 0 11 f) 0 12 p) 49 (((h 0 79)).toNat) (h 5 (a1).toNat)) 50 (((h 0 79)).toNat) (h 0 77)) 0 79 ((h 0 79) + 1)) 0 77 ((h 0 77) + 1)) Q) : mJ l D cA ad d cc nL rt pc L ((0, a1) :: (2, ((0 : Nat) : Int)) :: S) h Q :=
  mc_know hdd hwd hd (s_know g r1 p1 p2 p3 k1)
end
theorem dparam_0 : decode cX12_param 0 = .ok (.iconst 0, 1) := by decide +kernel
theorem dparam_1 : decode cX12_param 1 = .ok (.istore_n 2, 1) := by decide +kernel
theorem dparam_2 : decode cX12_param 2 = .ok (.iload_n 2, 1) := by decide +kernel
theorem dparam_3 : decode cX12_param 3 = .ok (.aload_n 0, 1) := by decide +kernel
theorem dparam_4 : decode cX12_param 4 = .ok (.getfield 704, 3) := by decide +kernel
theorem dparam_7 : decode cX12_param 7 = .ok (.if_icmp .ge 33, 3) := by decide +kernel
theorem dparam_10 : decode cX12_param 10 = .ok (.aload_n 0, 1) := by decide +kernel
theorem dparam_11 : decode cX12_param 11 = .ok (.aload_n 0, 1) := by decide +kernel
theorem dparam_12 : decode cX12_param 12 = .ok (.getfield 161, 3) := by decide +kernel
theorem dparam_15 : decode cX12_param 15 = .ok (.iload_n 2, 1) := by decide +kernel
theorem dparam_16 : decode cX12_param 16 = .ok (.iaload, 1) := by decide +kernel
theorem dparam_17 : decode cX12_param 17 = .ok (.invokevirtual 716, 3) := by decide +kernel
theorem dparam_20 : decode cX12_param 20 = .ok (.aload_n 0, 1) := by decide +kernel
theorem dparam_21 : decode cX12_param 21 = .ok (.iload_n 1, 1) := by decide +kernel
theorem dparam_22 : decode cX12_param 22 = .ok (.invokevirtual 716, 3) := by decide +kernel
theorem dparam_25 : decode cX12_param 25 = .ok (.if_icmp .ne 9, 3) := by decide +kernel
theorem dparam_28 : decode cX12_param 28 = .ok (.aload_n 0, 1) := by decide +kernel
theorem dparam_29 : decode cX12_param 29 = .ok (.iconst 4, 1) := by decide +kernel
theorem dparam_30 : decode cX12_param 30 = .ok (.iload_n 1, 1) := by decide +kernel
theorem dparam_31 : decode cX12_param 31 = .ok (.invokevirtual 719, 3) := by decide +kernel
theorem dparam_34 : decode cX12_param 34 = .ok (.iinc 2 1, 3) := by decide +kernel
theorem dparam_37 : decode cX12_param 37 = .ok (.goto (-35), 3) := by decide +kernel
theorem dparam_40 : decode cX12_param 40 = .ok (.aload_n 0, 1) := by decide +kernel
theorem dparam_41 : decode cX12_param 41 = .ok (.getfield 161, 3) := by decide +kernel
theorem dparam_44 : decode cX12_param 44 = .ok (.aload_n 0, 1) := by decide +kernel
theorem dparam_45 : decode cX12_param 45 = .ok (.getfield 704, 3) := by decide +kernel
theorem dparam_48 : decode cX12_param 48 = .ok (.iload_n 1, 1) := by decide +kernel
theorem dparam_49 : decode cX12_param 49 = .ok (.iastore, 1) := by decide +kernel
theorem dparam_50 : decode cX12_param 50 = .ok (.aload_n 0, 1) := by decide +kernel
theorem dparam_51 : decode cX12_param 51 = .ok (.dup, 1) := by decide +kernel
theorem dparam_52 : decode cX12_param 52 = .ok (.getfield 704, 3) := by decide +kernel
theorem dparam_55 : decode cX12_param 55 = .ok (.iconst 1, 1) := by decide +kernel
theorem dparam_56 : decode cX12_param 56 = .ok (.iadd, 1) := by decide +kernel
theorem dparam_57 : decode cX12_param 57 = .ok (.putfield 704, 3) := by decide +kernel
theorem dparam_60 : decode cX12_param 60 = .ok (.return_, 1) := by decide +kernel
section
variable {l : Launch} {D : va_G} {cA : Nat → ClassId} {ad : Nat → Nat}
theorem s_param {a1 : Int} {h : ja_H} {Q : Option ja_V → ja_H → Prop} (g : mo_G Zz h) (r1 : -2147483648 ≤ a1 ∧ a1 ≤ 2147483647) (p1 : 0 ≤ a1 ∧ a1 ≤ 900) (p2 : (h 0 82) ≤ 6) (k1 : ∀ (f p : Int), (0 ≤ f ∧ f ≤ 8 ∧ (1 ≤ f ∨ f = (h 0 11)) ∧ -2147483648 ≤ p ∧ p ≤ 2147483647) → mo_G Zz (ja_up (ja_up (ja_up (ja_up h 0 11 f) 0 12 p) 51 (((h 0 82)).toNat) a1) 0 82 ((h 0 82) + 1)) → Q none (ja_up (ja_up (ja_up (ja_up h 0 11 f) 0 12 p) 51 (((h 0 82)).toNat) a1) 0 82 ((h 0 82) + 1))) : mM_param l D cA ad a1 h Q := by
  show mJ l D cA ad 2 cX12_param 3 none 0 [(0, (2, ((0 : Nat) : Int))), (1, (0, a1))] [] h Q
  have kn_params := gF_params g
  have kn_false1 := gF_false1 g
  have kn_falseAt := gF_falseAt g
  have CUT : ∀ n : Nat, (∀ (f p x2 : Int), mo_G Zz (ja_up (ja_up h 0 11 f) 0 12 p) → (-2147483648 ≤ f ∧ f ≤ 2147483647) → (-2147483648 ≤ p ∧ p ≤ 2147483647) → (-2147483648 ≤ x2 ∧ x2 ≤ 2147483647) → (0 ≤ x2 ∧ x2 ≤ (h 0 82) ∧ 0 ≤ f ∧ f ≤ 8 ∧ (1 ≤ f ∨ f = (h 0 11))) → ((20 - x2).toNat) = n → mJ l D cA ad 2 cX12_param 3 none 2 [(0, (2, ((0 : Nat) : Int))), (1, (0, a1)), (2, (0, x2))] [] (ja_up (ja_up h 0 11 f) 0 12 p) Q) := by
    intro n
    induction n using Nat.strongRecOn with
    | _ n ih =>
      skip
      · intro f p x2 gu qf qp qx2 iv hm
        subst hm
        refine ja_iload_n dparam_2 rfl rfl ?_
        refine ja_aload_n dparam_3 rfl rfl ?_
        refine fg_params (v := h 0 82) rfl dparam_4 ?_
        have f1 := gF_params g
        refine ja_icmp_ge 40 dparam_7 rfl ⟨by omega, by omega⟩ ⟨by omega, by omega⟩ (fun c7 => ?_) (fun c7 => ?_)
        · refine ja_aload_n dparam_40 rfl rfl ?_
          refine fa_paramName dparam_41 ?_
          refine ja_aload_n dparam_44 rfl rfl ?_
          refine fg_params (v := h 0 82) rfl dparam_45 ?_
          refine ja_iload_n dparam_48 rfl rfl ?_
          have g2 := gW_paramName gu (h 0 82).toNat (x := a1) ⟨by omega, by omega⟩
          refine is_paramName ⟨by omega, by omega⟩ dparam_49 ?_
          refine ja_aload_n dparam_50 rfl rfl ?_
          refine ja_dup dparam_51 (by decide) ?_
          refine fg_params (v := h 0 82) rfl dparam_52 ?_
          refine ja_iconst dparam_55 ?_
          refine ja_iadd dparam_56 ?_
          have g3 := gP_params g2 (x := (h 0 82) + 1) ⟨by omega, by omega⟩
          refine fp_params dparam_57 ?_
          refine ja_return dparam_60 rfl ?_
          exact k1 f p (by omega) g3
        · refine ja_aload_n dparam_10 rfl rfl ?_
          refine ja_aload_n dparam_11 rfl rfl ?_
          refine fa_paramName dparam_12 ?_
          refine ja_iload_n dparam_15 rfl rfl ?_
          refine il_paramName (v := h 51 (x2).toNat) rfl ⟨by omega, by omega⟩ dparam_16 ?_
          have f4 := gC_paramName g (x2).toNat
          refine t_id (by decide) (show (0 : Nat) ≤ 8 by decide) dparam_17 gu ⟨by omega, by omega⟩ (show 0 ≤ (h 51 (x2).toNat) ∧ (h 51 (x2).toNat) ≤ 900 by omega) ?_
          intro k17_0
          replace k17_0 : -2147483648 ≤ (h 5 (h 51 (x2).toNat).toNat) ∧ (h 5 (h 51 (x2).toNat).toNat) ≤ 2147483647 := k17_0
          show mJ l D cA ad 2 cX12_param 3 none 20 [(0, (2, ((0 : Nat) : Int))), (1, (0, a1)), (2, (0, x2))] [(0, (h 5 (h 51 (x2).toNat).toNat))] (ja_up (ja_up h 0 11 f) 0 12 p) Q
          refine ja_aload_n dparam_20 rfl rfl ?_
          refine ja_iload_n dparam_21 rfl rfl ?_
          refine t_id (by decide) (show (1 : Nat) ≤ 8 by decide) dparam_22 gu ⟨by omega, by omega⟩ (show 0 ≤ a1 ∧ a1 ≤ 900 by omega) ?_
          intro k22_0
          replace k22_0 : -2147483648 ≤ (h 5 (a1).toNat) ∧ (h 5 (a1).toNat) ≤ 2147483647 := k22_0
          show mJ l D cA ad 2 cX12_param 3 none 25 [(0, (2, ((0 : Nat) : Int))), (1, (0, a1)), (2, (0, x2))] [(0, (h 5 (a1).toNat)), (0, (h 5 (h 51 (x2).toNat).toNat))] (ja_up (ja_up h 0 11 f) 0 12 p) Q
          refine ja_icmp_ne 34 dparam_25 rfl ⟨by omega, by omega⟩ ⟨by omega, by omega⟩ (fun c25 => ?_) (fun c25 => ?_)
          · refine ja_iinc dparam_34 rfl (by decide) (L2 := [(2, (0, (x2 + 1))), (0, (2, ((0 : Nat) : Int))), (1, (0, a1))]) rfl ?_
            refine ja_goto 2 dparam_37 rfl ?_
            exact ja_wk (fun q hq => by simp only [List.mem_cons, List.not_mem_nil, or_false] at hq; rcases hq with rfl | rfl | rfl <;> rfl) ((ih ((20 - (x2 + 1)).toNat) (by omega)) f p (x2 + 1) gu ⟨by omega, by omega⟩ ⟨by omega, by omega⟩ ⟨by omega, by omega⟩ (show 0 ≤ (x2 + 1) ∧ (x2 + 1) ≤ (h 0 82) ∧ 0 ≤ f ∧ f ≤ 8 ∧ (1 ≤ f ∨ f = (h 0 11)) by omega) rfl)
          · refine ja_aload_n dparam_28 rfl rfl ?_
            refine ja_iconst dparam_29 ?_
            refine ja_iload_n dparam_30 rfl rfl ?_
            refine t_judge (by decide) (show (0 : Nat) ≤ 8 by decide) dparam_31 gu ⟨by decide, by decide⟩ ⟨by omega, by omega⟩ (show 1 ≤ 4 ∧ 4 ≤ 8 by omega) (show 0 ≤ a1 ∧ a1 ≤ 900 by omega) ?_
            intro w5 w6 k31_0 g7
            replace k31_0 : 1 ≤ w5 ∧ w5 ≤ 8 ∧ -2147483648 ≤ w6 ∧ w6 ≤ 2147483647 := k31_0
            replace g7 : mo_G Zz (ja_up (ja_up (ja_up (ja_up h 0 11 f) 0 12 p) 0 11 w5) 0 12 w6) := g7
            show mJ l D cA ad 2 cX12_param 3 none 34 [(0, (2, ((0 : Nat) : Int))), (1, (0, a1)), (2, (0, x2))] [] (ja_up (ja_up (ja_up (ja_up h 0 11 f) 0 12 p) 0 11 w5) 0 12 w6) Q
            refine ja_iinc dparam_34 rfl (by decide) (L2 := [(2, (0, (x2 + 1))), (0, (2, ((0 : Nat) : Int))), (1, (0, a1))]) rfl ?_
            refine ja_goto 2 dparam_37 rfl ?_
            have hE2 : ja_up (ja_up (ja_up (ja_up h 0 11 f) 0 12 p) 0 11 w5) 0 12 w6 = ja_up (ja_up h 0 11 w5) 0 12 w6 := by funext k j; simp only [ja_up]; repeat' split <;> simp_all
            rw [hE2]
            exact ja_wk (fun q hq => by simp only [List.mem_cons, List.not_mem_nil, or_false] at hq; rcases hq with rfl | rfl | rfl <;> rfl) ((ih ((20 - (x2 + 1)).toNat) (by omega)) w5 w6 (x2 + 1) (by rw [← hE2]; exact g7) ⟨by omega, by omega⟩ ⟨by omega, by omega⟩ ⟨by omega, by omega⟩ (show 0 ≤ (x2 + 1) ∧ (x2 + 1) ≤ (h 0 82) ∧ 0 ≤ w5 ∧ w5 ≤ 8 ∧ (1 ≤ w5 ∨ w5 = (h 0 11)) by omega) rfl)
  refine ja_iconst dparam_0 ?_
  refine ja_istore_n dparam_1 rfl (by decide) (L2 := [(2, (0, 0)), (0, (2, ((0 : Nat) : Int))), (1, (0, a1))]) rfl ?_
  have hE2 : h = ja_up (ja_up h 0 11 (h 0 11)) 0 12 (h 0 12) := by funext k j; simp only [ja_up]; repeat' split <;> simp_all
  rw [hE2]
  exact ja_wk (fun q hq => by simp only [List.mem_cons, List.not_mem_nil, or_false] at hq; rcases hq with rfl | rfl | rfl <;> rfl) ((CUT _) (h 0 11) (h 0 12) 0 (by rw [← hE2]; exact g) ⟨by omega, by omega⟩ ⟨by omega, by omega⟩ ⟨by decide, by decide⟩ (show 0 ≤ 0 ∧ 0 ≤ (h 0 82) ∧ 0 ≤ (h 0 11) ∧ (h 0 11) ≤ 8 ∧ (1 ≤ (h 0 11) ∨ (h 0 11) = (h 0 11)) by omega) rfl)
theorem t_param {a1 : Int} {d nL pc : Nat} {cc : ByteArray} {rt : Option FieldType} {L : List (Nat × ja_V)} {S : List ja_V} {h : ja_H} {Q : Option ja_V → ja_H → Prop} (hdd : 2 < d) (hwd : ja_wd S ≤ 8) (hd : decode cc pc = .ok (.invokevirtual 757, 3)) (g : mo_G Zz h) (r1 : -2147483648 ≤ a1 ∧ a1 ≤ 2147483647) (p1 : 0 ≤ a1 ∧ a1 ≤ 900) (p2 : (h 0 82) ≤ 6) (k1 : ∀ (f p : Int), (0 ≤ f ∧ f ≤ 8 ∧ (1 ≤ f ∨ f = (h 0 11)) ∧ -2147483648 ≤ p ∧ p ≤ 2147483647) → mo_G Zz (ja_up (ja_up (ja_up (ja_up h 0 11 f) 0 12 p) 51 (((h 0 82)).toNat) a1) 0 82 ((h 0 82) + 1)) → mJ l D cA ad d cc nL rt (pc + 3) L S (ja_up (ja_up (ja_up (ja_up h 0 11 f) 0 12 p) 51 (((h 0 82)).toNat) a1) 0 82 ((h 0 82) + 1)) Q) : mJ l D cA ad d cc nL rt pc L ((0, a1) :: (2, ((0 : Nat) : Int)) :: S) h Q :=
  mc_param hdd hwd hd (s_param g r1 p1 p2 k1)
end
theorem dparamOf_0 : decode cX12_paramOf 0 = .ok (.iconst 0, 1) := by decide +kernel
theorem dparamOf_1 : decode cX12_paramOf 1 = .ok (.istore_n 2, 1) := by decide +kernel
theorem dparamOf_2 : decode cX12_paramOf 2 = .ok (.iload_n 2, 1) := by decide +kernel
theorem dparamOf_3 : decode cX12_paramOf 3 = .ok (.aload_n 0, 1) := by decide +kernel
theorem dparamOf_4 : decode cX12_paramOf 4 = .ok (.getfield 704, 3) := by decide +kernel
theorem dparamOf_7 : decode cX12_paramOf 7 = .ok (.if_icmp .ge 29, 3) := by decide +kernel
theorem dparamOf_10 : decode cX12_paramOf 10 = .ok (.aload_n 0, 1) := by decide +kernel
theorem dparamOf_11 : decode cX12_paramOf 11 = .ok (.aload_n 0, 1) := by decide +kernel
theorem dparamOf_12 : decode cX12_paramOf 12 = .ok (.getfield 161, 3) := by decide +kernel
theorem dparamOf_15 : decode cX12_paramOf 15 = .ok (.iload_n 2, 1) := by decide +kernel
theorem dparamOf_16 : decode cX12_paramOf 16 = .ok (.iaload, 1) := by decide +kernel
theorem dparamOf_17 : decode cX12_paramOf 17 = .ok (.invokevirtual 716, 3) := by decide +kernel
theorem dparamOf_20 : decode cX12_paramOf 20 = .ok (.aload_n 0, 1) := by decide +kernel
theorem dparamOf_21 : decode cX12_paramOf 21 = .ok (.iload_n 1, 1) := by decide +kernel
theorem dparamOf_22 : decode cX12_paramOf 22 = .ok (.invokevirtual 716, 3) := by decide +kernel
theorem dparamOf_25 : decode cX12_paramOf 25 = .ok (.if_icmp .ne 5, 3) := by decide +kernel
theorem dparamOf_28 : decode cX12_paramOf 28 = .ok (.iload_n 2, 1) := by decide +kernel
theorem dparamOf_29 : decode cX12_paramOf 29 = .ok (.ireturn, 1) := by decide +kernel
theorem dparamOf_30 : decode cX12_paramOf 30 = .ok (.iinc 2 1, 3) := by decide +kernel
theorem dparamOf_33 : decode cX12_paramOf 33 = .ok (.goto (-31), 3) := by decide +kernel
theorem dparamOf_36 : decode cX12_paramOf 36 = .ok (.iconst (-1), 1) := by decide +kernel
theorem dparamOf_37 : decode cX12_paramOf 37 = .ok (.ireturn, 1) := by decide +kernel
section
variable {l : Launch} {D : va_G} {cA : Nat → ClassId} {ad : Nat → Nat}
theorem s_paramOf {a1 : Int} {h : ja_H} {Q : Option ja_V → ja_H → Prop} (g : mo_G Zz h) (r1 : -2147483648 ≤ a1 ∧ a1 ≤ 2147483647) (p1 : 0 ≤ a1 ∧ a1 ≤ 900) (k1 : ∀ (v : Int), (-1 ≤ v ∧ v < (h 0 82)) → Q (some (0, v)) h) : mM_paramOf l D cA ad a1 h Q := by
  show mJ l D cA ad 2 cX12_paramOf 3 (some .int) 0 [(0, (2, ((0 : Nat) : Int))), (1, (0, a1))] [] h Q
  have kn_params := gF_params g
  have CUT : ∀ n : Nat, (∀ (x2 : Int), (-2147483648 ≤ x2 ∧ x2 ≤ 2147483647) → (0 ≤ x2 ∧ x2 ≤ (h 0 82)) → ((20 - x2).toNat) = n → mJ l D cA ad 2 cX12_paramOf 3 (some .int) 2 [(0, (2, ((0 : Nat) : Int))), (1, (0, a1)), (2, (0, x2))] [] h Q) := by
    intro n
    induction n using Nat.strongRecOn with
    | _ n ih =>
      skip
      · intro x2 qx2 iv hm
        subst hm
        refine ja_iload_n dparamOf_2 rfl rfl ?_
        refine ja_aload_n dparamOf_3 rfl rfl ?_
        refine fg_params (v := h 0 82) rfl dparamOf_4 ?_
        have f1 := gF_params g
        refine ja_icmp_ge 36 dparamOf_7 rfl ⟨by omega, by omega⟩ ⟨by omega, by omega⟩ (fun c7 => ?_) (fun c7 => ?_)
        · refine ja_iconst dparamOf_36 ?_
          refine ja_ireturn dparamOf_37 rfl ?_
          exact mo_fin (by omega) rfl (k1 (-1) (by omega))
        · refine ja_aload_n dparamOf_10 rfl rfl ?_
          refine ja_aload_n dparamOf_11 rfl rfl ?_
          refine fa_paramName dparamOf_12 ?_
          refine ja_iload_n dparamOf_15 rfl rfl ?_
          refine il_paramName (v := h 51 (x2).toNat) rfl ⟨by omega, by omega⟩ dparamOf_16 ?_
          have f2 := gC_paramName g (x2).toNat
          refine t_id (by decide) (show (0 : Nat) ≤ 8 by decide) dparamOf_17 g ⟨by omega, by omega⟩ (show 0 ≤ (h 51 (x2).toNat) ∧ (h 51 (x2).toNat) ≤ 900 by omega) ?_
          intro k17_0
          refine ja_aload_n dparamOf_20 rfl rfl ?_
          refine ja_iload_n dparamOf_21 rfl rfl ?_
          refine t_id (by decide) (show (1 : Nat) ≤ 8 by decide) dparamOf_22 g ⟨by omega, by omega⟩ (show 0 ≤ a1 ∧ a1 ≤ 900 by omega) ?_
          intro k22_0
          refine ja_icmp_ne 30 dparamOf_25 rfl ⟨by omega, by omega⟩ ⟨by omega, by omega⟩ (fun c25 => ?_) (fun c25 => ?_)
          · refine ja_iinc dparamOf_30 rfl (by decide) (L2 := [(2, (0, (x2 + 1))), (0, (2, ((0 : Nat) : Int))), (1, (0, a1))]) rfl ?_
            refine ja_goto 2 dparamOf_33 rfl ?_
            exact ja_wk (fun q hq => by simp only [List.mem_cons, List.not_mem_nil, or_false] at hq; rcases hq with rfl | rfl | rfl <;> rfl) ((ih ((20 - (x2 + 1)).toNat) (by omega)) (x2 + 1)  ⟨by omega, by omega⟩ (show 0 ≤ (x2 + 1) ∧ (x2 + 1) ≤ (h 0 82) by omega) rfl)
          · refine ja_iload_n dparamOf_28 rfl rfl ?_
            refine ja_ireturn dparamOf_29 rfl ?_
            exact mo_fin (by omega) rfl (k1 x2 (by omega))
  refine ja_iconst dparamOf_0 ?_
  refine ja_istore_n dparamOf_1 rfl (by decide) (L2 := [(2, (0, 0)), (0, (2, ((0 : Nat) : Int))), (1, (0, a1))]) rfl ?_
  exact ja_wk (fun q hq => by simp only [List.mem_cons, List.not_mem_nil, or_false] at hq; rcases hq with rfl | rfl | rfl <;> rfl) ((CUT _) 0  ⟨by decide, by decide⟩ (show 0 ≤ 0 ∧ 0 ≤ (h 0 82) by omega) rfl)
theorem t_paramOf {a1 : Int} {d nL pc : Nat} {cc : ByteArray} {rt : Option FieldType} {L : List (Nat × ja_V)} {S : List ja_V} {h : ja_H} {Q : Option ja_V → ja_H → Prop} (hdd : 2 < d) (hwd : ja_wd S ≤ 8) (hd : decode cc pc = .ok (.invokevirtual 885, 3)) (g : mo_G Zz h) (r1 : -2147483648 ≤ a1 ∧ a1 ≤ 2147483647) (p1 : 0 ≤ a1 ∧ a1 ≤ 900) (k1 : ∀ (v : Int), (-1 ≤ v ∧ v < (h 0 82)) → mJ l D cA ad d cc nL rt (pc + 3) L ((0, v) :: S) h Q) : mJ l D cA ad d cc nL rt pc L ((0, a1) :: (2, ((0 : Nat) : Int)) :: S) h Q :=
  mc_paramOf hdd hwd hd (s_paramOf g r1 p1 k1)
end
theorem dbind_0 : decode cX12_bind 0 = .ok (.aload_n 0, 1) := by decide +kernel
theorem dbind_1 : decode cX12_bind 1 = .ok (.getfield 692, 3) := by decide +kernel
theorem dbind_4 : decode cX12_bind 4 = .ok (.ifCond .le 13, 3) := by decide +kernel
theorem dbind_7 : decode cX12_bind 7 = .ok (.aload_n 0, 1) := by decide +kernel
theorem dbind_8 : decode cX12_bind 8 = .ok (.bipush 6, 2) := by decide +kernel
theorem dbind_10 : decode cX12_bind 10 = .ok (.iload_n 3, 1) := by decide +kernel
theorem dbind_11 : decode cX12_bind 11 = .ok (.invokevirtual 719, 3) := by decide +kernel
theorem dbind_14 : decode cX12_bind 14 = .ok (.goto 53, 3) := by decide +kernel
theorem dbind_17 : decode cX12_bind 17 = .ok (.aload_n 0, 1) := by decide +kernel
theorem dbind_18 : decode cX12_bind 18 = .ok (.getfield 206, 3) := by decide +kernel
theorem dbind_21 : decode cX12_bind 21 = .ok (.iload_n 1, 1) := by decide +kernel
theorem dbind_22 : decode cX12_bind 22 = .ok (.aload_n 0, 1) := by decide +kernel
theorem dbind_23 : decode cX12_bind 23 = .ok (.getfield 206, 3) := by decide +kernel
theorem dbind_26 : decode cX12_bind 26 = .ok (.iload_n 1, 1) := by decide +kernel
theorem dbind_27 : decode cX12_bind 27 = .ok (.baload, 1) := by decide +kernel
theorem dbind_28 : decode cX12_bind 28 = .ok (.ifCond .ne 17, 3) := by decide +kernel
theorem dbind_31 : decode cX12_bind 31 = .ok (.aload_n 0, 1) := by decide +kernel
theorem dbind_32 : decode cX12_bind 32 = .ok (.getfield 203, 3) := by decide +kernel
theorem dbind_35 : decode cX12_bind 35 = .ok (.iload_n 1, 1) := by decide +kernel
theorem dbind_36 : decode cX12_bind 36 = .ok (.iaload, 1) := by decide +kernel
theorem dbind_37 : decode cX12_bind 37 = .ok (.iload_n 2, 1) := by decide +kernel
theorem dbind_38 : decode cX12_bind 38 = .ok (.ishr, 1) := by decide +kernel
theorem dbind_39 : decode cX12_bind 39 = .ok (.iconst 1, 1) := by decide +kernel
theorem dbind_40 : decode cX12_bind 40 = .ok (.iand, 1) := by decide +kernel
theorem dbind_41 : decode cX12_bind 41 = .ok (.iconst 1, 1) := by decide +kernel
theorem dbind_42 : decode cX12_bind 42 = .ok (.if_icmp .ne 7, 3) := by decide +kernel
theorem dbind_45 : decode cX12_bind 45 = .ok (.iconst 1, 1) := by decide +kernel
theorem dbind_46 : decode cX12_bind 46 = .ok (.goto 4, 3) := by decide +kernel
theorem dbind_49 : decode cX12_bind 49 = .ok (.iconst 0, 1) := by decide +kernel
theorem dbind_50 : decode cX12_bind 50 = .ok (.bastore, 1) := by decide +kernel
theorem dbind_51 : decode cX12_bind 51 = .ok (.aload_n 0, 1) := by decide +kernel
theorem dbind_52 : decode cX12_bind 52 = .ok (.getfield 203, 3) := by decide +kernel
theorem dbind_55 : decode cX12_bind 55 = .ok (.iload_n 1, 1) := by decide +kernel
theorem dbind_56 : decode cX12_bind 56 = .ok (.aload_n 0, 1) := by decide +kernel
theorem dbind_57 : decode cX12_bind 57 = .ok (.getfield 203, 3) := by decide +kernel
theorem dbind_60 : decode cX12_bind 60 = .ok (.iload_n 1, 1) := by decide +kernel
theorem dbind_61 : decode cX12_bind 61 = .ok (.iaload, 1) := by decide +kernel
theorem dbind_62 : decode cX12_bind 62 = .ok (.iconst 1, 1) := by decide +kernel
theorem dbind_63 : decode cX12_bind 63 = .ok (.iload_n 2, 1) := by decide +kernel
theorem dbind_64 : decode cX12_bind 64 = .ok (.ishl, 1) := by decide +kernel
theorem dbind_65 : decode cX12_bind 65 = .ok (.ior, 1) := by decide +kernel
theorem dbind_66 : decode cX12_bind 66 = .ok (.iastore, 1) := by decide +kernel
theorem dbind_67 : decode cX12_bind 67 = .ok (.return_, 1) := by decide +kernel
section
variable {l : Launch} {D : va_G} {cA : Nat → ClassId} {ad : Nat → Nat}
theorem s_bind {a1 a2 a3 : Int} {h : ja_H} {Q : Option ja_V → ja_H → Prop} (g : mo_G Zz h) (r1 : -2147483648 ≤ a1 ∧ a1 ≤ 2147483647) (r2 : -2147483648 ≤ a2 ∧ a2 ≤ 2147483647) (r3 : -2147483648 ≤ a3 ∧ a3 ≤ 2147483647) (p1 : 0 ≤ a1 ∧ a1 ≤ 899) (p2 : 0 ≤ a3 ∧ a3 ≤ 900) (k1 : ∀ (f p tw b : Int), (0 ≤ f ∧ f ≤ 8 ∧ (1 ≤ f ∨ f = (h 0 11)) ∧ -2147483648 ≤ p ∧ p ≤ 2147483647 ∧ 0 ≤ tw ∧ tw ≤ 1 ∧ -2147483648 ≤ b ∧ b ≤ 2147483647) → mo_G Zz (ja_up (ja_up (ja_up (ja_up h 0 11 f) 0 12 p) 66 ((a1).toNat) tw) 65 ((a1).toNat) b) → Q none (ja_up (ja_up (ja_up (ja_up h 0 11 f) 0 12 p) 66 ((a1).toNat) tw) 65 ((a1).toNat) b)) : mM_bind l D cA ad a1 a2 a3 h Q := by
  show mJ l D cA ad 2 cX12_bind 4 none 0 [(0, (2, ((0 : Nat) : Int))), (1, (0, a1)), (2, (0, a2)), (3, (0, a3))] [] h Q
  have kn_false1 := gF_false1 g
  have kn_falseAt := gF_falseAt g
  have kt := gC_nodeTwice g a1.toNat
  have kb := gC_nodeBinds g a1.toNat
  refine ja_aload_n dbind_0 rfl rfl ?_
  refine fg_quiet (v := h 0 84) rfl dbind_1 ?_
  have f1 := gF_quiet g
  refine ja_if_le 17 dbind_4 rfl ⟨by omega, by omega⟩ (fun c4 => ?_) (fun c4 => ?_)
  · refine ja_aload_n dbind_17 rfl rfl ?_
    refine fa_nodeTwice dbind_18 ?_
    refine ja_iload_n dbind_21 rfl rfl ?_
    refine ja_aload_n dbind_22 rfl rfl ?_
    refine fa_nodeTwice dbind_23 ?_
    refine ja_iload_n dbind_26 rfl rfl ?_
    refine il_nodeTwice (v := h 66 (a1).toNat) rfl ⟨by omega, by omega⟩ dbind_27 ?_
    have f2 := gC_nodeTwice g (a1).toNat
    refine ja_if_ne 45 dbind_28 rfl ⟨by omega, by omega⟩ (fun c28 => ?_) (fun c28 => ?_)
    · refine ja_iconst dbind_45 ?_
      refine ja_goto 50 dbind_46 rfl ?_
      have g3 := gW_nodeTwice g (a1).toNat (x := 1) ⟨by decide, by decide⟩
      refine is_nodeTwice ⟨by omega, by omega⟩ (by omega) dbind_50 ?_
      refine ja_aload_n dbind_51 rfl rfl ?_
      refine fa_nodeBinds dbind_52 ?_
      refine ja_iload_n dbind_55 rfl rfl ?_
      refine ja_aload_n dbind_56 rfl rfl ?_
      refine fa_nodeBinds dbind_57 ?_
      refine ja_iload_n dbind_60 rfl rfl ?_
      refine il_nodeBinds (v := h 65 (a1).toNat) rfl ⟨by omega, by omega⟩ dbind_61 ?_
      have f4 := gC_nodeBinds g (a1).toNat
      refine ja_iconst dbind_62 ?_
      refine ja_iload_n dbind_63 rfl rfl ?_
      refine mo_hishl dbind_64 (fun v5 rv5 => ?_)
      refine mo_hior dbind_65 (fun v6 rv6 => ?_)
      have g7 := gW_nodeBinds g3 (a1).toNat (x := v6) ⟨by omega, by omega⟩
      refine is_nodeBinds ⟨by omega, by omega⟩ dbind_66 ?_
      refine ja_return dbind_67 rfl ?_
      have hE : ja_up (ja_up h 66 ((a1).toNat) 1) 65 ((a1).toNat) v6 = ja_up (ja_up (ja_up (ja_up h 0 11 (h 0 11)) 0 12 (h 0 12)) 66 ((a1).toNat) 1) 65 ((a1).toNat) v6 := by funext k j; simp only [ja_up]; repeat' split <;> simp_all
      rw [hE]; exact k1 (h 0 11) (h 0 12) 1 v6 (by omega) (by rw [← hE]; exact g7)
    · refine ja_aload_n dbind_31 rfl rfl ?_
      refine fa_nodeBinds dbind_32 ?_
      refine ja_iload_n dbind_35 rfl rfl ?_
      refine il_nodeBinds (v := h 65 (a1).toNat) rfl ⟨by omega, by omega⟩ dbind_36 ?_
      have f8 := gC_nodeBinds g (a1).toNat
      refine ja_iload_n dbind_37 rfl rfl ?_
      refine mo_hishr dbind_38 (fun v9 rv9 => ?_)
      refine ja_iconst dbind_39 ?_
      refine mo_iandc dbind_40 (by decide) (fun v10 rv10 => ?_)
      refine ja_iconst dbind_41 ?_
      refine ja_icmp_ne 49 dbind_42 rfl ⟨by omega, by omega⟩ ⟨by decide, by decide⟩ (fun c42 => ?_) (fun c42 => ?_)
      · refine ja_iconst dbind_49 ?_
        have g11 := gW_nodeTwice g (a1).toNat (x := 0) ⟨by decide, by decide⟩
        refine is_nodeTwice ⟨by omega, by omega⟩ (by omega) dbind_50 ?_
        refine ja_aload_n dbind_51 rfl rfl ?_
        refine fa_nodeBinds dbind_52 ?_
        refine ja_iload_n dbind_55 rfl rfl ?_
        refine ja_aload_n dbind_56 rfl rfl ?_
        refine fa_nodeBinds dbind_57 ?_
        refine ja_iload_n dbind_60 rfl rfl ?_
        refine il_nodeBinds (v := h 65 (a1).toNat) rfl ⟨by omega, by omega⟩ dbind_61 ?_
        refine ja_iconst dbind_62 ?_
        refine ja_iload_n dbind_63 rfl rfl ?_
        refine mo_hishl dbind_64 (fun v12 rv12 => ?_)
        refine mo_hior dbind_65 (fun v13 rv13 => ?_)
        have g14 := gW_nodeBinds g11 (a1).toNat (x := v13) ⟨by omega, by omega⟩
        refine is_nodeBinds ⟨by omega, by omega⟩ dbind_66 ?_
        refine ja_return dbind_67 rfl ?_
        have hE : ja_up (ja_up h 66 ((a1).toNat) 0) 65 ((a1).toNat) v13 = ja_up (ja_up (ja_up (ja_up h 0 11 (h 0 11)) 0 12 (h 0 12)) 66 ((a1).toNat) 0) 65 ((a1).toNat) v13 := by funext k j; simp only [ja_up]; repeat' split <;> simp_all
        rw [hE]; exact k1 (h 0 11) (h 0 12) 0 v13 (by omega) (by rw [← hE]; exact g14)
      · refine ja_iconst dbind_45 ?_
        refine ja_goto 50 dbind_46 rfl ?_
        have g15 := gW_nodeTwice g (a1).toNat (x := 1) ⟨by decide, by decide⟩
        refine is_nodeTwice ⟨by omega, by omega⟩ (by omega) dbind_50 ?_
        refine ja_aload_n dbind_51 rfl rfl ?_
        refine fa_nodeBinds dbind_52 ?_
        refine ja_iload_n dbind_55 rfl rfl ?_
        refine ja_aload_n dbind_56 rfl rfl ?_
        refine fa_nodeBinds dbind_57 ?_
        refine ja_iload_n dbind_60 rfl rfl ?_
        refine il_nodeBinds (v := h 65 (a1).toNat) rfl ⟨by omega, by omega⟩ dbind_61 ?_
        refine ja_iconst dbind_62 ?_
        refine ja_iload_n dbind_63 rfl rfl ?_
        refine mo_hishl dbind_64 (fun v16 rv16 => ?_)
        refine mo_hior dbind_65 (fun v17 rv17 => ?_)
        have g18 := gW_nodeBinds g15 (a1).toNat (x := v17) ⟨by omega, by omega⟩
        refine is_nodeBinds ⟨by omega, by omega⟩ dbind_66 ?_
        refine ja_return dbind_67 rfl ?_
        have hE : ja_up (ja_up h 66 ((a1).toNat) 1) 65 ((a1).toNat) v17 = ja_up (ja_up (ja_up (ja_up h 0 11 (h 0 11)) 0 12 (h 0 12)) 66 ((a1).toNat) 1) 65 ((a1).toNat) v17 := by funext k j; simp only [ja_up]; repeat' split <;> simp_all
        rw [hE]; exact k1 (h 0 11) (h 0 12) 1 v17 (by omega) (by rw [← hE]; exact g18)
  · refine ja_aload_n dbind_7 rfl rfl ?_
    refine ja_bipush 6 dbind_8 rfl ?_
    refine ja_iload_n dbind_10 rfl rfl ?_
    refine t_judge (by decide) (show (0 : Nat) ≤ 8 by decide) dbind_11 g ⟨by decide, by decide⟩ ⟨by omega, by omega⟩ (show 1 ≤ 6 ∧ 6 ≤ 8 by omega) (show 0 ≤ a3 ∧ a3 ≤ 900 by omega) ?_
    intro w19 w20 k11_0 g21
    replace k11_0 : 1 ≤ w19 ∧ w19 ≤ 8 ∧ -2147483648 ≤ w20 ∧ w20 ≤ 2147483647 := k11_0
    replace g21 : mo_G Zz (ja_up (ja_up h 0 11 w19) 0 12 w20) := g21
    show mJ l D cA ad 2 cX12_bind 4 none 14 [(0, (2, ((0 : Nat) : Int))), (1, (0, a1)), (2, (0, a2)), (3, (0, a3))] [] (ja_up (ja_up h 0 11 w19) 0 12 w20) Q
    refine ja_goto 67 dbind_14 rfl ?_
    refine ja_return dbind_67 rfl ?_
    have hE : ja_up (ja_up h 0 11 w19) 0 12 w20 = ja_up (ja_up (ja_up (ja_up h 0 11 w19) 0 12 w20) 66 ((a1).toNat) (h 66 (a1).toNat)) 65 ((a1).toNat) (h 65 (a1).toNat) := by funext k j; simp only [ja_up]; repeat' split <;> simp_all
    rw [hE]; exact k1 w19 w20 (h 66 (a1).toNat) (h 65 (a1).toNat) (by omega) (by rw [← hE]; exact g21)
theorem t_bind {a1 a2 a3 : Int} {d nL pc : Nat} {cc : ByteArray} {rt : Option FieldType} {L : List (Nat × ja_V)} {S : List ja_V} {h : ja_H} {Q : Option ja_V → ja_H → Prop} (hdd : 2 < d) (hwd : ja_wd S ≤ 8) (hd : decode cc pc = .ok (.invokevirtual 888, 3)) (g : mo_G Zz h) (r1 : -2147483648 ≤ a1 ∧ a1 ≤ 2147483647) (r2 : -2147483648 ≤ a2 ∧ a2 ≤ 2147483647) (r3 : -2147483648 ≤ a3 ∧ a3 ≤ 2147483647) (p1 : 0 ≤ a1 ∧ a1 ≤ 899) (p2 : 0 ≤ a3 ∧ a3 ≤ 900) (k1 : ∀ (f p tw b : Int), (0 ≤ f ∧ f ≤ 8 ∧ (1 ≤ f ∨ f = (h 0 11)) ∧ -2147483648 ≤ p ∧ p ≤ 2147483647 ∧ 0 ≤ tw ∧ tw ≤ 1 ∧ -2147483648 ≤ b ∧ b ≤ 2147483647) → mo_G Zz (ja_up (ja_up (ja_up (ja_up h 0 11 f) 0 12 p) 66 ((a1).toNat) tw) 65 ((a1).toNat) b) → mJ l D cA ad d cc nL rt (pc + 3) L S (ja_up (ja_up (ja_up (ja_up h 0 11 f) 0 12 p) 66 ((a1).toNat) tw) 65 ((a1).toNat) b) Q) : mJ l D cA ad d cc nL rt pc L ((0, a3) :: (0, a2) :: (0, a1) :: (2, ((0 : Nat) : Int)) :: S) h Q :=
  mc_bind hdd hwd hd (s_bind g r1 r2 r3 p1 p2 k1)
end
theorem dnamed_0 : decode cX12_named 0 = .ok (.aload_n 0, 1) := by decide +kernel
theorem dnamed_1 : decode cX12_named 1 = .ok (.iload_n 2, 1) := by decide +kernel
theorem dnamed_2 : decode cX12_named 2 = .ok (.invokevirtual 885, 3) := by decide +kernel
theorem dnamed_5 : decode cX12_named 5 = .ok (.istore_n 3, 1) := by decide +kernel
theorem dnamed_6 : decode cX12_named 6 = .ok (.iload_n 3, 1) := by decide +kernel
theorem dnamed_7 : decode cX12_named 7 = .ok (.ifCond .lt 12, 3) := by decide +kernel
theorem dnamed_10 : decode cX12_named 10 = .ok (.aload_n 0, 1) := by decide +kernel
theorem dnamed_11 : decode cX12_named 11 = .ok (.iload_n 1, 1) := by decide +kernel
theorem dnamed_12 : decode cX12_named 12 = .ok (.iload_n 3, 1) := by decide +kernel
theorem dnamed_13 : decode cX12_named 13 = .ok (.iload_n 2, 1) := by decide +kernel
theorem dnamed_14 : decode cX12_named 14 = .ok (.invokevirtual 888, 3) := by decide +kernel
theorem dnamed_17 : decode cX12_named 17 = .ok (.iload_n 3, 1) := by decide +kernel
theorem dnamed_18 : decode cX12_named 18 = .ok (.ireturn, 1) := by decide +kernel
theorem dnamed_19 : decode cX12_named 19 = .ok (.aload_n 0, 1) := by decide +kernel
theorem dnamed_20 : decode cX12_named 20 = .ok (.iconst 0, 1) := by decide +kernel
theorem dnamed_21 : decode cX12_named 21 = .ok (.iload_n 2, 1) := by decide +kernel
theorem dnamed_22 : decode cX12_named 22 = .ok (.iconst 0, 1) := by decide +kernel
theorem dnamed_23 : decode cX12_named 23 = .ok (.invokevirtual 783, 3) := by decide +kernel
theorem dnamed_26 : decode cX12_named 26 = .ok (.sipush 1000, 3) := by decide +kernel
theorem dnamed_29 : decode cX12_named 29 = .ok (.iload_n 2, 1) := by decide +kernel
theorem dnamed_30 : decode cX12_named 30 = .ok (.iadd, 1) := by decide +kernel
theorem dnamed_31 : decode cX12_named 31 = .ok (.ireturn, 1) := by decide +kernel
section
variable {l : Launch} {D : va_G} {cA : Nat → ClassId} {ad : Nat → Nat}
theorem s_named {a1 a2 : Int} {h : ja_H} {Q : Option ja_V → ja_H → Prop} (g : mo_G Zz h) (r1 : -2147483648 ≤ a1 ∧ a1 ≤ 2147483647) (r2 : -2147483648 ≤ a2 ∧ a2 ≤ 2147483647) (p1 : 0 ≤ a1 ∧ a1 ≤ 899) (p2 : 0 ≤ a2 ∧ a2 ≤ 900) (p3 : (h 0 68) < 900) (k1 : ∀ (v f p tw b : Int), (0 ≤ v ∧ v < (h 0 82) ∧ 0 ≤ f ∧ f ≤ 8 ∧ (1 ≤ f ∨ f = (h 0 11)) ∧ -2147483648 ≤ p ∧ p ≤ 2147483647 ∧ 0 ≤ tw ∧ tw ≤ 1 ∧ -2147483648 ≤ b ∧ b ≤ 2147483647) → mo_G Zz (ja_up (ja_up (ja_up (ja_up h 0 11 f) 0 12 p) 66 ((a1).toNat) tw) 65 ((a1).toNat) b) → Q (some (0, v)) (ja_up (ja_up (ja_up (ja_up h 0 11 f) 0 12 p) 66 ((a1).toNat) tw) 65 ((a1).toNat) b)) (k2 : mo_G Zz (ja_up (ja_up (ja_up (ja_up h 45 (((h 0 68)).toNat) 0) 44 (((h 0 68)).toNat) a2) 46 (((h 0 68)).toNat) 0) 0 68 ((h 0 68) + 1)) → Q (some (0, 1000 + a2)) (ja_up (ja_up (ja_up (ja_up h 45 (((h 0 68)).toNat) 0) 44 (((h 0 68)).toNat) a2) 46 (((h 0 68)).toNat) 0) 0 68 ((h 0 68) + 1))) : mM_named l D cA ad a1 a2 h Q := by
  show mJ l D cA ad 3 cX12_named 4 (some .int) 0 [(0, (2, ((0 : Nat) : Int))), (1, (0, a1)), (2, (0, a2))] [] h Q
  have kn_params := gF_params g
  refine ja_aload_n dnamed_0 rfl rfl ?_
  refine ja_iload_n dnamed_1 rfl rfl ?_
  refine t_paramOf (by decide) (show (0 : Nat) ≤ 8 by decide) dnamed_2 g ⟨by omega, by omega⟩ (show 0 ≤ a2 ∧ a2 ≤ 900 by omega) ?_
  intro w1 k2_0
  refine ja_istore_n dnamed_5 rfl (by decide) (L2 := [(3, (0, w1)), (0, (2, ((0 : Nat) : Int))), (1, (0, a1)), (2, (0, a2))]) rfl ?_
  refine ja_iload_n dnamed_6 rfl rfl ?_
  refine ja_if_lt 19 dnamed_7 rfl ⟨by omega, by omega⟩ (fun c7 => ?_) (fun c7 => ?_)
  · refine ja_aload_n dnamed_19 rfl rfl ?_
    refine ja_iconst dnamed_20 ?_
    refine ja_iload_n dnamed_21 rfl rfl ?_
    refine ja_iconst dnamed_22 ?_
    refine t_want (by decide) (show (0 : Nat) ≤ 8 by decide) dnamed_23 g ⟨by decide, by decide⟩ ⟨by omega, by omega⟩ ⟨by decide, by decide⟩ (show 0 ≤ 0 ∧ 0 ≤ 1 by omega) (show 0 ≤ a2 ∧ a2 ≤ 900 by omega) (show 0 ≤ 0 ∧ 0 ≤ 7 by omega) (show (h 0 68) < 900 by omega) ?_
    intro g2
    replace g2 : mo_G Zz (ja_up (ja_up (ja_up (ja_up h 45 ((h 0 68).toNat) 0) 44 ((h 0 68).toNat) a2) 46 ((h 0 68).toNat) 0) 0 68 ((h 0 68) + 1)) := g2
    show mJ l D cA ad 3 cX12_named 4 (some .int) 26 [(3, (0, w1)), (0, (2, ((0 : Nat) : Int))), (1, (0, a1)), (2, (0, a2))] [] (ja_up (ja_up (ja_up (ja_up h 45 ((h 0 68).toNat) 0) 44 ((h 0 68).toNat) a2) 46 ((h 0 68).toNat) 0) 0 68 ((h 0 68) + 1)) Q
    refine ja_sipush 1000 dnamed_26 rfl ?_
    refine ja_iload_n dnamed_29 rfl rfl ?_
    refine ja_iadd dnamed_30 ?_
    refine ja_ireturn dnamed_31 rfl ?_
    exact mo_fin (by omega) rfl (k2 g2)
  · refine ja_aload_n dnamed_10 rfl rfl ?_
    refine ja_iload_n dnamed_11 rfl rfl ?_
    refine ja_iload_n dnamed_12 rfl rfl ?_
    refine ja_iload_n dnamed_13 rfl rfl ?_
    refine t_bind (by decide) (show (0 : Nat) ≤ 8 by decide) dnamed_14 g ⟨by omega, by omega⟩ ⟨by omega, by omega⟩ ⟨by omega, by omega⟩ (show 0 ≤ a1 ∧ a1 ≤ 899 by omega) (show 0 ≤ a2 ∧ a2 ≤ 900 by omega) ?_
    intro w3 w4 w5 w6 k14_0 g7
    replace k14_0 : 0 ≤ w3 ∧ w3 ≤ 8 ∧ (1 ≤ w3 ∨ w3 = (h 0 11)) ∧ -2147483648 ≤ w4 ∧ w4 ≤ 2147483647 ∧ 0 ≤ w5 ∧ w5 ≤ 1 ∧ -2147483648 ≤ w6 ∧ w6 ≤ 2147483647 := k14_0
    replace g7 : mo_G Zz (ja_up (ja_up (ja_up (ja_up h 0 11 w3) 0 12 w4) 66 ((a1).toNat) w5) 65 ((a1).toNat) w6) := g7
    show mJ l D cA ad 3 cX12_named 4 (some .int) 17 [(3, (0, w1)), (0, (2, ((0 : Nat) : Int))), (1, (0, a1)), (2, (0, a2))] [] (ja_up (ja_up (ja_up (ja_up h 0 11 w3) 0 12 w4) 66 ((a1).toNat) w5) 65 ((a1).toNat) w6) Q
    refine ja_iload_n dnamed_17 rfl rfl ?_
    refine ja_ireturn dnamed_18 rfl ?_
    exact mo_fin (by omega) rfl (k1 w1 w3 w4 w5 w6 (by omega) g7)
theorem t_named {a1 a2 : Int} {d nL pc : Nat} {cc : ByteArray} {rt : Option FieldType} {L : List (Nat × ja_V)} {S : List ja_V} {h : ja_H} {Q : Option ja_V → ja_H → Prop} (hdd : 3 < d) (hwd : ja_wd S ≤ 8) (hd : decode cc pc = .ok (.invokevirtual 894, 3)) (g : mo_G Zz h) (r1 : -2147483648 ≤ a1 ∧ a1 ≤ 2147483647) (r2 : -2147483648 ≤ a2 ∧ a2 ≤ 2147483647) (p1 : 0 ≤ a1 ∧ a1 ≤ 899) (p2 : 0 ≤ a2 ∧ a2 ≤ 900) (p3 : (h 0 68) < 900) (k1 : ∀ (v f p tw b : Int), (0 ≤ v ∧ v < (h 0 82) ∧ 0 ≤ f ∧ f ≤ 8 ∧ (1 ≤ f ∨ f = (h 0 11)) ∧ -2147483648 ≤ p ∧ p ≤ 2147483647 ∧ 0 ≤ tw ∧ tw ≤ 1 ∧ -2147483648 ≤ b ∧ b ≤ 2147483647) → mo_G Zz (ja_up (ja_up (ja_up (ja_up h 0 11 f) 0 12 p) 66 ((a1).toNat) tw) 65 ((a1).toNat) b) → mJ l D cA ad d cc nL rt (pc + 3) L ((0, v) :: S) (ja_up (ja_up (ja_up (ja_up h 0 11 f) 0 12 p) 66 ((a1).toNat) tw) 65 ((a1).toNat) b) Q) (k2 : mo_G Zz (ja_up (ja_up (ja_up (ja_up h 45 (((h 0 68)).toNat) 0) 44 (((h 0 68)).toNat) a2) 46 (((h 0 68)).toNat) 0) 0 68 ((h 0 68) + 1)) → mJ l D cA ad d cc nL rt (pc + 3) L ((0, 1000 + a2) :: S) (ja_up (ja_up (ja_up (ja_up h 45 (((h 0 68)).toNat) 0) 44 (((h 0 68)).toNat) a2) 46 (((h 0 68)).toNat) 0) 0 68 ((h 0 68) + 1)) Q) : mJ l D cA ad d cc nL rt pc L ((0, a2) :: (0, a1) :: (2, ((0 : Nat) : Int)) :: S) h Q :=
  mc_named hdd hwd hd (s_named g r1 r2 p1 p2 p3 k1 k2)
end
theorem dbeginBody_0 : decode cX12_beginBody 0 = .ok (.aload_n 0, 1) := by decide +kernel
theorem dbeginBody_1 : decode cX12_beginBody 1 = .ok (.iload_n 1, 1) := by decide +kernel
theorem dbeginBody_2 : decode cX12_beginBody 2 = .ok (.putfield 620, 3) := by decide +kernel
theorem dbeginBody_5 : decode cX12_beginBody 5 = .ok (.aload_n 0, 1) := by decide +kernel
theorem dbeginBody_6 : decode cX12_beginBody 6 = .ok (.iload_n 2, 1) := by decide +kernel
theorem dbeginBody_7 : decode cX12_beginBody 7 = .ok (.putfield 623, 3) := by decide +kernel
theorem dbeginBody_10 : decode cX12_beginBody 10 = .ok (.aload_n 0, 1) := by decide +kernel
theorem dbeginBody_11 : decode cX12_beginBody 11 = .ok (.iconst 0, 1) := by decide +kernel
theorem dbeginBody_12 : decode cX12_beginBody 12 = .ok (.putfield 710, 3) := by decide +kernel
theorem dbeginBody_15 : decode cX12_beginBody 15 = .ok (.aload_n 0, 1) := by decide +kernel
theorem dbeginBody_16 : decode cX12_beginBody 16 = .ok (.iconst 0, 1) := by decide +kernel
theorem dbeginBody_17 : decode cX12_beginBody 17 = .ok (.putfield 713, 3) := by decide +kernel
theorem dbeginBody_20 : decode cX12_beginBody 20 = .ok (.return_, 1) := by decide +kernel
section
variable {l : Launch} {D : va_G} {cA : Nat → ClassId} {ad : Nat → Nat}
theorem s_beginBody {a1 a2 : Int} {h : ja_H} {Q : Option ja_V → ja_H → Prop} (g : mo_G Zz h) (r1 : -2147483648 ≤ a1 ∧ a1 ≤ 2147483647) (r2 : -2147483648 ≤ a2 ∧ a2 ≤ 2147483647) (p1 : 0 ≤ a1 ∧ a1 ≤ 3) (p2 : 0 ≤ a2 ∧ a2 ≤ 60) (k1 : mo_G Zz (ja_up (ja_up (ja_up (ja_up h 0 74 a1) 0 75 a2) 0 77 0) 0 79 0) → Q none (ja_up (ja_up (ja_up (ja_up h 0 74 a1) 0 75 a2) 0 77 0) 0 79 0)) : mM_beginBody l D cA ad a1 a2 h Q := by
  show mJ l D cA ad 1 cX12_beginBody 3 none 0 [(0, (2, ((0 : Nat) : Int))), (1, (0, a1)), (2, (0, a2))] [] h Q
  refine ja_aload_n dbeginBody_0 rfl rfl ?_
  refine ja_iload_n dbeginBody_1 rfl rfl ?_
  have g1 := gP_body g (x := a1) ⟨by omega, by omega⟩
  refine fp_body dbeginBody_2 ?_
  refine ja_aload_n dbeginBody_5 rfl rfl ?_
  refine ja_iload_n dbeginBody_6 rfl rfl ?_
  have g2 := gP_bodyNumber g1 (x := a2) ⟨by omega, by omega⟩
  refine fp_bodyNumber dbeginBody_7 ?_
  refine ja_aload_n dbeginBody_10 rfl rfl ?_
  refine ja_iconst dbeginBody_11 ?_
  have g3 := gP_locals g2 (x := 0) ⟨by decide, by decide⟩
  refine fp_locals dbeginBody_12 ?_
  refine ja_aload_n dbeginBody_15 rfl rfl ?_
  refine ja_iconst dbeginBody_16 ?_
  have g4 := gP_known g3 (x := 0) ⟨by decide, by decide⟩
  refine fp_known dbeginBody_17 ?_
  refine ja_return dbeginBody_20 rfl ?_
  exact k1 g4
theorem t_beginBody {a1 a2 : Int} {d nL pc : Nat} {cc : ByteArray} {rt : Option FieldType} {L : List (Nat × ja_V)} {S : List ja_V} {h : ja_H} {Q : Option ja_V → ja_H → Prop} (hdd : 1 < d) (hwd : ja_wd S ≤ 8) (hd : decode cc pc = .ok (.invokevirtual 726, 3)) (g : mo_G Zz h) (r1 : -2147483648 ≤ a1 ∧ a1 ≤ 2147483647) (r2 : -2147483648 ≤ a2 ∧ a2 ≤ 2147483647) (p1 : 0 ≤ a1 ∧ a1 ≤ 3) (p2 : 0 ≤ a2 ∧ a2 ≤ 60) (k1 : mo_G Zz (ja_up (ja_up (ja_up (ja_up h 0 74 a1) 0 75 a2) 0 77 0) 0 79 0) → mJ l D cA ad d cc nL rt (pc + 3) L S (ja_up (ja_up (ja_up (ja_up h 0 74 a1) 0 75 a2) 0 77 0) 0 79 0) Q) : mJ l D cA ad d cc nL rt pc L ((0, a2) :: (0, a1) :: (2, ((0 : Nat) : Int)) :: S) h Q :=
  mc_beginBody hdd hwd hd (s_beginBody g r1 r2 p1 p2 k1)
end
theorem dnode_0 : decode cX12_node 0 = .ok (.aload_n 0, 1) := by decide +kernel
theorem dnode_1 : decode cX12_node 1 = .ok (.getfield 686, 3) := by decide +kernel
theorem dnode_4 : decode cX12_node 4 = .ok (.istore 5, 2) := by decide +kernel
theorem dnode_6 : decode cX12_node 6 = .ok (.aload_n 0, 1) := by decide +kernel
theorem dnode_7 : decode cX12_node 7 = .ok (.dup, 1) := by decide +kernel
theorem dnode_8 : decode cX12_node 8 = .ok (.getfield 686, 3) := by decide +kernel
theorem dnode_11 : decode cX12_node 11 = .ok (.iconst 1, 1) := by decide +kernel
theorem dnode_12 : decode cX12_node 12 = .ok (.iadd, 1) := by decide +kernel
theorem dnode_13 : decode cX12_node 13 = .ok (.putfield 686, 3) := by decide +kernel
theorem dnode_16 : decode cX12_node 16 = .ok (.aload_n 0, 1) := by decide +kernel
theorem dnode_17 : decode cX12_node 17 = .ok (.getfield 182, 3) := by decide +kernel
theorem dnode_20 : decode cX12_node 20 = .ok (.iload 5, 2) := by decide +kernel
theorem dnode_22 : decode cX12_node 22 = .ok (.iload_n 1, 1) := by decide +kernel
theorem dnode_23 : decode cX12_node 23 = .ok (.iastore, 1) := by decide +kernel
theorem dnode_24 : decode cX12_node 24 = .ok (.aload_n 0, 1) := by decide +kernel
theorem dnode_25 : decode cX12_node 25 = .ok (.getfield 185, 3) := by decide +kernel
theorem dnode_28 : decode cX12_node 28 = .ok (.iload 5, 2) := by decide +kernel
theorem dnode_30 : decode cX12_node 30 = .ok (.iload_n 2, 1) := by decide +kernel
theorem dnode_31 : decode cX12_node 31 = .ok (.iastore, 1) := by decide +kernel
theorem dnode_32 : decode cX12_node 32 = .ok (.aload_n 0, 1) := by decide +kernel
theorem dnode_33 : decode cX12_node 33 = .ok (.getfield 188, 3) := by decide +kernel
theorem dnode_36 : decode cX12_node 36 = .ok (.iload 5, 2) := by decide +kernel
theorem dnode_38 : decode cX12_node 38 = .ok (.iload_n 3, 1) := by decide +kernel
theorem dnode_39 : decode cX12_node 39 = .ok (.iastore, 1) := by decide +kernel
theorem dnode_40 : decode cX12_node 40 = .ok (.aload_n 0, 1) := by decide +kernel
theorem dnode_41 : decode cX12_node 41 = .ok (.getfield 191, 3) := by decide +kernel
theorem dnode_44 : decode cX12_node 44 = .ok (.iload 5, 2) := by decide +kernel
theorem dnode_46 : decode cX12_node 46 = .ok (.iload 4, 2) := by decide +kernel
theorem dnode_48 : decode cX12_node 48 = .ok (.iastore, 1) := by decide +kernel
theorem dnode_49 : decode cX12_node 49 = .ok (.aload_n 0, 1) := by decide +kernel
theorem dnode_50 : decode cX12_node 50 = .ok (.getfield 194, 3) := by decide +kernel
theorem dnode_53 : decode cX12_node 53 = .ok (.iload 5, 2) := by decide +kernel
theorem dnode_55 : decode cX12_node 55 = .ok (.iconst 0, 1) := by decide +kernel
theorem dnode_56 : decode cX12_node 56 = .ok (.iastore, 1) := by decide +kernel
theorem dnode_57 : decode cX12_node 57 = .ok (.aload_n 0, 1) := by decide +kernel
theorem dnode_58 : decode cX12_node 58 = .ok (.getfield 200, 3) := by decide +kernel
theorem dnode_61 : decode cX12_node 61 = .ok (.iload 5, 2) := by decide +kernel
theorem dnode_63 : decode cX12_node 63 = .ok (.aload_n 0, 1) := by decide +kernel
theorem dnode_64 : decode cX12_node 64 = .ok (.getfield 760, 3) := by decide +kernel
theorem dnode_67 : decode cX12_node 67 = .ok (.iastore, 1) := by decide +kernel
theorem dnode_68 : decode cX12_node 68 = .ok (.aload_n 0, 1) := by decide +kernel
theorem dnode_69 : decode cX12_node 69 = .ok (.getfield 203, 3) := by decide +kernel
theorem dnode_72 : decode cX12_node 72 = .ok (.iload 5, 2) := by decide +kernel
theorem dnode_74 : decode cX12_node 74 = .ok (.iconst 0, 1) := by decide +kernel
theorem dnode_75 : decode cX12_node 75 = .ok (.iastore, 1) := by decide +kernel
theorem dnode_76 : decode cX12_node 76 = .ok (.aload_n 0, 1) := by decide +kernel
theorem dnode_77 : decode cX12_node 77 = .ok (.getfield 206, 3) := by decide +kernel
theorem dnode_80 : decode cX12_node 80 = .ok (.iload 5, 2) := by decide +kernel
theorem dnode_82 : decode cX12_node 82 = .ok (.iconst 0, 1) := by decide +kernel
theorem dnode_83 : decode cX12_node 83 = .ok (.bastore, 1) := by decide +kernel
theorem dnode_84 : decode cX12_node 84 = .ok (.aload_n 0, 1) := by decide +kernel
theorem dnode_85 : decode cX12_node 85 = .ok (.getfield 209, 3) := by decide +kernel
theorem dnode_88 : decode cX12_node 88 = .ok (.iload 5, 2) := by decide +kernel
theorem dnode_90 : decode cX12_node 90 = .ok (.aload_n 0, 1) := by decide +kernel
theorem dnode_91 : decode cX12_node 91 = .ok (.getfield 695, 3) := by decide +kernel
theorem dnode_94 : decode cX12_node 94 = .ok (.iconst 1, 1) := by decide +kernel
theorem dnode_95 : decode cX12_node 95 = .ok (.if_icmp .ne 7, 3) := by decide +kernel
theorem dnode_98 : decode cX12_node 98 = .ok (.iconst 1, 1) := by decide +kernel
theorem dnode_99 : decode cX12_node 99 = .ok (.goto 4, 3) := by decide +kernel
theorem dnode_102 : decode cX12_node 102 = .ok (.iconst 0, 1) := by decide +kernel
theorem dnode_103 : decode cX12_node 103 = .ok (.bastore, 1) := by decide +kernel
theorem dnode_104 : decode cX12_node 104 = .ok (.iload 5, 2) := by decide +kernel
theorem dnode_106 : decode cX12_node 106 = .ok (.ireturn, 1) := by decide +kernel
section
variable {l : Launch} {D : va_G} {cA : Nat → ClassId} {ad : Nat → Nat}
theorem s_node {a1 a2 a3 a4 : Int} {h : ja_H} {Q : Option ja_V → ja_H → Prop} (g : mo_G Zz h) (r1 : -2147483648 ≤ a1 ∧ a1 ≤ 2147483647) (r2 : -2147483648 ≤ a2 ∧ a2 ≤ 2147483647) (r3 : -2147483648 ≤ a3 ∧ a3 ≤ 2147483647) (r4 : -2147483648 ≤ a4 ∧ a4 ≤ 2147483647) (p1 : 0 ≤ a1 ∧ a1 ≤ 15) (p2 : 0 ≤ a4 ∧ a4 ≤ 900) (p3 : (h 0 95) < 900) (k1 : ∀ (ip : Int), ((ip = 1 ∧ (h 0 85) = 1) ∨ (ip = 0 ∧ (h 0 85) = 0)) → mo_G Zz (ja_up (ja_up (ja_up (ja_up (ja_up (ja_up (ja_up (ja_up (ja_up (ja_up h 0 95 ((h 0 95) + 1)) 58 (((h 0 95)).toNat) a1) 59 (((h 0 95)).toNat) a2) 60 (((h 0 95)).toNat) a3) 61 (((h 0 95)).toNat) a4) 62 (((h 0 95)).toNat) 0) 64 (((h 0 95)).toNat) (h 0 76)) 65 (((h 0 95)).toNat) 0) 66 (((h 0 95)).toNat) 0) 67 (((h 0 95)).toNat) ip) → Q (some (0, (h 0 95))) (ja_up (ja_up (ja_up (ja_up (ja_up (ja_up (ja_up (ja_up (ja_up (ja_up h 0 95 ((h 0 95) + 1)) 58 (((h 0 95)).toNat) a1) 59 (((h 0 95)).toNat) a2) 60 (((h 0 95)).toNat) a3) 61 (((h 0 95)).toNat) a4) 62 (((h 0 95)).toNat) 0) 64 (((h 0 95)).toNat) (h 0 76)) 65 (((h 0 95)).toNat) 0) 66 (((h 0 95)).toNat) 0) 67 (((h 0 95)).toNat) ip)) : mM_node l D cA ad a1 a2 a3 a4 h Q := by
  show mJ l D cA ad 1 cX12_node 6 (some .int) 0 [(0, (2, ((0 : Nat) : Int))), (1, (0, a1)), (2, (0, a2)), (3, (0, a3)), (4, (0, a4))] [] h Q
  refine ja_aload_n dnode_0 rfl rfl ?_
  refine fg_nodes (v := h 0 95) rfl dnode_1 ?_
  have f1 := gF_nodes g
  refine ja_istore dnode_4 (by decide) (L2 := [(5, (0, (h 0 95))), (0, (2, ((0 : Nat) : Int))), (1, (0, a1)), (2, (0, a2)), (3, (0, a3)), (4, (0, a4))]) rfl ?_
  refine ja_aload_n dnode_6 rfl rfl ?_
  refine ja_dup dnode_7 (by decide) ?_
  refine fg_nodes (v := h 0 95) rfl dnode_8 ?_
  refine ja_iconst dnode_11 ?_
  refine ja_iadd dnode_12 ?_
  have g2 := gP_nodes g (x := (h 0 95) + 1) ⟨by omega, by omega⟩
  refine fp_nodes dnode_13 ?_
  refine ja_aload_n dnode_16 rfl rfl ?_
  refine fa_nodeKind dnode_17 ?_
  refine ja_iload dnode_20 rfl ?_
  refine ja_iload_n dnode_22 rfl rfl ?_
  have g3 := gW_nodeKind g2 (h 0 95).toNat (x := a1) ⟨by omega, by omega⟩
  refine is_nodeKind ⟨by omega, by omega⟩ dnode_23 ?_
  refine ja_aload_n dnode_24 rfl rfl ?_
  refine fa_nodeA dnode_25 ?_
  refine ja_iload dnode_28 rfl ?_
  refine ja_iload_n dnode_30 rfl rfl ?_
  have g4 := gW_nodeA g3 (h 0 95).toNat (x := a2) ⟨by omega, by omega⟩
  refine is_nodeA ⟨by omega, by omega⟩ dnode_31 ?_
  refine ja_aload_n dnode_32 rfl rfl ?_
  refine fa_nodeB dnode_33 ?_
  refine ja_iload dnode_36 rfl ?_
  refine ja_iload_n dnode_38 rfl rfl ?_
  have g5 := gW_nodeB g4 (h 0 95).toNat (x := a3) ⟨by omega, by omega⟩
  refine is_nodeB ⟨by omega, by omega⟩ dnode_39 ?_
  refine ja_aload_n dnode_40 rfl rfl ?_
  refine fa_nodeToken dnode_41 ?_
  refine ja_iload dnode_44 rfl ?_
  refine ja_iload dnode_46 rfl ?_
  have g6 := gW_nodeToken g5 (h 0 95).toNat (x := a4) ⟨by omega, by omega⟩
  refine is_nodeToken ⟨by omega, by omega⟩ dnode_48 ?_
  refine ja_aload_n dnode_49 rfl rfl ?_
  refine fa_nodeMany dnode_50 ?_
  refine ja_iload dnode_53 rfl ?_
  refine ja_iconst dnode_55 ?_
  have g7 := gW_nodeMany g6 (h 0 95).toNat (x := 0) ⟨by decide, by decide⟩
  refine is_nodeMany ⟨by omega, by omega⟩ dnode_56 ?_
  refine ja_aload_n dnode_57 rfl rfl ?_
  refine fa_nodeAspect dnode_58 ?_
  refine ja_iload dnode_61 rfl ?_
  refine ja_aload_n dnode_63 rfl rfl ?_
  refine fg_inAspect (v := h 0 76) rfl dnode_64 ?_
  have f8 := gF_inAspect g
  have g9 := gW_nodeAspect g7 (h 0 95).toNat (x := h 0 76) ⟨by omega, by omega⟩
  refine is_nodeAspect ⟨by omega, by omega⟩ dnode_67 ?_
  refine ja_aload_n dnode_68 rfl rfl ?_
  refine fa_nodeBinds dnode_69 ?_
  refine ja_iload dnode_72 rfl ?_
  refine ja_iconst dnode_74 ?_
  have g10 := gW_nodeBinds g9 (h 0 95).toNat (x := 0) ⟨by decide, by decide⟩
  refine is_nodeBinds ⟨by omega, by omega⟩ dnode_75 ?_
  refine ja_aload_n dnode_76 rfl rfl ?_
  refine fa_nodeTwice dnode_77 ?_
  refine ja_iload dnode_80 rfl ?_
  refine ja_iconst dnode_82 ?_
  have g11 := gW_nodeTwice g10 (h 0 95).toNat (x := 0) ⟨by decide, by decide⟩
  refine is_nodeTwice ⟨by omega, by omega⟩ (by omega) dnode_83 ?_
  refine ja_aload_n dnode_84 rfl rfl ?_
  refine fa_nodeInPick dnode_85 ?_
  refine ja_iload dnode_88 rfl ?_
  refine ja_aload_n dnode_90 rfl rfl ?_
  refine fg_inPick (v := h 0 85) rfl dnode_91 ?_
  have f12 := gF_inPick g
  refine ja_iconst dnode_94 ?_
  refine ja_icmp_ne 102 dnode_95 rfl ⟨by omega, by omega⟩ ⟨by decide, by decide⟩ (fun c95 => ?_) (fun c95 => ?_)
  · refine ja_iconst dnode_102 ?_
    have g13 := gW_nodeInPick g11 (h 0 95).toNat (x := 0) ⟨by decide, by decide⟩
    refine is_nodeInPick ⟨by omega, by omega⟩ (by omega) dnode_103 ?_
    refine ja_iload dnode_104 rfl ?_
    refine ja_ireturn dnode_106 rfl ?_
    exact mo_fin (by omega) rfl (k1 0 (by omega) g13)
  · refine ja_iconst dnode_98 ?_
    refine ja_goto 103 dnode_99 rfl ?_
    have g14 := gW_nodeInPick g11 (h 0 95).toNat (x := 1) ⟨by decide, by decide⟩
    refine is_nodeInPick ⟨by omega, by omega⟩ (by omega) dnode_103 ?_
    refine ja_iload dnode_104 rfl ?_
    refine ja_ireturn dnode_106 rfl ?_
    exact mo_fin (by omega) rfl (k1 1 (by omega) g14)
theorem t_node {a1 a2 a3 a4 : Int} {d nL pc : Nat} {cc : ByteArray} {rt : Option FieldType} {L : List (Nat × ja_V)} {S : List ja_V} {h : ja_H} {Q : Option ja_V → ja_H → Prop} (hdd : 1 < d) (hwd : ja_wd S ≤ 8) (hd : decode cc pc = .ok (.invokevirtual 878, 3)) (g : mo_G Zz h) (r1 : -2147483648 ≤ a1 ∧ a1 ≤ 2147483647) (r2 : -2147483648 ≤ a2 ∧ a2 ≤ 2147483647) (r3 : -2147483648 ≤ a3 ∧ a3 ≤ 2147483647) (r4 : -2147483648 ≤ a4 ∧ a4 ≤ 2147483647) (p1 : 0 ≤ a1 ∧ a1 ≤ 15) (p2 : 0 ≤ a4 ∧ a4 ≤ 900) (p3 : (h 0 95) < 900) (k1 : ∀ (ip : Int), ((ip = 1 ∧ (h 0 85) = 1) ∨ (ip = 0 ∧ (h 0 85) = 0)) → mo_G Zz (ja_up (ja_up (ja_up (ja_up (ja_up (ja_up (ja_up (ja_up (ja_up (ja_up h 0 95 ((h 0 95) + 1)) 58 (((h 0 95)).toNat) a1) 59 (((h 0 95)).toNat) a2) 60 (((h 0 95)).toNat) a3) 61 (((h 0 95)).toNat) a4) 62 (((h 0 95)).toNat) 0) 64 (((h 0 95)).toNat) (h 0 76)) 65 (((h 0 95)).toNat) 0) 66 (((h 0 95)).toNat) 0) 67 (((h 0 95)).toNat) ip) → mJ l D cA ad d cc nL rt (pc + 3) L ((0, (h 0 95)) :: S) (ja_up (ja_up (ja_up (ja_up (ja_up (ja_up (ja_up (ja_up (ja_up (ja_up h 0 95 ((h 0 95) + 1)) 58 (((h 0 95)).toNat) a1) 59 (((h 0 95)).toNat) a2) 60 (((h 0 95)).toNat) a3) 61 (((h 0 95)).toNat) a4) 62 (((h 0 95)).toNat) 0) 64 (((h 0 95)).toNat) (h 0 76)) 65 (((h 0 95)).toNat) 0) 66 (((h 0 95)).toNat) 0) 67 (((h 0 95)).toNat) ip) Q) : mJ l D cA ad d cc nL rt pc L ((0, a4) :: (0, a3) :: (0, a2) :: (0, a1) :: (2, ((0 : Nat) : Int)) :: S) h Q :=
  mc_node hdd hwd hd (s_node g r1 r2 r3 r4 p1 p2 p3 k1)
end
theorem dleaf_0 : decode cX12_leaf 0 = .ok (.aload_n 0, 1) := by decide +kernel
theorem dleaf_1 : decode cX12_leaf 1 = .ok (.getfield 218, 3) := by decide +kernel
theorem dleaf_4 : decode cX12_leaf 4 = .ok (.aload_n 0, 1) := by decide +kernel
theorem dleaf_5 : decode cX12_leaf 5 = .ok (.getfield 689, 3) := by decide +kernel
theorem dleaf_8 : decode cX12_leaf 8 = .ok (.iload_n 1, 1) := by decide +kernel
theorem dleaf_9 : decode cX12_leaf 9 = .ok (.iastore, 1) := by decide +kernel
theorem dleaf_10 : decode cX12_leaf 10 = .ok (.aload_n 0, 1) := by decide +kernel
theorem dleaf_11 : decode cX12_leaf 11 = .ok (.dup, 1) := by decide +kernel
theorem dleaf_12 : decode cX12_leaf 12 = .ok (.getfield 689, 3) := by decide +kernel
theorem dleaf_15 : decode cX12_leaf 15 = .ok (.iconst 1, 1) := by decide +kernel
theorem dleaf_16 : decode cX12_leaf 16 = .ok (.iadd, 1) := by decide +kernel
theorem dleaf_17 : decode cX12_leaf 17 = .ok (.putfield 689, 3) := by decide +kernel
theorem dleaf_20 : decode cX12_leaf 20 = .ok (.iconst 1, 1) := by decide +kernel
theorem dleaf_21 : decode cX12_leaf 21 = .ok (.ireturn, 1) := by decide +kernel
section
variable {l : Launch} {D : va_G} {cA : Nat → ClassId} {ad : Nat → Nat}
theorem s_leaf {a1 : Int} {h : ja_H} {Q : Option ja_V → ja_H → Prop} (g : mo_G Zz h) (r1 : -2147483648 ≤ a1 ∧ a1 ≤ 2147483647) (p1 : 0 ≤ a1 ∧ a1 ≤ 899) (p2 : (h 0 109) < 400) (k1 : mo_G Zz (ja_up (ja_up h 70 (((h 0 109)).toNat) a1) 0 109 ((h 0 109) + 1)) → Q (some (0, 1)) (ja_up (ja_up h 70 (((h 0 109)).toNat) a1) 0 109 ((h 0 109) + 1))) : mM_leaf l D cA ad a1 h Q := by
  show mJ l D cA ad 1 cX12_leaf 2 (some .boolean) 0 [(0, (2, ((0 : Nat) : Int))), (1, (0, a1))] [] h Q
  refine ja_aload_n dleaf_0 rfl rfl ?_
  refine fa_treePile dleaf_1 ?_
  refine ja_aload_n dleaf_4 rfl rfl ?_
  refine fg_treeTop (v := h 0 109) rfl dleaf_5 ?_
  have f1 := gF_treeTop g
  refine ja_iload_n dleaf_8 rfl rfl ?_
  have g2 := gW_treePile g (h 0 109).toNat (x := a1) ⟨by omega, by omega⟩
  refine is_treePile ⟨by omega, by omega⟩ dleaf_9 ?_
  refine ja_aload_n dleaf_10 rfl rfl ?_
  refine ja_dup dleaf_11 (by decide) ?_
  refine fg_treeTop (v := h 0 109) rfl dleaf_12 ?_
  refine ja_iconst dleaf_15 ?_
  refine ja_iadd dleaf_16 ?_
  have g3 := gP_treeTop g2 (x := (h 0 109) + 1) ⟨by omega, by omega⟩
  refine fp_treeTop dleaf_17 ?_
  refine ja_iconst dleaf_20 ?_
  refine ja_zreturn dleaf_21 rfl (by omega) ?_
  exact mo_fin (by omega) rfl (k1 g3)
theorem t_leaf {a1 : Int} {d nL pc : Nat} {cc : ByteArray} {rt : Option FieldType} {L : List (Nat × ja_V)} {S : List ja_V} {h : ja_H} {Q : Option ja_V → ja_H → Prop} (hdd : 1 < d) (hwd : ja_wd S ≤ 8) (hd : decode cc pc = .ok (.invokevirtual 882, 3)) (g : mo_G Zz h) (r1 : -2147483648 ≤ a1 ∧ a1 ≤ 2147483647) (p1 : 0 ≤ a1 ∧ a1 ≤ 899) (p2 : (h 0 109) < 400) (k1 : mo_G Zz (ja_up (ja_up h 70 (((h 0 109)).toNat) a1) 0 109 ((h 0 109) + 1)) → mJ l D cA ad d cc nL rt (pc + 3) L ((0, 1) :: S) (ja_up (ja_up h 70 (((h 0 109)).toNat) a1) 0 109 ((h 0 109) + 1)) Q) : mJ l D cA ad d cc nL rt pc L ((0, a1) :: (2, ((0 : Nat) : Int)) :: S) h Q :=
  mc_leaf hdd hwd hd (s_leaf g r1 p1 p2 k1)
end
theorem dstrength_0 : decode cX12_strength 0 = .ok (.aload_n 0, 1) := by decide +kernel
theorem dstrength_1 : decode cX12_strength 1 = .ok (.bipush 30, 2) := by decide +kernel
theorem dstrength_3 : decode cX12_strength 3 = .ok (.invokevirtual 596, 3) := by decide +kernel
theorem dstrength_6 : decode cX12_strength 6 = .ok (.ifCond .eq 5, 3) := by decide +kernel
theorem dstrength_9 : decode cX12_strength 9 = .ok (.iconst 1, 1) := by decide +kernel
theorem dstrength_10 : decode cX12_strength 10 = .ok (.ireturn, 1) := by decide +kernel
theorem dstrength_11 : decode cX12_strength 11 = .ok (.aload_n 0, 1) := by decide +kernel
theorem dstrength_12 : decode cX12_strength 12 = .ok (.iconst 1, 1) := by decide +kernel
theorem dstrength_13 : decode cX12_strength 13 = .ok (.invokevirtual 596, 3) := by decide +kernel
theorem dstrength_16 : decode cX12_strength 16 = .ok (.ifCond .eq 5, 3) := by decide +kernel
theorem dstrength_19 : decode cX12_strength 19 = .ok (.iconst 2, 1) := by decide +kernel
theorem dstrength_20 : decode cX12_strength 20 = .ok (.ireturn, 1) := by decide +kernel
theorem dstrength_21 : decode cX12_strength 21 = .ok (.aload_n 0, 1) := by decide +kernel
theorem dstrength_22 : decode cX12_strength 22 = .ok (.sipush 300, 3) := by decide +kernel
theorem dstrength_25 : decode cX12_strength 25 = .ok (.invokevirtual 586, 3) := by decide +kernel
theorem dstrength_28 : decode cX12_strength 28 = .ok (.ifCond .ne 51, 3) := by decide +kernel
theorem dstrength_31 : decode cX12_strength 31 = .ok (.aload_n 0, 1) := by decide +kernel
theorem dstrength_32 : decode cX12_strength 32 = .ok (.sipush 301, 3) := by decide +kernel
theorem dstrength_35 : decode cX12_strength 35 = .ok (.invokevirtual 586, 3) := by decide +kernel
theorem dstrength_38 : decode cX12_strength 38 = .ok (.ifCond .ne 41, 3) := by decide +kernel
theorem dstrength_41 : decode cX12_strength 41 = .ok (.aload_n 0, 1) := by decide +kernel
theorem dstrength_42 : decode cX12_strength 42 = .ok (.bipush 60, 2) := by decide +kernel
theorem dstrength_44 : decode cX12_strength 44 = .ok (.invokevirtual 586, 3) := by decide +kernel
theorem dstrength_47 : decode cX12_strength 47 = .ok (.ifCond .ne 32, 3) := by decide +kernel
theorem dstrength_50 : decode cX12_strength 50 = .ok (.aload_n 0, 1) := by decide +kernel
theorem dstrength_51 : decode cX12_strength 51 = .ok (.bipush 62, 2) := by decide +kernel
theorem dstrength_53 : decode cX12_strength 53 = .ok (.invokevirtual 586, 3) := by decide +kernel
theorem dstrength_56 : decode cX12_strength 56 = .ok (.ifCond .ne 23, 3) := by decide +kernel
theorem dstrength_59 : decode cX12_strength 59 = .ok (.aload_n 0, 1) := by decide +kernel
theorem dstrength_60 : decode cX12_strength 60 = .ok (.sipush 302, 3) := by decide +kernel
theorem dstrength_63 : decode cX12_strength 63 = .ok (.invokevirtual 586, 3) := by decide +kernel
theorem dstrength_66 : decode cX12_strength 66 = .ok (.ifCond .ne 13, 3) := by decide +kernel
theorem dstrength_69 : decode cX12_strength 69 = .ok (.aload_n 0, 1) := by decide +kernel
theorem dstrength_70 : decode cX12_strength 70 = .ok (.sipush 303, 3) := by decide +kernel
theorem dstrength_73 : decode cX12_strength 73 = .ok (.invokevirtual 586, 3) := by decide +kernel
theorem dstrength_76 : decode cX12_strength 76 = .ok (.ifCond .eq 5, 3) := by decide +kernel
theorem dstrength_79 : decode cX12_strength 79 = .ok (.iconst 3, 1) := by decide +kernel
theorem dstrength_80 : decode cX12_strength 80 = .ok (.ireturn, 1) := by decide +kernel
theorem dstrength_81 : decode cX12_strength 81 = .ok (.aload_n 0, 1) := by decide +kernel
theorem dstrength_82 : decode cX12_strength 82 = .ok (.bipush 43, 2) := by decide +kernel
theorem dstrength_84 : decode cX12_strength 84 = .ok (.invokevirtual 586, 3) := by decide +kernel
theorem dstrength_87 : decode cX12_strength 87 = .ok (.ifCond .ne 12, 3) := by decide +kernel
theorem dstrength_90 : decode cX12_strength 90 = .ok (.aload_n 0, 1) := by decide +kernel
theorem dstrength_91 : decode cX12_strength 91 = .ok (.bipush 45, 2) := by decide +kernel
theorem dstrength_93 : decode cX12_strength 93 = .ok (.invokevirtual 586, 3) := by decide +kernel
theorem dstrength_96 : decode cX12_strength 96 = .ok (.ifCond .eq 5, 3) := by decide +kernel
theorem dstrength_99 : decode cX12_strength 99 = .ok (.iconst 4, 1) := by decide +kernel
theorem dstrength_100 : decode cX12_strength 100 = .ok (.ireturn, 1) := by decide +kernel
theorem dstrength_101 : decode cX12_strength 101 = .ok (.aload_n 0, 1) := by decide +kernel
theorem dstrength_102 : decode cX12_strength 102 = .ok (.bipush 42, 2) := by decide +kernel
theorem dstrength_104 : decode cX12_strength 104 = .ok (.invokevirtual 586, 3) := by decide +kernel
theorem dstrength_107 : decode cX12_strength 107 = .ok (.ifCond .ne 21, 3) := by decide +kernel
theorem dstrength_110 : decode cX12_strength 110 = .ok (.aload_n 0, 1) := by decide +kernel
theorem dstrength_111 : decode cX12_strength 111 = .ok (.bipush 47, 2) := by decide +kernel
theorem dstrength_113 : decode cX12_strength 113 = .ok (.invokevirtual 586, 3) := by decide +kernel
theorem dstrength_116 : decode cX12_strength 116 = .ok (.ifCond .ne 12, 3) := by decide +kernel
theorem dstrength_119 : decode cX12_strength 119 = .ok (.aload_n 0, 1) := by decide +kernel
theorem dstrength_120 : decode cX12_strength 120 = .ok (.bipush 37, 2) := by decide +kernel
theorem dstrength_122 : decode cX12_strength 122 = .ok (.invokevirtual 586, 3) := by decide +kernel
theorem dstrength_125 : decode cX12_strength 125 = .ok (.ifCond .eq 7, 3) := by decide +kernel
theorem dstrength_128 : decode cX12_strength 128 = .ok (.iconst 5, 1) := by decide +kernel
theorem dstrength_129 : decode cX12_strength 129 = .ok (.goto 4, 3) := by decide +kernel
theorem dstrength_132 : decode cX12_strength 132 = .ok (.iconst 0, 1) := by decide +kernel
theorem dstrength_133 : decode cX12_strength 133 = .ok (.ireturn, 1) := by decide +kernel
section
variable {l : Launch} {D : va_G} {cA : Nat → ClassId} {ad : Nat → Nat}
theorem s_strength {h : ja_H} {Q : Option ja_V → ja_H → Prop} (g : mo_G Zz h) (k1 : ∀ (v : Int), (0 ≤ v ∧ v ≤ 5) → Q (some (0, v)) h) : mM_strength l D cA ad  h Q := by
  show mJ l D cA ad 2 cX12_strength 1 (some .int) 0 [(0, (2, ((0 : Nat) : Int)))] [] h Q
  refine ja_aload_n dstrength_0 rfl rfl ?_
  refine ja_bipush 30 dstrength_1 rfl ?_
  refine t_isWord (by decide) (show (0 : Nat) ≤ 8 by decide) dstrength_3 g ⟨by decide, by decide⟩ ?_
  intro w1 k3_0
  refine ja_if_eq 11 dstrength_6 rfl ⟨by omega, by omega⟩ (fun c6 => ?_) (fun c6 => ?_)
  · refine ja_aload_n dstrength_11 rfl rfl ?_
    refine ja_iconst dstrength_12 ?_
    refine t_isWord (by decide) (show (0 : Nat) ≤ 8 by decide) dstrength_13 g ⟨by decide, by decide⟩ ?_
    intro w2 k13_0
    refine ja_if_eq 21 dstrength_16 rfl ⟨by omega, by omega⟩ (fun c16 => ?_) (fun c16 => ?_)
    · refine ja_aload_n dstrength_21 rfl rfl ?_
      refine ja_sipush 300 dstrength_22 rfl ?_
      refine t_isSign (by decide) (show (0 : Nat) ≤ 8 by decide) dstrength_25 g ⟨by decide, by decide⟩ ?_
      intro w3 k25_0
      refine ja_if_ne 79 dstrength_28 rfl ⟨by omega, by omega⟩ (fun c28 => ?_) (fun c28 => ?_)
      · refine ja_iconst dstrength_79 ?_
        refine ja_ireturn dstrength_80 rfl ?_
        exact mo_fin (by omega) rfl (k1 3 (by omega))
      · refine ja_aload_n dstrength_31 rfl rfl ?_
        refine ja_sipush 301 dstrength_32 rfl ?_
        refine t_isSign (by decide) (show (0 : Nat) ≤ 8 by decide) dstrength_35 g ⟨by decide, by decide⟩ ?_
        intro w4 k35_0
        refine ja_if_ne 79 dstrength_38 rfl ⟨by omega, by omega⟩ (fun c38 => ?_) (fun c38 => ?_)
        · refine ja_iconst dstrength_79 ?_
          refine ja_ireturn dstrength_80 rfl ?_
          exact mo_fin (by omega) rfl (k1 3 (by omega))
        · refine ja_aload_n dstrength_41 rfl rfl ?_
          refine ja_bipush 60 dstrength_42 rfl ?_
          refine t_isSign (by decide) (show (0 : Nat) ≤ 8 by decide) dstrength_44 g ⟨by decide, by decide⟩ ?_
          intro w5 k44_0
          refine ja_if_ne 79 dstrength_47 rfl ⟨by omega, by omega⟩ (fun c47 => ?_) (fun c47 => ?_)
          · refine ja_iconst dstrength_79 ?_
            refine ja_ireturn dstrength_80 rfl ?_
            exact mo_fin (by omega) rfl (k1 3 (by omega))
          · refine ja_aload_n dstrength_50 rfl rfl ?_
            refine ja_bipush 62 dstrength_51 rfl ?_
            refine t_isSign (by decide) (show (0 : Nat) ≤ 8 by decide) dstrength_53 g ⟨by decide, by decide⟩ ?_
            intro w6 k53_0
            refine ja_if_ne 79 dstrength_56 rfl ⟨by omega, by omega⟩ (fun c56 => ?_) (fun c56 => ?_)
            · refine ja_iconst dstrength_79 ?_
              refine ja_ireturn dstrength_80 rfl ?_
              exact mo_fin (by omega) rfl (k1 3 (by omega))
            · refine ja_aload_n dstrength_59 rfl rfl ?_
              refine ja_sipush 302 dstrength_60 rfl ?_
              refine t_isSign (by decide) (show (0 : Nat) ≤ 8 by decide) dstrength_63 g ⟨by decide, by decide⟩ ?_
              intro w7 k63_0
              refine ja_if_ne 79 dstrength_66 rfl ⟨by omega, by omega⟩ (fun c66 => ?_) (fun c66 => ?_)
              · refine ja_iconst dstrength_79 ?_
                refine ja_ireturn dstrength_80 rfl ?_
                exact mo_fin (by omega) rfl (k1 3 (by omega))
              · refine ja_aload_n dstrength_69 rfl rfl ?_
                refine ja_sipush 303 dstrength_70 rfl ?_
                refine t_isSign (by decide) (show (0 : Nat) ≤ 8 by decide) dstrength_73 g ⟨by decide, by decide⟩ ?_
                intro w8 k73_0
                refine ja_if_eq 81 dstrength_76 rfl ⟨by omega, by omega⟩ (fun c76 => ?_) (fun c76 => ?_)
                · refine ja_aload_n dstrength_81 rfl rfl ?_
                  refine ja_bipush 43 dstrength_82 rfl ?_
                  refine t_isSign (by decide) (show (0 : Nat) ≤ 8 by decide) dstrength_84 g ⟨by decide, by decide⟩ ?_
                  intro w9 k84_0
                  refine ja_if_ne 99 dstrength_87 rfl ⟨by omega, by omega⟩ (fun c87 => ?_) (fun c87 => ?_)
                  · refine ja_iconst dstrength_99 ?_
                    refine ja_ireturn dstrength_100 rfl ?_
                    exact mo_fin (by omega) rfl (k1 4 (by omega))
                  · refine ja_aload_n dstrength_90 rfl rfl ?_
                    refine ja_bipush 45 dstrength_91 rfl ?_
                    refine t_isSign (by decide) (show (0 : Nat) ≤ 8 by decide) dstrength_93 g ⟨by decide, by decide⟩ ?_
                    intro w10 k93_0
                    refine ja_if_eq 101 dstrength_96 rfl ⟨by omega, by omega⟩ (fun c96 => ?_) (fun c96 => ?_)
                    · refine ja_aload_n dstrength_101 rfl rfl ?_
                      refine ja_bipush 42 dstrength_102 rfl ?_
                      refine t_isSign (by decide) (show (0 : Nat) ≤ 8 by decide) dstrength_104 g ⟨by decide, by decide⟩ ?_
                      intro w11 k104_0
                      refine ja_if_ne 128 dstrength_107 rfl ⟨by omega, by omega⟩ (fun c107 => ?_) (fun c107 => ?_)
                      · refine ja_iconst dstrength_128 ?_
                        refine ja_goto 133 dstrength_129 rfl ?_
                        refine ja_ireturn dstrength_133 rfl ?_
                        exact mo_fin (by omega) rfl (k1 5 (by omega))
                      · refine ja_aload_n dstrength_110 rfl rfl ?_
                        refine ja_bipush 47 dstrength_111 rfl ?_
                        refine t_isSign (by decide) (show (0 : Nat) ≤ 8 by decide) dstrength_113 g ⟨by decide, by decide⟩ ?_
                        intro w12 k113_0
                        refine ja_if_ne 128 dstrength_116 rfl ⟨by omega, by omega⟩ (fun c116 => ?_) (fun c116 => ?_)
                        · refine ja_iconst dstrength_128 ?_
                          refine ja_goto 133 dstrength_129 rfl ?_
                          refine ja_ireturn dstrength_133 rfl ?_
                          exact mo_fin (by omega) rfl (k1 5 (by omega))
                        · refine ja_aload_n dstrength_119 rfl rfl ?_
                          refine ja_bipush 37 dstrength_120 rfl ?_
                          refine t_isSign (by decide) (show (0 : Nat) ≤ 8 by decide) dstrength_122 g ⟨by decide, by decide⟩ ?_
                          intro w13 k122_0
                          refine ja_if_eq 132 dstrength_125 rfl ⟨by omega, by omega⟩ (fun c125 => ?_) (fun c125 => ?_)
                          · refine ja_iconst dstrength_132 ?_
                            refine ja_ireturn dstrength_133 rfl ?_
                            exact mo_fin (by omega) rfl (k1 0 (by omega))
                          · refine ja_iconst dstrength_128 ?_
                            refine ja_goto 133 dstrength_129 rfl ?_
                            refine ja_ireturn dstrength_133 rfl ?_
                            exact mo_fin (by omega) rfl (k1 5 (by omega))
                    · refine ja_iconst dstrength_99 ?_
                      refine ja_ireturn dstrength_100 rfl ?_
                      exact mo_fin (by omega) rfl (k1 4 (by omega))
                · refine ja_iconst dstrength_79 ?_
                  refine ja_ireturn dstrength_80 rfl ?_
                  exact mo_fin (by omega) rfl (k1 3 (by omega))
    · refine ja_iconst dstrength_19 ?_
      refine ja_ireturn dstrength_20 rfl ?_
      exact mo_fin (by omega) rfl (k1 2 (by omega))
  · refine ja_iconst dstrength_9 ?_
    refine ja_ireturn dstrength_10 rfl ?_
    exact mo_fin (by omega) rfl (k1 1 (by omega))
theorem t_strength {d nL pc : Nat} {cc : ByteArray} {rt : Option FieldType} {L : List (Nat × ja_V)} {S : List ja_V} {h : ja_H} {Q : Option ja_V → ja_H → Prop} (hdd : 2 < d) (hwd : ja_wd S ≤ 8) (hd : decode cc pc = .ok (.invokevirtual 862, 3)) (g : mo_G Zz h) (k1 : ∀ (v : Int), (0 ≤ v ∧ v ≤ 5) → mJ l D cA ad d cc nL rt (pc + 3) L ((0, v) :: S) h Q) : mJ l D cA ad d cc nL rt pc L ((2, ((0 : Nat) : Int)) :: S) h Q :=
  mc_strength hdd hwd hd (s_strength g k1)
end
theorem dbeginsExpression_0 : decode cX12_beginsExpression 0 = .ok (.aload_n 0, 1) := by decide +kernel
theorem dbeginsExpression_1 : decode cX12_beginsExpression 1 = .ok (.getfield 13, 3) := by decide +kernel
theorem dbeginsExpression_4 : decode cX12_beginsExpression 4 = .ok (.aload_n 0, 1) := by decide +kernel
theorem dbeginsExpression_5 : decode cX12_beginsExpression 5 = .ok (.getfield 574, 3) := by decide +kernel
theorem dbeginsExpression_8 : decode cX12_beginsExpression 8 = .ok (.iaload, 1) := by decide +kernel
theorem dbeginsExpression_9 : decode cX12_beginsExpression 9 = .ok (.istore_n 1, 1) := by decide +kernel
theorem dbeginsExpression_10 : decode cX12_beginsExpression 10 = .ok (.iload_n 1, 1) := by decide +kernel
theorem dbeginsExpression_11 : decode cX12_beginsExpression 11 = .ok (.iconst 3, 1) := by decide +kernel
theorem dbeginsExpression_12 : decode cX12_beginsExpression 12 = .ok (.if_icmp .eq 44, 3) := by decide +kernel
theorem dbeginsExpression_15 : decode cX12_beginsExpression 15 = .ok (.iload_n 1, 1) := by decide +kernel
theorem dbeginsExpression_16 : decode cX12_beginsExpression 16 = .ok (.iconst 2, 1) := by decide +kernel
theorem dbeginsExpression_17 : decode cX12_beginsExpression 17 = .ok (.if_icmp .eq 39, 3) := by decide +kernel
theorem dbeginsExpression_20 : decode cX12_beginsExpression 20 = .ok (.aload_n 0, 1) := by decide +kernel
theorem dbeginsExpression_21 : decode cX12_beginsExpression 21 = .ok (.bipush 40, 2) := by decide +kernel
theorem dbeginsExpression_23 : decode cX12_beginsExpression 23 = .ok (.invokevirtual 586, 3) := by decide +kernel
theorem dbeginsExpression_26 : decode cX12_beginsExpression 26 = .ok (.ifCond .ne 30, 3) := by decide +kernel
theorem dbeginsExpression_29 : decode cX12_beginsExpression 29 = .ok (.aload_n 0, 1) := by decide +kernel
theorem dbeginsExpression_30 : decode cX12_beginsExpression 30 = .ok (.bipush 45, 2) := by decide +kernel
theorem dbeginsExpression_32 : decode cX12_beginsExpression 32 = .ok (.invokevirtual 586, 3) := by decide +kernel
theorem dbeginsExpression_35 : decode cX12_beginsExpression 35 = .ok (.ifCond .ne 21, 3) := by decide +kernel
theorem dbeginsExpression_38 : decode cX12_beginsExpression 38 = .ok (.aload_n 0, 1) := by decide +kernel
theorem dbeginsExpression_39 : decode cX12_beginsExpression 39 = .ok (.bipush 28, 2) := by decide +kernel
theorem dbeginsExpression_41 : decode cX12_beginsExpression 41 = .ok (.invokevirtual 596, 3) := by decide +kernel
theorem dbeginsExpression_44 : decode cX12_beginsExpression 44 = .ok (.ifCond .ne 12, 3) := by decide +kernel
theorem dbeginsExpression_47 : decode cX12_beginsExpression 47 = .ok (.aload_n 0, 1) := by decide +kernel
theorem dbeginsExpression_48 : decode cX12_beginsExpression 48 = .ok (.bipush 27, 2) := by decide +kernel
theorem dbeginsExpression_50 : decode cX12_beginsExpression 50 = .ok (.invokevirtual 596, 3) := by decide +kernel
theorem dbeginsExpression_53 : decode cX12_beginsExpression 53 = .ok (.ifCond .eq 5, 3) := by decide +kernel
theorem dbeginsExpression_56 : decode cX12_beginsExpression 56 = .ok (.iconst 1, 1) := by decide +kernel
theorem dbeginsExpression_57 : decode cX12_beginsExpression 57 = .ok (.ireturn, 1) := by decide +kernel
theorem dbeginsExpression_58 : decode cX12_beginsExpression 58 = .ok (.aload_n 0, 1) := by decide +kernel
theorem dbeginsExpression_59 : decode cX12_beginsExpression 59 = .ok (.getfield 698, 3) := by decide +kernel
theorem dbeginsExpression_62 : decode cX12_beginsExpression 62 = .ok (.ifCond .ne 34, 3) := by decide +kernel
theorem dbeginsExpression_65 : decode cX12_beginsExpression 65 = .ok (.aload_n 0, 1) := by decide +kernel
theorem dbeginsExpression_66 : decode cX12_beginsExpression 66 = .ok (.bipush 36, 2) := by decide +kernel
theorem dbeginsExpression_68 : decode cX12_beginsExpression 68 = .ok (.invokevirtual 596, 3) := by decide +kernel
theorem dbeginsExpression_71 : decode cX12_beginsExpression 71 = .ok (.ifCond .ne 21, 3) := by decide +kernel
theorem dbeginsExpression_74 : decode cX12_beginsExpression 74 = .ok (.aload_n 0, 1) := by decide +kernel
theorem dbeginsExpression_75 : decode cX12_beginsExpression 75 = .ok (.bipush 26, 2) := by decide +kernel
theorem dbeginsExpression_77 : decode cX12_beginsExpression 77 = .ok (.invokevirtual 596, 3) := by decide +kernel
theorem dbeginsExpression_80 : decode cX12_beginsExpression 80 = .ok (.ifCond .ne 12, 3) := by decide +kernel
theorem dbeginsExpression_83 : decode cX12_beginsExpression 83 = .ok (.aload_n 0, 1) := by decide +kernel
theorem dbeginsExpression_84 : decode cX12_beginsExpression 84 = .ok (.bipush 18, 2) := by decide +kernel
theorem dbeginsExpression_86 : decode cX12_beginsExpression 86 = .ok (.invokevirtual 596, 3) := by decide +kernel
theorem dbeginsExpression_89 : decode cX12_beginsExpression 89 = .ok (.ifCond .eq 7, 3) := by decide +kernel
theorem dbeginsExpression_92 : decode cX12_beginsExpression 92 = .ok (.iconst 1, 1) := by decide +kernel
theorem dbeginsExpression_93 : decode cX12_beginsExpression 93 = .ok (.goto 4, 3) := by decide +kernel
theorem dbeginsExpression_96 : decode cX12_beginsExpression 96 = .ok (.iconst 0, 1) := by decide +kernel
theorem dbeginsExpression_97 : decode cX12_beginsExpression 97 = .ok (.ireturn, 1) := by decide +kernel
section
variable {l : Launch} {D : va_G} {cA : Nat → ClassId} {ad : Nat → Nat}
theorem s_beginsExpression {h : ja_H} {Q : Option ja_V → ja_H → Prop} (g : mo_G Zz h) (k1 : ∀ (v : Int), (0 ≤ v ∧ v ≤ 1 ∧ (v = 1 → ((h 2 (h 0 7).toNat) = 3 ∨ (h 2 (h 0 7).toNat) = 2 ∨ ((h 2 (h 0 7).toNat) = 5 ∧ ((h 5 (h 0 7).toNat) = 40 ∨ (h 5 (h 0 7).toNat) = 45)) ∨ ((h 2 (h 0 7).toNat) = 1 ∧ ((h 5 (h 0 7).toNat) = 28 ∨ (h 5 (h 0 7).toNat) = 27)) ∨ ((h 0 86) = 0 ∧ (h 2 (h 0 7).toNat) = 1 ∧ ((h 5 (h 0 7).toNat) = 36 ∨ (h 5 (h 0 7).toNat) = 26 ∨ (h 5 (h 0 7).toNat) = 18)))) ∧ (v = 0 → ¬ ((h 2 (h 0 7).toNat) = 3 ∨ (h 2 (h 0 7).toNat) = 2 ∨ ((h 2 (h 0 7).toNat) = 5 ∧ ((h 5 (h 0 7).toNat) = 40 ∨ (h 5 (h 0 7).toNat) = 45)) ∨ ((h 2 (h 0 7).toNat) = 1 ∧ ((h 5 (h 0 7).toNat) = 28 ∨ (h 5 (h 0 7).toNat) = 27)) ∨ ((h 0 86) = 0 ∧ (h 2 (h 0 7).toNat) = 1 ∧ ((h 5 (h 0 7).toNat) = 36 ∨ (h 5 (h 0 7).toNat) = 26 ∨ (h 5 (h 0 7).toNat) = 18))))) → Q (some (0, v)) h) : mM_beginsExpression l D cA ad  h Q := by
  show mJ l D cA ad 2 cX12_beginsExpression 2 (some .boolean) 0 [(0, (2, ((0 : Nat) : Int)))] [] h Q
  have kn_inIf := gF_inIf g
  refine ja_aload_n dbeginsExpression_0 rfl rfl ?_
  refine fa_kinds dbeginsExpression_1 ?_
  refine ja_aload_n dbeginsExpression_4 rfl rfl ?_
  refine fg_at (v := h 0 7) rfl dbeginsExpression_5 ?_
  have f1 := gF_at g
  refine il_kinds (v := h 2 (h 0 7).toNat) rfl ⟨by omega, by omega⟩ dbeginsExpression_8 ?_
  have f2 := gC_kinds g (h 0 7).toNat
  refine ja_istore_n dbeginsExpression_9 rfl (by decide) (L2 := [(1, (0, (h 2 (h 0 7).toNat))), (0, (2, ((0 : Nat) : Int)))]) rfl ?_
  refine ja_iload_n dbeginsExpression_10 rfl rfl ?_
  refine ja_iconst dbeginsExpression_11 ?_
  refine ja_icmp_eq 56 dbeginsExpression_12 rfl ⟨by omega, by omega⟩ ⟨by decide, by decide⟩ (fun c12 => ?_) (fun c12 => ?_)
  · refine ja_iconst dbeginsExpression_56 ?_
    refine ja_zreturn dbeginsExpression_57 rfl (by omega) ?_
    exact mo_fin (by omega) rfl (k1 1 (by omega))
  · refine ja_iload_n dbeginsExpression_15 rfl rfl ?_
    refine ja_iconst dbeginsExpression_16 ?_
    refine ja_icmp_eq 56 dbeginsExpression_17 rfl ⟨by omega, by omega⟩ ⟨by decide, by decide⟩ (fun c17 => ?_) (fun c17 => ?_)
    · refine ja_iconst dbeginsExpression_56 ?_
      refine ja_zreturn dbeginsExpression_57 rfl (by omega) ?_
      exact mo_fin (by omega) rfl (k1 1 (by omega))
    · refine ja_aload_n dbeginsExpression_20 rfl rfl ?_
      refine ja_bipush 40 dbeginsExpression_21 rfl ?_
      refine t_isSign (by decide) (show (0 : Nat) ≤ 8 by decide) dbeginsExpression_23 g ⟨by decide, by decide⟩ ?_
      intro w3 k23_0
      refine ja_if_ne 56 dbeginsExpression_26 rfl ⟨by omega, by omega⟩ (fun c26 => ?_) (fun c26 => ?_)
      · refine ja_iconst dbeginsExpression_56 ?_
        refine ja_zreturn dbeginsExpression_57 rfl (by omega) ?_
        exact mo_fin (by omega) rfl (k1 1 (by omega))
      · refine ja_aload_n dbeginsExpression_29 rfl rfl ?_
        refine ja_bipush 45 dbeginsExpression_30 rfl ?_
        refine t_isSign (by decide) (show (0 : Nat) ≤ 8 by decide) dbeginsExpression_32 g ⟨by decide, by decide⟩ ?_
        intro w4 k32_0
        refine ja_if_ne 56 dbeginsExpression_35 rfl ⟨by omega, by omega⟩ (fun c35 => ?_) (fun c35 => ?_)
        · refine ja_iconst dbeginsExpression_56 ?_
          refine ja_zreturn dbeginsExpression_57 rfl (by omega) ?_
          exact mo_fin (by omega) rfl (k1 1 (by omega))
        · refine ja_aload_n dbeginsExpression_38 rfl rfl ?_
          refine ja_bipush 28 dbeginsExpression_39 rfl ?_
          refine t_isWord (by decide) (show (0 : Nat) ≤ 8 by decide) dbeginsExpression_41 g ⟨by decide, by decide⟩ ?_
          intro w5 k41_0
          refine ja_if_ne 56 dbeginsExpression_44 rfl ⟨by omega, by omega⟩ (fun c44 => ?_) (fun c44 => ?_)
          · refine ja_iconst dbeginsExpression_56 ?_
            refine ja_zreturn dbeginsExpression_57 rfl (by omega) ?_
            exact mo_fin (by omega) rfl (k1 1 (by omega))
          · refine ja_aload_n dbeginsExpression_47 rfl rfl ?_
            refine ja_bipush 27 dbeginsExpression_48 rfl ?_
            refine t_isWord (by decide) (show (0 : Nat) ≤ 8 by decide) dbeginsExpression_50 g ⟨by decide, by decide⟩ ?_
            intro w6 k50_0
            refine ja_if_eq 58 dbeginsExpression_53 rfl ⟨by omega, by omega⟩ (fun c53 => ?_) (fun c53 => ?_)
            · refine ja_aload_n dbeginsExpression_58 rfl rfl ?_
              refine fg_inIf (v := h 0 86) rfl dbeginsExpression_59 ?_
              have f7 := gF_inIf g
              refine ja_if_ne 96 dbeginsExpression_62 rfl ⟨by omega, by omega⟩ (fun c62 => ?_) (fun c62 => ?_)
              · refine ja_iconst dbeginsExpression_96 ?_
                refine ja_zreturn dbeginsExpression_97 rfl (by omega) ?_
                exact mo_fin (by omega) rfl (k1 0 (by omega))
              · refine ja_aload_n dbeginsExpression_65 rfl rfl ?_
                refine ja_bipush 36 dbeginsExpression_66 rfl ?_
                refine t_isWord (by decide) (show (0 : Nat) ≤ 8 by decide) dbeginsExpression_68 g ⟨by decide, by decide⟩ ?_
                intro w8 k68_0
                refine ja_if_ne 92 dbeginsExpression_71 rfl ⟨by omega, by omega⟩ (fun c71 => ?_) (fun c71 => ?_)
                · refine ja_iconst dbeginsExpression_92 ?_
                  refine ja_goto 97 dbeginsExpression_93 rfl ?_
                  refine ja_zreturn dbeginsExpression_97 rfl (by omega) ?_
                  exact mo_fin (by omega) rfl (k1 1 (by omega))
                · refine ja_aload_n dbeginsExpression_74 rfl rfl ?_
                  refine ja_bipush 26 dbeginsExpression_75 rfl ?_
                  refine t_isWord (by decide) (show (0 : Nat) ≤ 8 by decide) dbeginsExpression_77 g ⟨by decide, by decide⟩ ?_
                  intro w9 k77_0
                  refine ja_if_ne 92 dbeginsExpression_80 rfl ⟨by omega, by omega⟩ (fun c80 => ?_) (fun c80 => ?_)
                  · refine ja_iconst dbeginsExpression_92 ?_
                    refine ja_goto 97 dbeginsExpression_93 rfl ?_
                    refine ja_zreturn dbeginsExpression_97 rfl (by omega) ?_
                    exact mo_fin (by omega) rfl (k1 1 (by omega))
                  · refine ja_aload_n dbeginsExpression_83 rfl rfl ?_
                    refine ja_bipush 18 dbeginsExpression_84 rfl ?_
                    refine t_isWord (by decide) (show (0 : Nat) ≤ 8 by decide) dbeginsExpression_86 g ⟨by decide, by decide⟩ ?_
                    intro w10 k86_0
                    refine ja_if_eq 96 dbeginsExpression_89 rfl ⟨by omega, by omega⟩ (fun c89 => ?_) (fun c89 => ?_)
                    · refine ja_iconst dbeginsExpression_96 ?_
                      refine ja_zreturn dbeginsExpression_97 rfl (by omega) ?_
                      exact mo_fin (by omega) rfl (k1 0 (by omega))
                    · refine ja_iconst dbeginsExpression_92 ?_
                      refine ja_goto 97 dbeginsExpression_93 rfl ?_
                      refine ja_zreturn dbeginsExpression_97 rfl (by omega) ?_
                      exact mo_fin (by omega) rfl (k1 1 (by omega))
            · refine ja_iconst dbeginsExpression_56 ?_
              refine ja_zreturn dbeginsExpression_57 rfl (by omega) ?_
              exact mo_fin (by omega) rfl (k1 1 (by omega))
theorem t_beginsExpression {d nL pc : Nat} {cc : ByteArray} {rt : Option FieldType} {L : List (Nat × ja_V)} {S : List ja_V} {h : ja_H} {Q : Option ja_V → ja_H → Prop} (hdd : 2 < d) (hwd : ja_wd S ≤ 8) (hd : decode cc pc = .ok (.invokevirtual 808, 3)) (g : mo_G Zz h) (k1 : ∀ (v : Int), (0 ≤ v ∧ v ≤ 1 ∧ (v = 1 → ((h 2 (h 0 7).toNat) = 3 ∨ (h 2 (h 0 7).toNat) = 2 ∨ ((h 2 (h 0 7).toNat) = 5 ∧ ((h 5 (h 0 7).toNat) = 40 ∨ (h 5 (h 0 7).toNat) = 45)) ∨ ((h 2 (h 0 7).toNat) = 1 ∧ ((h 5 (h 0 7).toNat) = 28 ∨ (h 5 (h 0 7).toNat) = 27)) ∨ ((h 0 86) = 0 ∧ (h 2 (h 0 7).toNat) = 1 ∧ ((h 5 (h 0 7).toNat) = 36 ∨ (h 5 (h 0 7).toNat) = 26 ∨ (h 5 (h 0 7).toNat) = 18)))) ∧ (v = 0 → ¬ ((h 2 (h 0 7).toNat) = 3 ∨ (h 2 (h 0 7).toNat) = 2 ∨ ((h 2 (h 0 7).toNat) = 5 ∧ ((h 5 (h 0 7).toNat) = 40 ∨ (h 5 (h 0 7).toNat) = 45)) ∨ ((h 2 (h 0 7).toNat) = 1 ∧ ((h 5 (h 0 7).toNat) = 28 ∨ (h 5 (h 0 7).toNat) = 27)) ∨ ((h 0 86) = 0 ∧ (h 2 (h 0 7).toNat) = 1 ∧ ((h 5 (h 0 7).toNat) = 36 ∨ (h 5 (h 0 7).toNat) = 26 ∨ (h 5 (h 0 7).toNat) = 18))))) → mJ l D cA ad d cc nL rt (pc + 3) L ((0, v) :: S) h Q) : mJ l D cA ad d cc nL rt pc L ((2, ((0 : Nat) : Int)) :: S) h Q :=
  mc_beginsExpression hdd hwd hd (s_beginsExpression g k1)
end
theorem dbeginsState_0 : decode cX12_beginsState 0 = .ok (.aload_n 0, 1) := by decide +kernel
theorem dbeginsState_1 : decode cX12_beginsState 1 = .ok (.invokevirtual 808, 3) := by decide +kernel
theorem dbeginsState_4 : decode cX12_beginsState 4 = .ok (.ifCond .ne 66, 3) := by decide +kernel
theorem dbeginsState_7 : decode cX12_beginsState 7 = .ok (.aload_n 0, 1) := by decide +kernel
theorem dbeginsState_8 : decode cX12_beginsState 8 = .ok (.bipush 22, 2) := by decide +kernel
theorem dbeginsState_10 : decode cX12_beginsState 10 = .ok (.invokevirtual 596, 3) := by decide +kernel
theorem dbeginsState_13 : decode cX12_beginsState 13 = .ok (.ifCond .ne 57, 3) := by decide +kernel
theorem dbeginsState_16 : decode cX12_beginsState 16 = .ok (.aload_n 0, 1) := by decide +kernel
theorem dbeginsState_17 : decode cX12_beginsState 17 = .ok (.bipush 19, 2) := by decide +kernel
theorem dbeginsState_19 : decode cX12_beginsState 19 = .ok (.invokevirtual 596, 3) := by decide +kernel
theorem dbeginsState_22 : decode cX12_beginsState 22 = .ok (.ifCond .ne 48, 3) := by decide +kernel
theorem dbeginsState_25 : decode cX12_beginsState 25 = .ok (.aload_n 0, 1) := by decide +kernel
theorem dbeginsState_26 : decode cX12_beginsState 26 = .ok (.bipush 43, 2) := by decide +kernel
theorem dbeginsState_28 : decode cX12_beginsState 28 = .ok (.invokevirtual 596, 3) := by decide +kernel
theorem dbeginsState_31 : decode cX12_beginsState 31 = .ok (.ifCond .ne 39, 3) := by decide +kernel
theorem dbeginsState_34 : decode cX12_beginsState 34 = .ok (.aload_n 0, 1) := by decide +kernel
theorem dbeginsState_35 : decode cX12_beginsState 35 = .ok (.bipush 34, 2) := by decide +kernel
theorem dbeginsState_37 : decode cX12_beginsState 37 = .ok (.invokevirtual 596, 3) := by decide +kernel
theorem dbeginsState_40 : decode cX12_beginsState 40 = .ok (.ifCond .ne 30, 3) := by decide +kernel
theorem dbeginsState_43 : decode cX12_beginsState 43 = .ok (.aload_n 0, 1) := by decide +kernel
theorem dbeginsState_44 : decode cX12_beginsState 44 = .ok (.bipush 39, 2) := by decide +kernel
theorem dbeginsState_46 : decode cX12_beginsState 46 = .ok (.invokevirtual 596, 3) := by decide +kernel
theorem dbeginsState_49 : decode cX12_beginsState 49 = .ok (.ifCond .ne 21, 3) := by decide +kernel
theorem dbeginsState_52 : decode cX12_beginsState 52 = .ok (.aload_n 0, 1) := by decide +kernel
theorem dbeginsState_53 : decode cX12_beginsState 53 = .ok (.bipush 40, 2) := by decide +kernel
theorem dbeginsState_55 : decode cX12_beginsState 55 = .ok (.invokevirtual 596, 3) := by decide +kernel
theorem dbeginsState_58 : decode cX12_beginsState 58 = .ok (.ifCond .ne 12, 3) := by decide +kernel
theorem dbeginsState_61 : decode cX12_beginsState 61 = .ok (.aload_n 0, 1) := by decide +kernel
theorem dbeginsState_62 : decode cX12_beginsState 62 = .ok (.bipush 33, 2) := by decide +kernel
theorem dbeginsState_64 : decode cX12_beginsState 64 = .ok (.invokevirtual 596, 3) := by decide +kernel
theorem dbeginsState_67 : decode cX12_beginsState 67 = .ok (.ifCond .eq 7, 3) := by decide +kernel
theorem dbeginsState_70 : decode cX12_beginsState 70 = .ok (.iconst 1, 1) := by decide +kernel
theorem dbeginsState_71 : decode cX12_beginsState 71 = .ok (.goto 4, 3) := by decide +kernel
theorem dbeginsState_74 : decode cX12_beginsState 74 = .ok (.iconst 0, 1) := by decide +kernel
theorem dbeginsState_75 : decode cX12_beginsState 75 = .ok (.ireturn, 1) := by decide +kernel
section
variable {l : Launch} {D : va_G} {cA : Nat → ClassId} {ad : Nat → Nat}
theorem s_beginsState {h : ja_H} {Q : Option ja_V → ja_H → Prop} (g : mo_G Zz h) (k1 : ∀ (v : Int), (0 ≤ v ∧ v ≤ 1) → Q (some (0, v)) h) : mM_beginsState l D cA ad  h Q := by
  show mJ l D cA ad 3 cX12_beginsState 1 (some .boolean) 0 [(0, (2, ((0 : Nat) : Int)))] [] h Q
  refine ja_aload_n dbeginsState_0 rfl rfl ?_
  refine t_beginsExpression (by decide) (show (0 : Nat) ≤ 8 by decide) dbeginsState_1 g  ?_
  intro w1 k1_0
  refine ja_if_ne 70 dbeginsState_4 rfl ⟨by omega, by omega⟩ (fun c4 => ?_) (fun c4 => ?_)
  · refine ja_iconst dbeginsState_70 ?_
    refine ja_goto 75 dbeginsState_71 rfl ?_
    refine ja_zreturn dbeginsState_75 rfl (by omega) ?_
    exact mo_fin (by omega) rfl (k1 1 (by omega))
  · refine ja_aload_n dbeginsState_7 rfl rfl ?_
    refine ja_bipush 22 dbeginsState_8 rfl ?_
    refine t_isWord (by decide) (show (0 : Nat) ≤ 8 by decide) dbeginsState_10 g ⟨by decide, by decide⟩ ?_
    intro w2 k10_0
    refine ja_if_ne 70 dbeginsState_13 rfl ⟨by omega, by omega⟩ (fun c13 => ?_) (fun c13 => ?_)
    · refine ja_iconst dbeginsState_70 ?_
      refine ja_goto 75 dbeginsState_71 rfl ?_
      refine ja_zreturn dbeginsState_75 rfl (by omega) ?_
      exact mo_fin (by omega) rfl (k1 1 (by omega))
    · refine ja_aload_n dbeginsState_16 rfl rfl ?_
      refine ja_bipush 19 dbeginsState_17 rfl ?_
      refine t_isWord (by decide) (show (0 : Nat) ≤ 8 by decide) dbeginsState_19 g ⟨by decide, by decide⟩ ?_
      intro w3 k19_0
      refine ja_if_ne 70 dbeginsState_22 rfl ⟨by omega, by omega⟩ (fun c22 => ?_) (fun c22 => ?_)
      · refine ja_iconst dbeginsState_70 ?_
        refine ja_goto 75 dbeginsState_71 rfl ?_
        refine ja_zreturn dbeginsState_75 rfl (by omega) ?_
        exact mo_fin (by omega) rfl (k1 1 (by omega))
      · refine ja_aload_n dbeginsState_25 rfl rfl ?_
        refine ja_bipush 43 dbeginsState_26 rfl ?_
        refine t_isWord (by decide) (show (0 : Nat) ≤ 8 by decide) dbeginsState_28 g ⟨by decide, by decide⟩ ?_
        intro w4 k28_0
        refine ja_if_ne 70 dbeginsState_31 rfl ⟨by omega, by omega⟩ (fun c31 => ?_) (fun c31 => ?_)
        · refine ja_iconst dbeginsState_70 ?_
          refine ja_goto 75 dbeginsState_71 rfl ?_
          refine ja_zreturn dbeginsState_75 rfl (by omega) ?_
          exact mo_fin (by omega) rfl (k1 1 (by omega))
        · refine ja_aload_n dbeginsState_34 rfl rfl ?_
          refine ja_bipush 34 dbeginsState_35 rfl ?_
          refine t_isWord (by decide) (show (0 : Nat) ≤ 8 by decide) dbeginsState_37 g ⟨by decide, by decide⟩ ?_
          intro w5 k37_0
          refine ja_if_ne 70 dbeginsState_40 rfl ⟨by omega, by omega⟩ (fun c40 => ?_) (fun c40 => ?_)
          · refine ja_iconst dbeginsState_70 ?_
            refine ja_goto 75 dbeginsState_71 rfl ?_
            refine ja_zreturn dbeginsState_75 rfl (by omega) ?_
            exact mo_fin (by omega) rfl (k1 1 (by omega))
          · refine ja_aload_n dbeginsState_43 rfl rfl ?_
            refine ja_bipush 39 dbeginsState_44 rfl ?_
            refine t_isWord (by decide) (show (0 : Nat) ≤ 8 by decide) dbeginsState_46 g ⟨by decide, by decide⟩ ?_
            intro w6 k46_0
            refine ja_if_ne 70 dbeginsState_49 rfl ⟨by omega, by omega⟩ (fun c49 => ?_) (fun c49 => ?_)
            · refine ja_iconst dbeginsState_70 ?_
              refine ja_goto 75 dbeginsState_71 rfl ?_
              refine ja_zreturn dbeginsState_75 rfl (by omega) ?_
              exact mo_fin (by omega) rfl (k1 1 (by omega))
            · refine ja_aload_n dbeginsState_52 rfl rfl ?_
              refine ja_bipush 40 dbeginsState_53 rfl ?_
              refine t_isWord (by decide) (show (0 : Nat) ≤ 8 by decide) dbeginsState_55 g ⟨by decide, by decide⟩ ?_
              intro w7 k55_0
              refine ja_if_ne 70 dbeginsState_58 rfl ⟨by omega, by omega⟩ (fun c58 => ?_) (fun c58 => ?_)
              · refine ja_iconst dbeginsState_70 ?_
                refine ja_goto 75 dbeginsState_71 rfl ?_
                refine ja_zreturn dbeginsState_75 rfl (by omega) ?_
                exact mo_fin (by omega) rfl (k1 1 (by omega))
              · refine ja_aload_n dbeginsState_61 rfl rfl ?_
                refine ja_bipush 33 dbeginsState_62 rfl ?_
                refine t_isWord (by decide) (show (0 : Nat) ≤ 8 by decide) dbeginsState_64 g ⟨by decide, by decide⟩ ?_
                intro w8 k64_0
                refine ja_if_eq 74 dbeginsState_67 rfl ⟨by omega, by omega⟩ (fun c67 => ?_) (fun c67 => ?_)
                · refine ja_iconst dbeginsState_74 ?_
                  refine ja_zreturn dbeginsState_75 rfl (by omega) ?_
                  exact mo_fin (by omega) rfl (k1 0 (by omega))
                · refine ja_iconst dbeginsState_70 ?_
                  refine ja_goto 75 dbeginsState_71 rfl ?_
                  refine ja_zreturn dbeginsState_75 rfl (by omega) ?_
                  exact mo_fin (by omega) rfl (k1 1 (by omega))
theorem t_beginsState {d nL pc : Nat} {cc : ByteArray} {rt : Option FieldType} {L : List (Nat × ja_V)} {S : List ja_V} {h : ja_H} {Q : Option ja_V → ja_H → Prop} (hdd : 3 < d) (hwd : ja_wd S ≤ 8) (hd : decode cc pc = .ok (.invokevirtual 811, 3)) (g : mo_G Zz h) (k1 : ∀ (v : Int), (0 ≤ v ∧ v ≤ 1) → mJ l D cA ad d cc nL rt (pc + 3) L ((0, v) :: S) h Q) : mJ l D cA ad d cc nL rt pc L ((2, ((0 : Nat) : Int)) :: S) h Q :=
  mc_beginsState hdd hwd hd (s_beginsState g k1)
end
