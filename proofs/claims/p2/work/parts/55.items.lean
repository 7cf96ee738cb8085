/-! the reference: ITEMS, members (written by a program) -/
variable {Zz : Zc}
/-! the reference's parser: members -/
theorem cntI_step {f : Nat → Int} {v i : Int} (h0 : 0 ≤ i) : cntI f v (i + 1).toNat = (if f i.toNat = v then 1 else 0) + cntI f v i.toNat := by
  have e : (i + 1).toNat = i.toNat + 1 := by omega
  rw [e]; rfl
theorem cnt_yes {f : Nat → Int} {v i x : Int} (h0 : 0 ≤ i) (q : x = (cntI f v i.toNat : Int)) (c : f i.toNat = v) : x + 1 = (cntI f v (i + 1).toNat : Int) := by
  rw [cntI_step h0, if_pos c]; omega
theorem cnt_no {f : Nat → Int} {v i x : Int} (h0 : 0 ≤ i) (q : x = (cntI f v i.toNat : Int)) (c : ¬ f i.toNat = v) : x = (cntI f v (i + 1).toNat : Int) := by
  rw [cntI_step h0, if_neg c]; omega
theorem cnt_le {f : Nat → Int} {v : Int} : ∀ n : Nat, cntI f v n ≤ n
  | 0 => Nat.le_refl _
  | n + 1 => by
    have := cnt_le (f := f) (v := v) n
    show (if f n = v then 1 else 0) + cntI f v n ≤ n + 1
    split <;> omega
theorem it_F_of {h : ja_H} {ht st rg : Nat → Int} (q : it h ht st rg) : it_F h := q.2.2.2.2
theorem it_wt {h H : ja_H} (a1 : (H 0 68) = (h 0 68)) (a2 : (H 45) = (h 45)) (a3 : (H 44) = (h 44)) (a4 : (H 46) = (h 46)) : ∀ k a b, pw_wt h k a b → pw_wt H k a b := fun _ _ _ q => wt_same a1 a2 a3 a4 _ _ _ q
theorem dmember_0 : decode cX12_member 0 = .ok (.aload_n 0, 1) := by decide +kernel
theorem dmember_1 : decode cX12_member 1 = .ok (.bipush 14, 2) := by decide +kernel
theorem dmember_3 : decode cX12_member 3 = .ok (.invokevirtual 596, 3) := by decide +kernel
theorem dmember_6 : decode cX12_member 6 = .ok (.ifCond .eq 161, 3) := by decide +kernel
theorem dmember_9 : decode cX12_member 9 = .ok (.aload_n 0, 1) := by decide +kernel
theorem dmember_10 : decode cX12_member 10 = .ok (.invokevirtual 589, 3) := by decide +kernel
theorem dmember_13 : decode cX12_member 13 = .ok (.ifCond .ne 5, 3) := by decide +kernel
theorem dmember_16 : decode cX12_member 16 = .ok (.iconst 0, 1) := by decide +kernel
theorem dmember_17 : decode cX12_member 17 = .ok (.ireturn, 1) := by decide +kernel
theorem dmember_18 : decode cX12_member 18 = .ok (.iconst 0, 1) := by decide +kernel
theorem dmember_19 : decode cX12_member 19 = .ok (.istore_n 2, 1) := by decide +kernel
theorem dmember_20 : decode cX12_member 20 = .ok (.iconst 0, 1) := by decide +kernel
theorem dmember_21 : decode cX12_member 21 = .ok (.istore_n 3, 1) := by decide +kernel
theorem dmember_22 : decode cX12_member 22 = .ok (.iload_n 3, 1) := by decide +kernel
theorem dmember_23 : decode cX12_member 23 = .ok (.aload_n 0, 1) := by decide +kernel
theorem dmember_24 : decode cX12_member 24 = .ok (.getfield 653, 3) := by decide +kernel
theorem dmember_27 : decode cX12_member 27 = .ok (.if_icmp .ge 31, 3) := by decide +kernel
theorem dmember_30 : decode cX12_member 30 = .ok (.aload_n 0, 1) := by decide +kernel
theorem dmember_31 : decode cX12_member 31 = .ok (.getfield 62, 3) := by decide +kernel
theorem dmember_34 : decode cX12_member 34 = .ok (.iload_n 3, 1) := by decide +kernel
theorem dmember_35 : decode cX12_member 35 = .ok (.iaload, 1) := by decide +kernel
theorem dmember_36 : decode cX12_member 36 = .ok (.aload_n 0, 1) := by decide +kernel
theorem dmember_37 : decode cX12_member 37 = .ok (.iload_n 1, 1) := by decide +kernel
theorem dmember_38 : decode cX12_member 38 = .ok (.invokevirtual 716, 3) := by decide +kernel
theorem dmember_41 : decode cX12_member 41 = .ok (.if_icmp .ne 9, 3) := by decide +kernel
theorem dmember_44 : decode cX12_member 44 = .ok (.iload_n 2, 1) := by decide +kernel
theorem dmember_45 : decode cX12_member 45 = .ok (.iconst 1, 1) := by decide +kernel
theorem dmember_46 : decode cX12_member 46 = .ok (.iadd, 1) := by decide +kernel
theorem dmember_47 : decode cX12_member 47 = .ok (.goto 4, 3) := by decide +kernel
theorem dmember_50 : decode cX12_member 50 = .ok (.iload_n 2, 1) := by decide +kernel
theorem dmember_51 : decode cX12_member 51 = .ok (.istore_n 2, 1) := by decide +kernel
theorem dmember_52 : decode cX12_member 52 = .ok (.iinc 3 1, 3) := by decide +kernel
theorem dmember_55 : decode cX12_member 55 = .ok (.goto (-33), 3) := by decide +kernel
theorem dmember_58 : decode cX12_member 58 = .ok (.aload_n 0, 1) := by decide +kernel
theorem dmember_59 : decode cX12_member 59 = .ok (.invokevirtual 599, 3) := by decide +kernel
theorem dmember_62 : decode cX12_member 62 = .ok (.ifCond .eq 15, 3) := by decide +kernel
theorem dmember_65 : decode cX12_member 65 = .ok (.iload_n 2, 1) := by decide +kernel
theorem dmember_66 : decode cX12_member 66 = .ok (.bipush 10, 2) := by decide +kernel
theorem dmember_68 : decode cX12_member 68 = .ok (.if_icmp .ne 9, 3) := by decide +kernel
theorem dmember_71 : decode cX12_member 71 = .ok (.aload_n 0, 1) := by decide +kernel
theorem dmember_72 : decode cX12_member 72 = .ok (.iconst 3, 1) := by decide +kernel
theorem dmember_73 : decode cX12_member 73 = .ok (.invokevirtual 583, 3) := by decide +kernel
theorem dmember_76 : decode cX12_member 76 = .ok (.ireturn, 1) := by decide +kernel
theorem dmember_77 : decode cX12_member 77 = .ok (.aload_n 0, 1) := by decide +kernel
theorem dmember_78 : decode cX12_member 78 = .ok (.getfield 59, 3) := by decide +kernel
theorem dmember_81 : decode cX12_member 81 = .ok (.aload_n 0, 1) := by decide +kernel
theorem dmember_82 : decode cX12_member 82 = .ok (.getfield 653, 3) := by decide +kernel
theorem dmember_85 : decode cX12_member 85 = .ok (.aload_n 0, 1) := by decide +kernel
theorem dmember_86 : decode cX12_member 86 = .ok (.getfield 574, 3) := by decide +kernel
theorem dmember_89 : decode cX12_member 89 = .ok (.iastore, 1) := by decide +kernel
theorem dmember_90 : decode cX12_member 90 = .ok (.aload_n 0, 1) := by decide +kernel
theorem dmember_91 : decode cX12_member 91 = .ok (.getfield 62, 3) := by decide +kernel
theorem dmember_94 : decode cX12_member 94 = .ok (.aload_n 0, 1) := by decide +kernel
theorem dmember_95 : decode cX12_member 95 = .ok (.getfield 653, 3) := by decide +kernel
theorem dmember_98 : decode cX12_member 98 = .ok (.aload_n 0, 1) := by decide +kernel
theorem dmember_99 : decode cX12_member 99 = .ok (.iload_n 1, 1) := by decide +kernel
theorem dmember_100 : decode cX12_member 100 = .ok (.invokevirtual 716, 3) := by decide +kernel
theorem dmember_103 : decode cX12_member 103 = .ok (.iastore, 1) := by decide +kernel
theorem dmember_104 : decode cX12_member 104 = .ok (.aload_n 0, 1) := by decide +kernel
theorem dmember_105 : decode cX12_member 105 = .ok (.getfield 83, 3) := by decide +kernel
theorem dmember_108 : decode cX12_member 108 = .ok (.aload_n 0, 1) := by decide +kernel
theorem dmember_109 : decode cX12_member 109 = .ok (.getfield 659, 3) := by decide +kernel
theorem dmember_112 : decode cX12_member 112 = .ok (.aload_n 0, 1) := by decide +kernel
theorem dmember_113 : decode cX12_member 113 = .ok (.getfield 574, 3) := by decide +kernel
theorem dmember_116 : decode cX12_member 116 = .ok (.iastore, 1) := by decide +kernel
theorem dmember_117 : decode cX12_member 117 = .ok (.aload_n 0, 1) := by decide +kernel
theorem dmember_118 : decode cX12_member 118 = .ok (.getfield 86, 3) := by decide +kernel
theorem dmember_121 : decode cX12_member 121 = .ok (.aload_n 0, 1) := by decide +kernel
theorem dmember_122 : decode cX12_member 122 = .ok (.getfield 659, 3) := by decide +kernel
theorem dmember_125 : decode cX12_member 125 = .ok (.aload_n 0, 1) := by decide +kernel
theorem dmember_126 : decode cX12_member 126 = .ok (.iload_n 1, 1) := by decide +kernel
theorem dmember_127 : decode cX12_member 127 = .ok (.invokevirtual 716, 3) := by decide +kernel
theorem dmember_130 : decode cX12_member 130 = .ok (.iastore, 1) := by decide +kernel
theorem dmember_131 : decode cX12_member 131 = .ok (.aload_n 0, 1) := by decide +kernel
theorem dmember_132 : decode cX12_member 132 = .ok (.invokevirtual 739, 3) := by decide +kernel
theorem dmember_135 : decode cX12_member 135 = .ok (.ifCond .ne 5, 3) := by decide +kernel
theorem dmember_138 : decode cX12_member 138 = .ok (.iconst 0, 1) := by decide +kernel
theorem dmember_139 : decode cX12_member 139 = .ok (.ireturn, 1) := by decide +kernel
theorem dmember_140 : decode cX12_member 140 = .ok (.aload_n 0, 1) := by decide +kernel
theorem dmember_141 : decode cX12_member 141 = .ok (.dup, 1) := by decide +kernel
theorem dmember_142 : decode cX12_member 142 = .ok (.getfield 653, 3) := by decide +kernel
theorem dmember_145 : decode cX12_member 145 = .ok (.iconst 1, 1) := by decide +kernel
theorem dmember_146 : decode cX12_member 146 = .ok (.iadd, 1) := by decide +kernel
theorem dmember_147 : decode cX12_member 147 = .ok (.putfield 653, 3) := by decide +kernel
theorem dmember_150 : decode cX12_member 150 = .ok (.aload_n 0, 1) := by decide +kernel
theorem dmember_151 : decode cX12_member 151 = .ok (.dup, 1) := by decide +kernel
theorem dmember_152 : decode cX12_member 152 = .ok (.getfield 659, 3) := by decide +kernel
theorem dmember_155 : decode cX12_member 155 = .ok (.iconst 1, 1) := by decide +kernel
theorem dmember_156 : decode cX12_member 156 = .ok (.iadd, 1) := by decide +kernel
theorem dmember_157 : decode cX12_member 157 = .ok (.putfield 659, 3) := by decide +kernel
theorem dmember_160 : decode cX12_member 160 = .ok (.aload_n 0, 1) := by decide +kernel
theorem dmember_161 : decode cX12_member 161 = .ok (.bipush 59, 2) := by decide +kernel
theorem dmember_163 : decode cX12_member 163 = .ok (.invokevirtual 742, 3) := by decide +kernel
theorem dmember_166 : decode cX12_member 166 = .ok (.ireturn, 1) := by decide +kernel
theorem dmember_167 : decode cX12_member 167 = .ok (.aload_n 0, 1) := by decide +kernel
theorem dmember_168 : decode cX12_member 168 = .ok (.bipush 25, 2) := by decide +kernel
theorem dmember_170 : decode cX12_member 170 = .ok (.invokevirtual 596, 3) := by decide +kernel
theorem dmember_173 : decode cX12_member 173 = .ok (.ifCond .eq 26, 3) := by decide +kernel
theorem dmember_176 : decode cX12_member 176 = .ok (.aload_n 0, 1) := by decide +kernel
theorem dmember_177 : decode cX12_member 177 = .ok (.invokevirtual 589, 3) := by decide +kernel
theorem dmember_180 : decode cX12_member 180 = .ok (.ifCond .eq 15, 3) := by decide +kernel
theorem dmember_183 : decode cX12_member 183 = .ok (.aload_n 0, 1) := by decide +kernel
theorem dmember_184 : decode cX12_member 184 = .ok (.iload_n 1, 1) := by decide +kernel
theorem dmember_185 : decode cX12_member 185 = .ok (.invokevirtual 748, 3) := by decide +kernel
theorem dmember_188 : decode cX12_member 188 = .ok (.ifCond .eq 7, 3) := by decide +kernel
theorem dmember_191 : decode cX12_member 191 = .ok (.iconst 1, 1) := by decide +kernel
theorem dmember_192 : decode cX12_member 192 = .ok (.goto 11, 3) := by decide +kernel
theorem dmember_195 : decode cX12_member 195 = .ok (.iconst 0, 1) := by decide +kernel
theorem dmember_196 : decode cX12_member 196 = .ok (.goto 7, 3) := by decide +kernel
theorem dmember_199 : decode cX12_member 199 = .ok (.aload_n 0, 1) := by decide +kernel
theorem dmember_200 : decode cX12_member 200 = .ok (.invokevirtual 593, 3) := by decide +kernel
theorem dmember_203 : decode cX12_member 203 = .ok (.ireturn, 1) := by decide +kernel
section
variable {l : Launch} {D : va_G} {cA : Nat → ClassId} {ad : Nat → Nat}
theorem s_member {a1 : Int} {ht st rg : Nat → Int} {h : ja_H} {Q : Option ja_V → ja_H → Prop} (g : mo_G Zz h) (r1 : -2147483648 ≤ a1 ∧ a1 ≤ 2147483647) (p1 : it h ht st rg) (p2 : 0 ≤ a1 ∧ a1 ≤ 900) (k1 : ∀ (h' : ja_H), ((∃ ht st rg : Nat → Int, it h' ht st rg) ∧ (h 0 7) < (h' 0 7) ∧ mo_ag FKP h h') → mo_G Zz h' → Q (some (0, 1)) h') (k2 : ∀ (h' : ja_H), (0 < (h' 0 8) ∧ (h' 0 1) = (h 0 1) ∧ (h' 0 118) = (h 0 118) ∧ (h' 0 127) = (h 0 127)) → mo_G Zz h' → Q (some (0, 0)) h') : mM_member l D cA ad a1 h Q := by
  show mJ l D cA ad 10 cX12_member 4 (some .boolean) 0 [(0, (2, ((0 : Nat) : Int))), (1, (0, a1))] [] h Q
  have kn_at := gF_at g
  have kn_fields := gF_fields g
  have kn_members := gF_members g
  have CUT : ∀ n : Nat, (∀ (x2 x3 : Int), mo_G Zz (ja_up h 0 7 ((h 0 7) + 1)) → (-2147483648 ≤ x2 ∧ x2 ≤ 2147483647) → (-2147483648 ≤ x3 ∧ x3 ≤ 2147483647) → (((h 0 7) + 1 ≤ 900 ∧ 0 ≤ x3) ∧ x3 ≤ (h 0 31) ∧ x2 = (cntI (h 18) (h 5 (a1).toNat) (x3).toNat : Int)) → ((1000 - x3).toNat) = n → mJ l D cA ad 10 cX12_member 4 (some .boolean) 22 [(0, (2, ((0 : Nat) : Int))), (1, (0, a1)), (2, (0, x2)), (3, (0, x3))] [] (ja_up h 0 7 ((h 0 7) + 1)) Q) := by
    intro n
    induction n using Nat.strongRecOn with
    | _ n ih =>
      skip
      · intro x2 x3 gu qx2 qx3 iv hm
        subst hm
        obtain ⟨z1, z2, z3, z4, z5, z6, z7, z8, z9, z10, z11, z12, z13, z14⟩ := p1.2.2.1
        have hcl := cnt_le (f := h 18) (v := (h 5 (a1).toNat)) (x3).toNat
        refine ja_iload_n dmember_22 rfl rfl ?_
        refine ja_aload_n dmember_23 rfl rfl ?_
        refine fg_fields (v := h 0 31) rfl dmember_24 ?_
        have f1 := gF_fields g
        refine ja_icmp_ge 58 dmember_27 rfl ⟨by omega, by omega⟩ ⟨by omega, by omega⟩ (fun c27 => ?_) (fun c27 => ?_)
        · have hF := it_F_of p1 (h 5 (a1).toNat)
          have ex3 : x3 = (h 0 31) := by omega
          rw [← ex3] at hF
          have hci : (cntI (h 18) (h 5 (a1).toNat) (x3).toNat : Int) ≤ 9 ∨ x2 = 10 := by omega
          rw [ex3] at hci
          refine ja_aload_n dmember_58 rfl rfl ?_
          refine t_isName (by decide) (show (0 : Nat) ≤ 8 by decide) dmember_59 gu  ?_
          intro w2 k59_0
          replace k59_0 : (w2 = 1 ∧ (h 2 ((h 0 7) + 1).toNat) = 2) ∨ (w2 = 0 ∧ ¬ (h 2 ((h 0 7) + 1).toNat) = 2) := k59_0
          refine ja_if_eq 77 dmember_62 rfl ⟨by omega, by omega⟩ (fun c62 => ?_) (fun c62 => ?_)
          · replace k59_0 := is0 k59_0 c62
            refine ja_aload_n dmember_77 rfl rfl ?_
            refine fa_fieldName dmember_78 ?_
            refine ja_aload_n dmember_81 rfl rfl ?_
            refine fg_fields (v := h 0 31) rfl dmember_82 ?_
            refine ja_aload_n dmember_85 rfl rfl ?_
            refine fg_at (v := (h 0 7) + 1) rfl dmember_86 ?_
            have g3 := gW_fieldName gu (h 0 31).toNat (x := (h 0 7) + 1) ⟨by omega, by omega⟩
            refine is_fieldName ⟨by omega, by omega⟩ dmember_89 ?_
            refine ja_aload_n dmember_90 rfl rfl ?_
            refine fa_fieldOf dmember_91 ?_
            refine ja_aload_n dmember_94 rfl rfl ?_
            refine fg_fields (v := h 0 31) rfl dmember_95 ?_
            refine ja_aload_n dmember_98 rfl rfl ?_
            refine ja_iload_n dmember_99 rfl rfl ?_
            refine t_id (by decide) (show (2 : Nat) ≤ 8 by decide) dmember_100 g3 ⟨by omega, by omega⟩ (show 0 ≤ a1 ∧ a1 ≤ 900 by omega) ?_
            intro k100_0
            replace k100_0 : -2147483648 ≤ (h 5 (a1).toNat) ∧ (h 5 (a1).toNat) ≤ 2147483647 := k100_0
            show mJ l D cA ad 10 cX12_member 4 (some .boolean) 103 [(0, (2, ((0 : Nat) : Int))), (1, (0, a1)), (2, (0, x2)), (3, (0, x3))] [(0, (h 5 (a1).toNat)), (0, (h 0 31)), (2, ((18 : Nat) : Int))] (ja_up (ja_up h 0 7 ((h 0 7) + 1)) 17 ((h 0 31).toNat) ((h 0 7) + 1)) Q
            have g4 := gW_fieldOf g3 (h 0 31).toNat (x := h 5 (a1).toNat) ⟨by omega, by omega⟩
            refine is_fieldOf ⟨by omega, by omega⟩ dmember_103 ?_
            refine ja_aload_n dmember_104 rfl rfl ?_
            refine fa_memberName dmember_105 ?_
            refine ja_aload_n dmember_108 rfl rfl ?_
            refine fg_members (v := h 0 41) rfl dmember_109 ?_
            have f5 := gF_members g
            refine ja_aload_n dmember_112 rfl rfl ?_
            refine fg_at (v := (h 0 7) + 1) rfl dmember_113 ?_
            have g6 := gW_memberName g4 (h 0 41).toNat (x := (h 0 7) + 1) ⟨by omega, by omega⟩
            refine is_memberName ⟨by omega, by omega⟩ dmember_116 ?_
            refine ja_aload_n dmember_117 rfl rfl ?_
            refine fa_memberOf dmember_118 ?_
            refine ja_aload_n dmember_121 rfl rfl ?_
            refine fg_members (v := h 0 41) rfl dmember_122 ?_
            refine ja_aload_n dmember_125 rfl rfl ?_
            refine ja_iload_n dmember_126 rfl rfl ?_
            refine t_id (by decide) (show (2 : Nat) ≤ 8 by decide) dmember_127 g6 ⟨by omega, by omega⟩ (show 0 ≤ a1 ∧ a1 ≤ 900 by omega) ?_
            intro k127_0
            replace k127_0 : -2147483648 ≤ (h 5 (a1).toNat) ∧ (h 5 (a1).toNat) ≤ 2147483647 := k127_0
            show mJ l D cA ad 10 cX12_member 4 (some .boolean) 130 [(0, (2, ((0 : Nat) : Int))), (1, (0, a1)), (2, (0, x2)), (3, (0, x3))] [(0, (h 5 (a1).toNat)), (0, (h 0 41)), (2, ((26 : Nat) : Int))] (ja_up (ja_up (ja_up (ja_up h 0 7 ((h 0 7) + 1)) 17 ((h 0 31).toNat) ((h 0 7) + 1)) 18 ((h 0 31).toNat) (h 5 (a1).toNat)) 25 ((h 0 41).toNat) ((h 0 7) + 1)) Q
            have g7 := gW_memberOf g6 (h 0 41).toNat (x := h 5 (a1).toNat) ⟨by omega, by omega⟩
            refine is_memberOf ⟨by omega, by omega⟩ dmember_130 ?_
            refine ja_aload_n dmember_131 rfl rfl ?_
            refine t_name (by decide) (show (0 : Nat) ≤ 8 by decide) dmember_132 g7  ?_ ?_
            · intro k132_0 g8
              replace k132_0 : ((h 0 7) + 1) < 900 ∧ (h 2 ((h 0 7) + 1).toNat) = 2 := k132_0
              replace g8 : mo_G Zz (ja_up (ja_up (ja_up (ja_up (ja_up (ja_up h 0 7 ((h 0 7) + 1)) 17 ((h 0 31).toNat) ((h 0 7) + 1)) 18 ((h 0 31).toNat) (h 5 (a1).toNat)) 25 ((h 0 41).toNat) ((h 0 7) + 1)) 26 ((h 0 41).toNat) (h 5 (a1).toNat)) 0 7 (((h 0 7) + 1) + 1)) := g8
              show mJ l D cA ad 10 cX12_member 4 (some .boolean) 135 [(0, (2, ((0 : Nat) : Int))), (1, (0, a1)), (2, (0, x2)), (3, (0, x3))] [(0, 1)] (ja_up (ja_up (ja_up (ja_up (ja_up (ja_up h 0 7 ((h 0 7) + 1)) 17 ((h 0 31).toNat) ((h 0 7) + 1)) 18 ((h 0 31).toNat) (h 5 (a1).toNat)) 25 ((h 0 41).toNat) ((h 0 7) + 1)) 26 ((h 0 41).toNat) (h 5 (a1).toNat)) 0 7 (((h 0 7) + 1) + 1)) Q
              refine ja_if_ne 140 dmember_135 rfl ⟨by decide, by decide⟩ (fun c135 => ?_) (fun c135 => absurd c135 (by omega))
              refine ja_aload_n dmember_140 rfl rfl ?_
              refine ja_dup dmember_141 (by decide) ?_
              refine fg_fields (v := h 0 31) rfl dmember_142 ?_
              refine ja_iconst dmember_145 ?_
              refine ja_iadd dmember_146 ?_
              have g9 := gP_fields g8 (x := (h 0 31) + 1) ⟨by omega, by omega⟩
              refine fp_fields dmember_147 ?_
              refine ja_aload_n dmember_150 rfl rfl ?_
              refine ja_dup dmember_151 (by decide) ?_
              refine fg_members (v := h 0 41) rfl dmember_152 ?_
              refine ja_iconst dmember_155 ?_
              refine ja_iadd dmember_156 ?_
              have g10 := gP_members g9 (x := (h 0 41) + 1) ⟨by omega, by omega⟩
              refine fp_members dmember_157 ?_
              refine ja_aload_n dmember_160 rfl rfl ?_
              refine ja_bipush 59 dmember_161 rfl ?_
              refine t_sign (by decide) (show (0 : Nat) ≤ 8 by decide) dmember_163 g10 ⟨by decide, by decide⟩ ?_ ?_
              · intro k163_0 g11
                replace k163_0 : (((h 0 7) + 1) + 1) < 900 ∧ (h 2 (((h 0 7) + 1) + 1).toNat) = 5 ∧ (h 5 (((h 0 7) + 1) + 1).toNat) = 59 := k163_0
                replace g11 : mo_G Zz (ja_up (ja_up (ja_up (ja_up (ja_up (ja_up (ja_up (ja_up (ja_up h 0 7 ((h 0 7) + 1)) 17 ((h 0 31).toNat) ((h 0 7) + 1)) 18 ((h 0 31).toNat) (h 5 (a1).toNat)) 25 ((h 0 41).toNat) ((h 0 7) + 1)) 26 ((h 0 41).toNat) (h 5 (a1).toNat)) 0 7 (((h 0 7) + 1) + 1)) 0 31 ((h 0 31) + 1)) 0 41 ((h 0 41) + 1)) 0 7 ((((h 0 7) + 1) + 1) + 1)) := g11
                show mJ l D cA ad 10 cX12_member 4 (some .boolean) 166 [(0, (2, ((0 : Nat) : Int))), (1, (0, a1)), (2, (0, x2)), (3, (0, x3))] [(0, 1)] (ja_up (ja_up (ja_up (ja_up (ja_up (ja_up (ja_up (ja_up (ja_up h 0 7 ((h 0 7) + 1)) 17 ((h 0 31).toNat) ((h 0 7) + 1)) 18 ((h 0 31).toNat) (h 5 (a1).toNat)) 25 ((h 0 41).toNat) ((h 0 7) + 1)) 26 ((h 0 41).toNat) (h 5 (a1).toNat)) 0 7 (((h 0 7) + 1) + 1)) 0 31 ((h 0 31) + 1)) 0 41 ((h 0 41) + 1)) 0 7 ((((h 0 7) + 1) + 1) + 1)) Q
                refine ja_zreturn dmember_166 rfl (by omega) ?_
                exact mo_fin (by omega) rfl (k1 (ja_up (ja_up (ja_up (ja_up (ja_up (ja_up (ja_up (ja_up (ja_up h 0 7 ((h 0 7) + 1)) 17 ((h 0 31).toNat) ((h 0 7) + 1)) 18 ((h 0 31).toNat) (h 5 (a1).toNat)) 25 ((h 0 41).toNat) ((h 0 7) + 1)) 26 ((h 0 41).toNat) (h 5 (a1).toNat)) 0 7 (((h 0 7) + 1) + 1)) 0 31 ((h 0 31) + 1)) 0 41 ((h 0 41) + 1)) 0 7 ((((h 0 7) + 1) + 1) + 1)) (⟨⟨_, _, _, it_keep p1 (by (repeat (first | exact ag_refl | refine ag_up rfl ?_))) (show it_nn ((((h 0 7) + 1) + 1) + 1) (h 0 113) (h 0 95) (h 0 68) (h 0 72) ((h 0 31) + 1) ((h 0 41) + 1) (h 0 64) (h 0 61) (h 0 18) (h 0 84) (h 0 87) (h 0 86) (h 0 85) (h 0 109) (h 0 66) from by unfold it_nn; omega) (it_F_new (v := (h 5 (a1).toNat)) g (it_F_of p1) rfl (fun j hj => by simp [ja_up, hj]) (by simp [ja_up]) (by omega)) (fun z => z) (fun _ _ _ z => z) (Int.le_refl _)⟩, (show (h 0 7) < ((((h 0 7) + 1) + 1) + 1) by omega), (by (repeat (first | exact ag_refl | refine ag_up rfl ?_)))⟩) g11)
              · intro h12 k163_1 g13
                replace k163_1 : 0 < (h12 0 8) ∧ (h12 0 1) = (h 0 1) ∧ (h12 0 118) = (h 0 118) ∧ (h12 0 127) = (h 0 127) := k163_1
                refine ja_zreturn dmember_166 rfl (by omega) ?_
                exact mo_fin (by omega) rfl (k2 h12 (by omega) g13)
            · intro h14 k132_1 g15
              replace k132_1 : 0 < (h14 0 8) ∧ (h14 0 1) = (h 0 1) ∧ (h14 0 118) = (h 0 118) ∧ (h14 0 127) = (h 0 127) := k132_1
              refine ja_if_ne 140 dmember_135 rfl ⟨by decide, by decide⟩ (fun c135 => absurd c135 (by omega)) (fun c135 => ?_)
              refine ja_iconst dmember_138 ?_
              refine ja_zreturn dmember_139 rfl (by omega) ?_
              exact mo_fin (by omega) rfl (k2 h14 (by omega) g15)
          · have z62 := is1v k59_0 c62
            replace k59_0 := is1 k59_0 c62
            refine ja_iload_n dmember_65 rfl rfl ?_
            refine ja_bipush 10 dmember_66 rfl ?_
            refine ja_icmp_ne 77 dmember_68 rfl ⟨by omega, by omega⟩ ⟨by decide, by decide⟩ (fun c68 => ?_) (fun c68 => ?_)
            · refine ja_aload_n dmember_77 rfl rfl ?_
              refine fa_fieldName dmember_78 ?_
              refine ja_aload_n dmember_81 rfl rfl ?_
              refine fg_fields (v := h 0 31) rfl dmember_82 ?_
              refine ja_aload_n dmember_85 rfl rfl ?_
              refine fg_at (v := (h 0 7) + 1) rfl dmember_86 ?_
              have g16 := gW_fieldName gu (h 0 31).toNat (x := (h 0 7) + 1) ⟨by omega, by omega⟩
              refine is_fieldName ⟨by omega, by omega⟩ dmember_89 ?_
              refine ja_aload_n dmember_90 rfl rfl ?_
              refine fa_fieldOf dmember_91 ?_
              refine ja_aload_n dmember_94 rfl rfl ?_
              refine fg_fields (v := h 0 31) rfl dmember_95 ?_
              refine ja_aload_n dmember_98 rfl rfl ?_
              refine ja_iload_n dmember_99 rfl rfl ?_
              refine t_id (by decide) (show (2 : Nat) ≤ 8 by decide) dmember_100 g16 ⟨by omega, by omega⟩ (show 0 ≤ a1 ∧ a1 ≤ 900 by omega) ?_
              intro k100_0
              replace k100_0 : -2147483648 ≤ (h 5 (a1).toNat) ∧ (h 5 (a1).toNat) ≤ 2147483647 := k100_0
              show mJ l D cA ad 10 cX12_member 4 (some .boolean) 103 [(0, (2, ((0 : Nat) : Int))), (1, (0, a1)), (2, (0, x2)), (3, (0, x3))] [(0, (h 5 (a1).toNat)), (0, (h 0 31)), (2, ((18 : Nat) : Int))] (ja_up (ja_up h 0 7 ((h 0 7) + 1)) 17 ((h 0 31).toNat) ((h 0 7) + 1)) Q
              have g17 := gW_fieldOf g16 (h 0 31).toNat (x := h 5 (a1).toNat) ⟨by omega, by omega⟩
              refine is_fieldOf ⟨by omega, by omega⟩ dmember_103 ?_
              refine ja_aload_n dmember_104 rfl rfl ?_
              refine fa_memberName dmember_105 ?_
              refine ja_aload_n dmember_108 rfl rfl ?_
              refine fg_members (v := h 0 41) rfl dmember_109 ?_
              have f18 := gF_members g
              refine ja_aload_n dmember_112 rfl rfl ?_
              refine fg_at (v := (h 0 7) + 1) rfl dmember_113 ?_
              have g19 := gW_memberName g17 (h 0 41).toNat (x := (h 0 7) + 1) ⟨by omega, by omega⟩
              refine is_memberName ⟨by omega, by omega⟩ dmember_116 ?_
              refine ja_aload_n dmember_117 rfl rfl ?_
              refine fa_memberOf dmember_118 ?_
              refine ja_aload_n dmember_121 rfl rfl ?_
              refine fg_members (v := h 0 41) rfl dmember_122 ?_
              refine ja_aload_n dmember_125 rfl rfl ?_
              refine ja_iload_n dmember_126 rfl rfl ?_
              refine t_id (by decide) (show (2 : Nat) ≤ 8 by decide) dmember_127 g19 ⟨by omega, by omega⟩ (show 0 ≤ a1 ∧ a1 ≤ 900 by omega) ?_
              intro k127_0
              replace k127_0 : -2147483648 ≤ (h 5 (a1).toNat) ∧ (h 5 (a1).toNat) ≤ 2147483647 := k127_0
              show mJ l D cA ad 10 cX12_member 4 (some .boolean) 130 [(0, (2, ((0 : Nat) : Int))), (1, (0, a1)), (2, (0, x2)), (3, (0, x3))] [(0, (h 5 (a1).toNat)), (0, (h 0 41)), (2, ((26 : Nat) : Int))] (ja_up (ja_up (ja_up (ja_up h 0 7 ((h 0 7) + 1)) 17 ((h 0 31).toNat) ((h 0 7) + 1)) 18 ((h 0 31).toNat) (h 5 (a1).toNat)) 25 ((h 0 41).toNat) ((h 0 7) + 1)) Q
              have g20 := gW_memberOf g19 (h 0 41).toNat (x := h 5 (a1).toNat) ⟨by omega, by omega⟩
              refine is_memberOf ⟨by omega, by omega⟩ dmember_130 ?_
              refine ja_aload_n dmember_131 rfl rfl ?_
              refine t_name (by decide) (show (0 : Nat) ≤ 8 by decide) dmember_132 g20  ?_ ?_
              · intro k132_0 g21
                replace k132_0 : ((h 0 7) + 1) < 900 ∧ (h 2 ((h 0 7) + 1).toNat) = 2 := k132_0
                replace g21 : mo_G Zz (ja_up (ja_up (ja_up (ja_up (ja_up (ja_up h 0 7 ((h 0 7) + 1)) 17 ((h 0 31).toNat) ((h 0 7) + 1)) 18 ((h 0 31).toNat) (h 5 (a1).toNat)) 25 ((h 0 41).toNat) ((h 0 7) + 1)) 26 ((h 0 41).toNat) (h 5 (a1).toNat)) 0 7 (((h 0 7) + 1) + 1)) := g21
                show mJ l D cA ad 10 cX12_member 4 (some .boolean) 135 [(0, (2, ((0 : Nat) : Int))), (1, (0, a1)), (2, (0, x2)), (3, (0, x3))] [(0, 1)] (ja_up (ja_up (ja_up (ja_up (ja_up (ja_up h 0 7 ((h 0 7) + 1)) 17 ((h 0 31).toNat) ((h 0 7) + 1)) 18 ((h 0 31).toNat) (h 5 (a1).toNat)) 25 ((h 0 41).toNat) ((h 0 7) + 1)) 26 ((h 0 41).toNat) (h 5 (a1).toNat)) 0 7 (((h 0 7) + 1) + 1)) Q
                refine ja_if_ne 140 dmember_135 rfl ⟨by decide, by decide⟩ (fun c135 => ?_) (fun c135 => absurd c135 (by omega))
                refine ja_aload_n dmember_140 rfl rfl ?_
                refine ja_dup dmember_141 (by decide) ?_
                refine fg_fields (v := h 0 31) rfl dmember_142 ?_
                refine ja_iconst dmember_145 ?_
                refine ja_iadd dmember_146 ?_
                have g22 := gP_fields g21 (x := (h 0 31) + 1) ⟨by omega, by omega⟩
                refine fp_fields dmember_147 ?_
                refine ja_aload_n dmember_150 rfl rfl ?_
                refine ja_dup dmember_151 (by decide) ?_
                refine fg_members (v := h 0 41) rfl dmember_152 ?_
                refine ja_iconst dmember_155 ?_
                refine ja_iadd dmember_156 ?_
                have g23 := gP_members g22 (x := (h 0 41) + 1) ⟨by omega, by omega⟩
                refine fp_members dmember_157 ?_
                refine ja_aload_n dmember_160 rfl rfl ?_
                refine ja_bipush 59 dmember_161 rfl ?_
                refine t_sign (by decide) (show (0 : Nat) ≤ 8 by decide) dmember_163 g23 ⟨by decide, by decide⟩ ?_ ?_
                · intro k163_0 g24
                  replace k163_0 : (((h 0 7) + 1) + 1) < 900 ∧ (h 2 (((h 0 7) + 1) + 1).toNat) = 5 ∧ (h 5 (((h 0 7) + 1) + 1).toNat) = 59 := k163_0
                  replace g24 : mo_G Zz (ja_up (ja_up (ja_up (ja_up (ja_up (ja_up (ja_up (ja_up (ja_up h 0 7 ((h 0 7) + 1)) 17 ((h 0 31).toNat) ((h 0 7) + 1)) 18 ((h 0 31).toNat) (h 5 (a1).toNat)) 25 ((h 0 41).toNat) ((h 0 7) + 1)) 26 ((h 0 41).toNat) (h 5 (a1).toNat)) 0 7 (((h 0 7) + 1) + 1)) 0 31 ((h 0 31) + 1)) 0 41 ((h 0 41) + 1)) 0 7 ((((h 0 7) + 1) + 1) + 1)) := g24
                  show mJ l D cA ad 10 cX12_member 4 (some .boolean) 166 [(0, (2, ((0 : Nat) : Int))), (1, (0, a1)), (2, (0, x2)), (3, (0, x3))] [(0, 1)] (ja_up (ja_up (ja_up (ja_up (ja_up (ja_up (ja_up (ja_up (ja_up h 0 7 ((h 0 7) + 1)) 17 ((h 0 31).toNat) ((h 0 7) + 1)) 18 ((h 0 31).toNat) (h 5 (a1).toNat)) 25 ((h 0 41).toNat) ((h 0 7) + 1)) 26 ((h 0 41).toNat) (h 5 (a1).toNat)) 0 7 (((h 0 7) + 1) + 1)) 0 31 ((h 0 31) + 1)) 0 41 ((h 0 41) + 1)) 0 7 ((((h 0 7) + 1) + 1) + 1)) Q
                  refine ja_zreturn dmember_166 rfl (by omega) ?_
                  exact mo_fin (by omega) rfl (k1 (ja_up (ja_up (ja_up (ja_up (ja_up (ja_up (ja_up (ja_up (ja_up h 0 7 ((h 0 7) + 1)) 17 ((h 0 31).toNat) ((h 0 7) + 1)) 18 ((h 0 31).toNat) (h 5 (a1).toNat)) 25 ((h 0 41).toNat) ((h 0 7) + 1)) 26 ((h 0 41).toNat) (h 5 (a1).toNat)) 0 7 (((h 0 7) + 1) + 1)) 0 31 ((h 0 31) + 1)) 0 41 ((h 0 41) + 1)) 0 7 ((((h 0 7) + 1) + 1) + 1)) (⟨⟨_, _, _, it_keep p1 (by (repeat (first | exact ag_refl | refine ag_up rfl ?_))) (show it_nn ((((h 0 7) + 1) + 1) + 1) (h 0 113) (h 0 95) (h 0 68) (h 0 72) ((h 0 31) + 1) ((h 0 41) + 1) (h 0 64) (h 0 61) (h 0 18) (h 0 84) (h 0 87) (h 0 86) (h 0 85) (h 0 109) (h 0 66) from by unfold it_nn; omega) (it_F_new (v := (h 5 (a1).toNat)) g (it_F_of p1) rfl (fun j hj => by simp [ja_up, hj]) (by simp [ja_up]) (by omega)) (fun z => z) (fun _ _ _ z => z) (Int.le_refl _)⟩, (show (h 0 7) < ((((h 0 7) + 1) + 1) + 1) by omega), (by (repeat (first | exact ag_refl | refine ag_up rfl ?_)))⟩) g24)
                · intro h25 k163_1 g26
                  replace k163_1 : 0 < (h25 0 8) ∧ (h25 0 1) = (h 0 1) ∧ (h25 0 118) = (h 0 118) ∧ (h25 0 127) = (h 0 127) := k163_1
                  refine ja_zreturn dmember_166 rfl (by omega) ?_
                  exact mo_fin (by omega) rfl (k2 h25 (by omega) g26)
              · intro h27 k132_1 g28
                replace k132_1 : 0 < (h27 0 8) ∧ (h27 0 1) = (h 0 1) ∧ (h27 0 118) = (h 0 118) ∧ (h27 0 127) = (h 0 127) := k132_1
                refine ja_if_ne 140 dmember_135 rfl ⟨by decide, by decide⟩ (fun c135 => absurd c135 (by omega)) (fun c135 => ?_)
                refine ja_iconst dmember_138 ?_
                refine ja_zreturn dmember_139 rfl (by omega) ?_
                exact mo_fin (by omega) rfl (k2 h27 (by omega) g28)
            · refine ja_aload_n dmember_71 rfl rfl ?_
              refine ja_iconst dmember_72 ?_
              refine t_halt (by decide) (show (0 : Nat) ≤ 8 by decide) dmember_73 gu ⟨by decide, by decide⟩ (show 1 ≤ 3 ∧ 3 ≤ 8 by omega) ?_
              intro h29 k73_0 g30
              replace k73_0 : 0 < (h29 0 8) ∧ (h29 0 1) = (h 0 1) ∧ (h29 0 118) = (h 0 118) ∧ (h29 0 127) = (h 0 127) ∧ (h29 0 41) = (h 0 41) := k73_0
              refine ja_zreturn dmember_76 rfl (by omega) ?_
              exact mo_fin (by omega) rfl (k2 h29 (by omega) g30)
        · refine ja_aload_n dmember_30 rfl rfl ?_
          refine fa_fieldOf dmember_31 ?_
          refine ja_iload_n dmember_34 rfl rfl ?_
          refine il_fieldOf (v := h 18 (x3).toNat) rfl ⟨by omega, by omega⟩ dmember_35 ?_
          have f31 := gC_fieldOf g (x3).toNat
          refine ja_aload_n dmember_36 rfl rfl ?_
          refine ja_iload_n dmember_37 rfl rfl ?_
          refine t_id (by decide) (show (1 : Nat) ≤ 8 by decide) dmember_38 gu ⟨by omega, by omega⟩ (show 0 ≤ a1 ∧ a1 ≤ 900 by omega) ?_
          intro k38_0
          replace k38_0 : -2147483648 ≤ (h 5 (a1).toNat) ∧ (h 5 (a1).toNat) ≤ 2147483647 := k38_0
          show mJ l D cA ad 10 cX12_member 4 (some .boolean) 41 [(0, (2, ((0 : Nat) : Int))), (1, (0, a1)), (2, (0, x2)), (3, (0, x3))] [(0, (h 5 (a1).toNat)), (0, (h 18 (x3).toNat))] (ja_up h 0 7 ((h 0 7) + 1)) Q
          refine ja_icmp_ne 50 dmember_41 rfl ⟨by omega, by omega⟩ ⟨by omega, by omega⟩ (fun c41 => ?_) (fun c41 => ?_)
          · refine ja_iload_n dmember_50 rfl rfl ?_
            refine ja_istore_n dmember_51 rfl (by decide) (L2 := [(2, (0, x2)), (0, (2, ((0 : Nat) : Int))), (1, (0, a1)), (3, (0, x3))]) rfl ?_
            refine ja_iinc dmember_52 rfl (by decide) (L2 := [(3, (0, (x3 + 1))), (2, (0, x2)), (0, (2, ((0 : Nat) : Int))), (1, (0, a1))]) rfl ?_
            refine ja_goto 22 dmember_55 rfl ?_
            exact ja_wk (fun q hq => by simp only [List.mem_cons, List.not_mem_nil, or_false] at hq; rcases hq with rfl | rfl | rfl | rfl <;> rfl) ((ih ((1000 - (x3 + 1)).toNat) (by omega)) x2 (x3 + 1) gu ⟨by omega, by omega⟩ ⟨by omega, by omega⟩ (⟨by omega, by omega, cnt_no (by omega) iv.2.2 c41⟩) rfl)
          · refine ja_iload_n dmember_44 rfl rfl ?_
            refine ja_iconst dmember_45 ?_
            refine ja_iadd dmember_46 ?_
            refine ja_goto 51 dmember_47 rfl ?_
            refine ja_istore_n dmember_51 rfl (by decide) (L2 := [(2, (0, (x2 + 1))), (0, (2, ((0 : Nat) : Int))), (1, (0, a1)), (3, (0, x3))]) rfl ?_
            refine ja_iinc dmember_52 rfl (by decide) (L2 := [(3, (0, (x3 + 1))), (2, (0, (x2 + 1))), (0, (2, ((0 : Nat) : Int))), (1, (0, a1))]) rfl ?_
            refine ja_goto 22 dmember_55 rfl ?_
            exact ja_wk (fun q hq => by simp only [List.mem_cons, List.not_mem_nil, or_false] at hq; rcases hq with rfl | rfl | rfl | rfl <;> rfl) ((ih ((1000 - (x3 + 1)).toNat) (by omega)) (x2 + 1) (x3 + 1) gu ⟨by omega, by omega⟩ ⟨by omega, by omega⟩ (⟨by omega, by omega, cnt_yes (by omega) iv.2.2 c41⟩) rfl)
  obtain ⟨z1, z2, z3, z4, z5, z6, z7, z8, z9, z10, z11, z12, z13, z14⟩ := p1.2.2.1
  refine ja_aload_n dmember_0 rfl rfl ?_
  refine ja_bipush 14 dmember_1 rfl ?_
  refine t_isWord (by decide) (show (0 : Nat) ≤ 8 by decide) dmember_3 g ⟨by decide, by decide⟩ ?_
  intro w32 k3_0
  refine ja_if_eq 167 dmember_6 rfl ⟨by omega, by omega⟩ (fun c6 => ?_) (fun c6 => ?_)
  · replace k3_0 := is0 k3_0 c6
    refine ja_aload_n dmember_167 rfl rfl ?_
    refine ja_bipush 25 dmember_168 rfl ?_
    refine t_isWord (by decide) (show (0 : Nat) ≤ 8 by decide) dmember_170 g ⟨by decide, by decide⟩ ?_
    intro w33 k170_0
    refine ja_if_eq 199 dmember_173 rfl ⟨by omega, by omega⟩ (fun c173 => ?_) (fun c173 => ?_)
    · replace k170_0 := is0 k170_0 c173
      refine ja_aload_n dmember_199 rfl rfl ?_
      refine t_wrong (by decide) (show (0 : Nat) ≤ 8 by decide) dmember_200 g  ?_
      intro h34 k200_0 g35
      refine ja_zreturn dmember_203 rfl (by omega) ?_
      exact mo_fin (by omega) rfl (k2 h34 (by omega) g35)
    · have z173 := is1v k170_0 c173
      replace k170_0 := is1 k170_0 c173
      refine ja_aload_n dmember_176 rfl rfl ?_
      refine t_take (by decide) (show (0 : Nat) ≤ 8 by decide) dmember_177 g  ?_ ?_
      · intro k177_0 g36
        replace k177_0 : (h 0 7) < 900 := k177_0
        replace g36 : mo_G Zz (ja_up h 0 7 ((h 0 7) + 1)) := g36
        show mJ l D cA ad 10 cX12_member 4 (some .boolean) 180 [(0, (2, ((0 : Nat) : Int))), (1, (0, a1))] [(0, 1)] (ja_up h 0 7 ((h 0 7) + 1)) Q
        refine ja_if_eq 195 dmember_180 rfl ⟨by decide, by decide⟩ (fun c180 => absurd c180 (by omega)) (fun c180 => ?_)
        refine ja_aload_n dmember_183 rfl rfl ?_
        refine ja_iload_n dmember_184 rfl rfl ?_
        refine t_method (by decide) (show (0 : Nat) ≤ 8 by decide) dmember_185 g36 ⟨by omega, by omega⟩ (it_keep p1 (by (repeat (first | exact ag_refl | refine ag_up rfl ?_))) (show it_nn ((h 0 7) + 1) (h 0 113) (h 0 95) (h 0 68) (h 0 72) (h 0 31) (h 0 41) (h 0 64) (h 0 61) (h 0 18) (h 0 84) (h 0 87) (h 0 86) (h 0 85) (h 0 109) (h 0 66) from by unfold it_nn; omega) (it_F_eq (it_F_of p1) rfl rfl) (fun z => z) (fun _ _ _ z => z) (Int.le_refl _)) (show 0 ≤ a1 ∧ a1 ≤ 900 by omega) (show (h 0 41) < ((h 0 7) + 1) by omega) ?_ ?_
        · intro h37 k185_0 g38
          refine ja_if_eq 195 dmember_188 rfl ⟨by decide, by decide⟩ (fun c188 => absurd c188 (by omega)) (fun c188 => ?_)
          refine ja_iconst dmember_191 ?_
          refine ja_goto 203 dmember_192 rfl ?_
          refine ja_zreturn dmember_203 rfl (by omega) ?_
          exact mo_fin (by omega) rfl (k1 h37 (⟨k185_0.1, Int.lt_trans (show (h 0 7) < (h 0 7) + 1 by omega) k185_0.2.1, ag_trans (by (repeat (first | exact ag_refl | refine ag_up rfl ?_))) k185_0.2.2⟩) g38)
        · intro h39 k185_1 g40
          replace k185_1 : 0 < (h39 0 8) ∧ (h39 0 1) = (h 0 1) ∧ (h39 0 118) = (h 0 118) ∧ (h39 0 127) = (h 0 127) := k185_1
          refine ja_if_eq 195 dmember_188 rfl ⟨by decide, by decide⟩ (fun c188 => ?_) (fun c188 => absurd c188 (by omega))
          refine ja_iconst dmember_195 ?_
          refine ja_goto 203 dmember_196 rfl ?_
          refine ja_zreturn dmember_203 rfl (by omega) ?_
          exact mo_fin (by omega) rfl (k2 h39 (by omega) g40)
      · intro h41 k177_1 g42
        refine ja_if_eq 195 dmember_180 rfl ⟨by decide, by decide⟩ (fun c180 => ?_) (fun c180 => absurd c180 (by omega))
        refine ja_iconst dmember_195 ?_
        refine ja_goto 203 dmember_196 rfl ?_
        refine ja_zreturn dmember_203 rfl (by omega) ?_
        exact mo_fin (by omega) rfl (k2 h41 (by omega) g42)
  · have z6 := is1v k3_0 c6
    replace k3_0 := is1 k3_0 c6
    refine ja_aload_n dmember_9 rfl rfl ?_
    refine t_take (by decide) (show (0 : Nat) ≤ 8 by decide) dmember_10 g  ?_ ?_
    · intro k10_0 g43
      replace k10_0 : (h 0 7) < 900 := k10_0
      replace g43 : mo_G Zz (ja_up h 0 7 ((h 0 7) + 1)) := g43
      show mJ l D cA ad 10 cX12_member 4 (some .boolean) 13 [(0, (2, ((0 : Nat) : Int))), (1, (0, a1))] [(0, 1)] (ja_up h 0 7 ((h 0 7) + 1)) Q
      refine ja_if_ne 18 dmember_13 rfl ⟨by decide, by decide⟩ (fun c13 => ?_) (fun c13 => absurd c13 (by omega))
      refine ja_iconst dmember_18 ?_
      refine ja_istore_n dmember_19 rfl (by decide) (L2 := [(2, (0, 0)), (0, (2, ((0 : Nat) : Int))), (1, (0, a1))]) rfl ?_
      refine ja_iconst dmember_20 ?_
      refine ja_istore_n dmember_21 rfl (by decide) (L2 := [(3, (0, 0)), (2, (0, 0)), (0, (2, ((0 : Nat) : Int))), (1, (0, a1))]) rfl ?_
      exact ja_wk (fun q hq => by simp only [List.mem_cons, List.not_mem_nil, or_false] at hq; rcases hq with rfl | rfl | rfl | rfl <;> rfl) ((CUT _) 0 0 g43 ⟨by decide, by decide⟩ ⟨by decide, by decide⟩ (⟨by omega, by omega, rfl⟩) rfl)
    · intro h44 k10_1 g45
      refine ja_if_ne 18 dmember_13 rfl ⟨by decide, by decide⟩ (fun c13 => absurd c13 (by omega)) (fun c13 => ?_)
      refine ja_iconst dmember_16 ?_
      refine ja_zreturn dmember_17 rfl (by omega) ?_
      exact mo_fin (by omega) rfl (k2 h44 (by omega) g45)
theorem t_member {a1 : Int} {ht st rg : Nat → Int} {d nL pc : Nat} {cc : ByteArray} {rt : Option FieldType} {L : List (Nat × ja_V)} {S : List ja_V} {h : ja_H} {Q : Option ja_V → ja_H → Prop} (hdd : 10 < d) (hwd : ja_wd S ≤ 8) (hd : decode cc pc = .ok (.invokevirtual 745, 3)) (g : mo_G Zz h) (r1 : -2147483648 ≤ a1 ∧ a1 ≤ 2147483647) (p1 : it h ht st rg) (p2 : 0 ≤ a1 ∧ a1 ≤ 900) (k1 : ∀ (h' : ja_H), ((∃ ht st rg : Nat → Int, it h' ht st rg) ∧ (h 0 7) < (h' 0 7) ∧ mo_ag FKP h h') → mo_G Zz h' → mJ l D cA ad d cc nL rt (pc + 3) L ((0, 1) :: S) h' Q) (k2 : ∀ (h' : ja_H), (0 < (h' 0 8) ∧ (h' 0 1) = (h 0 1) ∧ (h' 0 118) = (h 0 118) ∧ (h' 0 127) = (h 0 127)) → mo_G Zz h' → mJ l D cA ad d cc nL rt (pc + 3) L ((0, 0) :: S) h' Q) : mJ l D cA ad d cc nL rt pc L ((0, a1) :: (2, ((0 : Nat) : Int)) :: S) h Q :=
  mc_member hdd hwd hd (s_member g r1 p1 p2 k1 k2)
end
