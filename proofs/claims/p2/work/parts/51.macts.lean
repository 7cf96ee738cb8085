/-! the reference: the loop of its parser (written by a program) -/
variable {Zz : Zc}
theorem dloop_0 : decode cX12_loop 0 = .ok (.iconst 1, 1) := by decide +kernel
theorem dloop_1 : decode cX12_loop 1 = .ok (.istore_n 1, 1) := by decide +kernel
theorem dloop_2 : decode cX12_loop 2 = .ok (.iload_n 1, 1) := by decide +kernel
theorem dloop_3 : decode cX12_loop 3 = .ok (.ifCond .eq 118, 3) := by decide +kernel
theorem dloop_6 : decode cX12_loop 6 = .ok (.aload_n 0, 1) := by decide +kernel
theorem dloop_7 : decode cX12_loop 7 = .ok (.getfield 608, 3) := by decide +kernel
theorem dloop_10 : decode cX12_loop 10 = .ok (.ifCond .le 111, 3) := by decide +kernel
theorem dloop_13 : decode cX12_loop 13 = .ok (.aload_n 0, 1) := by decide +kernel
theorem dloop_14 : decode cX12_loop 14 = .ok (.dup, 1) := by decide +kernel
theorem dloop_15 : decode cX12_loop 15 = .ok (.getfield 608, 3) := by decide +kernel
theorem dloop_18 : decode cX12_loop 18 = .ok (.iconst 1, 1) := by decide +kernel
theorem dloop_19 : decode cX12_loop 19 = .ok (.isub, 1) := by decide +kernel
theorem dloop_20 : decode cX12_loop 20 = .ok (.putfield 608, 3) := by decide +kernel
theorem dloop_23 : decode cX12_loop 23 = .ok (.aload_n 0, 1) := by decide +kernel
theorem dloop_24 : decode cX12_loop 24 = .ok (.getfield 25, 3) := by decide +kernel
theorem dloop_27 : decode cX12_loop 27 = .ok (.aload_n 0, 1) := by decide +kernel
theorem dloop_28 : decode cX12_loop 28 = .ok (.getfield 608, 3) := by decide +kernel
theorem dloop_31 : decode cX12_loop 31 = .ok (.iaload, 1) := by decide +kernel
theorem dloop_32 : decode cX12_loop 32 = .ok (.istore_n 2, 1) := by decide +kernel
theorem dloop_33 : decode cX12_loop 33 = .ok (.iload_n 2, 1) := by decide +kernel
theorem dloop_34 : decode cX12_loop 34 = .ok (.bipush 13, 2) := by decide +kernel
theorem dloop_36 : decode cX12_loop 36 = .ok (.if_icmp .le 9, 3) := by decide +kernel
theorem dloop_39 : decode cX12_loop 39 = .ok (.iload_n 2, 1) := by decide +kernel
theorem dloop_40 : decode cX12_loop 40 = .ok (.bipush 38, 2) := by decide +kernel
theorem dloop_42 : decode cX12_loop 42 = .ok (.if_icmp .ne 29, 3) := by decide +kernel
theorem dloop_45 : decode cX12_loop 45 = .ok (.aload_n 0, 1) := by decide +kernel
theorem dloop_46 : decode cX12_loop 46 = .ok (.iload_n 2, 1) := by decide +kernel
theorem dloop_47 : decode cX12_loop 47 = .ok (.aload_n 0, 1) := by decide +kernel
theorem dloop_48 : decode cX12_loop 48 = .ok (.getfield 28, 3) := by decide +kernel
theorem dloop_51 : decode cX12_loop 51 = .ok (.aload_n 0, 1) := by decide +kernel
theorem dloop_52 : decode cX12_loop 52 = .ok (.getfield 608, 3) := by decide +kernel
theorem dloop_55 : decode cX12_loop 55 = .ok (.iaload, 1) := by decide +kernel
theorem dloop_56 : decode cX12_loop 56 = .ok (.aload_n 0, 1) := by decide +kernel
theorem dloop_57 : decode cX12_loop 57 = .ok (.getfield 31, 3) := by decide +kernel
theorem dloop_60 : decode cX12_loop 60 = .ok (.aload_n 0, 1) := by decide +kernel
theorem dloop_61 : decode cX12_loop 61 = .ok (.getfield 608, 3) := by decide +kernel
theorem dloop_64 : decode cX12_loop 64 = .ok (.iaload, 1) := by decide +kernel
theorem dloop_65 : decode cX12_loop 65 = .ok (.invokevirtual 797, 3) := by decide +kernel
theorem dloop_68 : decode cX12_loop 68 = .ok (.goto 49, 3) := by decide +kernel
theorem dloop_71 : decode cX12_loop 71 = .ok (.iload_n 2, 1) := by decide +kernel
theorem dloop_72 : decode cX12_loop 72 = .ok (.bipush 31, 2) := by decide +kernel
theorem dloop_74 : decode cX12_loop 74 = .ok (.if_icmp .lt 20, 3) := by decide +kernel
theorem dloop_77 : decode cX12_loop 77 = .ok (.aload_n 0, 1) := by decide +kernel
theorem dloop_78 : decode cX12_loop 78 = .ok (.iload_n 2, 1) := by decide +kernel
theorem dloop_79 : decode cX12_loop 79 = .ok (.aload_n 0, 1) := by decide +kernel
theorem dloop_80 : decode cX12_loop 80 = .ok (.getfield 28, 3) := by decide +kernel
theorem dloop_83 : decode cX12_loop 83 = .ok (.aload_n 0, 1) := by decide +kernel
theorem dloop_84 : decode cX12_loop 84 = .ok (.getfield 608, 3) := by decide +kernel
theorem dloop_87 : decode cX12_loop 87 = .ok (.iaload, 1) := by decide +kernel
theorem dloop_88 : decode cX12_loop 88 = .ok (.invokevirtual 801, 3) := by decide +kernel
theorem dloop_91 : decode cX12_loop 91 = .ok (.goto 26, 3) := by decide +kernel
theorem dloop_94 : decode cX12_loop 94 = .ok (.aload_n 0, 1) := by decide +kernel
theorem dloop_95 : decode cX12_loop 95 = .ok (.iload_n 2, 1) := by decide +kernel
theorem dloop_96 : decode cX12_loop 96 = .ok (.aload_n 0, 1) := by decide +kernel
theorem dloop_97 : decode cX12_loop 97 = .ok (.getfield 28, 3) := by decide +kernel
theorem dloop_100 : decode cX12_loop 100 = .ok (.aload_n 0, 1) := by decide +kernel
theorem dloop_101 : decode cX12_loop 101 = .ok (.getfield 608, 3) := by decide +kernel
theorem dloop_104 : decode cX12_loop 104 = .ok (.iaload, 1) := by decide +kernel
theorem dloop_105 : decode cX12_loop 105 = .ok (.aload_n 0, 1) := by decide +kernel
theorem dloop_106 : decode cX12_loop 106 = .ok (.getfield 31, 3) := by decide +kernel
theorem dloop_109 : decode cX12_loop 109 = .ok (.aload_n 0, 1) := by decide +kernel
theorem dloop_110 : decode cX12_loop 110 = .ok (.getfield 608, 3) := by decide +kernel
theorem dloop_113 : decode cX12_loop 113 = .ok (.iaload, 1) := by decide +kernel
theorem dloop_114 : decode cX12_loop 114 = .ok (.invokevirtual 805, 3) := by decide +kernel
theorem dloop_117 : decode cX12_loop 117 = .ok (.istore_n 1, 1) := by decide +kernel
theorem dloop_118 : decode cX12_loop 118 = .ok (.goto (-116), 3) := by decide +kernel
theorem dloop_121 : decode cX12_loop 121 = .ok (.iload_n 1, 1) := by decide +kernel
theorem dloop_122 : decode cX12_loop 122 = .ok (.ireturn, 1) := by decide +kernel
section
variable {l : Launch} {D : va_G} {cA : Nat → ClassId} {ad : Nat → Nat}
theorem s_loop {R r ph q0 : Int} {tf : mo_TF} {s : List mo_A} {ht st rg : Nat → Int} {tu : Int} {h : ja_H} {Q : Option ja_V → ja_H → Prop} (g : mo_G Zz h) (p1 : pk_S h (h 0 17).toNat s) (p2 : piB h R r ph tf q0 s ht st rg tu) (p3 : ph = 1 ∨ (h 0 74) ≤ 1 ∨ (h 0 75) ≤ 24) (p4 : tf_ok ph tf) (k1 : ∀ (h' : ja_H), ((∃ ht st rg : Nat → Int, ∃ tu : Int, pi h' R r ph tf q0 [] ht st rg tu) ∧ mo_ag FK h h' ∧ pi_mu h' [] ≤ pi_mu h s) → mo_G Zz h' → Q (some (0, 1)) h') (k2 : ∀ (h' : ja_H), (0 < (h' 0 8) ∧ (h' 0 1) = (h 0 1) ∧ (h' 0 118) = (h 0 118) ∧ (h' 0 127) = (h 0 127)) → mo_G Zz h' → Q (some (0, 0)) h') : mM_loop l D cA ad  h Q := by
  show mJ l D cA ad 7 cX12_loop 3 (some .boolean) 0 [(0, (2, ((0 : Nat) : Int)))] [] h Q
  have CUT : ∀ n : Nat, (∀ (m x1 : Int) (u : ja_H), mo_G Zz u → (-2147483648 ≤ m ∧ m ≤ 2147483647) → (-2147483648 ≤ x1 ∧ x1 ≤ 2147483647) → (lo_I h u R r ph tf q0 m x1 ∧ m ≤ pi_mu h s) → (m.toNat) = n → mJ l D cA ad 7 cX12_loop 3 (some .boolean) 2 [(0, (2, ((0 : Nat) : Int))), (1, (0, x1))] [] u Q) := by
    intro n
    induction n using Nat.strongRecOn with
    | _ n ih =>
      skip
      · intro m x1 u gu qm qx1 iv hm
        subst hm
        obtain ⟨iv, im⟩ := iv
        have lwT := gF_wTop gu
        have lat := gF_at gu
        refine ja_iload_n dloop_2 rfl rfl ?_
        refine ja_if_eq 121 dloop_3 rfl ⟨by omega, by omega⟩ (fun c3 => ?_) (fun c3 => ?_)
        · rcases iv with iv | ⟨ex, iv⟩
          case inl => exact absurd iv.1 (by omega)
          refine ja_iload_n dloop_121 rfl rfl ?_
          refine ja_zreturn dloop_122 rfl (by omega) ?_
          first | (exact mo_fin (by omega) rfl (k1 u ((by have es := pi_nil hp (by omega); subst es; exact ⟨⟨_, _, _, _, hp⟩, ag, Int.le_trans hm im⟩)) gu)) | (exact mo_fin (by omega) rfl (k2 u (by omega) gu))
        · rcases iv with ⟨ex, ⟨s2, ht2, st2, rg2, tu2, hp, hm⟩, ag⟩ | iv
          case inr => exact absurd iv.1 c3
          have fsize : (u 0 1) = (h 0 1) := ag 0 1 rfl
          have fcompiled : (u 0 118) = (h 0 118) := ag 0 118 rfl
          have fstarted : (u 0 127) = (h 0 127) := ag 0 127 rfl
          have fbody : (u 0 74) = (h 0 74) := ag 0 74 rfl
          have fbodyNumber : (u 0 75) = (h 0 75) := ag 0 75 rfl
          refine ja_aload_n dloop_6 rfl rfl ?_
          refine fg_wTop (v := u 0 17) rfl dloop_7 ?_
          have f1 := gF_wTop gu
          refine ja_if_le 121 dloop_10 rfl ⟨by omega, by omega⟩ (fun c10 => ?_) (fun c10 => ?_)
          · refine ja_iload_n dloop_121 rfl rfl ?_
            refine ja_zreturn dloop_122 rfl (by omega) ?_
            first | (exact mo_fin (by omega) rfl (k1 u ((by have es := pi_nil hp (by omega); subst es; exact ⟨⟨_, _, _, _, hp⟩, ag, Int.le_trans hm im⟩)) gu)) | (exact mo_fin (by omega) rfl (k2 u (by omega) gu))
          · obtain ⟨s3, es, pS, pB, mpos⟩ := pi_pop hp (by omega) (by omega)
            have hact := bs_act pB
            subst es
            dsimp only at hact
            refine ja_aload_n dloop_13 rfl rfl ?_
            refine ja_dup dloop_14 (by decide) ?_
            refine fg_wTop (v := u 0 17) rfl dloop_15 ?_
            refine ja_iconst dloop_18 ?_
            refine ja_isub dloop_19 ?_
            have g2 := gP_wTop gu (x := (u 0 17) - 1) ⟨by omega, by omega⟩
            refine fp_wTop dloop_20 ?_
            refine ja_aload_n dloop_23 rfl rfl ?_
            refine fa_wAct dloop_24 ?_
            refine ja_aload_n dloop_27 rfl rfl ?_
            refine fg_wTop (v := (u 0 17) - 1) rfl dloop_28 ?_
            refine il_wAct (v := u 6 ((u 0 17) - 1).toNat) rfl ⟨by omega, by omega⟩ dloop_31 ?_
            have f3 := gC_wAct gu ((u 0 17) - 1).toNat
            refine ja_istore_n dloop_32 rfl (by decide) (L2 := [(2, (0, (u 6 ((u 0 17) - 1).toNat))), (0, (2, ((0 : Nat) : Int))), (1, (0, x1))]) rfl ?_
            refine ja_iload_n dloop_33 rfl rfl ?_
            refine ja_bipush 13 dloop_34 rfl ?_
            refine ja_icmp_le 45 dloop_36 rfl ⟨by omega, by omega⟩ ⟨by decide, by decide⟩ (fun c36 => ?_) (fun c36 => ?_)
            · refine ja_aload_n dloop_45 rfl rfl ?_
              refine ja_iload_n dloop_46 rfl rfl ?_
              refine ja_aload_n dloop_47 rfl rfl ?_
              refine fa_wA dloop_48 ?_
              refine ja_aload_n dloop_51 rfl rfl ?_
              refine fg_wTop (v := (u 0 17) - 1) rfl dloop_52 ?_
              refine il_wA (v := u 7 ((u 0 17) - 1).toNat) rfl ⟨by omega, by omega⟩ dloop_55 ?_
              have f4 := gC_wA gu ((u 0 17) - 1).toNat
              refine ja_aload_n dloop_56 rfl rfl ?_
              refine fa_wB dloop_57 ?_
              refine ja_aload_n dloop_60 rfl rfl ?_
              refine fg_wTop (v := (u 0 17) - 1) rfl dloop_61 ?_
              refine il_wB (v := u 8 ((u 0 17) - 1).toNat) rfl ⟨by omega, by omega⟩ dloop_64 ?_
              have f5 := gC_wB gu ((u 0 17) - 1).toNat
              refine t_expressionAct (by decide) (show (0 : Nat) ≤ 8 by decide) dloop_65 g2 ⟨by omega, by omega⟩ ⟨by omega, by omega⟩ ⟨by omega, by omega⟩ (pS) (pB) (show ph = 1 ∨ (u 0 74) ≤ 1 ∨ (u 0 75) ≤ 24 by omega) (show (u 6 ((u 0 17) - 1).toNat) ≤ 12 ∨ (u 6 ((u 0 17) - 1).toNat) = 38 by omega) ?_ ?_
              · intro h6 k65_0 g7
                refine ja_goto 117 dloop_68 rfl ?_
                refine ja_istore_n dloop_117 rfl (by decide) (L2 := [(1, (0, 1)), (2, (0, (u 6 ((u 0 17) - 1).toNat))), (0, (2, ((0 : Nat) : Int)))]) rfl ?_
                refine ja_goto 2 dloop_118 rfl ?_
                exact ja_wk (fun q hq => by simp only [List.mem_cons, List.not_mem_nil, or_false] at hq; rcases hq with rfl | rfl <;> rfl) ((ih ((m - 1).toNat) (by omega)) (m - 1) 1 h6 g7 ⟨by omega, by omega⟩ ⟨by decide, by decide⟩ (⟨(lo_next ag k65_0 hm), by omega⟩) rfl)
              · intro h8 k65_1 g9
                replace k65_1 : 0 < (h8 0 8) ∧ (h8 0 1) = (u 0 1) ∧ (h8 0 118) = (u 0 118) ∧ (h8 0 127) = (u 0 127) := k65_1
                refine ja_goto 117 dloop_68 rfl ?_
                refine ja_istore_n dloop_117 rfl (by decide) (L2 := [(1, (0, 0)), (2, (0, (u 6 ((u 0 17) - 1).toNat))), (0, (2, ((0 : Nat) : Int)))]) rfl ?_
                refine ja_goto 2 dloop_118 rfl ?_
                exact ja_wk (fun q hq => by simp only [List.mem_cons, List.not_mem_nil, or_false] at hq; rcases hq with rfl | rfl <;> rfl) ((ih ((m - 1).toNat) (by omega)) (m - 1) 0 h8 g9 ⟨by omega, by omega⟩ ⟨by decide, by decide⟩ (⟨(Or.inr (by refine ⟨rfl, ?_, ?_, ?_, ?_⟩ <;> omega)), by omega⟩) rfl)
            · refine ja_iload_n dloop_39 rfl rfl ?_
              refine ja_bipush 38 dloop_40 rfl ?_
              refine ja_icmp_ne 71 dloop_42 rfl ⟨by omega, by omega⟩ ⟨by decide, by decide⟩ (fun c42 => ?_) (fun c42 => ?_)
              · refine ja_iload_n dloop_71 rfl rfl ?_
                refine ja_bipush 31 dloop_72 rfl ?_
                refine ja_icmp_lt 94 dloop_74 rfl ⟨by omega, by omega⟩ ⟨by decide, by decide⟩ (fun c74 => ?_) (fun c74 => ?_)
                · refine ja_aload_n dloop_94 rfl rfl ?_
                  refine ja_iload_n dloop_95 rfl rfl ?_
                  refine ja_aload_n dloop_96 rfl rfl ?_
                  refine fa_wA dloop_97 ?_
                  refine ja_aload_n dloop_100 rfl rfl ?_
                  refine fg_wTop (v := (u 0 17) - 1) rfl dloop_101 ?_
                  refine il_wA (v := u 7 ((u 0 17) - 1).toNat) rfl ⟨by omega, by omega⟩ dloop_104 ?_
                  have f10 := gC_wA gu ((u 0 17) - 1).toNat
                  refine ja_aload_n dloop_105 rfl rfl ?_
                  refine fa_wB dloop_106 ?_
                  refine ja_aload_n dloop_109 rfl rfl ?_
                  refine fg_wTop (v := (u 0 17) - 1) rfl dloop_110 ?_
                  refine il_wB (v := u 8 ((u 0 17) - 1).toNat) rfl ⟨by omega, by omega⟩ dloop_113 ?_
                  have f11 := gC_wB gu ((u 0 17) - 1).toNat
                  refine t_stateAct (by decide) (show (0 : Nat) ≤ 8 by decide) dloop_114 g2 ⟨by omega, by omega⟩ ⟨by omega, by omega⟩ ⟨by omega, by omega⟩ (pS) (pB) (show ph = 1 ∨ (u 0 74) ≤ 1 ∨ (u 0 75) ≤ 24 by omega) (show 14 ≤ (u 6 ((u 0 17) - 1).toNat) ∧ (u 6 ((u 0 17) - 1).toNat) ≤ 30 by omega) (p4) ?_ ?_
                  · intro h12 k114_0 g13
                    refine ja_istore_n dloop_117 rfl (by decide) (L2 := [(1, (0, 1)), (2, (0, (u 6 ((u 0 17) - 1).toNat))), (0, (2, ((0 : Nat) : Int)))]) rfl ?_
                    refine ja_goto 2 dloop_118 rfl ?_
                    exact ja_wk (fun q hq => by simp only [List.mem_cons, List.not_mem_nil, or_false] at hq; rcases hq with rfl | rfl <;> rfl) ((ih ((m - 1).toNat) (by omega)) (m - 1) 1 h12 g13 ⟨by omega, by omega⟩ ⟨by decide, by decide⟩ (⟨(lo_next ag k114_0 hm), by omega⟩) rfl)
                  · intro h14 k114_1 g15
                    replace k114_1 : 0 < (h14 0 8) ∧ (h14 0 1) = (u 0 1) ∧ (h14 0 118) = (u 0 118) ∧ (h14 0 127) = (u 0 127) := k114_1
                    refine ja_istore_n dloop_117 rfl (by decide) (L2 := [(1, (0, 0)), (2, (0, (u 6 ((u 0 17) - 1).toNat))), (0, (2, ((0 : Nat) : Int)))]) rfl ?_
                    refine ja_goto 2 dloop_118 rfl ?_
                    exact ja_wk (fun q hq => by simp only [List.mem_cons, List.not_mem_nil, or_false] at hq; rcases hq with rfl | rfl <;> rfl) ((ih ((m - 1).toNat) (by omega)) (m - 1) 0 h14 g15 ⟨by omega, by omega⟩ ⟨by decide, by decide⟩ (⟨(Or.inr (by refine ⟨rfl, ?_, ?_, ?_, ?_⟩ <;> omega)), by omega⟩) rfl)
                · refine ja_aload_n dloop_77 rfl rfl ?_
                  refine ja_iload_n dloop_78 rfl rfl ?_
                  refine ja_aload_n dloop_79 rfl rfl ?_
                  refine fa_wA dloop_80 ?_
                  refine ja_aload_n dloop_83 rfl rfl ?_
                  refine fg_wTop (v := (u 0 17) - 1) rfl dloop_84 ?_
                  refine il_wA (v := u 7 ((u 0 17) - 1).toNat) rfl ⟨by omega, by omega⟩ dloop_87 ?_
                  have f16 := gC_wA gu ((u 0 17) - 1).toNat
                  refine t_pickAct (by decide) (show (0 : Nat) ≤ 8 by decide) dloop_88 g2 ⟨by omega, by omega⟩ ⟨by omega, by omega⟩ (pS) (pB) (p4) (show 31 ≤ (u 6 ((u 0 17) - 1).toNat) ∧ (u 6 ((u 0 17) - 1).toNat) ≤ 37 by omega) ?_ ?_
                  · intro h17 k88_0 g18
                    refine ja_goto 117 dloop_91 rfl ?_
                    refine ja_istore_n dloop_117 rfl (by decide) (L2 := [(1, (0, 1)), (2, (0, (u 6 ((u 0 17) - 1).toNat))), (0, (2, ((0 : Nat) : Int)))]) rfl ?_
                    refine ja_goto 2 dloop_118 rfl ?_
                    exact ja_wk (fun q hq => by simp only [List.mem_cons, List.not_mem_nil, or_false] at hq; rcases hq with rfl | rfl <;> rfl) ((ih ((m - 1).toNat) (by omega)) (m - 1) 1 h17 g18 ⟨by omega, by omega⟩ ⟨by decide, by decide⟩ (⟨(lo_next ag k88_0 hm), by omega⟩) rfl)
                  · intro h19 k88_1 g20
                    replace k88_1 : 0 < (h19 0 8) ∧ (h19 0 1) = (u 0 1) ∧ (h19 0 118) = (u 0 118) ∧ (h19 0 127) = (u 0 127) := k88_1
                    refine ja_goto 117 dloop_91 rfl ?_
                    refine ja_istore_n dloop_117 rfl (by decide) (L2 := [(1, (0, 0)), (2, (0, (u 6 ((u 0 17) - 1).toNat))), (0, (2, ((0 : Nat) : Int)))]) rfl ?_
                    refine ja_goto 2 dloop_118 rfl ?_
                    exact ja_wk (fun q hq => by simp only [List.mem_cons, List.not_mem_nil, or_false] at hq; rcases hq with rfl | rfl <;> rfl) ((ih ((m - 1).toNat) (by omega)) (m - 1) 0 h19 g20 ⟨by omega, by omega⟩ ⟨by decide, by decide⟩ (⟨(Or.inr (by refine ⟨rfl, ?_, ?_, ?_, ?_⟩ <;> omega)), by omega⟩) rfl)
              · refine ja_aload_n dloop_45 rfl rfl ?_
                refine ja_iload_n dloop_46 rfl rfl ?_
                refine ja_aload_n dloop_47 rfl rfl ?_
                refine fa_wA dloop_48 ?_
                refine ja_aload_n dloop_51 rfl rfl ?_
                refine fg_wTop (v := (u 0 17) - 1) rfl dloop_52 ?_
                refine il_wA (v := u 7 ((u 0 17) - 1).toNat) rfl ⟨by omega, by omega⟩ dloop_55 ?_
                have f21 := gC_wA gu ((u 0 17) - 1).toNat
                refine ja_aload_n dloop_56 rfl rfl ?_
                refine fa_wB dloop_57 ?_
                refine ja_aload_n dloop_60 rfl rfl ?_
                refine fg_wTop (v := (u 0 17) - 1) rfl dloop_61 ?_
                refine il_wB (v := u 8 ((u 0 17) - 1).toNat) rfl ⟨by omega, by omega⟩ dloop_64 ?_
                have f22 := gC_wB gu ((u 0 17) - 1).toNat
                refine t_expressionAct (by decide) (show (0 : Nat) ≤ 8 by decide) dloop_65 g2 ⟨by omega, by omega⟩ ⟨by omega, by omega⟩ ⟨by omega, by omega⟩ (pS) (pB) (show ph = 1 ∨ (u 0 74) ≤ 1 ∨ (u 0 75) ≤ 24 by omega) (show (u 6 ((u 0 17) - 1).toNat) ≤ 12 ∨ (u 6 ((u 0 17) - 1).toNat) = 38 by omega) ?_ ?_
                · intro h23 k65_0 g24
                  refine ja_goto 117 dloop_68 rfl ?_
                  refine ja_istore_n dloop_117 rfl (by decide) (L2 := [(1, (0, 1)), (2, (0, (u 6 ((u 0 17) - 1).toNat))), (0, (2, ((0 : Nat) : Int)))]) rfl ?_
                  refine ja_goto 2 dloop_118 rfl ?_
                  exact ja_wk (fun q hq => by simp only [List.mem_cons, List.not_mem_nil, or_false] at hq; rcases hq with rfl | rfl <;> rfl) ((ih ((m - 1).toNat) (by omega)) (m - 1) 1 h23 g24 ⟨by omega, by omega⟩ ⟨by decide, by decide⟩ (⟨(lo_next ag k65_0 hm), by omega⟩) rfl)
                · intro h25 k65_1 g26
                  replace k65_1 : 0 < (h25 0 8) ∧ (h25 0 1) = (u 0 1) ∧ (h25 0 118) = (u 0 118) ∧ (h25 0 127) = (u 0 127) := k65_1
                  refine ja_goto 117 dloop_68 rfl ?_
                  refine ja_istore_n dloop_117 rfl (by decide) (L2 := [(1, (0, 0)), (2, (0, (u 6 ((u 0 17) - 1).toNat))), (0, (2, ((0 : Nat) : Int)))]) rfl ?_
                  refine ja_goto 2 dloop_118 rfl ?_
                  exact ja_wk (fun q hq => by simp only [List.mem_cons, List.not_mem_nil, or_false] at hq; rcases hq with rfl | rfl <;> rfl) ((ih ((m - 1).toNat) (by omega)) (m - 1) 0 h25 g26 ⟨by omega, by omega⟩ ⟨by decide, by decide⟩ (⟨(Or.inr (by refine ⟨rfl, ?_, ?_, ?_, ?_⟩ <;> omega)), by omega⟩) rfl)
  have kwT := gF_wTop g
  have hmr := mu_r g p1 (by omega)
  refine ja_iconst dloop_0 ?_
  refine ja_istore_n dloop_1 rfl (by decide) (L2 := [(1, (0, 1)), (0, (2, ((0 : Nat) : Int)))]) rfl ?_
  exact ja_wk (fun q hq => by simp only [List.mem_cons, List.not_mem_nil, or_false] at hq; rcases hq with rfl | rfl <;> rfl) ((CUT _) (pi_mu h s) 1 h g ⟨by omega, by omega⟩ ⟨by decide, by decide⟩ (⟨(Or.inl ⟨rfl, ⟨_, _, _, _, _, ⟨p1, p2⟩, Int.le_refl _⟩, ag_refl⟩), Int.le_refl _⟩) rfl)
theorem t_loop {R r ph q0 : Int} {tf : mo_TF} {s : List mo_A} {ht st rg : Nat → Int} {tu : Int} {d nL pc : Nat} {cc : ByteArray} {rt : Option FieldType} {L : List (Nat × ja_V)} {S : List ja_V} {h : ja_H} {Q : Option ja_V → ja_H → Prop} (hdd : 7 < d) (hwd : ja_wd S ≤ 8) (hd : decode cc pc = .ok (.invokevirtual 794, 3)) (g : mo_G Zz h) (p1 : pk_S h (h 0 17).toNat s) (p2 : piB h R r ph tf q0 s ht st rg tu) (p3 : ph = 1 ∨ (h 0 74) ≤ 1 ∨ (h 0 75) ≤ 24) (p4 : tf_ok ph tf) (k1 : ∀ (h' : ja_H), ((∃ ht st rg : Nat → Int, ∃ tu : Int, pi h' R r ph tf q0 [] ht st rg tu) ∧ mo_ag FK h h' ∧ pi_mu h' [] ≤ pi_mu h s) → mo_G Zz h' → mJ l D cA ad d cc nL rt (pc + 3) L ((0, 1) :: S) h' Q) (k2 : ∀ (h' : ja_H), (0 < (h' 0 8) ∧ (h' 0 1) = (h 0 1) ∧ (h' 0 118) = (h 0 118) ∧ (h' 0 127) = (h 0 127)) → mo_G Zz h' → mJ l D cA ad d cc nL rt (pc + 3) L ((0, 0) :: S) h' Q) : mJ l D cA ad d cc nL rt pc L ((2, ((0 : Nat) : Int)) :: S) h Q :=
  mc_loop hdd hwd hd (s_loop g p1 p2 p3 p4 k1 k2)
end
theorem dblock_0 : decode cX12_block 0 = .ok (.aload_n 0, 1) := by decide +kernel
theorem dblock_1 : decode cX12_block 1 = .ok (.iconst 0, 1) := by decide +kernel
theorem dblock_2 : decode cX12_block 2 = .ok (.putfield 608, 3) := by decide +kernel
theorem dblock_5 : decode cX12_block 5 = .ok (.aload_n 0, 1) := by decide +kernel
theorem dblock_6 : decode cX12_block 6 = .ok (.bipush 14, 2) := by decide +kernel
theorem dblock_8 : decode cX12_block 8 = .ok (.iconst 0, 1) := by decide +kernel
theorem dblock_9 : decode cX12_block 9 = .ok (.iconst 0, 1) := by decide +kernel
theorem dblock_10 : decode cX12_block 10 = .ok (.iconst 0, 1) := by decide +kernel
theorem dblock_11 : decode cX12_block 11 = .ok (.invokevirtual 790, 3) := by decide +kernel
theorem dblock_14 : decode cX12_block 14 = .ok (.ifCond .eq 14, 3) := by decide +kernel
theorem dblock_17 : decode cX12_block 17 = .ok (.aload_n 0, 1) := by decide +kernel
theorem dblock_18 : decode cX12_block 18 = .ok (.invokevirtual 794, 3) := by decide +kernel
theorem dblock_21 : decode cX12_block 21 = .ok (.ifCond .eq 7, 3) := by decide +kernel
theorem dblock_24 : decode cX12_block 24 = .ok (.iconst 1, 1) := by decide +kernel
theorem dblock_25 : decode cX12_block 25 = .ok (.goto 4, 3) := by decide +kernel
theorem dblock_28 : decode cX12_block 28 = .ok (.iconst 0, 1) := by decide +kernel
theorem dblock_29 : decode cX12_block 29 = .ok (.ireturn, 1) := by decide +kernel
section
variable {l : Launch} {D : va_G} {cA : Nat → ClassId} {ad : Nat → Nat}
theorem s_block {R q0 : Int} {tf : mo_TF} {ht st rg : Nat → Int} {h : ja_H} {Q : Option ja_V → ja_H → Prop} (g : mo_G Zz h) (p1 : piB (mo_L (ja_up h 0 17 0) 14 0 0 0) R R 0 tf q0 [(14, 0, 0)] ht st rg 0) (p2 : (h 0 74) ≤ 1 ∨ (h 0 75) ≤ 24) (p3 : tf_ok 0 tf) (k1 : ∀ (h' : ja_H), ((∃ ht st rg : Nat → Int, ∃ tu : Int, pi h' R R 0 tf q0 [] ht st rg tu) ∧ mo_ag FK h h' ∧ (h 0 7) ≤ (h' 0 7)) → mo_G Zz h' → Q (some (0, 1)) h') (k2 : ∀ (h' : ja_H), (0 < (h' 0 8) ∧ (h' 0 1) = (h 0 1) ∧ (h' 0 118) = (h 0 118) ∧ (h' 0 127) = (h 0 127)) → mo_G Zz h' → Q (some (0, 0)) h') : mM_block l D cA ad  h Q := by
  show mJ l D cA ad 8 cX12_block 1 (some .boolean) 0 [(0, (2, ((0 : Nat) : Int)))] [] h Q
  refine ja_aload_n dblock_0 rfl rfl ?_
  refine ja_iconst dblock_1 ?_
  have g1 := gP_wTop g (x := 0) ⟨by decide, by decide⟩
  refine fp_wTop dblock_2 ?_
  refine ja_aload_n dblock_5 rfl rfl ?_
  refine ja_bipush 14 dblock_6 rfl ?_
  refine ja_iconst dblock_8 ?_
  refine ja_iconst dblock_9 ?_
  refine ja_iconst dblock_10 ?_
  refine t_later (by decide) (show (0 : Nat) ≤ 8 by decide) dblock_11 g1 ⟨by decide, by decide⟩ ⟨by decide, by decide⟩ ⟨by decide, by decide⟩ ⟨by decide, by decide⟩ (show 0 ≤ 14 ∧ 14 ≤ 38 by omega) (show 0 < 2000 by omega) ?_
  intro g2
  replace g2 : mo_G Zz (ja_up (ja_up (ja_up (ja_up (ja_up (ja_up h 0 17 0) 6 ((0 : Int).toNat) 14) 7 ((0 : Int).toNat) 0) 8 ((0 : Int).toNat) 0) 9 ((0 : Int).toNat) 0) 0 17 (0 + 1)) := g2
  show mJ l D cA ad 8 cX12_block 1 (some .boolean) 14 [(0, (2, ((0 : Nat) : Int)))] [(0, 1)] (ja_up (ja_up (ja_up (ja_up (ja_up (ja_up h 0 17 0) 6 ((0 : Int).toNat) 14) 7 ((0 : Int).toNat) 0) 8 ((0 : Int).toNat) 0) 9 ((0 : Int).toNat) 0) 0 17 (0 + 1)) Q
  refine ja_if_eq 28 dblock_14 rfl ⟨by decide, by decide⟩ (fun c14 => absurd c14 (by omega)) (fun c14 => ?_)
  refine ja_aload_n dblock_17 rfl rfl ?_
  refine t_loop (by decide) (show (0 : Nat) ≤ 8 by decide) dblock_18 g2 (pk_S_one (a := 14) (b := 0) (c := 0) (by simp [ja_up]) (by simp [ja_up]) (by simp [ja_up])) (p1) ((Or.inr p2)) (p3) ?_ ?_
  · intro h3 k18_0 g4
    refine ja_if_eq 28 dblock_21 rfl ⟨by decide, by decide⟩ (fun c21 => absurd c21 (by omega)) (fun c21 => ?_)
    refine ja_iconst dblock_24 ?_
    refine ja_goto 29 dblock_25 rfl ?_
    refine ja_zreturn dblock_29 rfl (by omega) ?_
    exact mo_fin (by omega) rfl (k1 h3 (⟨k18_0.1, ag_trans (by (repeat (refine ag_up rfl ?_)); exact ag_refl) k18_0.2.1, mu_at rfl k18_0.2.2⟩) g4)
  · intro h5 k18_1 g6
    replace k18_1 : 0 < (h5 0 8) ∧ (h5 0 1) = (h 0 1) ∧ (h5 0 118) = (h 0 118) ∧ (h5 0 127) = (h 0 127) := k18_1
    refine ja_if_eq 28 dblock_21 rfl ⟨by decide, by decide⟩ (fun c21 => ?_) (fun c21 => absurd c21 (by omega))
    refine ja_iconst dblock_28 ?_
    refine ja_zreturn dblock_29 rfl (by omega) ?_
    exact mo_fin (by omega) rfl (k2 h5 (by omega) g6)
theorem t_block {R q0 : Int} {tf : mo_TF} {ht st rg : Nat → Int} {d nL pc : Nat} {cc : ByteArray} {rt : Option FieldType} {L : List (Nat × ja_V)} {S : List ja_V} {h : ja_H} {Q : Option ja_V → ja_H → Prop} (hdd : 8 < d) (hwd : ja_wd S ≤ 8) (hd : decode cc pc = .ok (.invokevirtual 729, 3)) (g : mo_G Zz h) (p1 : piB (mo_L (ja_up h 0 17 0) 14 0 0 0) R R 0 tf q0 [(14, 0, 0)] ht st rg 0) (p2 : (h 0 74) ≤ 1 ∨ (h 0 75) ≤ 24) (p3 : tf_ok 0 tf) (k1 : ∀ (h' : ja_H), ((∃ ht st rg : Nat → Int, ∃ tu : Int, pi h' R R 0 tf q0 [] ht st rg tu) ∧ mo_ag FK h h' ∧ (h 0 7) ≤ (h' 0 7)) → mo_G Zz h' → mJ l D cA ad d cc nL rt (pc + 3) L ((0, 1) :: S) h' Q) (k2 : ∀ (h' : ja_H), (0 < (h' 0 8) ∧ (h' 0 1) = (h 0 1) ∧ (h' 0 118) = (h 0 118) ∧ (h' 0 127) = (h 0 127)) → mo_G Zz h' → mJ l D cA ad d cc nL rt (pc + 3) L ((0, 0) :: S) h' Q) : mJ l D cA ad d cc nL rt pc L ((2, ((0 : Nat) : Int)) :: S) h Q :=
  mc_block hdd hwd hd (s_block g p1 p2 p3 k1 k2)
end
theorem dpickTree_0 : decode cX12_pickTree 0 = .ok (.aload_n 0, 1) := by decide +kernel
theorem dpickTree_1 : decode cX12_pickTree 1 = .ok (.iconst 0, 1) := by decide +kernel
theorem dpickTree_2 : decode cX12_pickTree 2 = .ok (.putfield 608, 3) := by decide +kernel
theorem dpickTree_5 : decode cX12_pickTree 5 = .ok (.aload_n 0, 1) := by decide +kernel
theorem dpickTree_6 : decode cX12_pickTree 6 = .ok (.bipush 31, 2) := by decide +kernel
theorem dpickTree_8 : decode cX12_pickTree 8 = .ok (.iconst 0, 1) := by decide +kernel
theorem dpickTree_9 : decode cX12_pickTree 9 = .ok (.iconst 0, 1) := by decide +kernel
theorem dpickTree_10 : decode cX12_pickTree 10 = .ok (.iconst 0, 1) := by decide +kernel
theorem dpickTree_11 : decode cX12_pickTree 11 = .ok (.invokevirtual 790, 3) := by decide +kernel
theorem dpickTree_14 : decode cX12_pickTree 14 = .ok (.ifCond .eq 14, 3) := by decide +kernel
theorem dpickTree_17 : decode cX12_pickTree 17 = .ok (.aload_n 0, 1) := by decide +kernel
theorem dpickTree_18 : decode cX12_pickTree 18 = .ok (.invokevirtual 794, 3) := by decide +kernel
theorem dpickTree_21 : decode cX12_pickTree 21 = .ok (.ifCond .eq 7, 3) := by decide +kernel
theorem dpickTree_24 : decode cX12_pickTree 24 = .ok (.iconst 1, 1) := by decide +kernel
theorem dpickTree_25 : decode cX12_pickTree 25 = .ok (.goto 4, 3) := by decide +kernel
theorem dpickTree_28 : decode cX12_pickTree 28 = .ok (.iconst 0, 1) := by decide +kernel
theorem dpickTree_29 : decode cX12_pickTree 29 = .ok (.ireturn, 1) := by decide +kernel
section
variable {l : Launch} {D : va_G} {cA : Nat → ClassId} {ad : Nat → Nat}
theorem s_pickTree {R q0 : Int} {tf : mo_TF} {ht st rg : Nat → Int} {h : ja_H} {Q : Option ja_V → ja_H → Prop} (g : mo_G Zz h) (p1 : piB (mo_L (ja_up h 0 17 0) 31 0 0 0) R 4 1 tf q0 [(31, 0, 0)] ht st rg 0) (p2 : tf_ok 1 tf) (k1 : ∀ (h' : ja_H), ((∃ ht st rg : Nat → Int, ∃ tu : Int, pi h' R 4 1 tf q0 [] ht st rg tu) ∧ mo_ag FK h h' ∧ (h 0 7) ≤ (h' 0 7)) → mo_G Zz h' → Q (some (0, 1)) h') (k2 : ∀ (h' : ja_H), (0 < (h' 0 8) ∧ (h' 0 1) = (h 0 1) ∧ (h' 0 118) = (h 0 118) ∧ (h' 0 127) = (h 0 127)) → mo_G Zz h' → Q (some (0, 0)) h') : mM_pickTree l D cA ad  h Q := by
  show mJ l D cA ad 8 cX12_pickTree 1 (some .boolean) 0 [(0, (2, ((0 : Nat) : Int)))] [] h Q
  refine ja_aload_n dpickTree_0 rfl rfl ?_
  refine ja_iconst dpickTree_1 ?_
  have g1 := gP_wTop g (x := 0) ⟨by decide, by decide⟩
  refine fp_wTop dpickTree_2 ?_
  refine ja_aload_n dpickTree_5 rfl rfl ?_
  refine ja_bipush 31 dpickTree_6 rfl ?_
  refine ja_iconst dpickTree_8 ?_
  refine ja_iconst dpickTree_9 ?_
  refine ja_iconst dpickTree_10 ?_
  refine t_later (by decide) (show (0 : Nat) ≤ 8 by decide) dpickTree_11 g1 ⟨by decide, by decide⟩ ⟨by decide, by decide⟩ ⟨by decide, by decide⟩ ⟨by decide, by decide⟩ (show 0 ≤ 31 ∧ 31 ≤ 38 by omega) (show 0 < 2000 by omega) ?_
  intro g2
  replace g2 : mo_G Zz (ja_up (ja_up (ja_up (ja_up (ja_up (ja_up h 0 17 0) 6 ((0 : Int).toNat) 31) 7 ((0 : Int).toNat) 0) 8 ((0 : Int).toNat) 0) 9 ((0 : Int).toNat) 0) 0 17 (0 + 1)) := g2
  show mJ l D cA ad 8 cX12_pickTree 1 (some .boolean) 14 [(0, (2, ((0 : Nat) : Int)))] [(0, 1)] (ja_up (ja_up (ja_up (ja_up (ja_up (ja_up h 0 17 0) 6 ((0 : Int).toNat) 31) 7 ((0 : Int).toNat) 0) 8 ((0 : Int).toNat) 0) 9 ((0 : Int).toNat) 0) 0 17 (0 + 1)) Q
  refine ja_if_eq 28 dpickTree_14 rfl ⟨by decide, by decide⟩ (fun c14 => absurd c14 (by omega)) (fun c14 => ?_)
  refine ja_aload_n dpickTree_17 rfl rfl ?_
  refine t_loop (by decide) (show (0 : Nat) ≤ 8 by decide) dpickTree_18 g2 (pk_S_one (a := 31) (b := 0) (c := 0) (by simp [ja_up]) (by simp [ja_up]) (by simp [ja_up])) (p1) ((Or.inl rfl)) (p2) ?_ ?_
  · intro h3 k18_0 g4
    refine ja_if_eq 28 dpickTree_21 rfl ⟨by decide, by decide⟩ (fun c21 => absurd c21 (by omega)) (fun c21 => ?_)
    refine ja_iconst dpickTree_24 ?_
    refine ja_goto 29 dpickTree_25 rfl ?_
    refine ja_zreturn dpickTree_29 rfl (by omega) ?_
    exact mo_fin (by omega) rfl (k1 h3 (⟨k18_0.1, ag_trans (by (repeat (refine ag_up rfl ?_)); exact ag_refl) k18_0.2.1, mu_at rfl k18_0.2.2⟩) g4)
  · intro h5 k18_1 g6
    replace k18_1 : 0 < (h5 0 8) ∧ (h5 0 1) = (h 0 1) ∧ (h5 0 118) = (h 0 118) ∧ (h5 0 127) = (h 0 127) := k18_1
    refine ja_if_eq 28 dpickTree_21 rfl ⟨by decide, by decide⟩ (fun c21 => ?_) (fun c21 => absurd c21 (by omega))
    refine ja_iconst dpickTree_28 ?_
    refine ja_zreturn dpickTree_29 rfl (by omega) ?_
    exact mo_fin (by omega) rfl (k2 h5 (by omega) g6)
theorem t_pickTree {R q0 : Int} {tf : mo_TF} {ht st rg : Nat → Int} {d nL pc : Nat} {cc : ByteArray} {rt : Option FieldType} {L : List (Nat × ja_V)} {S : List ja_V} {h : ja_H} {Q : Option ja_V → ja_H → Prop} (hdd : 8 < d) (hwd : ja_wd S ≤ 8) (hd : decode cc pc = .ok (.invokevirtual 787, 3)) (g : mo_G Zz h) (p1 : piB (mo_L (ja_up h 0 17 0) 31 0 0 0) R 4 1 tf q0 [(31, 0, 0)] ht st rg 0) (p2 : tf_ok 1 tf) (k1 : ∀ (h' : ja_H), ((∃ ht st rg : Nat → Int, ∃ tu : Int, pi h' R 4 1 tf q0 [] ht st rg tu) ∧ mo_ag FK h h' ∧ (h 0 7) ≤ (h' 0 7)) → mo_G Zz h' → mJ l D cA ad d cc nL rt (pc + 3) L ((0, 1) :: S) h' Q) (k2 : ∀ (h' : ja_H), (0 < (h' 0 8) ∧ (h' 0 1) = (h 0 1) ∧ (h' 0 118) = (h 0 118) ∧ (h' 0 127) = (h 0 127)) → mo_G Zz h' → mJ l D cA ad d cc nL rt (pc + 3) L ((0, 0) :: S) h' Q) : mJ l D cA ad d cc nL rt pc L ((2, ((0 : Nat) : Int)) :: S) h Q :=
  mc_pickTree hdd hwd hd (s_pickTree g p1 p2 k1 k2)
end
