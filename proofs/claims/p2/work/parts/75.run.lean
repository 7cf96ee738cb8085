/-! the reference: begin (written by a program) -/
/-! the reference: begin -/
def mo_BG (h : ja_H) (a1 : Int) : ja_H := ja_up (ja_up (ja_up (ja_up (ja_up (ja_up (ja_up (ja_up (ja_up (ja_up (ja_up (ja_up (ja_up (ja_up (ja_up (ja_up (ja_up h 0 208 0) 0 127 1) 0 128 a1) 0 130 0) 0 131 0) 0 132 0) 0 135 0) 0 138 0) 0 144 0) 0 149 0) 0 150 0) 0 165 0) 0 168 0) 0 172 0) 0 186 0) 0 145 0) 0 146 0
def FHK : Nat → Nat → Bool := mo_X [] [92, 93]
theorem ci_BG {h u : ja_H} {ht st rg : Nat → Int} {a1 : Int} (c : CI h ht st rg) (ag : mo_ag FHK (mo_BG h a1) u) : CI u ht st rg :=
  ci_g c (ag_trans (h' := mo_BG h a1) (by unfold mo_BG; (repeat (first | exact ag_refl | refine ag_up rfl ?_))) (ag_sub (X_sub (by decide) (by decide)) ag))
/-- the classes, the objects' classes stay -/
def FBG : Nat → Nat → Bool := mo_F [22, 118] [12, 89]
theorem bg_BG {h u : ja_H} {a1 : Int} (ag : mo_ag FHK (mo_BG h a1) u) : mo_ag FBG h u :=
  ag_trans (h' := mo_BG h a1) (by unfold mo_BG; (repeat (first | exact ag_refl | refine ag_up rfl ?_))) (ag_sub (X_sub (by decide) (by decide)) ag)
theorem bg_pb {v u : ja_H} {t pc a : Int} (p : pbF v u t pc a) : mo_ag FBG v u := by
  obtain ⟨x, ag, eu⟩ := p
  rw [eu]
  exact ag_up rfl (ag_trans (h' := mo_PB v t pc a) (by unfold mo_PB; (repeat (first | exact ag_refl | refine ag_up rfl ?_))) (ag_sub (X_sub (by decide) (by decide)) ag))
theorem ri_begin {H u : ja_H} {ht st rg : Nat → Int} {pc : Int} (c : CI H ht st rg) (e1 : (H 0 150) = 0) (e2 : (H 0 149) = 0) (e3 : (H 0 168) = 0) (e4 : (H 0 165) = 0) (e5 : (H 0 172) = 0) (e6 : (H 0 186) = 0) (e7 : (H 0 132) = 0) (e8 : (H 0 130) = 0) (e9 : (H 0 144) = 0) (p : pbF H u 0 pc 0) (hpc : (0 ≤ pc ∧ pc < (H 0 113)) ∧ ht pc.toNat = 0 ∧ st pc.toNat = 0 ∧ rg pc.toNat = 0) : CI u ht st rg ∧ RI u ht st rg := by
  obtain ⟨v, ag, eu⟩ := p
  have agA : mo_ag FCG H u := by
    rw [eu]
    exact ag_up rfl (ag_trans (h' := mo_PB H 0 pc 0) (by unfold mo_PB; (repeat (first | exact ag_refl | refine ag_up rfl ?_))) (ag_sub (X_sub (by decide) (by decide)) ag))
  have cu := ci_g c agA
  have f1 : (u 96) 0 = 0 := by rw [eu]; exact (ag _ _ rfl).trans (by simp [mo_PB, ja_up, e1])
  have f2 : (u 97) 0 = pc := by rw [eu]; exact (ag _ _ rfl).trans (by simp [mo_PB, ja_up, e1])
  have f3 : (u 99) 0 = 0 := by rw [eu]; exact (ag _ _ rfl).trans (by simp [mo_PB, ja_up, e1, e2])
  have f4 : (u 100) 0 = 0 := by rw [eu]; exact (ag _ _ rfl).trans (by simp [mo_PB, ja_up, e1, e3])
  have f5 : (u 101) 0 = 0 := by rw [eu]; exact (ag _ _ rfl).trans (by simp [mo_PB, ja_up, e1, e4])
  have g1 : (u 0 150) = 1 := by rw [eu]; exact (ag _ _ rfl).trans (show (H 0 150) + 1 = 1 by rw [e1]; rfl)
  have g2 : (u 0 149) = 0 := by rw [eu]; exact (ag _ _ rfl).trans e2
  have g3 : (u 0 168) = 0 := by rw [eu]; exact (ag _ _ rfl).trans e3
  have g4 : (u 0 165) = 10 := by rw [eu]; show (H 0 165) + 10 = 10; rw [e4]; rfl
  have g5 : (u 0 172) = 0 := by rw [eu]; exact (ag _ _ rfl).trans e5
  have g6 : (u 0 186) = 0 := by rw [eu]; exact (ag _ _ rfl).trans e6
  have g7 : (u 0 132) = 0 := by rw [eu]; exact (ag _ _ rfl).trans e7
  have g8 : (u 0 130) = 0 := by rw [eu]; exact (ag _ _ rfl).trans e8
  have g9 : (u 0 144) = 0 := by rw [eu]; exact (ag _ _ rfl).trans e9
  have gw : (u 0 113) = (H 0 113) := agA _ _ rfl
  obtain ⟨h1, h2, h3, h4⟩ := hpc
  have en : ((u 0 150)).toNat = 0 + 1 := by rw [g1]; rfl
  refine ⟨cu, ⟨0, ⟨by decide, fun _ => rfl, fun z => by omega⟩, ?_⟩, fun z => by omega⟩
  unfold RC
  rw [en, g1, g2, g3, g4, g5, g7, g8, g9]
  refine ⟨⟨by decide, Or.inl ⟨by rw [f1]; decide, ?_, ?_⟩⟩, ⟨?_, by decide⟩, ?_, fun r hr => by omega, ?_⟩
  · unfold bdK
    rw [f1, f2, f3, f4, f5, h2, h4, gw]
    exact ⟨h1, rfl, ⟨by decide, rfl⟩, rfl, Or.inl ⟨rfl, rfl, rfl⟩, fun k _ z => absurd z (by show ¬ ((k : Int) < 0); omega)⟩
  · rw [f3, f4, f5]; exact ⟨rfl, rfl, rfl⟩
  · show 0 + isB u 0 = 0 + 1
    unfold isB; rw [f1, if_pos (by decide)]
  · show 0 = 0 + (if (u 96) 0 = 3 then 1 else 0)
    rw [f1, if_neg (by decide)]; rfl
  · show 0 + (0 + (if (u 96) 0 ≤ 2 then st ((u 97) 0).toNat else 0)) ≤ 0
    rw [f1, f2, if_pos (by decide), h3]; decide
theorem dbegin_0 : decode cX12_begin 0 = .ok (.aload_n 0, 1) := by decide +kernel
theorem dbegin_1 : decode cX12_begin 1 = .ok (.aload_n 0, 1) := by decide +kernel
theorem dbegin_2 : decode cX12_begin 2 = .ok (.getfield 430, 3) := by decide +kernel
theorem dbegin_5 : decode cX12_begin 5 = .ok (.ifCond .eq 7, 3) := by decide +kernel
theorem dbegin_8 : decode cX12_begin 8 = .ok (.iconst 0, 1) := by decide +kernel
theorem dbegin_9 : decode cX12_begin 9 = .ok (.goto 4, 3) := by decide +kernel
theorem dbegin_12 : decode cX12_begin 12 = .ok (.iconst 1, 1) := by decide +kernel
theorem dbegin_13 : decode cX12_begin 13 = .ok (.putfield 423, 3) := by decide +kernel
theorem dbegin_16 : decode cX12_begin 16 = .ok (.aload_n 0, 1) := by decide +kernel
theorem dbegin_17 : decode cX12_begin 17 = .ok (.getfield 423, 3) := by decide +kernel
theorem dbegin_20 : decode cX12_begin 20 = .ok (.ifCond .le 5, 3) := by decide +kernel
theorem dbegin_23 : decode cX12_begin 23 = .ok (.iconst 0, 1) := by decide +kernel
theorem dbegin_24 : decode cX12_begin 24 = .ok (.ireturn, 1) := by decide +kernel
theorem dbegin_25 : decode cX12_begin 25 = .ok (.aload_n 0, 1) := by decide +kernel
theorem dbegin_26 : decode cX12_begin 26 = .ok (.iconst 1, 1) := by decide +kernel
theorem dbegin_27 : decode cX12_begin 27 = .ok (.putfield 434, 3) := by decide +kernel
theorem dbegin_30 : decode cX12_begin 30 = .ok (.aload_n 0, 1) := by decide +kernel
theorem dbegin_31 : decode cX12_begin 31 = .ok (.iload_n 1, 1) := by decide +kernel
theorem dbegin_32 : decode cX12_begin 32 = .ok (.putfield 972, 3) := by decide +kernel
theorem dbegin_35 : decode cX12_begin 35 = .ok (.aload_n 0, 1) := by decide +kernel
theorem dbegin_36 : decode cX12_begin 36 = .ok (.iconst 0, 1) := by decide +kernel
theorem dbegin_37 : decode cX12_begin 37 = .ok (.putfield 975, 3) := by decide +kernel
theorem dbegin_40 : decode cX12_begin 40 = .ok (.aload_n 0, 1) := by decide +kernel
theorem dbegin_41 : decode cX12_begin 41 = .ok (.iconst 0, 1) := by decide +kernel
theorem dbegin_42 : decode cX12_begin 42 = .ok (.putfield 978, 3) := by decide +kernel
theorem dbegin_45 : decode cX12_begin 45 = .ok (.aload_n 0, 1) := by decide +kernel
theorem dbegin_46 : decode cX12_begin 46 = .ok (.iconst 0, 1) := by decide +kernel
theorem dbegin_47 : decode cX12_begin 47 = .ok (.putfield 981, 3) := by decide +kernel
theorem dbegin_50 : decode cX12_begin 50 = .ok (.aload_n 0, 1) := by decide +kernel
theorem dbegin_51 : decode cX12_begin 51 = .ok (.iconst 0, 1) := by decide +kernel
theorem dbegin_52 : decode cX12_begin 52 = .ok (.putfield 984, 3) := by decide +kernel
theorem dbegin_55 : decode cX12_begin 55 = .ok (.aload_n 0, 1) := by decide +kernel
theorem dbegin_56 : decode cX12_begin 56 = .ok (.iconst 0, 1) := by decide +kernel
theorem dbegin_57 : decode cX12_begin 57 = .ok (.putfield 987, 3) := by decide +kernel
theorem dbegin_60 : decode cX12_begin 60 = .ok (.aload_n 0, 1) := by decide +kernel
theorem dbegin_61 : decode cX12_begin 61 = .ok (.iconst 0, 1) := by decide +kernel
theorem dbegin_62 : decode cX12_begin 62 = .ok (.putfield 990, 3) := by decide +kernel
theorem dbegin_65 : decode cX12_begin 65 = .ok (.aload_n 0, 1) := by decide +kernel
theorem dbegin_66 : decode cX12_begin 66 = .ok (.iconst 0, 1) := by decide +kernel
theorem dbegin_67 : decode cX12_begin 67 = .ok (.putfield 993, 3) := by decide +kernel
theorem dbegin_70 : decode cX12_begin 70 = .ok (.aload_n 0, 1) := by decide +kernel
theorem dbegin_71 : decode cX12_begin 71 = .ok (.iconst 0, 1) := by decide +kernel
theorem dbegin_72 : decode cX12_begin 72 = .ok (.putfield 996, 3) := by decide +kernel
theorem dbegin_75 : decode cX12_begin 75 = .ok (.aload_n 0, 1) := by decide +kernel
theorem dbegin_76 : decode cX12_begin 76 = .ok (.iconst 0, 1) := by decide +kernel
theorem dbegin_77 : decode cX12_begin 77 = .ok (.putfield 999, 3) := by decide +kernel
theorem dbegin_80 : decode cX12_begin 80 = .ok (.aload_n 0, 1) := by decide +kernel
theorem dbegin_81 : decode cX12_begin 81 = .ok (.iconst 0, 1) := by decide +kernel
theorem dbegin_82 : decode cX12_begin 82 = .ok (.putfield 1002, 3) := by decide +kernel
theorem dbegin_85 : decode cX12_begin 85 = .ok (.aload_n 0, 1) := by decide +kernel
theorem dbegin_86 : decode cX12_begin 86 = .ok (.iconst 0, 1) := by decide +kernel
theorem dbegin_87 : decode cX12_begin 87 = .ok (.putfield 1005, 3) := by decide +kernel
theorem dbegin_90 : decode cX12_begin 90 = .ok (.aload_n 0, 1) := by decide +kernel
theorem dbegin_91 : decode cX12_begin 91 = .ok (.iconst 0, 1) := by decide +kernel
theorem dbegin_92 : decode cX12_begin 92 = .ok (.putfield 1008, 3) := by decide +kernel
theorem dbegin_95 : decode cX12_begin 95 = .ok (.aload_n 0, 1) := by decide +kernel
theorem dbegin_96 : decode cX12_begin 96 = .ok (.iconst 0, 1) := by decide +kernel
theorem dbegin_97 : decode cX12_begin 97 = .ok (.putfield 1010, 3) := by decide +kernel
theorem dbegin_100 : decode cX12_begin 100 = .ok (.aload_n 0, 1) := by decide +kernel
theorem dbegin_101 : decode cX12_begin 101 = .ok (.iconst 0, 1) := by decide +kernel
theorem dbegin_102 : decode cX12_begin 102 = .ok (.putfield 1013, 3) := by decide +kernel
theorem dbegin_105 : decode cX12_begin 105 = .ok (.iconst 0, 1) := by decide +kernel
theorem dbegin_106 : decode cX12_begin 106 = .ok (.istore_n 2, 1) := by decide +kernel
theorem dbegin_107 : decode cX12_begin 107 = .ok (.iload_n 2, 1) := by decide +kernel
theorem dbegin_108 : decode cX12_begin 108 = .ok (.sipush 16200, 3) := by decide +kernel
theorem dbegin_111 : decode cX12_begin 111 = .ok (.if_icmp .ge 23, 3) := by decide +kernel
theorem dbegin_114 : decode cX12_begin 114 = .ok (.aload_n 0, 1) := by decide +kernel
theorem dbegin_115 : decode cX12_begin 115 = .ok (.getfield 285, 3) := by decide +kernel
theorem dbegin_118 : decode cX12_begin 118 = .ok (.iload_n 2, 1) := by decide +kernel
theorem dbegin_119 : decode cX12_begin 119 = .ok (.iconst 0, 1) := by decide +kernel
theorem dbegin_120 : decode cX12_begin 120 = .ok (.iastore, 1) := by decide +kernel
theorem dbegin_121 : decode cX12_begin 121 = .ok (.aload_n 0, 1) := by decide +kernel
theorem dbegin_122 : decode cX12_begin 122 = .ok (.getfield 288, 3) := by decide +kernel
theorem dbegin_125 : decode cX12_begin 125 = .ok (.iload_n 2, 1) := by decide +kernel
theorem dbegin_126 : decode cX12_begin 126 = .ok (.iconst 0, 1) := by decide +kernel
theorem dbegin_127 : decode cX12_begin 127 = .ok (.iastore, 1) := by decide +kernel
theorem dbegin_128 : decode cX12_begin 128 = .ok (.iinc 2 1, 3) := by decide +kernel
theorem dbegin_131 : decode cX12_begin 131 = .ok (.goto (-24), 3) := by decide +kernel
theorem dbegin_134 : decode cX12_begin 134 = .ok (.aload_n 0, 1) := by decide +kernel
theorem dbegin_135 : decode cX12_begin 135 = .ok (.aload_n 0, 1) := by decide +kernel
theorem dbegin_136 : decode cX12_begin 136 = .ok (.getfield 677, 3) := by decide +kernel
theorem dbegin_139 : decode cX12_begin 139 = .ok (.ifCond .le 21, 3) := by decide +kernel
theorem dbegin_142 : decode cX12_begin 142 = .ok (.aload_n 0, 1) := by decide +kernel
theorem dbegin_143 : decode cX12_begin 143 = .ok (.getfield 231, 3) := by decide +kernel
theorem dbegin_146 : decode cX12_begin 146 = .ok (.aload_n 0, 1) := by decide +kernel
theorem dbegin_147 : decode cX12_begin 147 = .ok (.getfield 680, 3) := by decide +kernel
theorem dbegin_150 : decode cX12_begin 150 = .ok (.iaload, 1) := by decide +kernel
theorem dbegin_151 : decode cX12_begin 151 = .ok (.bipush 26, 2) := by decide +kernel
theorem dbegin_153 : decode cX12_begin 153 = .ok (.if_icmp .eq 7, 3) := by decide +kernel
theorem dbegin_156 : decode cX12_begin 156 = .ok (.iconst 1, 1) := by decide +kernel
theorem dbegin_157 : decode cX12_begin 157 = .ok (.goto 4, 3) := by decide +kernel
theorem dbegin_160 : decode cX12_begin 160 = .ok (.iconst 0, 1) := by decide +kernel
theorem dbegin_161 : decode cX12_begin 161 = .ok (.putfield 1016, 3) := by decide +kernel
theorem dbegin_164 : decode cX12_begin 164 = .ok (.aload_n 0, 1) := by decide +kernel
theorem dbegin_165 : decode cX12_begin 165 = .ok (.getfield 1016, 3) := by decide +kernel
theorem dbegin_168 : decode cX12_begin 168 = .ok (.iconst 1, 1) := by decide +kernel
theorem dbegin_169 : decode cX12_begin 169 = .ok (.if_icmp .ne 14, 3) := by decide +kernel
theorem dbegin_172 : decode cX12_begin 172 = .ok (.aload_n 0, 1) := by decide +kernel
theorem dbegin_173 : decode cX12_begin 173 = .ok (.iconst 0, 1) := by decide +kernel
theorem dbegin_174 : decode cX12_begin 174 = .ok (.aload_n 0, 1) := by decide +kernel
theorem dbegin_175 : decode cX12_begin 175 = .ok (.getfield 680, 3) := by decide +kernel
theorem dbegin_178 : decode cX12_begin 178 = .ok (.iconst 0, 1) := by decide +kernel
theorem dbegin_179 : decode cX12_begin 179 = .ok (.invokevirtual 1018, 3) := by decide +kernel
theorem dbegin_182 : decode cX12_begin 182 = .ok (.pop, 1) := by decide +kernel
theorem dbegin_183 : decode cX12_begin 183 = .ok (.aload_n 0, 1) := by decide +kernel
theorem dbegin_184 : decode cX12_begin 184 = .ok (.getfield 1016, 3) := by decide +kernel
theorem dbegin_187 : decode cX12_begin 187 = .ok (.ireturn, 1) := by decide +kernel
section
variable {l : Launch} {D : va_G} {cA : Nat → ClassId} {ad : Nat → Nat}
theorem s_begin {a1 : Int} {h : ja_H} {Q : Option ja_V → ja_H → Prop} (g : mo_G mo_zr h) (r1 : 0 ≤ a1 ∧ a1 ≤ 1) (p1 : VI h) (p2 : (h 0 118) = 1 → ∃ ht st rg : Nat → Int, CI h ht st rg) (k1 : ((h 0 118) = 0) → mo_G mo_zr (ja_up h 0 208 1) → Q (some (0, 0)) (ja_up h 0 208 1)) (k2 : ∀ (v : Int) (h' : ja_H), (((h' 0 208) = 0 ∧ (h' 0 127) = 1 ∧ (h' 0 118) = (h 0 118) ∧ (h' 0 1) = (h 0 1) ∧ (h' 0 130) = 0) ∧ VI h' ∧ mo_ag FBG h h' ∧ ∃ ht st rg : Nat → Int, CI h' ht st rg ∧ ((h' 0 129) = 1 → RI h' ht st rg)) → mo_G mo_zr h' → Q (some (0, v)) h') : mM_begin l D cA ad a1 h Q := by
  show mJ l D cA ad 3 cX12_begin 3 (some .int) 0 [(0, (2, ((0 : Nat) : Int))), (1, (0, a1))] [] h Q
  have kn_compiled := gF_compiled g
  have kn_mains := gF_mains g
  have kn_mainStart := gF_mainStart g
  have kn_words := gF_words g
  have CUT : ∀ n : Nat, (∀ (x2 : Int) (u : ja_H), mo_G mo_zr u → (-2147483648 ≤ x2 ∧ x2 ≤ 2147483647) → ((0 ≤ x2 ∧ x2 ≤ 16200 ∧ (h 0 118) = 1) ∧ mo_ag FHK (mo_BG h a1) u ∧ VI u) → (((20000 : Int) - x2).toNat) = n → mJ l D cA ad 3 cX12_begin 3 (some .int) 107 [(0, (2, ((0 : Nat) : Int))), (2, (0, x2))] [] u Q) := by
    intro n
    induction n using Nat.strongRecOn with
    | _ n ih =>
      skip
      · intro x2 u gu qx2 iv hm
        subst hm
        have ku_compiled := gF_compiled gu
        have ku_mains := gF_mains gu
        have ku_mainStart := gF_mainStart gu
        have ku_words := gF_words gu
        obtain ⟨iv, ag, qv⟩ := iv
        obtain ⟨ht1, st1, rg1, hc⟩ := p2 (by omega)
        have e_frames : (u 0 150) = 0 := ag 0 150 rfl
        have e_pile : (u 0 149) = 0 := ag 0 149 rfl
        have e_tries : (u 0 168) = 0 := ag 0 168 rfl
        have e_localTop : (u 0 165) = 0 := ag 0 165 rfl
        have e_reached : (u 0 172) = 0 := ag 0 172 rfl
        have e_under : (u 0 186) = 0 := ag 0 186 rfl
        have e_outputs : (u 0 132) = 0 := ag 0 132 rfl
        have e_steps : (u 0 130) = 0 := ag 0 130 rfl
        have e_bodies : (u 0 144) = 0 := ag 0 144 rfl
        have e_thrown : (u 0 208) = 0 := ag 0 208 rfl
        have e_mains : (u 0 66) = (h 0 66) := ag 0 66 rfl
        have e_mainStart : (u 0 67) = (h 0 67) := ag 0 67 rfl
        have e_compiled : (u 0 118) = (h 0 118) := ag 0 118 rfl
        have e_size : (u 0 1) = (h 0 1) := ag 0 1 rfl
        have e_words : (u 0 113) = (h 0 113) := ag 0 113 rfl
        have e_started : (u 0 127) = 1 := ag 0 127 rfl
        refine ja_iload_n dbegin_107 rfl rfl ?_
        refine ja_sipush 16200 dbegin_108 rfl ?_
        refine ja_icmp_ge 134 dbegin_111 rfl ⟨by omega, by omega⟩ ⟨by decide, by decide⟩ (fun c111 => ?_) (fun c111 => ?_)
        · refine ja_aload_n dbegin_134 rfl rfl ?_
          refine ja_aload_n dbegin_135 rfl rfl ?_
          refine fg_mains (v := u 0 66) rfl dbegin_136 ?_
          have f1 := gF_mains gu
          refine ja_if_le 160 dbegin_139 rfl ⟨by omega, by omega⟩ (fun c139 => ?_) (fun c139 => ?_)
          · refine ja_iconst dbegin_160 ?_
            have g2 := gP_state gu (x := 0) ⟨by decide, by decide⟩
            refine fp_state dbegin_161 ?_
            refine ja_aload_n dbegin_164 rfl rfl ?_
            refine fg_state (v := 0) rfl dbegin_165 ?_
            refine ja_iconst dbegin_168 ?_
            refine ja_icmp_ne 183 dbegin_169 rfl ⟨by decide, by decide⟩ ⟨by decide, by decide⟩ (fun c169 => ?_) (fun c169 => absurd c169 (by omega))
            refine ja_aload_n dbegin_183 rfl rfl ?_
            refine fg_state (v := 0) rfl dbegin_184 ?_
            refine ja_ireturn dbegin_187 rfl ?_
            exact mo_fin (by omega) rfl (k2 0 (ja_up u 0 129 0) (⟨⟨(show ((u 0 208) : Int) = 0 by omega), (show ((u 0 127) : Int) = 1 by omega), (show ((u 0 118) : Int) = (h 0 118) by omega), (show ((u 0 1) : Int) = (h 0 1) by omega), (show ((u 0 130) : Int) = 0 by omega)⟩, (by (repeat (first | exact qv | refine vi_set (by decide) (by decide) (by decide) ?_ (by first | exact (fun z => absurd z (by decide)) | exact vi_aS qv (by decide) _ | exact (fun z => ⟨by omega, hca⟩) | exact (fun z => ⟨by omega, hca z⟩) | (intro z; exfalso; omega)) | refine vi_res ?_ (by first | exact (fun z => absurd z (by decide)) | exact vi_aS qv (by decide) _ | exact (fun z => ⟨by omega, hca⟩) | exact (fun z => ⟨by omega, hca z⟩) | (intro z; exfalso; omega)) | refine vi_arr (by decide) (by decide) ?_ | refine vi_up (by decide) (by decide) ?_))), (ag_trans (bg_BG ag) (by (repeat (first | exact ag_refl | refine ag_up rfl ?_)))), ⟨_, _, _, (ci_g (ci_BG hc ag) (by (repeat (first | exact ag_refl | refine ag_up rfl ?_)))), fun z => absurd z (by show ¬ ((0 : Int) = 1); omega)⟩⟩) g2)
          · obtain ⟨hm1, hm2, hm3, hm4, hm5⟩ := hc.2.2.2.2.1.2.2.1 (by omega)
            rw [← e_mainStart] at hm1 hm2
            refine ja_aload_n dbegin_142 rfl rfl ?_
            refine fa_op dbegin_143 ?_
            refine ja_aload_n dbegin_146 rfl rfl ?_
            refine fg_mainStart (v := u 0 67) rfl dbegin_147 ?_
            have f3 := gF_mainStart gu
            refine il_op (v := u 74 (u 0 67).toNat) rfl ⟨by omega, by omega⟩ dbegin_150 ?_
            have f4 := gC_op gu (u 0 67).toNat
            refine ja_bipush 26 dbegin_151 rfl ?_
            refine ja_icmp_eq 160 dbegin_153 rfl ⟨by omega, by omega⟩ ⟨by decide, by decide⟩ (fun c153 => ?_) (fun c153 => ?_)
            · refine ja_iconst dbegin_160 ?_
              have g5 := gP_state gu (x := 0) ⟨by decide, by decide⟩
              refine fp_state dbegin_161 ?_
              refine ja_aload_n dbegin_164 rfl rfl ?_
              refine fg_state (v := 0) rfl dbegin_165 ?_
              refine ja_iconst dbegin_168 ?_
              refine ja_icmp_ne 183 dbegin_169 rfl ⟨by decide, by decide⟩ ⟨by decide, by decide⟩ (fun c169 => ?_) (fun c169 => absurd c169 (by omega))
              refine ja_aload_n dbegin_183 rfl rfl ?_
              refine fg_state (v := 0) rfl dbegin_184 ?_
              refine ja_ireturn dbegin_187 rfl ?_
              exact mo_fin (by omega) rfl (k2 0 (ja_up u 0 129 0) (⟨⟨(show ((u 0 208) : Int) = 0 by omega), (show ((u 0 127) : Int) = 1 by omega), (show ((u 0 118) : Int) = (h 0 118) by omega), (show ((u 0 1) : Int) = (h 0 1) by omega), (show ((u 0 130) : Int) = 0 by omega)⟩, (by (repeat (first | exact qv | refine vi_set (by decide) (by decide) (by decide) ?_ (by first | exact (fun z => absurd z (by decide)) | exact vi_aS qv (by decide) _ | exact (fun z => ⟨by omega, hca⟩) | exact (fun z => ⟨by omega, hca z⟩) | (intro z; exfalso; omega)) | refine vi_res ?_ (by first | exact (fun z => absurd z (by decide)) | exact vi_aS qv (by decide) _ | exact (fun z => ⟨by omega, hca⟩) | exact (fun z => ⟨by omega, hca z⟩) | (intro z; exfalso; omega)) | refine vi_arr (by decide) (by decide) ?_ | refine vi_up (by decide) (by decide) ?_))), (ag_trans (bg_BG ag) (by (repeat (first | exact ag_refl | refine ag_up rfl ?_)))), ⟨_, _, _, (ci_g (ci_BG hc ag) (by (repeat (first | exact ag_refl | refine ag_up rfl ?_)))), fun z => absurd z (by show ¬ ((0 : Int) = 1); omega)⟩⟩) g5)
            · refine ja_iconst dbegin_156 ?_
              refine ja_goto 161 dbegin_157 rfl ?_
              have g6 := gP_state gu (x := 1) ⟨by decide, by decide⟩
              refine fp_state dbegin_161 ?_
              refine ja_aload_n dbegin_164 rfl rfl ?_
              refine fg_state (v := 1) rfl dbegin_165 ?_
              refine ja_iconst dbegin_168 ?_
              refine ja_icmp_ne 183 dbegin_169 rfl ⟨by decide, by decide⟩ ⟨by decide, by decide⟩ (fun c169 => absurd c169 (by omega)) (fun c169 => ?_)
              refine ja_aload_n dbegin_172 rfl rfl ?_
              refine ja_iconst dbegin_173 ?_
              refine ja_aload_n dbegin_174 rfl rfl ?_
              refine fg_mainStart (v := u 0 67) rfl dbegin_175 ?_
              refine ja_iconst dbegin_178 ?_
              refine t_pushBody (by decide) (show (0 : Nat) ≤ 8 by decide) dbegin_179 g6 ⟨by decide, by decide⟩ ⟨by omega, by omega⟩ ⟨by decide, by decide⟩ (show 0 ≤ 0 ∧ 0 ≤ 2 by omega) (show 0 ≤ (u 0 67) ∧ (u 0 67) ≤ 5000 by omega) (show 0 ≤ 0 ∧ 0 ≤ 200 by omega) (show (u 0 150) < 3000 by omega) (show (u 0 165) ≤ 490 by omega) ((by (repeat (first | exact qv | refine vi_set (by decide) (by decide) (by decide) ?_ (by first | exact (fun z => absurd z (by decide)) | exact vi_aS qv (by decide) _ | exact (fun z => ⟨by omega, hca⟩) | exact (fun z => ⟨by omega, hca z⟩) | (intro z; exfalso; omega)) | refine vi_res ?_ (by first | exact (fun z => absurd z (by decide)) | exact vi_aS qv (by decide) _ | exact (fun z => ⟨by omega, hca⟩) | exact (fun z => ⟨by omega, hca z⟩) | (intro z; exfalso; omega)) | refine vi_arr (by decide) (by decide) ?_ | refine vi_up (by decide) (by decide) ?_)))) ?_
              intro h7 k179_0 g8
              replace k179_0 : pbF (ja_up u 0 129 1) h7 0 (u 0 67) 0 ∧ VI h7 := k179_0
              obtain ⟨hv9, hag9, heu9⟩ := k179_0.1
              have b_thrown : (h7 0 208) = 0 := (by rw [heu9]; exact (hag9 0 208 rfl).trans e_thrown)
              have b_started : (h7 0 127) = 1 := (by rw [heu9]; exact (hag9 0 127 rfl).trans e_started)
              have b_compiled : (h7 0 118) = (h 0 118) := (by rw [heu9]; exact (hag9 0 118 rfl).trans e_compiled)
              have b_size : (h7 0 1) = (h 0 1) := (by rw [heu9]; exact (hag9 0 1 rfl).trans e_size)
              have b_steps : (h7 0 130) = 0 := (by rw [heu9]; exact (hag9 0 130 rfl).trans e_steps)
              have hri := ri_begin (H := (ja_up u 0 129 1)) (ci_g (ci_BG hc ag) (by (repeat (first | exact ag_refl | refine ag_up rfl ?_)))) e_frames e_pile e_tries e_localTop e_reached e_under e_outputs e_steps e_bodies k179_0.1 ⟨⟨hm1, (show (u 0 67) < (u 0 113) by omega)⟩, by rw [e_mainStart]; exact hm3, by rw [e_mainStart]; exact hm4, by rw [e_mainStart]; exact hm5⟩
              show mJ l D cA ad 3 cX12_begin 3 (some .int) 182 [(0, (2, ((0 : Nat) : Int))), (2, (0, x2))] [(0, (u 0 150))] h7 Q
              refine ja_pop dbegin_182 (by first | decide | (dsimp only; decide)) ?_
              refine ja_aload_n dbegin_183 rfl rfl ?_
              refine fg_state (v := h7 0 129) rfl dbegin_184 ?_
              have f9 := gF_state g8
              refine ja_ireturn dbegin_187 rfl ?_
              exact mo_fin (by omega) rfl (k2 (h7 0 129) h7 (⟨⟨by omega, by omega, by omega, by omega, by omega⟩, k179_0.2, (ag_trans (bg_BG ag) (ag_trans (by (repeat (first | exact ag_refl | refine ag_up rfl ?_))) (bg_pb k179_0.1))), ⟨_, _, _, hri.1, fun _ => hri.2⟩⟩) g8)
        · refine ja_aload_n dbegin_114 rfl rfl ?_
          refine fa_heldKind dbegin_115 ?_
          refine ja_iload_n dbegin_118 rfl rfl ?_
          refine ja_iconst dbegin_119 ?_
          have g10 := gW_heldKind gu (x2).toNat (x := 0) ⟨by decide, by decide⟩
          refine is_heldKind ⟨by omega, by omega⟩ dbegin_120 ?_
          refine ja_aload_n dbegin_121 rfl rfl ?_
          refine fa_heldValue dbegin_122 ?_
          refine ja_iload_n dbegin_125 rfl rfl ?_
          refine ja_iconst dbegin_126 ?_
          have g11 := gW_heldValue g10 (x2).toNat (x := 0) ⟨by decide, by decide⟩
          refine is_heldValue ⟨by omega, by omega⟩ dbegin_127 ?_
          refine ja_iinc dbegin_128 rfl (by decide) (L2 := [(2, (0, (x2 + 1))), (0, (2, ((0 : Nat) : Int)))]) rfl ?_
          refine ja_goto 107 dbegin_131 rfl ?_
          exact ja_wk (fun q hq => by simp only [List.mem_cons, List.not_mem_nil, or_false] at hq; rcases hq with rfl | rfl <;> rfl) ((ih (((20000 : Int) - (x2 + 1)).toNat) (by omega)) (x2 + 1) (ja_up (ja_up u 92 ((x2).toNat) 0) 93 ((x2).toNat) 0) g11 ⟨by omega, by omega⟩ (⟨by omega, (ag_trans ag (by (repeat (first | exact ag_refl | refine ag_up rfl ?_)))), (by (repeat (first | exact qv | refine vi_set (by decide) (by decide) (by decide) ?_ (by first | exact (fun z => absurd z (by decide)) | exact vi_aS qv (by decide) _ | exact (fun z => ⟨by omega, hca⟩) | exact (fun z => ⟨by omega, hca z⟩) | (intro z; exfalso; omega)) | refine vi_res ?_ (by first | exact (fun z => absurd z (by decide)) | exact vi_aS qv (by decide) _ | exact (fun z => ⟨by omega, hca⟩) | exact (fun z => ⟨by omega, hca z⟩) | (intro z; exfalso; omega)) | refine vi_arr (by decide) (by decide) ?_ | refine vi_up (by decide) (by decide) ?_)))⟩) rfl)
  refine ja_aload_n dbegin_0 rfl rfl ?_
  refine ja_aload_n dbegin_1 rfl rfl ?_
  refine fg_compiled (v := h 0 118) rfl dbegin_2 ?_
  have f12 := gF_compiled g
  refine ja_if_eq 12 dbegin_5 rfl ⟨by omega, by omega⟩ (fun c5 => ?_) (fun c5 => ?_)
  · refine ja_iconst dbegin_12 ?_
    have g13 := gP_thrown g (x := 1) ⟨by decide, by decide⟩
    refine fp_thrown dbegin_13 ?_
    refine ja_aload_n dbegin_16 rfl rfl ?_
    refine fg_thrown (v := 1) rfl dbegin_17 ?_
    refine ja_if_le 25 dbegin_20 rfl ⟨by decide, by decide⟩ (fun c20 => absurd c20 (by omega)) (fun c20 => ?_)
    refine ja_iconst dbegin_23 ?_
    refine ja_ireturn dbegin_24 rfl ?_
    exact mo_fin (by omega) rfl (k1 (by omega) g13)
  · refine ja_iconst dbegin_8 ?_
    refine ja_goto 13 dbegin_9 rfl ?_
    have g14 := gP_thrown g (x := 0) ⟨by decide, by decide⟩
    refine fp_thrown dbegin_13 ?_
    refine ja_aload_n dbegin_16 rfl rfl ?_
    refine fg_thrown (v := 0) rfl dbegin_17 ?_
    refine ja_if_le 25 dbegin_20 rfl ⟨by decide, by decide⟩ (fun c20 => ?_) (fun c20 => absurd c20 (by omega))
    refine ja_aload_n dbegin_25 rfl rfl ?_
    refine ja_iconst dbegin_26 ?_
    have g15 := gP_started g14 (x := 1) ⟨by decide, by decide⟩
    refine fp_started (by omega) dbegin_27 ?_
    refine ja_aload_n dbegin_30 rfl rfl ?_
    refine ja_iload_n dbegin_31 rfl rfl ?_
    have g16 := gP_woven g15 (x := a1) ⟨by omega, by omega⟩
    refine fp_woven (by omega) dbegin_32 ?_
    refine ja_aload_n dbegin_35 rfl rfl ?_
    refine ja_iconst dbegin_36 ?_
    have g17 := gP_steps g16 (x := 0) ⟨by decide, by decide⟩
    refine fp_steps dbegin_37 ?_
    refine ja_aload_n dbegin_40 rfl rfl ?_
    refine ja_iconst dbegin_41 ?_
    have g18 := gP_tests g17 (x := 0) ⟨by decide, by decide⟩
    refine fp_tests dbegin_42 ?_
    refine ja_aload_n dbegin_45 rfl rfl ?_
    refine ja_iconst dbegin_46 ?_
    have g19 := gP_outputs g18 (x := 0) ⟨by decide, by decide⟩
    refine fp_outputs dbegin_47 ?_
    refine ja_aload_n dbegin_50 rfl rfl ?_
    refine ja_iconst dbegin_51 ?_
    have g20 := gP_rows g19 (x := 0) ⟨by decide, by decide⟩
    refine fp_rows dbegin_52 ?_
    refine ja_aload_n dbegin_55 rfl rfl ?_
    refine ja_iconst dbegin_56 ?_
    have g21 := gP_objects g20 (x := 0) ⟨by decide, by decide⟩
    refine fp_objects dbegin_57 ?_
    refine ja_aload_n dbegin_60 rfl rfl ?_
    refine ja_iconst dbegin_61 ?_
    have g22 := gP_bodies g21 (x := 0) ⟨by decide, by decide⟩
    refine fp_bodies dbegin_62 ?_
    refine ja_aload_n dbegin_65 rfl rfl ?_
    refine ja_iconst dbegin_66 ?_
    have g23 := gP_pile g22 (x := 0) ⟨by decide, by decide⟩
    refine fp_pile dbegin_67 ?_
    refine ja_aload_n dbegin_70 rfl rfl ?_
    refine ja_iconst dbegin_71 ?_
    have g24 := gP_frames g23 (x := 0) ⟨by decide, by decide⟩
    refine fp_frames dbegin_72 ?_
    refine ja_aload_n dbegin_75 rfl rfl ?_
    refine ja_iconst dbegin_76 ?_
    have g25 := gP_localTop g24 (x := 0) ⟨by decide, by decide⟩
    refine fp_localTop dbegin_77 ?_
    refine ja_aload_n dbegin_80 rfl rfl ?_
    refine ja_iconst dbegin_81 ?_
    have g26 := gP_tries g25 (x := 0) ⟨by decide, by decide⟩
    refine fp_tries dbegin_82 ?_
    refine ja_aload_n dbegin_85 rfl rfl ?_
    refine ja_iconst dbegin_86 ?_
    have g27 := gP_reached g26 (x := 0) ⟨by decide, by decide⟩
    refine fp_reached dbegin_87 ?_
    refine ja_aload_n dbegin_90 rfl rfl ?_
    refine ja_iconst dbegin_91 ?_
    have g28 := gP_under g27 (x := 0) ⟨by decide, by decide⟩
    refine fp_under dbegin_92 ?_
    refine ja_aload_n dbegin_95 rfl rfl ?_
    refine ja_iconst dbegin_96 ?_
    have g29 := gP_failureKind g28 (x := 0) ⟨by decide, by decide⟩
    refine fp_failureKind dbegin_97 ?_
    refine ja_aload_n dbegin_100 rfl rfl ?_
    refine ja_iconst dbegin_101 ?_
    have g30 := gP_failureValue g29 (x := 0) ⟨by decide, by decide⟩
    refine fp_failureValue dbegin_102 ?_
    refine ja_iconst dbegin_105 ?_
    refine ja_istore_n dbegin_106 rfl (by decide) (L2 := [(2, (0, 0)), (0, (2, ((0 : Nat) : Int))), (1, (0, a1))]) rfl ?_
    exact ja_wk (fun q hq => by simp only [List.mem_cons, List.not_mem_nil, or_false] at hq; rcases hq with rfl | rfl <;> rfl) ((CUT _) 0 (ja_up (ja_up (ja_up (ja_up (ja_up (ja_up (ja_up (ja_up (ja_up (ja_up (ja_up (ja_up (ja_up (ja_up (ja_up (ja_up (ja_up h 0 208 0) 0 127 1) 0 128 a1) 0 130 0) 0 131 0) 0 132 0) 0 135 0) 0 138 0) 0 144 0) 0 149 0) 0 150 0) 0 165 0) 0 168 0) 0 172 0) 0 186 0) 0 145 0) 0 146 0) g30 ⟨by decide, by decide⟩ (⟨by omega, (show mo_ag FHK (mo_BG h a1) (ja_up (ja_up (ja_up (ja_up (ja_up (ja_up (ja_up (ja_up (ja_up (ja_up (ja_up (ja_up (ja_up (ja_up (ja_up (ja_up (ja_up h 0 208 0) 0 127 1) 0 128 a1) 0 130 0) 0 131 0) 0 132 0) 0 135 0) 0 138 0) 0 144 0) 0 149 0) 0 150 0) 0 165 0) 0 168 0) 0 172 0) 0 186 0) 0 145 0) 0 146 0) from fun _ _ _ => rfl), (by (repeat (first | exact p1 | refine vi_set (by decide) (by decide) (by decide) ?_ (by first | exact (fun z => absurd z (by decide)) | exact vi_aS p1 (by decide) _ | exact (fun z => ⟨by omega, hca⟩) | exact (fun z => ⟨by omega, hca z⟩) | (intro z; exfalso; omega)) | refine vi_res ?_ (by first | exact (fun z => absurd z (by decide)) | exact vi_aS p1 (by decide) _ | exact (fun z => ⟨by omega, hca⟩) | exact (fun z => ⟨by omega, hca z⟩) | (intro z; exfalso; omega)) | refine vi_arr (by decide) (by decide) ?_ | refine vi_up (by decide) (by decide) ?_)))⟩) rfl)
end
