/-! the reference: ITEMS whole (written by a program) -/
/-! the reference's parser: an aspect, an ITEM -/
def FKQ : Nat → Nat → Bool := mo_F [1, 118, 127, 119] []
theorem kq_kp {h u : ja_H} (q : mo_ag FKP h u) : mo_ag FKQ h u := ag_sub (fun k j e => F_F (by decide) rfl k j e) q
theorem kq_X {fs cs : List Nat} {h u : ja_H} (q : mo_ag (mo_X fs cs) h u) (h1 : [1, 118, 127, 119].all (fun j => !fs.contains j) = true) : mo_ag FKQ h u := ag_sub (X_sub h1 rfl) q
/-- the state of the loop over an aspect's parts -/
def lo_A (h u : ja_H) (x : Int) : Prop := (x = 1 ∧ (∃ ht st rg : Nat → Int, it u ht st rg) ∧ (h 0 7) < (u 0 7) ∧ mo_ag FKQ h u ∧ (u 0 76) < (u 0 26)) ∨ (x = 0 ∧ 0 < (u 0 8) ∧ (u 0 1) = (h 0 1) ∧ (u 0 118) = (h 0 118) ∧ (u 0 127) = (h 0 127))
theorem lo_A_next {h u v : ja_H} (lat : (h 0 7) < (u 0 7)) (lag : mo_ag FKQ h u) (las : (u 0 76) < (u 0 26)) (k : (∃ ht st rg : Nat → Int, it v ht st rg) ∧ (u 0 7) < v.at ∧ mo_ag FKP u v) : lo_A h v 1 := by
  obtain ⟨k1, k2, k3⟩ := k
  have e1 : v.inAspect = (u 0 76) := k3 _ _ rfl
  have e2 : v.aspects = (u 0 26) := k3 _ _ rfl
  exact Or.inl ⟨rfl, k1, Int.lt_trans lat k2, ag_trans lag (kq_kp k3), by omega⟩
/-- the block of main -/
def FMN : Nat → Nat → Bool := mo_X [7, 8, 9, 11, 12, 66, 74, 75, 77, 79] []
theorem mn_blk {h u : ja_H} {ht st rg : Nat → Int} (g : mo_G h) (gu : mo_G u) (q : it h ht st rg) (ag : mo_ag FMN h u) (hat : (h 0 7) < (u 0 7)) (hf : (u 0 11) = 0 → (h 0 11) = 0) (hb : (u 0 74) = 0) (b2 : (u 0 79) ≤ (u 0 77)) (b3 : (u 0 77) ≤ 10) (hm : (u 0 66) = (h 0 66) + 1) : ∃ (tf : mo_TF) (ht3 st3 rg3 : Nat → Int),
    (piB (mo_L (ja_up u 0 17 0) 14 0 0 0) 0 0 0 tf 0 [(14, 0, 0)] ht3 st3 rg3 0 ∧ tf_ok 0 tf) ∧ ∀ (h4 : ja_H) (ht4 st4 rg4 : Nat → Int) (tu4 w : Int), mo_G h4 → pi h4 0 0 0 tf 0 [] ht4 st4 rg4 tu4 → mo_ag FK u h4 → (u 0 7) ≤ (h4 0 7) → (((h4 0 66) = 1 ∧ w = (h 0 113)) ∨ ((h4 0 66) ≠ 1 ∧ w = (h4 0 67))) → ∃ ht2 st2 rg2 : Nat → Int, it (ja_up (mo_E h4 26 0 0) 0 67 w) ht2 st2 rg2 := by
  obtain ⟨qc, qP, ⟨z1, z2, z3, z4, z5, z6, z7, z8, z9, z10, z11, z12, z13, z14, z15, z16⟩, qS, qF⟩ := q
  have agC : mo_ag FCD h u := ag_sub (X_sub (by decide) (by decide)) ag
  have hv := tr_wt ag rfl (fun _ => rfl) (fun _ => rfl) (fun _ => rfl)
  have c1 := cd_keep qc agC hf hv
  have c2 := pP_keep qP agC hv
  have U1 : (u 0 113) = (h 0 113) := ag _ _ rfl
  have U2 : (u 0 95) = (h 0 95) := ag _ _ rfl
  have U3 : (u 0 68) = (h 0 68) := ag _ _ rfl
  have U4 : (u 0 72) = (h 0 72) := ag _ _ rfl
  have U5 : (u 0 18) = (h 0 18) := ag _ _ rfl
  have U6 : (u 0 87) = (h 0 87) := ag _ _ rfl
  have U7 : (u 0 86) = (h 0 86) := ag _ _ rfl
  have U8 : (u 0 109) = (h 0 109) := ag _ _ rfl
  have U9 : (u 0 84) = (h 0 84) := ag _ _ rfl
  have U10 : (u 0 31) = (h 0 31) := ag _ _ rfl
  have U11 : (u 0 64) = (h 0 64) := ag _ _ rfl
  have U12 : (u 0 61) = (h 0 61) := ag _ _ rfl
  have U13 : (u 0 41) = (h 0 41) := ag _ _ rfl
  have U14 : (u 0 85) = (h 0 85) := ag _ _ rfl
  have U15 : (u 0 34) = (h 0 34) := ag _ _ rfl
  have U16 : (u 0 44) = (h 0 44) := ag _ _ rfl
  have U17 : (u 0 52) = (h 0 52) := ag _ _ rfl
  have U18 : (u 0 57) = (h 0 57) := ag _ _ rfl
  have U19 : (u 0 26) = (h 0 26) := ag _ _ rfl
  have U20 : (u 0 67) = (h 0 67) := ag _ _ rfl
  have l6 : (u 67) = (h 67) := funext fun j => ag _ _ rfl
  have hT : pi_T u := fun k hk => by rw [U8] at hk; omega
  refine ⟨_, _, _, _, it_block gu hb c1 c2 hT (by omega) (by omega) (by omega) (by omega) (by omega) (by omega) (by omega) (by omega) b2 b3, ?_⟩
  intro h4 ht4 st4 rg4 tu4 w g4 hp4 ag4 hat4 hw
  obtain ⟨ht2, st2, rg2, hcd, hP, -, gh2, nf2⟩ := it_end g4 ⟨by omega, by omega⟩ hp4
  obtain ⟨k1, k2, k3, k4, k5, k6, k7, k8, k9, k10, -⟩ := it_num hp4
  dsimp only at k9 k10 gh2 nf2
  have gw := (gF_words g).1
  have B2 : (h4 0 31) = (u 0 31) := ag4 _ _ rfl
  have B3 : (h4 0 64) = (u 0 64) := ag4 _ _ rfl
  have B4 : (h4 0 61) = (u 0 61) := ag4 _ _ rfl
  have B5 : (h4 0 85) = (u 0 85) := ag4 _ _ rfl
  have B6 : (h4 0 41) = (u 0 41) := ag4 _ _ rfl
  have B7 : (h4 0 34) = (u 0 34) := ag4 _ _ rfl
  have B8 : (h4 0 44) = (u 0 44) := ag4 _ _ rfl
  have B9 : (h4 0 66) = (u 0 66) := ag4 _ _ rfl
  have B10 : (h4 0 67) = (u 0 67) := ag4 _ _ rfl
  have B11 : (h4 0 52) = (u 0 52) := ag4 _ _ rfl
  have B12 : (h4 0 57) = (u 0 57) := ag4 _ _ rfl
  have B13 : (h4 0 26) = (u 0 26) := ag4 _ _ rfl
  have F1 : (h4 23) = (h 23) := funext fun j => (ag4 _ _ rfl).trans (ag _ _ rfl)
  have F2 : (h4 32) = (h 32) := funext fun j => (ag4 _ _ rfl).trans (ag _ _ rfl)
  have F3 : (h4 31) = (h 31) := funext fun j => (ag4 _ _ rfl).trans (ag _ _ rfl)
  have F4 : (h4 29) = (h 29) := funext fun j => (ag4 _ _ rfl).trans (ag _ _ rfl)
  have F5 : (h4 37) = (h 37) := funext fun j => (ag4 _ _ rfl).trans (ag _ _ rfl)
  have F6 : (h4 38) = (h 38) := funext fun j => (ag4 _ _ rfl).trans (ag _ _ rfl)
  have F7 : (h4 18) = (h 18) := funext fun j => (ag4 _ _ rfl).trans (ag _ _ rfl)
  have agE : mo_ag FCD (mo_E h4 26 0 0) (ja_up (mo_E h4 26 0 0) 0 67 w) := ag_up rfl ag_refl
  have eW : (ja_up (mo_E h4 26 0 0) 0 67 w) 0 113 = (h4 0 113) + 1 := rfl
  have eM : (ja_up (mo_E h4 26 0 0) 0 67 w) 0 67 = w := rfl
  refine ⟨ht2, st2, rg2, cd_keep hcd agE (fun z => z) (fun _ _ _ z => z), pP_keep hP agE (fun _ _ _ z => z), (show it_nn (h4 0 7) ((h4 0 113) + 1) (h4 0 95) (h4 0 68) (h4 0 72) (h4 0 31) (h4 0 41) (h4 0 64) (h4 0 61) (h4 0 18) (h4 0 84) (h4 0 87) (h4 0 86) (h4 0 85) (h4 0 109) (h4 0 66) from ?_), ?_, ?_⟩
  · refine ⟨?_, ?_, ?_, ?_, ?_, ?_, ?_, ?_, ?_, ?_, ?_, ?_, ?_, ?_, ?_, ?_⟩ <;> omega
  · refine it_S_more (h := h) (H := ja_up (mo_E h4 26 0 0) 0 67 w) g qS (by rw [eW]; omega) (fun j hj => ?_) (fun a z => nf2 a ⟨z.1, by rw [nf_keep U2 l6]; exact z.2⟩) (show (h 0 26) ≤ (h4 0 26) by omega) (fun m hm => Or.inl ⟨(show (m : Int) < (h 0 34) by have z : (m : Int) < (h4 0 34) := hm; omega), (show (h4 23) m = (h 23) m by rw [F1])⟩) (fun a ha => Or.inl ⟨(show (a : Int) < (h 0 44) by have z : (a : Int) < (h4 0 44) := ha; omega), (show (h4 32) a = (h 32) a by rw [F2]), (show (h4 31) a = (h 31) a by rw [F3]), (show (h4 29) a = (h 29) a by rw [F4])⟩) (fun _ => ?_) (fun p hp2 => Or.inl ⟨(show (p : Int) < (h 0 52) by have z : (p : Int) < (h4 0 52) := hp2; omega), (show (h4 37) p = (h 37) p by rw [F5])⟩) (fun b hb => Or.inl ⟨(show (b : Int) < (h 0 57) by have z : (b : Int) < (h4 0 57) := hb; omega), (show (h4 38) b = (h 38) b by rw [F6])⟩)
    · obtain ⟨y1, y2, y3⟩ := gh2 j (by omega)
      exact ⟨y1.trans (mo_zo (by omega)), y2.trans (mo_zo (by omega)), y3.trans (mo_zo (by omega))⟩
    · rw [eW, eM]
      rcases hw with ⟨w1, w2⟩ | ⟨w1, w2⟩
      · right
        obtain ⟨y1, y2, y3⟩ := gh2 (u 0 113).toNat (by omega)
        rw [w2, ← U1]
        exact ⟨by omega, by omega, y1.trans mo_zn, y2.trans mo_zn, y3.trans mo_zn⟩
      · left
        exact ⟨by omega, by omega⟩
  · exact it_F_eq (h := h) (H := ja_up (mo_E h4 26 0 0) 0 67 w) qF (show (h4 0 31) = (h 0 31) by omega) F7
/-- the loop over an order's names -/
def lo_O (h u : ja_H) (x y : Int) : Prop := (x = 1 ∧ (∃ ht st rg : Nat → Int, it u ht st rg) ∧ (h 0 7) < (u 0 7) ∧ mo_ag FKQ h u ∧ (y = 0 ∨ (y = 1 ∧ (u 0 64) < (u 0 7)))) ∨ (x = 0 ∧ y = 0 ∧ 0 < (u 0 8) ∧ (u 0 1) = (h 0 1) ∧ (u 0 118) = (h 0 118) ∧ (u 0 127) = (h 0 127))
theorem dpart_0 : decode cX12_part 0 = .ok (.aload_n 0, 1) := by decide +kernel
theorem dpart_1 : decode cX12_part 1 = .ok (.bipush 14, 2) := by decide +kernel
theorem dpart_3 : decode cX12_part 3 = .ok (.invokevirtual 596, 3) := by decide +kernel
theorem dpart_6 : decode cX12_part 6 = .ok (.ifCond .eq 23, 3) := by decide +kernel
theorem dpart_9 : decode cX12_part 9 = .ok (.aload_n 0, 1) := by decide +kernel
theorem dpart_10 : decode cX12_part 10 = .ok (.invokevirtual 589, 3) := by decide +kernel
theorem dpart_13 : decode cX12_part 13 = .ok (.ifCond .eq 14, 3) := by decide +kernel
theorem dpart_16 : decode cX12_part 16 = .ok (.aload_n 0, 1) := by decide +kernel
theorem dpart_17 : decode cX12_part 17 = .ok (.invokevirtual 769, 3) := by decide +kernel
theorem dpart_20 : decode cX12_part 20 = .ok (.ifCond .eq 7, 3) := by decide +kernel
theorem dpart_23 : decode cX12_part 23 = .ok (.iconst 1, 1) := by decide +kernel
theorem dpart_24 : decode cX12_part 24 = .ok (.goto 4, 3) := by decide +kernel
theorem dpart_27 : decode cX12_part 27 = .ok (.iconst 0, 1) := by decide +kernel
theorem dpart_28 : decode cX12_part 28 = .ok (.ireturn, 1) := by decide +kernel
theorem dpart_29 : decode cX12_part 29 = .ok (.aload_n 0, 1) := by decide +kernel
theorem dpart_30 : decode cX12_part 30 = .ok (.bipush 20, 2) := by decide +kernel
theorem dpart_32 : decode cX12_part 32 = .ok (.invokevirtual 596, 3) := by decide +kernel
theorem dpart_35 : decode cX12_part 35 = .ok (.ifCond .eq 23, 3) := by decide +kernel
theorem dpart_38 : decode cX12_part 38 = .ok (.aload_n 0, 1) := by decide +kernel
theorem dpart_39 : decode cX12_part 39 = .ok (.invokevirtual 589, 3) := by decide +kernel
theorem dpart_42 : decode cX12_part 42 = .ok (.ifCond .eq 14, 3) := by decide +kernel
theorem dpart_45 : decode cX12_part 45 = .ok (.aload_n 0, 1) := by decide +kernel
theorem dpart_46 : decode cX12_part 46 = .ok (.invokevirtual 771, 3) := by decide +kernel
theorem dpart_49 : decode cX12_part 49 = .ok (.ifCond .eq 7, 3) := by decide +kernel
theorem dpart_52 : decode cX12_part 52 = .ok (.iconst 1, 1) := by decide +kernel
theorem dpart_53 : decode cX12_part 53 = .ok (.goto 4, 3) := by decide +kernel
theorem dpart_56 : decode cX12_part 56 = .ok (.iconst 0, 1) := by decide +kernel
theorem dpart_57 : decode cX12_part 57 = .ok (.ireturn, 1) := by decide +kernel
theorem dpart_58 : decode cX12_part 58 = .ok (.aload_n 0, 1) := by decide +kernel
theorem dpart_59 : decode cX12_part 59 = .ok (.bipush 32, 2) := by decide +kernel
theorem dpart_61 : decode cX12_part 61 = .ok (.invokevirtual 596, 3) := by decide +kernel
theorem dpart_64 : decode cX12_part 64 = .ok (.ifCond .eq 23, 3) := by decide +kernel
theorem dpart_67 : decode cX12_part 67 = .ok (.aload_n 0, 1) := by decide +kernel
theorem dpart_68 : decode cX12_part 68 = .ok (.invokevirtual 589, 3) := by decide +kernel
theorem dpart_71 : decode cX12_part 71 = .ok (.ifCond .eq 14, 3) := by decide +kernel
theorem dpart_74 : decode cX12_part 74 = .ok (.aload_n 0, 1) := by decide +kernel
theorem dpart_75 : decode cX12_part 75 = .ok (.invokevirtual 774, 3) := by decide +kernel
theorem dpart_78 : decode cX12_part 78 = .ok (.ifCond .eq 7, 3) := by decide +kernel
theorem dpart_81 : decode cX12_part 81 = .ok (.iconst 1, 1) := by decide +kernel
theorem dpart_82 : decode cX12_part 82 = .ok (.goto 4, 3) := by decide +kernel
theorem dpart_85 : decode cX12_part 85 = .ok (.iconst 0, 1) := by decide +kernel
theorem dpart_86 : decode cX12_part 86 = .ok (.ireturn, 1) := by decide +kernel
theorem dpart_87 : decode cX12_part 87 = .ok (.aload_n 0, 1) := by decide +kernel
theorem dpart_88 : decode cX12_part 88 = .ok (.bipush 6, 2) := by decide +kernel
theorem dpart_90 : decode cX12_part 90 = .ok (.invokevirtual 596, 3) := by decide +kernel
theorem dpart_93 : decode cX12_part 93 = .ok (.ifCond .ne 20, 3) := by decide +kernel
theorem dpart_96 : decode cX12_part 96 = .ok (.aload_n 0, 1) := by decide +kernel
theorem dpart_97 : decode cX12_part 97 = .ok (.bipush 7, 2) := by decide +kernel
theorem dpart_99 : decode cX12_part 99 = .ok (.invokevirtual 596, 3) := by decide +kernel
theorem dpart_102 : decode cX12_part 102 = .ok (.ifCond .ne 11, 3) := by decide +kernel
theorem dpart_105 : decode cX12_part 105 = .ok (.aload_n 0, 1) := by decide +kernel
theorem dpart_106 : decode cX12_part 106 = .ok (.iconst 3, 1) := by decide +kernel
theorem dpart_107 : decode cX12_part 107 = .ok (.invokevirtual 596, 3) := by decide +kernel
theorem dpart_110 : decode cX12_part 110 = .ok (.ifCond .eq 8, 3) := by decide +kernel
theorem dpart_113 : decode cX12_part 113 = .ok (.aload_n 0, 1) := by decide +kernel
theorem dpart_114 : decode cX12_part 114 = .ok (.invokevirtual 777, 3) := by decide +kernel
theorem dpart_117 : decode cX12_part 117 = .ok (.ireturn, 1) := by decide +kernel
theorem dpart_118 : decode cX12_part 118 = .ok (.aload_n 0, 1) := by decide +kernel
theorem dpart_119 : decode cX12_part 119 = .ok (.iconst 5, 1) := by decide +kernel
theorem dpart_120 : decode cX12_part 120 = .ok (.invokevirtual 596, 3) := by decide +kernel
theorem dpart_123 : decode cX12_part 123 = .ok (.ifCond .ne 12, 3) := by decide +kernel
theorem dpart_126 : decode cX12_part 126 = .ok (.aload_n 0, 1) := by decide +kernel
theorem dpart_127 : decode cX12_part 127 = .ok (.bipush 42, 2) := by decide +kernel
theorem dpart_129 : decode cX12_part 129 = .ok (.invokevirtual 596, 3) := by decide +kernel
theorem dpart_132 : decode cX12_part 132 = .ok (.ifCond .eq 8, 3) := by decide +kernel
theorem dpart_135 : decode cX12_part 135 = .ok (.aload_n 0, 1) := by decide +kernel
theorem dpart_136 : decode cX12_part 136 = .ok (.invokevirtual 780, 3) := by decide +kernel
theorem dpart_139 : decode cX12_part 139 = .ok (.ireturn, 1) := by decide +kernel
theorem dpart_140 : decode cX12_part 140 = .ok (.aload_n 0, 1) := by decide +kernel
theorem dpart_141 : decode cX12_part 141 = .ok (.invokevirtual 593, 3) := by decide +kernel
theorem dpart_144 : decode cX12_part 144 = .ok (.ireturn, 1) := by decide +kernel
section
variable {l : Launch} {D : va_G} {cA : Nat → ClassId} {ad : Nat → Nat}
theorem s_part {ht st rg : Nat → Int} {h : ja_H} {Q : Option ja_V → ja_H → Prop} (g : mo_G h) (p1 : it h ht st rg) (p2 : (h 0 76) < (h 0 26)) (k1 : ∀ (h' : ja_H), ((∃ ht st rg : Nat → Int, it h' ht st rg) ∧ (h 0 7) < (h' 0 7) ∧ mo_ag FKP h h') → mo_G h' → Q (some (0, 1)) h') (k2 : ∀ (h' : ja_H), (0 < (h' 0 8) ∧ (h' 0 1) = (h 0 1) ∧ (h' 0 118) = (h 0 118) ∧ (h' 0 127) = (h 0 127)) → mo_G h' → Q (some (0, 0)) h') : mM_part l D cA ad  h Q := by
  show mJ l D cA ad 12 cX12_part 1 (some .boolean) 0 [(0, (2, ((0 : Nat) : Int)))] [] h Q
  have kn_at := gF_at g
  obtain ⟨z1, z2, z3, z4, z5, z6, z7, z8, z9, z10, z11, z12, z13, z14⟩ := p1.2.2.1
  refine ja_aload_n dpart_0 rfl rfl ?_
  refine ja_bipush 14 dpart_1 rfl ?_
  refine t_isWord (by decide) (show (0 : Nat) ≤ 8 by decide) dpart_3 g ⟨by decide, by decide⟩ ?_
  intro w1 k3_0
  refine ja_if_eq 29 dpart_6 rfl ⟨by omega, by omega⟩ (fun c6 => ?_) (fun c6 => ?_)
  · replace k3_0 := is0 k3_0 c6
    refine ja_aload_n dpart_29 rfl rfl ?_
    refine ja_bipush 20 dpart_30 rfl ?_
    refine t_isWord (by decide) (show (0 : Nat) ≤ 8 by decide) dpart_32 g ⟨by decide, by decide⟩ ?_
    intro w2 k32_0
    refine ja_if_eq 58 dpart_35 rfl ⟨by omega, by omega⟩ (fun c35 => ?_) (fun c35 => ?_)
    · replace k32_0 := is0 k32_0 c35
      refine ja_aload_n dpart_58 rfl rfl ?_
      refine ja_bipush 32 dpart_59 rfl ?_
      refine t_isWord (by decide) (show (0 : Nat) ≤ 8 by decide) dpart_61 g ⟨by decide, by decide⟩ ?_
      intro w3 k61_0
      refine ja_if_eq 87 dpart_64 rfl ⟨by omega, by omega⟩ (fun c64 => ?_) (fun c64 => ?_)
      · replace k61_0 := is0 k61_0 c64
        refine ja_aload_n dpart_87 rfl rfl ?_
        refine ja_bipush 6 dpart_88 rfl ?_
        refine t_isWord (by decide) (show (0 : Nat) ≤ 8 by decide) dpart_90 g ⟨by decide, by decide⟩ ?_
        intro w4 k90_0
        refine ja_if_ne 113 dpart_93 rfl ⟨by omega, by omega⟩ (fun c93 => ?_) (fun c93 => ?_)
        · have z93 := is1v k90_0 c93
          replace k90_0 := is1 k90_0 c93
          refine ja_aload_n dpart_113 rfl rfl ?_
          refine t_advice (by decide) (show (0 : Nat) ≤ 8 by decide) dpart_114 g (p1) (p2) ?_ ?_
          · intro h5 k114_0 g6
            refine ja_zreturn dpart_117 rfl (by omega) ?_
            exact mo_fin (by omega) rfl (k1 h5 (k114_0) g6)
          · intro h7 k114_1 g8
            refine ja_zreturn dpart_117 rfl (by omega) ?_
            exact mo_fin (by omega) rfl (k2 h7 (by omega) g8)
        · replace k90_0 := is0 k90_0 c93
          refine ja_aload_n dpart_96 rfl rfl ?_
          refine ja_bipush 7 dpart_97 rfl ?_
          refine t_isWord (by decide) (show (0 : Nat) ≤ 8 by decide) dpart_99 g ⟨by decide, by decide⟩ ?_
          intro w9 k99_0
          refine ja_if_ne 113 dpart_102 rfl ⟨by omega, by omega⟩ (fun c102 => ?_) (fun c102 => ?_)
          · have z102 := is1v k99_0 c102
            replace k99_0 := is1 k99_0 c102
            refine ja_aload_n dpart_113 rfl rfl ?_
            refine t_advice (by decide) (show (0 : Nat) ≤ 8 by decide) dpart_114 g (p1) (p2) ?_ ?_
            · intro h10 k114_0 g11
              refine ja_zreturn dpart_117 rfl (by omega) ?_
              exact mo_fin (by omega) rfl (k1 h10 (k114_0) g11)
            · intro h12 k114_1 g13
              refine ja_zreturn dpart_117 rfl (by omega) ?_
              exact mo_fin (by omega) rfl (k2 h12 (by omega) g13)
          · replace k99_0 := is0 k99_0 c102
            refine ja_aload_n dpart_105 rfl rfl ?_
            refine ja_iconst dpart_106 ?_
            refine t_isWord (by decide) (show (0 : Nat) ≤ 8 by decide) dpart_107 g ⟨by decide, by decide⟩ ?_
            intro w14 k107_0
            refine ja_if_eq 118 dpart_110 rfl ⟨by omega, by omega⟩ (fun c110 => ?_) (fun c110 => ?_)
            · replace k107_0 := is0 k107_0 c110
              refine ja_aload_n dpart_118 rfl rfl ?_
              refine ja_iconst dpart_119 ?_
              refine t_isWord (by decide) (show (0 : Nat) ≤ 8 by decide) dpart_120 g ⟨by decide, by decide⟩ ?_
              intro w15 k120_0
              refine ja_if_ne 135 dpart_123 rfl ⟨by omega, by omega⟩ (fun c123 => ?_) (fun c123 => ?_)
              · have z123 := is1v k120_0 c123
                replace k120_0 := is1 k120_0 c123
                refine ja_aload_n dpart_135 rfl rfl ?_
                refine t_bar (by decide) (show (0 : Nat) ≤ 8 by decide) dpart_136 g (p1) ?_ ?_
                · intro h16 k136_0 g17
                  refine ja_zreturn dpart_139 rfl (by omega) ?_
                  exact mo_fin (by omega) rfl (k1 h16 (k136_0) g17)
                · intro h18 k136_1 g19
                  refine ja_zreturn dpart_139 rfl (by omega) ?_
                  exact mo_fin (by omega) rfl (k2 h18 (by omega) g19)
              · replace k120_0 := is0 k120_0 c123
                refine ja_aload_n dpart_126 rfl rfl ?_
                refine ja_bipush 42 dpart_127 rfl ?_
                refine t_isWord (by decide) (show (0 : Nat) ≤ 8 by decide) dpart_129 g ⟨by decide, by decide⟩ ?_
                intro w20 k129_0
                refine ja_if_eq 140 dpart_132 rfl ⟨by omega, by omega⟩ (fun c132 => ?_) (fun c132 => ?_)
                · replace k129_0 := is0 k129_0 c132
                  refine ja_aload_n dpart_140 rfl rfl ?_
                  refine t_wrong (by decide) (show (0 : Nat) ≤ 8 by decide) dpart_141 g  ?_
                  intro h21 k141_0 g22
                  refine ja_zreturn dpart_144 rfl (by omega) ?_
                  exact mo_fin (by omega) rfl (k2 h21 (by omega) g22)
                · have z132 := is1v k129_0 c132
                  replace k129_0 := is1 k129_0 c132
                  refine ja_aload_n dpart_135 rfl rfl ?_
                  refine t_bar (by decide) (show (0 : Nat) ≤ 8 by decide) dpart_136 g (p1) ?_ ?_
                  · intro h23 k136_0 g24
                    refine ja_zreturn dpart_139 rfl (by omega) ?_
                    exact mo_fin (by omega) rfl (k1 h23 (k136_0) g24)
                  · intro h25 k136_1 g26
                    refine ja_zreturn dpart_139 rfl (by omega) ?_
                    exact mo_fin (by omega) rfl (k2 h25 (by omega) g26)
            · have z110 := is1v k107_0 c110
              replace k107_0 := is1 k107_0 c110
              refine ja_aload_n dpart_113 rfl rfl ?_
              refine t_advice (by decide) (show (0 : Nat) ≤ 8 by decide) dpart_114 g (p1) (p2) ?_ ?_
              · intro h27 k114_0 g28
                refine ja_zreturn dpart_117 rfl (by omega) ?_
                exact mo_fin (by omega) rfl (k1 h27 (k114_0) g28)
              · intro h29 k114_1 g30
                refine ja_zreturn dpart_117 rfl (by omega) ?_
                exact mo_fin (by omega) rfl (k2 h29 (by omega) g30)
      · have z64 := is1v k61_0 c64
        replace k61_0 := is1 k61_0 c64
        refine ja_aload_n dpart_67 rfl rfl ?_
        refine t_take (by decide) (show (0 : Nat) ≤ 8 by decide) dpart_68 g  ?_ ?_
        · intro k68_0 g31
          replace k68_0 : (h 0 7) < 900 := k68_0
          replace g31 : mo_G (ja_up h 0 7 ((h 0 7) + 1)) := g31
          show mJ l D cA ad 12 cX12_part 1 (some .boolean) 71 [(0, (2, ((0 : Nat) : Int)))] [(0, 1)] (ja_up h 0 7 ((h 0 7) + 1)) Q
          refine ja_if_eq 85 dpart_71 rfl ⟨by decide, by decide⟩ (fun c71 => absurd c71 (by omega)) (fun c71 => ?_)
          refine ja_aload_n dpart_74 rfl rfl ?_
          refine t_pick (by decide) (show (0 : Nat) ≤ 8 by decide) dpart_75 g31 (it_keep p1 (by (repeat (first | exact ag_refl | refine ag_up rfl ?_))) (show it_nn ((h 0 7) + 1) (h 0 113) (h 0 95) (h 0 68) (h 0 72) (h 0 31) (h 0 41) (h 0 64) (h 0 61) (h 0 18) (h 0 84) (h 0 87) (h 0 86) (h 0 85) (h 0 109) (h 0 66) from by unfold it_nn; omega) (it_F_eq (it_F_of p1) rfl rfl) (fun z => z) (fun _ _ _ z => z) (Int.le_refl _)) ?_ ?_
          · intro h32 k75_0 g33
            refine ja_if_eq 85 dpart_78 rfl ⟨by decide, by decide⟩ (fun c78 => absurd c78 (by omega)) (fun c78 => ?_)
            refine ja_iconst dpart_81 ?_
            refine ja_goto 86 dpart_82 rfl ?_
            refine ja_zreturn dpart_86 rfl (by omega) ?_
            exact mo_fin (by omega) rfl (k1 h32 (⟨k75_0.1, Int.lt_of_le_of_lt (show (h 0 7) ≤ (h 0 7) + 1 by omega) k75_0.2.1, ag_trans (by (repeat (first | exact ag_refl | refine ag_up rfl ?_))) k75_0.2.2⟩) g33)
          · intro h34 k75_1 g35
            replace k75_1 : 0 < (h34 0 8) ∧ (h34 0 1) = (h 0 1) ∧ (h34 0 118) = (h 0 118) ∧ (h34 0 127) = (h 0 127) := k75_1
            refine ja_if_eq 85 dpart_78 rfl ⟨by decide, by decide⟩ (fun c78 => ?_) (fun c78 => absurd c78 (by omega))
            refine ja_iconst dpart_85 ?_
            refine ja_zreturn dpart_86 rfl (by omega) ?_
            exact mo_fin (by omega) rfl (k2 h34 (by omega) g35)
        · intro h36 k68_1 g37
          refine ja_if_eq 85 dpart_71 rfl ⟨by decide, by decide⟩ (fun c71 => ?_) (fun c71 => absurd c71 (by omega))
          refine ja_iconst dpart_85 ?_
          refine ja_zreturn dpart_86 rfl (by omega) ?_
          exact mo_fin (by omega) rfl (k2 h36 (by omega) g37)
    · have z35 := is1v k32_0 c35
      replace k32_0 := is1 k32_0 c35
      refine ja_aload_n dpart_38 rfl rfl ?_
      refine t_take (by decide) (show (0 : Nat) ≤ 8 by decide) dpart_39 g  ?_ ?_
      · intro k39_0 g38
        replace k39_0 : (h 0 7) < 900 := k39_0
        replace g38 : mo_G (ja_up h 0 7 ((h 0 7) + 1)) := g38
        show mJ l D cA ad 12 cX12_part 1 (some .boolean) 42 [(0, (2, ((0 : Nat) : Int)))] [(0, 1)] (ja_up h 0 7 ((h 0 7) + 1)) Q
        refine ja_if_eq 56 dpart_42 rfl ⟨by decide, by decide⟩ (fun c42 => absurd c42 (by omega)) (fun c42 => ?_)
        refine ja_aload_n dpart_45 rfl rfl ?_
        refine t_told (by decide) (show (0 : Nat) ≤ 8 by decide) dpart_46 g38 (it_keep p1 (by (repeat (first | exact ag_refl | refine ag_up rfl ?_))) (show it_nn ((h 0 7) + 1) (h 0 113) (h 0 95) (h 0 68) (h 0 72) (h 0 31) (h 0 41) (h 0 64) (h 0 61) (h 0 18) (h 0 84) (h 0 87) (h 0 86) (h 0 85) (h 0 109) (h 0 66) from by unfold it_nn; omega) (it_F_eq (it_F_of p1) rfl rfl) (fun z => z) (fun _ _ _ z => z) (Int.le_refl _)) ?_ ?_
        · intro h39 k46_0 g40
          refine ja_if_eq 56 dpart_49 rfl ⟨by decide, by decide⟩ (fun c49 => absurd c49 (by omega)) (fun c49 => ?_)
          refine ja_iconst dpart_52 ?_
          refine ja_goto 57 dpart_53 rfl ?_
          refine ja_zreturn dpart_57 rfl (by omega) ?_
          exact mo_fin (by omega) rfl (k1 h39 (⟨k46_0.1, Int.lt_of_le_of_lt (show (h 0 7) ≤ (h 0 7) + 1 by omega) k46_0.2.1, ag_trans (by (repeat (first | exact ag_refl | refine ag_up rfl ?_))) k46_0.2.2⟩) g40)
        · intro h41 k46_1 g42
          replace k46_1 : 0 < (h41 0 8) ∧ (h41 0 1) = (h 0 1) ∧ (h41 0 118) = (h 0 118) ∧ (h41 0 127) = (h 0 127) := k46_1
          refine ja_if_eq 56 dpart_49 rfl ⟨by decide, by decide⟩ (fun c49 => ?_) (fun c49 => absurd c49 (by omega))
          refine ja_iconst dpart_56 ?_
          refine ja_zreturn dpart_57 rfl (by omega) ?_
          exact mo_fin (by omega) rfl (k2 h41 (by omega) g42)
      · intro h43 k39_1 g44
        refine ja_if_eq 56 dpart_42 rfl ⟨by decide, by decide⟩ (fun c42 => ?_) (fun c42 => absurd c42 (by omega))
        refine ja_iconst dpart_56 ?_
        refine ja_zreturn dpart_57 rfl (by omega) ?_
        exact mo_fin (by omega) rfl (k2 h43 (by omega) g44)
  · have z6 := is1v k3_0 c6
    replace k3_0 := is1 k3_0 c6
    refine ja_aload_n dpart_9 rfl rfl ?_
    refine t_take (by decide) (show (0 : Nat) ≤ 8 by decide) dpart_10 g  ?_ ?_
    · intro k10_0 g45
      replace k10_0 : (h 0 7) < 900 := k10_0
      replace g45 : mo_G (ja_up h 0 7 ((h 0 7) + 1)) := g45
      show mJ l D cA ad 12 cX12_part 1 (some .boolean) 13 [(0, (2, ((0 : Nat) : Int)))] [(0, 1)] (ja_up h 0 7 ((h 0 7) + 1)) Q
      refine ja_if_eq 27 dpart_13 rfl ⟨by decide, by decide⟩ (fun c13 => absurd c13 (by omega)) (fun c13 => ?_)
      refine ja_aload_n dpart_16 rfl rfl ?_
      refine t_aspectField (by decide) (show (0 : Nat) ≤ 8 by decide) dpart_17 g45 (it_keep p1 (by (repeat (first | exact ag_refl | refine ag_up rfl ?_))) (show it_nn ((h 0 7) + 1) (h 0 113) (h 0 95) (h 0 68) (h 0 72) (h 0 31) (h 0 41) (h 0 64) (h 0 61) (h 0 18) (h 0 84) (h 0 87) (h 0 86) (h 0 85) (h 0 109) (h 0 66) from by unfold it_nn; omega) (it_F_eq (it_F_of p1) rfl rfl) (fun z => z) (fun _ _ _ z => z) (Int.le_refl _)) ?_ ?_
      · intro h46 k17_0 g47
        replace k17_0 : (∃ ht st rg : Nat → Int, it h46 ht st rg) ∧ ((h 0 7) + 1) < (h46 0 7) ∧ mo_ag FKP (ja_up h 0 7 ((h 0 7) + 1)) h46 := k17_0
        refine ja_if_eq 27 dpart_20 rfl ⟨by decide, by decide⟩ (fun c20 => absurd c20 (by omega)) (fun c20 => ?_)
        refine ja_iconst dpart_23 ?_
        refine ja_goto 28 dpart_24 rfl ?_
        refine ja_zreturn dpart_28 rfl (by omega) ?_
        exact mo_fin (by omega) rfl (k1 h46 (⟨k17_0.1, Int.lt_of_le_of_lt (show (h 0 7) ≤ (h 0 7) + 1 by omega) k17_0.2.1, ag_trans (by (repeat (first | exact ag_refl | refine ag_up rfl ?_))) k17_0.2.2⟩) g47)
      · intro h48 k17_1 g49
        replace k17_1 : 0 < (h48 0 8) ∧ (h48 0 1) = (h 0 1) ∧ (h48 0 118) = (h 0 118) ∧ (h48 0 127) = (h 0 127) := k17_1
        refine ja_if_eq 27 dpart_20 rfl ⟨by decide, by decide⟩ (fun c20 => ?_) (fun c20 => absurd c20 (by omega))
        refine ja_iconst dpart_27 ?_
        refine ja_zreturn dpart_28 rfl (by omega) ?_
        exact mo_fin (by omega) rfl (k2 h48 (by omega) g49)
    · intro h50 k10_1 g51
      refine ja_if_eq 27 dpart_13 rfl ⟨by decide, by decide⟩ (fun c13 => ?_) (fun c13 => absurd c13 (by omega))
      refine ja_iconst dpart_27 ?_
      refine ja_zreturn dpart_28 rfl (by omega) ?_
      exact mo_fin (by omega) rfl (k2 h50 (by omega) g51)
theorem t_part {ht st rg : Nat → Int} {d nL pc : Nat} {cc : ByteArray} {rt : Option FieldType} {L : List (Nat × ja_V)} {S : List ja_V} {h : ja_H} {Q : Option ja_V → ja_H → Prop} (hdd : 12 < d) (hwd : ja_wd S ≤ 8) (hd : decode cc pc = .ok (.invokevirtual 766, 3)) (g : mo_G h) (p1 : it h ht st rg) (p2 : (h 0 76) < (h 0 26)) (k1 : ∀ (h' : ja_H), ((∃ ht st rg : Nat → Int, it h' ht st rg) ∧ (h 0 7) < (h' 0 7) ∧ mo_ag FKP h h') → mo_G h' → mJ l D cA ad d cc nL rt (pc + 3) L ((0, 1) :: S) h' Q) (k2 : ∀ (h' : ja_H), (0 < (h' 0 8) ∧ (h' 0 1) = (h 0 1) ∧ (h' 0 118) = (h 0 118) ∧ (h' 0 127) = (h 0 127)) → mo_G h' → mJ l D cA ad d cc nL rt (pc + 3) L ((0, 0) :: S) h' Q) : mJ l D cA ad d cc nL rt pc L ((2, ((0 : Nat) : Int)) :: S) h Q :=
  mc_part hdd hwd hd (s_part g p1 p2 k1 k2)
end
theorem daspectItem_0 : decode cX12_aspectItem 0 = .ok (.aload_n 0, 1) := by decide +kernel
theorem daspectItem_1 : decode cX12_aspectItem 1 = .ok (.invokevirtual 599, 3) := by decide +kernel
theorem daspectItem_4 : decode cX12_aspectItem 4 = .ok (.ifCond .eq 18, 3) := by decide +kernel
theorem daspectItem_7 : decode cX12_aspectItem 7 = .ok (.aload_n 0, 1) := by decide +kernel
theorem daspectItem_8 : decode cX12_aspectItem 8 = .ok (.getfield 650, 3) := by decide +kernel
theorem daspectItem_11 : decode cX12_aspectItem 11 = .ok (.bipush 8, 2) := by decide +kernel
theorem daspectItem_13 : decode cX12_aspectItem 13 = .ok (.if_icmp .ne 9, 3) := by decide +kernel
theorem daspectItem_16 : decode cX12_aspectItem 16 = .ok (.aload_n 0, 1) := by decide +kernel
theorem daspectItem_17 : decode cX12_aspectItem 17 = .ok (.iconst 3, 1) := by decide +kernel
theorem daspectItem_18 : decode cX12_aspectItem 18 = .ok (.invokevirtual 583, 3) := by decide +kernel
theorem daspectItem_21 : decode cX12_aspectItem 21 = .ok (.ireturn, 1) := by decide +kernel
theorem daspectItem_22 : decode cX12_aspectItem 22 = .ok (.aload_n 0, 1) := by decide +kernel
theorem daspectItem_23 : decode cX12_aspectItem 23 = .ok (.getfield 650, 3) := by decide +kernel
theorem daspectItem_26 : decode cX12_aspectItem 26 = .ok (.istore_n 1, 1) := by decide +kernel
theorem daspectItem_27 : decode cX12_aspectItem 27 = .ok (.aload_n 0, 1) := by decide +kernel
theorem daspectItem_28 : decode cX12_aspectItem 28 = .ok (.getfield 46, 3) := by decide +kernel
theorem daspectItem_31 : decode cX12_aspectItem 31 = .ok (.iload_n 1, 1) := by decide +kernel
theorem daspectItem_32 : decode cX12_aspectItem 32 = .ok (.aload_n 0, 1) := by decide +kernel
theorem daspectItem_33 : decode cX12_aspectItem 33 = .ok (.getfield 574, 3) := by decide +kernel
theorem daspectItem_36 : decode cX12_aspectItem 36 = .ok (.iastore, 1) := by decide +kernel
theorem daspectItem_37 : decode cX12_aspectItem 37 = .ok (.aload_n 0, 1) := by decide +kernel
theorem daspectItem_38 : decode cX12_aspectItem 38 = .ok (.getfield 49, 3) := by decide +kernel
theorem daspectItem_41 : decode cX12_aspectItem 41 = .ok (.iload_n 1, 1) := by decide +kernel
theorem daspectItem_42 : decode cX12_aspectItem 42 = .ok (.iconst 0, 1) := by decide +kernel
theorem daspectItem_43 : decode cX12_aspectItem 43 = .ok (.bastore, 1) := by decide +kernel
theorem daspectItem_44 : decode cX12_aspectItem 44 = .ok (.aload_n 0, 1) := by decide +kernel
theorem daspectItem_45 : decode cX12_aspectItem 45 = .ok (.getfield 53, 3) := by decide +kernel
theorem daspectItem_48 : decode cX12_aspectItem 48 = .ok (.iload_n 1, 1) := by decide +kernel
theorem daspectItem_49 : decode cX12_aspectItem 49 = .ok (.iconst 0, 1) := by decide +kernel
theorem daspectItem_50 : decode cX12_aspectItem 50 = .ok (.iastore, 1) := by decide +kernel
theorem daspectItem_51 : decode cX12_aspectItem 51 = .ok (.aload_n 0, 1) := by decide +kernel
theorem daspectItem_52 : decode cX12_aspectItem 52 = .ok (.invokevirtual 739, 3) := by decide +kernel
theorem daspectItem_55 : decode cX12_aspectItem 55 = .ok (.ifCond .ne 5, 3) := by decide +kernel
theorem daspectItem_58 : decode cX12_aspectItem 58 = .ok (.iconst 0, 1) := by decide +kernel
theorem daspectItem_59 : decode cX12_aspectItem 59 = .ok (.ireturn, 1) := by decide +kernel
theorem daspectItem_60 : decode cX12_aspectItem 60 = .ok (.aload_n 0, 1) := by decide +kernel
theorem daspectItem_61 : decode cX12_aspectItem 61 = .ok (.dup, 1) := by decide +kernel
theorem daspectItem_62 : decode cX12_aspectItem 62 = .ok (.getfield 650, 3) := by decide +kernel
theorem daspectItem_65 : decode cX12_aspectItem 65 = .ok (.iconst 1, 1) := by decide +kernel
theorem daspectItem_66 : decode cX12_aspectItem 66 = .ok (.iadd, 1) := by decide +kernel
theorem daspectItem_67 : decode cX12_aspectItem 67 = .ok (.putfield 650, 3) := by decide +kernel
theorem daspectItem_70 : decode cX12_aspectItem 70 = .ok (.aload_n 0, 1) := by decide +kernel
theorem daspectItem_71 : decode cX12_aspectItem 71 = .ok (.iload_n 1, 1) := by decide +kernel
theorem daspectItem_72 : decode cX12_aspectItem 72 = .ok (.putfield 760, 3) := by decide +kernel
theorem daspectItem_75 : decode cX12_aspectItem 75 = .ok (.aload_n 0, 1) := by decide +kernel
theorem daspectItem_76 : decode cX12_aspectItem 76 = .ok (.bipush 11, 2) := by decide +kernel
theorem daspectItem_78 : decode cX12_aspectItem 78 = .ok (.invokevirtual 596, 3) := by decide +kernel
theorem daspectItem_81 : decode cX12_aspectItem 81 = .ok (.ifCond .eq 28, 3) := by decide +kernel
theorem daspectItem_84 : decode cX12_aspectItem 84 = .ok (.aload_n 0, 1) := by decide +kernel
theorem daspectItem_85 : decode cX12_aspectItem 85 = .ok (.getfield 49, 3) := by decide +kernel
theorem daspectItem_88 : decode cX12_aspectItem 88 = .ok (.iload_n 1, 1) := by decide +kernel
theorem daspectItem_89 : decode cX12_aspectItem 89 = .ok (.iconst 1, 1) := by decide +kernel
theorem daspectItem_90 : decode cX12_aspectItem 90 = .ok (.bastore, 1) := by decide +kernel
theorem daspectItem_91 : decode cX12_aspectItem 91 = .ok (.aload_n 0, 1) := by decide +kernel
theorem daspectItem_92 : decode cX12_aspectItem 92 = .ok (.invokevirtual 589, 3) := by decide +kernel
theorem daspectItem_95 : decode cX12_aspectItem 95 = .ok (.ifCond .eq 12, 3) := by decide +kernel
theorem daspectItem_98 : decode cX12_aspectItem 98 = .ok (.aload_n 0, 1) := by decide +kernel
theorem daspectItem_99 : decode cX12_aspectItem 99 = .ok (.bipush 29, 2) := by decide +kernel
theorem daspectItem_101 : decode cX12_aspectItem 101 = .ok (.invokevirtual 763, 3) := by decide +kernel
theorem daspectItem_104 : decode cX12_aspectItem 104 = .ok (.ifCond .ne 5, 3) := by decide +kernel
theorem daspectItem_107 : decode cX12_aspectItem 107 = .ok (.iconst 0, 1) := by decide +kernel
theorem daspectItem_108 : decode cX12_aspectItem 108 = .ok (.ireturn, 1) := by decide +kernel
theorem daspectItem_109 : decode cX12_aspectItem 109 = .ok (.aload_n 0, 1) := by decide +kernel
theorem daspectItem_110 : decode cX12_aspectItem 110 = .ok (.bipush 123, 2) := by decide +kernel
theorem daspectItem_112 : decode cX12_aspectItem 112 = .ok (.invokevirtual 742, 3) := by decide +kernel
theorem daspectItem_115 : decode cX12_aspectItem 115 = .ok (.istore_n 2, 1) := by decide +kernel
theorem daspectItem_116 : decode cX12_aspectItem 116 = .ok (.iload_n 2, 1) := by decide +kernel
theorem daspectItem_117 : decode cX12_aspectItem 117 = .ok (.ifCond .eq 20, 3) := by decide +kernel
theorem daspectItem_120 : decode cX12_aspectItem 120 = .ok (.aload_n 0, 1) := by decide +kernel
theorem daspectItem_121 : decode cX12_aspectItem 121 = .ok (.bipush 125, 2) := by decide +kernel
theorem daspectItem_123 : decode cX12_aspectItem 123 = .ok (.invokevirtual 586, 3) := by decide +kernel
theorem daspectItem_126 : decode cX12_aspectItem 126 = .ok (.ifCond .ne 11, 3) := by decide +kernel
theorem daspectItem_129 : decode cX12_aspectItem 129 = .ok (.aload_n 0, 1) := by decide +kernel
theorem daspectItem_130 : decode cX12_aspectItem 130 = .ok (.invokevirtual 766, 3) := by decide +kernel
theorem daspectItem_133 : decode cX12_aspectItem 133 = .ok (.istore_n 2, 1) := by decide +kernel
theorem daspectItem_134 : decode cX12_aspectItem 134 = .ok (.goto (-18), 3) := by decide +kernel
theorem daspectItem_137 : decode cX12_aspectItem 137 = .ok (.iload_n 2, 1) := by decide +kernel
theorem daspectItem_138 : decode cX12_aspectItem 138 = .ok (.ifCond .eq 14, 3) := by decide +kernel
theorem daspectItem_141 : decode cX12_aspectItem 141 = .ok (.aload_n 0, 1) := by decide +kernel
theorem daspectItem_142 : decode cX12_aspectItem 142 = .ok (.invokevirtual 589, 3) := by decide +kernel
theorem daspectItem_145 : decode cX12_aspectItem 145 = .ok (.ifCond .eq 7, 3) := by decide +kernel
theorem daspectItem_148 : decode cX12_aspectItem 148 = .ok (.iconst 1, 1) := by decide +kernel
theorem daspectItem_149 : decode cX12_aspectItem 149 = .ok (.goto 4, 3) := by decide +kernel
theorem daspectItem_152 : decode cX12_aspectItem 152 = .ok (.iconst 0, 1) := by decide +kernel
theorem daspectItem_153 : decode cX12_aspectItem 153 = .ok (.ireturn, 1) := by decide +kernel
section
variable {l : Launch} {D : va_G} {cA : Nat → ClassId} {ad : Nat → Nat}
theorem s_aspectItem {ht st rg : Nat → Int} {h : ja_H} {Q : Option ja_V → ja_H → Prop} (g : mo_G h) (p1 : it h ht st rg) (k1 : ∀ (h' : ja_H), ((∃ ht st rg : Nat → Int, it h' ht st rg) ∧ (h 0 7) < (h' 0 7) ∧ mo_ag FKQ h h') → mo_G h' → Q (some (0, 1)) h') (k2 : ∀ (h' : ja_H), (0 < (h' 0 8) ∧ (h' 0 1) = (h 0 1) ∧ (h' 0 118) = (h 0 118) ∧ (h' 0 127) = (h 0 127)) → mo_G h' → Q (some (0, 0)) h') : mM_aspectItem l D cA ad  h Q := by
  show mJ l D cA ad 13 cX12_aspectItem 3 (some .boolean) 0 [(0, (2, ((0 : Nat) : Int)))] [] h Q
  have kn_at := gF_at g
  have kn_aspects := gF_aspects g
  have CUT : ∀ n : Nat, (∀ (x2 : Int) (u : ja_H), mo_G u → (-2147483648 ≤ x2 ∧ x2 ≤ 2147483647) → (lo_A h u x2) → ((if x2 = 1 then (1001 - (u 0 7)).toNat else 0)) = n → mJ l D cA ad 13 cX12_aspectItem 3 (some .boolean) 116 [(0, (2, ((0 : Nat) : Int))), (2, (0, x2))] [] u Q) := by
    intro n
    induction n using Nat.strongRecOn with
    | _ n ih =>
      skip
      · intro x2 u gu qx2 iv hm
        subst hm
        have ku_at := gF_at gu
        have ku_aspects := gF_aspects gu
        have kua := gF_at gu
        refine ja_iload_n daspectItem_116 rfl rfl ?_
        refine ja_if_eq 137 daspectItem_117 rfl ⟨by omega, by omega⟩ (fun c117 => ?_) (fun c117 => ?_)
        · rcases iv with iv | iv
          case inl => exact absurd iv.1 (by omega)
          refine ja_iload_n daspectItem_137 rfl rfl ?_
          refine ja_if_eq 152 daspectItem_138 rfl ⟨by omega, by omega⟩ (fun c138 => ?_) (fun c138 => ?_)
          · refine ja_iconst daspectItem_152 ?_
            refine ja_zreturn daspectItem_153 rfl (by omega) ?_
            exact mo_fin (by omega) rfl (k2 u (by omega) gu)
          · exfalso; omega
        · rcases iv with ⟨ex, ⟨ht1, st1, rg1, hit⟩, lat, lag, las⟩ | iv
          case inr => exact absurd iv.1 (by omega)
          have l_size : (u 0 1) = (h 0 1) := lag 0 1 rfl
          have l_compiled : (u 0 118) = (h 0 118) := lag 0 118 rfl
          have l_started : (u 0 127) = (h 0 127) := lag 0 127 rfl
          refine ja_aload_n daspectItem_120 rfl rfl ?_
          refine ja_bipush 125 daspectItem_121 rfl ?_
          refine t_isSign (by decide) (show (0 : Nat) ≤ 8 by decide) daspectItem_123 gu ⟨by decide, by decide⟩ ?_
          intro w1 k123_0
          refine ja_if_ne 137 daspectItem_126 rfl ⟨by omega, by omega⟩ (fun c126 => ?_) (fun c126 => ?_)
          · have z126 := is1v k123_0 c126
            replace k123_0 := is1 k123_0 c126
            refine ja_iload_n daspectItem_137 rfl rfl ?_
            refine ja_if_eq 152 daspectItem_138 rfl ⟨by omega, by omega⟩ (fun c138 => ?_) (fun c138 => ?_)
            · refine ja_iconst daspectItem_152 ?_
              refine ja_zreturn daspectItem_153 rfl (by omega) ?_
              exact mo_fin (by omega) rfl (k2 u (by omega) gu)
            · obtain ⟨y1, y2, y3, y4, y5, y6, y7, y8, y9, y10, y11, y12, y13, y14⟩ := hit.2.2.1
              refine ja_aload_n daspectItem_141 rfl rfl ?_
              refine t_take (by decide) (show (0 : Nat) ≤ 8 by decide) daspectItem_142 gu  ?_ ?_
              · intro k142_0 g2
                replace k142_0 : (u 0 7) < 900 := k142_0
                replace g2 : mo_G (ja_up u 0 7 ((u 0 7) + 1)) := g2
                show mJ l D cA ad 13 cX12_aspectItem 3 (some .boolean) 145 [(0, (2, ((0 : Nat) : Int))), (2, (0, x2))] [(0, 1)] (ja_up u 0 7 ((u 0 7) + 1)) Q
                refine ja_if_eq 152 daspectItem_145 rfl ⟨by decide, by decide⟩ (fun c145 => absurd c145 (by omega)) (fun c145 => ?_)
                refine ja_iconst daspectItem_148 ?_
                refine ja_goto 153 daspectItem_149 rfl ?_
                refine ja_zreturn daspectItem_153 rfl (by omega) ?_
                exact mo_fin (by omega) rfl (k1 (ja_up u 0 7 ((u 0 7) + 1)) (⟨⟨_, _, _, it_keep hit (by (repeat (first | exact ag_refl | refine ag_up rfl ?_))) (show it_nn ((u 0 7) + 1) (u 0 113) (u 0 95) (u 0 68) (u 0 72) (u 0 31) (u 0 41) (u 0 64) (u 0 61) (u 0 18) (u 0 84) (u 0 87) (u 0 86) (u 0 85) (u 0 109) (u 0 66) from by unfold it_nn; omega) (it_F_eq (it_F_of hit) rfl rfl) (fun z => z) (fun _ _ _ z => z) (Int.le_refl _)⟩, (show (h 0 7) < ((u 0 7) + 1) by omega), ag_trans lag (by (repeat (first | exact ag_refl | refine ag_up rfl ?_)))⟩) g2)
              · intro h3 k142_1 g4
                refine ja_if_eq 152 daspectItem_145 rfl ⟨by decide, by decide⟩ (fun c145 => ?_) (fun c145 => absurd c145 (by omega))
                refine ja_iconst daspectItem_152 ?_
                refine ja_zreturn daspectItem_153 rfl (by omega) ?_
                exact mo_fin (by omega) rfl (k2 h3 (by omega) g4)
          · replace k123_0 := is0 k123_0 c126
            refine ja_aload_n daspectItem_129 rfl rfl ?_
            refine t_part (by decide) (show (0 : Nat) ≤ 8 by decide) daspectItem_130 gu (hit) (las) ?_ ?_
            · intro h5 k130_0 g6
              refine ja_istore_n daspectItem_133 rfl (by decide) (L2 := [(2, (0, 1)), (0, (2, ((0 : Nat) : Int)))]) rfl ?_
              refine ja_goto 116 daspectItem_134 rfl ?_
              exact ja_wk (fun q hq => by simp only [List.mem_cons, List.not_mem_nil, or_false] at hq; rcases hq with rfl | rfl <;> rfl) ((ih ((if 1 = 1 then (1001 - (h5 0 7)).toNat else 0)) (by (repeat' split) <;> omega)) 1 h5 g6 ⟨by decide, by decide⟩ ((lo_A_next lat lag las k130_0)) rfl)
            · intro h7 k130_1 g8
              refine ja_istore_n daspectItem_133 rfl (by decide) (L2 := [(2, (0, 0)), (0, (2, ((0 : Nat) : Int)))]) rfl ?_
              refine ja_goto 116 daspectItem_134 rfl ?_
              exact ja_wk (fun q hq => by simp only [List.mem_cons, List.not_mem_nil, or_false] at hq; rcases hq with rfl | rfl <;> rfl) ((ih ((if 0 = 1 then (1001 - (h7 0 7)).toNat else 0)) (by (repeat' split) <;> omega)) 0 h7 g8 ⟨by decide, by decide⟩ ((Or.inr (by refine ⟨rfl, ?_, ?_, ?_, ?_⟩ <;> omega))) rfl)
  obtain ⟨z1, z2, z3, z4, z5, z6, z7, z8, z9, z10, z11, z12, z13, z14⟩ := p1.2.2.1
  refine ja_aload_n daspectItem_0 rfl rfl ?_
  refine t_isName (by decide) (show (0 : Nat) ≤ 8 by decide) daspectItem_1 g  ?_
  intro w9 k1_0
  refine ja_if_eq 22 daspectItem_4 rfl ⟨by omega, by omega⟩ (fun c4 => ?_) (fun c4 => ?_)
  · replace k1_0 := is0 k1_0 c4
    refine ja_aload_n daspectItem_22 rfl rfl ?_
    refine fg_aspects (v := h 0 26) rfl daspectItem_23 ?_
    have f10 := gF_aspects g
    refine ja_istore_n daspectItem_26 rfl (by decide) (L2 := [(1, (0, (h 0 26))), (0, (2, ((0 : Nat) : Int)))]) rfl ?_
    refine ja_aload_n daspectItem_27 rfl rfl ?_
    refine fa_aspectName daspectItem_28 ?_
    refine ja_iload_n daspectItem_31 rfl rfl ?_
    refine ja_aload_n daspectItem_32 rfl rfl ?_
    refine fg_at (v := h 0 7) rfl daspectItem_33 ?_
    have f11 := gF_at g
    have g12 := gW_aspectName g (h 0 26).toNat (x := h 0 7) ⟨by omega, by omega⟩
    refine is_aspectName ⟨by omega, by omega⟩ daspectItem_36 ?_
    refine ja_aload_n daspectItem_37 rfl rfl ?_
    refine fa_aspectEach daspectItem_38 ?_
    refine ja_iload_n daspectItem_41 rfl rfl ?_
    refine ja_iconst daspectItem_42 ?_
    have g13 := gW_aspectEach g12 (h 0 26).toNat (x := 0) ⟨by decide, by decide⟩
    refine is_aspectEach ⟨by omega, by omega⟩ (by omega) daspectItem_43 ?_
    refine ja_aload_n daspectItem_44 rfl rfl ?_
    refine fa_aspectFields daspectItem_45 ?_
    refine ja_iload_n daspectItem_48 rfl rfl ?_
    refine ja_iconst daspectItem_49 ?_
    have g14 := gW_aspectFields g13 (h 0 26).toNat (x := 0) ⟨by decide, by decide⟩
    refine is_aspectFields ⟨by omega, by omega⟩ daspectItem_50 ?_
    refine ja_aload_n daspectItem_51 rfl rfl ?_
    refine t_name (by decide) (show (0 : Nat) ≤ 8 by decide) daspectItem_52 g14  ?_ ?_
    · intro k52_0 g15
      replace k52_0 : (h 0 7) < 900 ∧ (h 2 (h 0 7).toNat) = 2 := k52_0
      replace g15 : mo_G (ja_up (ja_up (ja_up (ja_up h 13 ((h 0 26).toNat) (h 0 7)) 14 ((h 0 26).toNat) 0) 15 ((h 0 26).toNat) 0) 0 7 ((h 0 7) + 1)) := g15
      show mJ l D cA ad 13 cX12_aspectItem 3 (some .boolean) 55 [(1, (0, (h 0 26))), (0, (2, ((0 : Nat) : Int)))] [(0, 1)] (ja_up (ja_up (ja_up (ja_up h 13 ((h 0 26).toNat) (h 0 7)) 14 ((h 0 26).toNat) 0) 15 ((h 0 26).toNat) 0) 0 7 ((h 0 7) + 1)) Q
      refine ja_if_ne 60 daspectItem_55 rfl ⟨by decide, by decide⟩ (fun c55 => ?_) (fun c55 => absurd c55 (by omega))
      refine ja_aload_n daspectItem_60 rfl rfl ?_
      refine ja_dup daspectItem_61 (by decide) ?_
      refine fg_aspects (v := h 0 26) rfl daspectItem_62 ?_
      refine ja_iconst daspectItem_65 ?_
      refine ja_iadd daspectItem_66 ?_
      have g16 := gP_aspects g15 (x := (h 0 26) + 1) ⟨by omega, by omega⟩
      refine fp_aspects daspectItem_67 ?_
      refine ja_aload_n daspectItem_70 rfl rfl ?_
      refine ja_iload_n daspectItem_71 rfl rfl ?_
      have g17 := gP_inAspect g16 (x := h 0 26) ⟨by omega, by omega⟩
      refine fp_inAspect daspectItem_72 ?_
      refine ja_aload_n daspectItem_75 rfl rfl ?_
      refine ja_bipush 11 daspectItem_76 rfl ?_
      refine t_isWord (by decide) (show (0 : Nat) ≤ 8 by decide) daspectItem_78 g17 ⟨by decide, by decide⟩ ?_
      intro w18 k78_0
      replace k78_0 : (w18 = 1 ∧ (h 2 ((h 0 7) + 1).toNat) = 1 ∧ (h 5 ((h 0 7) + 1).toNat) = 11) ∨ (w18 = 0 ∧ ¬ ((h 2 ((h 0 7) + 1).toNat) = 1 ∧ (h 5 ((h 0 7) + 1).toNat) = 11)) := k78_0
      refine ja_if_eq 109 daspectItem_81 rfl ⟨by omega, by omega⟩ (fun c81 => ?_) (fun c81 => ?_)
      · replace k78_0 := is0 k78_0 c81
        refine ja_aload_n daspectItem_109 rfl rfl ?_
        refine ja_bipush 123 daspectItem_110 rfl ?_
        refine t_sign (by decide) (show (0 : Nat) ≤ 8 by decide) daspectItem_112 g17 ⟨by decide, by decide⟩ ?_ ?_
        · intro k112_0 g19
          replace k112_0 : ((h 0 7) + 1) < 900 ∧ (h 2 ((h 0 7) + 1).toNat) = 5 ∧ (h 5 ((h 0 7) + 1).toNat) = 123 := k112_0
          replace g19 : mo_G (ja_up (ja_up (ja_up (ja_up (ja_up (ja_up (ja_up h 13 ((h 0 26).toNat) (h 0 7)) 14 ((h 0 26).toNat) 0) 15 ((h 0 26).toNat) 0) 0 7 ((h 0 7) + 1)) 0 26 ((h 0 26) + 1)) 0 76 (h 0 26)) 0 7 (((h 0 7) + 1) + 1)) := g19
          show mJ l D cA ad 13 cX12_aspectItem 3 (some .boolean) 115 [(1, (0, (h 0 26))), (0, (2, ((0 : Nat) : Int)))] [(0, 1)] (ja_up (ja_up (ja_up (ja_up (ja_up (ja_up (ja_up h 13 ((h 0 26).toNat) (h 0 7)) 14 ((h 0 26).toNat) 0) 15 ((h 0 26).toNat) 0) 0 7 ((h 0 7) + 1)) 0 26 ((h 0 26) + 1)) 0 76 (h 0 26)) 0 7 (((h 0 7) + 1) + 1)) Q
          refine ja_istore_n daspectItem_115 rfl (by decide) (L2 := [(2, (0, 1)), (1, (0, (h 0 26))), (0, (2, ((0 : Nat) : Int)))]) rfl ?_
          exact ja_wk (fun q hq => by simp only [List.mem_cons, List.not_mem_nil, or_false] at hq; rcases hq with rfl | rfl <;> rfl) ((CUT _) 1 (ja_up (ja_up (ja_up (ja_up (ja_up (ja_up (ja_up h 13 ((h 0 26).toNat) (h 0 7)) 14 ((h 0 26).toNat) 0) 15 ((h 0 26).toNat) 0) 0 7 ((h 0 7) + 1)) 0 26 ((h 0 26) + 1)) 0 76 (h 0 26)) 0 7 (((h 0 7) + 1) + 1)) g19 ⟨by decide, by decide⟩ ((Or.inl ⟨rfl, ⟨_, _, _, it_keep p1 (by (repeat (first | exact ag_refl | refine ag_up rfl ?_))) (show it_nn (((h 0 7) + 1) + 1) (h 0 113) (h 0 95) (h 0 68) (h 0 72) (h 0 31) (h 0 41) (h 0 64) (h 0 61) (h 0 18) (h 0 84) (h 0 87) (h 0 86) (h 0 85) (h 0 109) (h 0 66) from by unfold it_nn; omega) (it_F_eq (it_F_of p1) rfl rfl) (fun z => z) (fun _ _ _ z => z) (show (h 0 26) ≤ ((h 0 26) + 1) by omega)⟩, (show (h 0 7) < (((h 0 7) + 1) + 1) by omega), (by (repeat (first | exact ag_refl | refine ag_up rfl ?_))), (show ((h 0 26) : Int) < ((h 0 26) + 1) by omega)⟩)) rfl)
        · intro h20 k112_1 g21
          replace k112_1 : 0 < (h20 0 8) ∧ (h20 0 1) = (h 0 1) ∧ (h20 0 118) = (h 0 118) ∧ (h20 0 127) = (h 0 127) := k112_1
          refine ja_istore_n daspectItem_115 rfl (by decide) (L2 := [(2, (0, 0)), (1, (0, (h 0 26))), (0, (2, ((0 : Nat) : Int)))]) rfl ?_
          exact ja_wk (fun q hq => by simp only [List.mem_cons, List.not_mem_nil, or_false] at hq; rcases hq with rfl | rfl <;> rfl) ((CUT _) 0 h20 g21 ⟨by decide, by decide⟩ ((Or.inr (by refine ⟨rfl, ?_, ?_, ?_, ?_⟩ <;> omega))) rfl)
      · have z81 := is1v k78_0 c81
        replace k78_0 := is1 k78_0 c81
        refine ja_aload_n daspectItem_84 rfl rfl ?_
        refine fa_aspectEach daspectItem_85 ?_
        refine ja_iload_n daspectItem_88 rfl rfl ?_
        refine ja_iconst daspectItem_89 ?_
        have g22 := gW_aspectEach g17 (h 0 26).toNat (x := 1) ⟨by decide, by decide⟩
        refine is_aspectEach ⟨by omega, by omega⟩ (by omega) daspectItem_90 ?_
        refine ja_aload_n daspectItem_91 rfl rfl ?_
        refine t_take (by decide) (show (0 : Nat) ≤ 8 by decide) daspectItem_92 g22  ?_ ?_
        · intro k92_0 g23
          replace k92_0 : ((h 0 7) + 1) < 900 := k92_0
          replace g23 : mo_G (ja_up (ja_up (ja_up (ja_up (ja_up (ja_up (ja_up (ja_up h 13 ((h 0 26).toNat) (h 0 7)) 14 ((h 0 26).toNat) 0) 15 ((h 0 26).toNat) 0) 0 7 ((h 0 7) + 1)) 0 26 ((h 0 26) + 1)) 0 76 (h 0 26)) 14 ((h 0 26).toNat) 1) 0 7 (((h 0 7) + 1) + 1)) := g23
          show mJ l D cA ad 13 cX12_aspectItem 3 (some .boolean) 95 [(1, (0, (h 0 26))), (0, (2, ((0 : Nat) : Int)))] [(0, 1)] (ja_up (ja_up (ja_up (ja_up (ja_up (ja_up (ja_up (ja_up h 13 ((h 0 26).toNat) (h 0 7)) 14 ((h 0 26).toNat) 0) 15 ((h 0 26).toNat) 0) 0 7 ((h 0 7) + 1)) 0 26 ((h 0 26) + 1)) 0 76 (h 0 26)) 14 ((h 0 26).toNat) 1) 0 7 (((h 0 7) + 1) + 1)) Q
          refine ja_if_eq 107 daspectItem_95 rfl ⟨by decide, by decide⟩ (fun c95 => absurd c95 (by omega)) (fun c95 => ?_)
          refine ja_aload_n daspectItem_98 rfl rfl ?_
          refine ja_bipush 29 daspectItem_99 rfl ?_
          refine t_word (by decide) (show (0 : Nat) ≤ 8 by decide) daspectItem_101 g23 ⟨by decide, by decide⟩ ?_ ?_
          · intro k101_0 g24
            replace k101_0 : (((h 0 7) + 1) + 1) < 900 ∧ (h 2 (((h 0 7) + 1) + 1).toNat) = 1 ∧ (h 5 (((h 0 7) + 1) + 1).toNat) = 29 := k101_0
            replace g24 : mo_G (ja_up (ja_up (ja_up (ja_up (ja_up (ja_up (ja_up (ja_up (ja_up h 13 ((h 0 26).toNat) (h 0 7)) 14 ((h 0 26).toNat) 0) 15 ((h 0 26).toNat) 0) 0 7 ((h 0 7) + 1)) 0 26 ((h 0 26) + 1)) 0 76 (h 0 26)) 14 ((h 0 26).toNat) 1) 0 7 (((h 0 7) + 1) + 1)) 0 7 ((((h 0 7) + 1) + 1) + 1)) := g24
            show mJ l D cA ad 13 cX12_aspectItem 3 (some .boolean) 104 [(1, (0, (h 0 26))), (0, (2, ((0 : Nat) : Int)))] [(0, 1)] (ja_up (ja_up (ja_up (ja_up (ja_up (ja_up (ja_up (ja_up (ja_up h 13 ((h 0 26).toNat) (h 0 7)) 14 ((h 0 26).toNat) 0) 15 ((h 0 26).toNat) 0) 0 7 ((h 0 7) + 1)) 0 26 ((h 0 26) + 1)) 0 76 (h 0 26)) 14 ((h 0 26).toNat) 1) 0 7 (((h 0 7) + 1) + 1)) 0 7 ((((h 0 7) + 1) + 1) + 1)) Q
            refine ja_if_ne 109 daspectItem_104 rfl ⟨by decide, by decide⟩ (fun c104 => ?_) (fun c104 => absurd c104 (by omega))
            refine ja_aload_n daspectItem_109 rfl rfl ?_
            refine ja_bipush 123 daspectItem_110 rfl ?_
            refine t_sign (by decide) (show (0 : Nat) ≤ 8 by decide) daspectItem_112 g24 ⟨by decide, by decide⟩ ?_ ?_
            · intro k112_0 g25
              replace k112_0 : ((((h 0 7) + 1) + 1) + 1) < 900 ∧ (h 2 ((((h 0 7) + 1) + 1) + 1).toNat) = 5 ∧ (h 5 ((((h 0 7) + 1) + 1) + 1).toNat) = 123 := k112_0
              replace g25 : mo_G (ja_up (ja_up (ja_up (ja_up (ja_up (ja_up (ja_up (ja_up (ja_up (ja_up h 13 ((h 0 26).toNat) (h 0 7)) 14 ((h 0 26).toNat) 0) 15 ((h 0 26).toNat) 0) 0 7 ((h 0 7) + 1)) 0 26 ((h 0 26) + 1)) 0 76 (h 0 26)) 14 ((h 0 26).toNat) 1) 0 7 (((h 0 7) + 1) + 1)) 0 7 ((((h 0 7) + 1) + 1) + 1)) 0 7 (((((h 0 7) + 1) + 1) + 1) + 1)) := g25
              show mJ l D cA ad 13 cX12_aspectItem 3 (some .boolean) 115 [(1, (0, (h 0 26))), (0, (2, ((0 : Nat) : Int)))] [(0, 1)] (ja_up (ja_up (ja_up (ja_up (ja_up (ja_up (ja_up (ja_up (ja_up (ja_up h 13 ((h 0 26).toNat) (h 0 7)) 14 ((h 0 26).toNat) 0) 15 ((h 0 26).toNat) 0) 0 7 ((h 0 7) + 1)) 0 26 ((h 0 26) + 1)) 0 76 (h 0 26)) 14 ((h 0 26).toNat) 1) 0 7 (((h 0 7) + 1) + 1)) 0 7 ((((h 0 7) + 1) + 1) + 1)) 0 7 (((((h 0 7) + 1) + 1) + 1) + 1)) Q
              refine ja_istore_n daspectItem_115 rfl (by decide) (L2 := [(2, (0, 1)), (1, (0, (h 0 26))), (0, (2, ((0 : Nat) : Int)))]) rfl ?_
              exact ja_wk (fun q hq => by simp only [List.mem_cons, List.not_mem_nil, or_false] at hq; rcases hq with rfl | rfl <;> rfl) ((CUT _) 1 (ja_up (ja_up (ja_up (ja_up (ja_up (ja_up (ja_up (ja_up (ja_up (ja_up h 13 ((h 0 26).toNat) (h 0 7)) 14 ((h 0 26).toNat) 0) 15 ((h 0 26).toNat) 0) 0 7 ((h 0 7) + 1)) 0 26 ((h 0 26) + 1)) 0 76 (h 0 26)) 14 ((h 0 26).toNat) 1) 0 7 (((h 0 7) + 1) + 1)) 0 7 ((((h 0 7) + 1) + 1) + 1)) 0 7 (((((h 0 7) + 1) + 1) + 1) + 1)) g25 ⟨by decide, by decide⟩ ((Or.inl ⟨rfl, ⟨_, _, _, it_keep p1 (by (repeat (first | exact ag_refl | refine ag_up rfl ?_))) (show it_nn (((((h 0 7) + 1) + 1) + 1) + 1) (h 0 113) (h 0 95) (h 0 68) (h 0 72) (h 0 31) (h 0 41) (h 0 64) (h 0 61) (h 0 18) (h 0 84) (h 0 87) (h 0 86) (h 0 85) (h 0 109) (h 0 66) from by unfold it_nn; omega) (it_F_eq (it_F_of p1) rfl rfl) (fun z => z) (fun _ _ _ z => z) (show (h 0 26) ≤ ((h 0 26) + 1) by omega)⟩, (show (h 0 7) < (((((h 0 7) + 1) + 1) + 1) + 1) by omega), (by (repeat (first | exact ag_refl | refine ag_up rfl ?_))), (show ((h 0 26) : Int) < ((h 0 26) + 1) by omega)⟩)) rfl)
            · intro h26 k112_1 g27
              replace k112_1 : 0 < (h26 0 8) ∧ (h26 0 1) = (h 0 1) ∧ (h26 0 118) = (h 0 118) ∧ (h26 0 127) = (h 0 127) := k112_1
              refine ja_istore_n daspectItem_115 rfl (by decide) (L2 := [(2, (0, 0)), (1, (0, (h 0 26))), (0, (2, ((0 : Nat) : Int)))]) rfl ?_
              exact ja_wk (fun q hq => by simp only [List.mem_cons, List.not_mem_nil, or_false] at hq; rcases hq with rfl | rfl <;> rfl) ((CUT _) 0 h26 g27 ⟨by decide, by decide⟩ ((Or.inr (by refine ⟨rfl, ?_, ?_, ?_, ?_⟩ <;> omega))) rfl)
          · intro h28 k101_1 g29
            replace k101_1 : 0 < (h28 0 8) ∧ (h28 0 1) = (h 0 1) ∧ (h28 0 118) = (h 0 118) ∧ (h28 0 127) = (h 0 127) := k101_1
            refine ja_if_ne 109 daspectItem_104 rfl ⟨by decide, by decide⟩ (fun c104 => absurd c104 (by omega)) (fun c104 => ?_)
            refine ja_iconst daspectItem_107 ?_
            refine ja_zreturn daspectItem_108 rfl (by omega) ?_
            exact mo_fin (by omega) rfl (k2 h28 (by omega) g29)
        · intro h30 k92_1 g31
          replace k92_1 : 0 < (h30 0 8) ∧ (h30 0 1) = (h 0 1) ∧ (h30 0 118) = (h 0 118) ∧ (h30 0 127) = (h 0 127) := k92_1
          refine ja_if_eq 107 daspectItem_95 rfl ⟨by decide, by decide⟩ (fun c95 => ?_) (fun c95 => absurd c95 (by omega))
          refine ja_iconst daspectItem_107 ?_
          refine ja_zreturn daspectItem_108 rfl (by omega) ?_
          exact mo_fin (by omega) rfl (k2 h30 (by omega) g31)
    · intro h32 k52_1 g33
      replace k52_1 : 0 < (h32 0 8) ∧ (h32 0 1) = (h 0 1) ∧ (h32 0 118) = (h 0 118) ∧ (h32 0 127) = (h 0 127) := k52_1
      refine ja_if_ne 60 daspectItem_55 rfl ⟨by decide, by decide⟩ (fun c55 => absurd c55 (by omega)) (fun c55 => ?_)
      refine ja_iconst daspectItem_58 ?_
      refine ja_zreturn daspectItem_59 rfl (by omega) ?_
      exact mo_fin (by omega) rfl (k2 h32 (by omega) g33)
  · have z4 := is1v k1_0 c4
    replace k1_0 := is1 k1_0 c4
    refine ja_aload_n daspectItem_7 rfl rfl ?_
    refine fg_aspects (v := h 0 26) rfl daspectItem_8 ?_
    have f34 := gF_aspects g
    refine ja_bipush 8 daspectItem_11 rfl ?_
    refine ja_icmp_ne 22 daspectItem_13 rfl ⟨by omega, by omega⟩ ⟨by decide, by decide⟩ (fun c13 => ?_) (fun c13 => ?_)
    · refine ja_aload_n daspectItem_22 rfl rfl ?_
      refine fg_aspects (v := h 0 26) rfl daspectItem_23 ?_
      refine ja_istore_n daspectItem_26 rfl (by decide) (L2 := [(1, (0, (h 0 26))), (0, (2, ((0 : Nat) : Int)))]) rfl ?_
      refine ja_aload_n daspectItem_27 rfl rfl ?_
      refine fa_aspectName daspectItem_28 ?_
      refine ja_iload_n daspectItem_31 rfl rfl ?_
      refine ja_aload_n daspectItem_32 rfl rfl ?_
      refine fg_at (v := h 0 7) rfl daspectItem_33 ?_
      have f35 := gF_at g
      have g36 := gW_aspectName g (h 0 26).toNat (x := h 0 7) ⟨by omega, by omega⟩
      refine is_aspectName ⟨by omega, by omega⟩ daspectItem_36 ?_
      refine ja_aload_n daspectItem_37 rfl rfl ?_
      refine fa_aspectEach daspectItem_38 ?_
      refine ja_iload_n daspectItem_41 rfl rfl ?_
      refine ja_iconst daspectItem_42 ?_
      have g37 := gW_aspectEach g36 (h 0 26).toNat (x := 0) ⟨by decide, by decide⟩
      refine is_aspectEach ⟨by omega, by omega⟩ (by omega) daspectItem_43 ?_
      refine ja_aload_n daspectItem_44 rfl rfl ?_
      refine fa_aspectFields daspectItem_45 ?_
      refine ja_iload_n daspectItem_48 rfl rfl ?_
      refine ja_iconst daspectItem_49 ?_
      have g38 := gW_aspectFields g37 (h 0 26).toNat (x := 0) ⟨by decide, by decide⟩
      refine is_aspectFields ⟨by omega, by omega⟩ daspectItem_50 ?_
      refine ja_aload_n daspectItem_51 rfl rfl ?_
      refine t_name (by decide) (show (0 : Nat) ≤ 8 by decide) daspectItem_52 g38  ?_ ?_
      · intro k52_0 g39
        replace k52_0 : (h 0 7) < 900 ∧ (h 2 (h 0 7).toNat) = 2 := k52_0
        replace g39 : mo_G (ja_up (ja_up (ja_up (ja_up h 13 ((h 0 26).toNat) (h 0 7)) 14 ((h 0 26).toNat) 0) 15 ((h 0 26).toNat) 0) 0 7 ((h 0 7) + 1)) := g39
        show mJ l D cA ad 13 cX12_aspectItem 3 (some .boolean) 55 [(1, (0, (h 0 26))), (0, (2, ((0 : Nat) : Int)))] [(0, 1)] (ja_up (ja_up (ja_up (ja_up h 13 ((h 0 26).toNat) (h 0 7)) 14 ((h 0 26).toNat) 0) 15 ((h 0 26).toNat) 0) 0 7 ((h 0 7) + 1)) Q
        refine ja_if_ne 60 daspectItem_55 rfl ⟨by decide, by decide⟩ (fun c55 => ?_) (fun c55 => absurd c55 (by omega))
        refine ja_aload_n daspectItem_60 rfl rfl ?_
        refine ja_dup daspectItem_61 (by decide) ?_
        refine fg_aspects (v := h 0 26) rfl daspectItem_62 ?_
        refine ja_iconst daspectItem_65 ?_
        refine ja_iadd daspectItem_66 ?_
        have g40 := gP_aspects g39 (x := (h 0 26) + 1) ⟨by omega, by omega⟩
        refine fp_aspects daspectItem_67 ?_
        refine ja_aload_n daspectItem_70 rfl rfl ?_
        refine ja_iload_n daspectItem_71 rfl rfl ?_
        have g41 := gP_inAspect g40 (x := h 0 26) ⟨by omega, by omega⟩
        refine fp_inAspect daspectItem_72 ?_
        refine ja_aload_n daspectItem_75 rfl rfl ?_
        refine ja_bipush 11 daspectItem_76 rfl ?_
        refine t_isWord (by decide) (show (0 : Nat) ≤ 8 by decide) daspectItem_78 g41 ⟨by decide, by decide⟩ ?_
        intro w42 k78_0
        replace k78_0 : (w42 = 1 ∧ (h 2 ((h 0 7) + 1).toNat) = 1 ∧ (h 5 ((h 0 7) + 1).toNat) = 11) ∨ (w42 = 0 ∧ ¬ ((h 2 ((h 0 7) + 1).toNat) = 1 ∧ (h 5 ((h 0 7) + 1).toNat) = 11)) := k78_0
        refine ja_if_eq 109 daspectItem_81 rfl ⟨by omega, by omega⟩ (fun c81 => ?_) (fun c81 => ?_)
        · replace k78_0 := is0 k78_0 c81
          refine ja_aload_n daspectItem_109 rfl rfl ?_
          refine ja_bipush 123 daspectItem_110 rfl ?_
          refine t_sign (by decide) (show (0 : Nat) ≤ 8 by decide) daspectItem_112 g41 ⟨by decide, by decide⟩ ?_ ?_
          · intro k112_0 g43
            replace k112_0 : ((h 0 7) + 1) < 900 ∧ (h 2 ((h 0 7) + 1).toNat) = 5 ∧ (h 5 ((h 0 7) + 1).toNat) = 123 := k112_0
            replace g43 : mo_G (ja_up (ja_up (ja_up (ja_up (ja_up (ja_up (ja_up h 13 ((h 0 26).toNat) (h 0 7)) 14 ((h 0 26).toNat) 0) 15 ((h 0 26).toNat) 0) 0 7 ((h 0 7) + 1)) 0 26 ((h 0 26) + 1)) 0 76 (h 0 26)) 0 7 (((h 0 7) + 1) + 1)) := g43
            show mJ l D cA ad 13 cX12_aspectItem 3 (some .boolean) 115 [(1, (0, (h 0 26))), (0, (2, ((0 : Nat) : Int)))] [(0, 1)] (ja_up (ja_up (ja_up (ja_up (ja_up (ja_up (ja_up h 13 ((h 0 26).toNat) (h 0 7)) 14 ((h 0 26).toNat) 0) 15 ((h 0 26).toNat) 0) 0 7 ((h 0 7) + 1)) 0 26 ((h 0 26) + 1)) 0 76 (h 0 26)) 0 7 (((h 0 7) + 1) + 1)) Q
            refine ja_istore_n daspectItem_115 rfl (by decide) (L2 := [(2, (0, 1)), (1, (0, (h 0 26))), (0, (2, ((0 : Nat) : Int)))]) rfl ?_
            exact ja_wk (fun q hq => by simp only [List.mem_cons, List.not_mem_nil, or_false] at hq; rcases hq with rfl | rfl <;> rfl) ((CUT _) 1 (ja_up (ja_up (ja_up (ja_up (ja_up (ja_up (ja_up h 13 ((h 0 26).toNat) (h 0 7)) 14 ((h 0 26).toNat) 0) 15 ((h 0 26).toNat) 0) 0 7 ((h 0 7) + 1)) 0 26 ((h 0 26) + 1)) 0 76 (h 0 26)) 0 7 (((h 0 7) + 1) + 1)) g43 ⟨by decide, by decide⟩ ((Or.inl ⟨rfl, ⟨_, _, _, it_keep p1 (by (repeat (first | exact ag_refl | refine ag_up rfl ?_))) (show it_nn (((h 0 7) + 1) + 1) (h 0 113) (h 0 95) (h 0 68) (h 0 72) (h 0 31) (h 0 41) (h 0 64) (h 0 61) (h 0 18) (h 0 84) (h 0 87) (h 0 86) (h 0 85) (h 0 109) (h 0 66) from by unfold it_nn; omega) (it_F_eq (it_F_of p1) rfl rfl) (fun z => z) (fun _ _ _ z => z) (show (h 0 26) ≤ ((h 0 26) + 1) by omega)⟩, (show (h 0 7) < (((h 0 7) + 1) + 1) by omega), (by (repeat (first | exact ag_refl | refine ag_up rfl ?_))), (show ((h 0 26) : Int) < ((h 0 26) + 1) by omega)⟩)) rfl)
          · intro h44 k112_1 g45
            replace k112_1 : 0 < (h44 0 8) ∧ (h44 0 1) = (h 0 1) ∧ (h44 0 118) = (h 0 118) ∧ (h44 0 127) = (h 0 127) := k112_1
            refine ja_istore_n daspectItem_115 rfl (by decide) (L2 := [(2, (0, 0)), (1, (0, (h 0 26))), (0, (2, ((0 : Nat) : Int)))]) rfl ?_
            exact ja_wk (fun q hq => by simp only [List.mem_cons, List.not_mem_nil, or_false] at hq; rcases hq with rfl | rfl <;> rfl) ((CUT _) 0 h44 g45 ⟨by decide, by decide⟩ ((Or.inr (by refine ⟨rfl, ?_, ?_, ?_, ?_⟩ <;> omega))) rfl)
        · have z81 := is1v k78_0 c81
          replace k78_0 := is1 k78_0 c81
          refine ja_aload_n daspectItem_84 rfl rfl ?_
          refine fa_aspectEach daspectItem_85 ?_
          refine ja_iload_n daspectItem_88 rfl rfl ?_
          refine ja_iconst daspectItem_89 ?_
          have g46 := gW_aspectEach g41 (h 0 26).toNat (x := 1) ⟨by decide, by decide⟩
          refine is_aspectEach ⟨by omega, by omega⟩ (by omega) daspectItem_90 ?_
          refine ja_aload_n daspectItem_91 rfl rfl ?_
          refine t_take (by decide) (show (0 : Nat) ≤ 8 by decide) daspectItem_92 g46  ?_ ?_
          · intro k92_0 g47
            replace k92_0 : ((h 0 7) + 1) < 900 := k92_0
            replace g47 : mo_G (ja_up (ja_up (ja_up (ja_up (ja_up (ja_up (ja_up (ja_up h 13 ((h 0 26).toNat) (h 0 7)) 14 ((h 0 26).toNat) 0) 15 ((h 0 26).toNat) 0) 0 7 ((h 0 7) + 1)) 0 26 ((h 0 26) + 1)) 0 76 (h 0 26)) 14 ((h 0 26).toNat) 1) 0 7 (((h 0 7) + 1) + 1)) := g47
            show mJ l D cA ad 13 cX12_aspectItem 3 (some .boolean) 95 [(1, (0, (h 0 26))), (0, (2, ((0 : Nat) : Int)))] [(0, 1)] (ja_up (ja_up (ja_up (ja_up (ja_up (ja_up (ja_up (ja_up h 13 ((h 0 26).toNat) (h 0 7)) 14 ((h 0 26).toNat) 0) 15 ((h 0 26).toNat) 0) 0 7 ((h 0 7) + 1)) 0 26 ((h 0 26) + 1)) 0 76 (h 0 26)) 14 ((h 0 26).toNat) 1) 0 7 (((h 0 7) + 1) + 1)) Q
            refine ja_if_eq 107 daspectItem_95 rfl ⟨by decide, by decide⟩ (fun c95 => absurd c95 (by omega)) (fun c95 => ?_)
            refine ja_aload_n daspectItem_98 rfl rfl ?_
            refine ja_bipush 29 daspectItem_99 rfl ?_
            refine t_word (by decide) (show (0 : Nat) ≤ 8 by decide) daspectItem_101 g47 ⟨by decide, by decide⟩ ?_ ?_
            · intro k101_0 g48
              replace k101_0 : (((h 0 7) + 1) + 1) < 900 ∧ (h 2 (((h 0 7) + 1) + 1).toNat) = 1 ∧ (h 5 (((h 0 7) + 1) + 1).toNat) = 29 := k101_0
              replace g48 : mo_G (ja_up (ja_up (ja_up (ja_up (ja_up (ja_up (ja_up (ja_up (ja_up h 13 ((h 0 26).toNat) (h 0 7)) 14 ((h 0 26).toNat) 0) 15 ((h 0 26).toNat) 0) 0 7 ((h 0 7) + 1)) 0 26 ((h 0 26) + 1)) 0 76 (h 0 26)) 14 ((h 0 26).toNat) 1) 0 7 (((h 0 7) + 1) + 1)) 0 7 ((((h 0 7) + 1) + 1) + 1)) := g48
              show mJ l D cA ad 13 cX12_aspectItem 3 (some .boolean) 104 [(1, (0, (h 0 26))), (0, (2, ((0 : Nat) : Int)))] [(0, 1)] (ja_up (ja_up (ja_up (ja_up (ja_up (ja_up (ja_up (ja_up (ja_up h 13 ((h 0 26).toNat) (h 0 7)) 14 ((h 0 26).toNat) 0) 15 ((h 0 26).toNat) 0) 0 7 ((h 0 7) + 1)) 0 26 ((h 0 26) + 1)) 0 76 (h 0 26)) 14 ((h 0 26).toNat) 1) 0 7 (((h 0 7) + 1) + 1)) 0 7 ((((h 0 7) + 1) + 1) + 1)) Q
              refine ja_if_ne 109 daspectItem_104 rfl ⟨by decide, by decide⟩ (fun c104 => ?_) (fun c104 => absurd c104 (by omega))
              refine ja_aload_n daspectItem_109 rfl rfl ?_
              refine ja_bipush 123 daspectItem_110 rfl ?_
              refine t_sign (by decide) (show (0 : Nat) ≤ 8 by decide) daspectItem_112 g48 ⟨by decide, by decide⟩ ?_ ?_
              · intro k112_0 g49
                replace k112_0 : ((((h 0 7) + 1) + 1) + 1) < 900 ∧ (h 2 ((((h 0 7) + 1) + 1) + 1).toNat) = 5 ∧ (h 5 ((((h 0 7) + 1) + 1) + 1).toNat) = 123 := k112_0
                replace g49 : mo_G (ja_up (ja_up (ja_up (ja_up (ja_up (ja_up (ja_up (ja_up (ja_up (ja_up h 13 ((h 0 26).toNat) (h 0 7)) 14 ((h 0 26).toNat) 0) 15 ((h 0 26).toNat) 0) 0 7 ((h 0 7) + 1)) 0 26 ((h 0 26) + 1)) 0 76 (h 0 26)) 14 ((h 0 26).toNat) 1) 0 7 (((h 0 7) + 1) + 1)) 0 7 ((((h 0 7) + 1) + 1) + 1)) 0 7 (((((h 0 7) + 1) + 1) + 1) + 1)) := g49
                show mJ l D cA ad 13 cX12_aspectItem 3 (some .boolean) 115 [(1, (0, (h 0 26))), (0, (2, ((0 : Nat) : Int)))] [(0, 1)] (ja_up (ja_up (ja_up (ja_up (ja_up (ja_up (ja_up (ja_up (ja_up (ja_up h 13 ((h 0 26).toNat) (h 0 7)) 14 ((h 0 26).toNat) 0) 15 ((h 0 26).toNat) 0) 0 7 ((h 0 7) + 1)) 0 26 ((h 0 26) + 1)) 0 76 (h 0 26)) 14 ((h 0 26).toNat) 1) 0 7 (((h 0 7) + 1) + 1)) 0 7 ((((h 0 7) + 1) + 1) + 1)) 0 7 (((((h 0 7) + 1) + 1) + 1) + 1)) Q
                refine ja_istore_n daspectItem_115 rfl (by decide) (L2 := [(2, (0, 1)), (1, (0, (h 0 26))), (0, (2, ((0 : Nat) : Int)))]) rfl ?_
                exact ja_wk (fun q hq => by simp only [List.mem_cons, List.not_mem_nil, or_false] at hq; rcases hq with rfl | rfl <;> rfl) ((CUT _) 1 (ja_up (ja_up (ja_up (ja_up (ja_up (ja_up (ja_up (ja_up (ja_up (ja_up h 13 ((h 0 26).toNat) (h 0 7)) 14 ((h 0 26).toNat) 0) 15 ((h 0 26).toNat) 0) 0 7 ((h 0 7) + 1)) 0 26 ((h 0 26) + 1)) 0 76 (h 0 26)) 14 ((h 0 26).toNat) 1) 0 7 (((h 0 7) + 1) + 1)) 0 7 ((((h 0 7) + 1) + 1) + 1)) 0 7 (((((h 0 7) + 1) + 1) + 1) + 1)) g49 ⟨by decide, by decide⟩ ((Or.inl ⟨rfl, ⟨_, _, _, it_keep p1 (by (repeat (first | exact ag_refl | refine ag_up rfl ?_))) (show it_nn (((((h 0 7) + 1) + 1) + 1) + 1) (h 0 113) (h 0 95) (h 0 68) (h 0 72) (h 0 31) (h 0 41) (h 0 64) (h 0 61) (h 0 18) (h 0 84) (h 0 87) (h 0 86) (h 0 85) (h 0 109) (h 0 66) from by unfold it_nn; omega) (it_F_eq (it_F_of p1) rfl rfl) (fun z => z) (fun _ _ _ z => z) (show (h 0 26) ≤ ((h 0 26) + 1) by omega)⟩, (show (h 0 7) < (((((h 0 7) + 1) + 1) + 1) + 1) by omega), (by (repeat (first | exact ag_refl | refine ag_up rfl ?_))), (show ((h 0 26) : Int) < ((h 0 26) + 1) by omega)⟩)) rfl)
              · intro h50 k112_1 g51
                replace k112_1 : 0 < (h50 0 8) ∧ (h50 0 1) = (h 0 1) ∧ (h50 0 118) = (h 0 118) ∧ (h50 0 127) = (h 0 127) := k112_1
                refine ja_istore_n daspectItem_115 rfl (by decide) (L2 := [(2, (0, 0)), (1, (0, (h 0 26))), (0, (2, ((0 : Nat) : Int)))]) rfl ?_
                exact ja_wk (fun q hq => by simp only [List.mem_cons, List.not_mem_nil, or_false] at hq; rcases hq with rfl | rfl <;> rfl) ((CUT _) 0 h50 g51 ⟨by decide, by decide⟩ ((Or.inr (by refine ⟨rfl, ?_, ?_, ?_, ?_⟩ <;> omega))) rfl)
            · intro h52 k101_1 g53
              replace k101_1 : 0 < (h52 0 8) ∧ (h52 0 1) = (h 0 1) ∧ (h52 0 118) = (h 0 118) ∧ (h52 0 127) = (h 0 127) := k101_1
              refine ja_if_ne 109 daspectItem_104 rfl ⟨by decide, by decide⟩ (fun c104 => absurd c104 (by omega)) (fun c104 => ?_)
              refine ja_iconst daspectItem_107 ?_
              refine ja_zreturn daspectItem_108 rfl (by omega) ?_
              exact mo_fin (by omega) rfl (k2 h52 (by omega) g53)
          · intro h54 k92_1 g55
            replace k92_1 : 0 < (h54 0 8) ∧ (h54 0 1) = (h 0 1) ∧ (h54 0 118) = (h 0 118) ∧ (h54 0 127) = (h 0 127) := k92_1
            refine ja_if_eq 107 daspectItem_95 rfl ⟨by decide, by decide⟩ (fun c95 => ?_) (fun c95 => absurd c95 (by omega))
            refine ja_iconst daspectItem_107 ?_
            refine ja_zreturn daspectItem_108 rfl (by omega) ?_
            exact mo_fin (by omega) rfl (k2 h54 (by omega) g55)
      · intro h56 k52_1 g57
        replace k52_1 : 0 < (h56 0 8) ∧ (h56 0 1) = (h 0 1) ∧ (h56 0 118) = (h 0 118) ∧ (h56 0 127) = (h 0 127) := k52_1
        refine ja_if_ne 60 daspectItem_55 rfl ⟨by decide, by decide⟩ (fun c55 => absurd c55 (by omega)) (fun c55 => ?_)
        refine ja_iconst daspectItem_58 ?_
        refine ja_zreturn daspectItem_59 rfl (by omega) ?_
        exact mo_fin (by omega) rfl (k2 h56 (by omega) g57)
    · refine ja_aload_n daspectItem_16 rfl rfl ?_
      refine ja_iconst daspectItem_17 ?_
      refine t_halt (by decide) (show (0 : Nat) ≤ 8 by decide) daspectItem_18 g ⟨by decide, by decide⟩ (show 1 ≤ 3 ∧ 3 ≤ 8 by omega) ?_
      intro h58 k18_0 g59
      refine ja_zreturn daspectItem_21 rfl (by omega) ?_
      exact mo_fin (by omega) rfl (k2 h58 (by omega) g59)
theorem t_aspectItem {ht st rg : Nat → Int} {d nL pc : Nat} {cc : ByteArray} {rt : Option FieldType} {L : List (Nat × ja_V)} {S : List ja_V} {h : ja_H} {Q : Option ja_V → ja_H → Prop} (hdd : 13 < d) (hwd : ja_wd S ≤ 8) (hd : decode cc pc = .ok (.invokevirtual 736, 3)) (g : mo_G h) (p1 : it h ht st rg) (k1 : ∀ (h' : ja_H), ((∃ ht st rg : Nat → Int, it h' ht st rg) ∧ (h 0 7) < (h' 0 7) ∧ mo_ag FKQ h h') → mo_G h' → mJ l D cA ad d cc nL rt (pc + 3) L ((0, 1) :: S) h' Q) (k2 : ∀ (h' : ja_H), (0 < (h' 0 8) ∧ (h' 0 1) = (h 0 1) ∧ (h' 0 118) = (h 0 118) ∧ (h' 0 127) = (h 0 127)) → mo_G h' → mJ l D cA ad d cc nL rt (pc + 3) L ((0, 0) :: S) h' Q) : mJ l D cA ad d cc nL rt pc L ((2, ((0 : Nat) : Int)) :: S) h Q :=
  mc_aspectItem hdd hwd hd (s_aspectItem g p1 k1 k2)
end
theorem ditem_0 : decode cX12_item 0 = .ok (.aload_n 0, 1) := by decide +kernel
theorem ditem_1 : decode cX12_item 1 = .ok (.bipush 10, 2) := by decide +kernel
theorem ditem_3 : decode cX12_item 3 = .ok (.invokevirtual 596, 3) := by decide +kernel
theorem ditem_6 : decode cX12_item 6 = .ok (.ifCond .eq 23, 3) := by decide +kernel
theorem ditem_9 : decode cX12_item 9 = .ok (.aload_n 0, 1) := by decide +kernel
theorem ditem_10 : decode cX12_item 10 = .ok (.invokevirtual 589, 3) := by decide +kernel
theorem ditem_13 : decode cX12_item 13 = .ok (.ifCond .eq 14, 3) := by decide +kernel
theorem ditem_16 : decode cX12_item 16 = .ok (.aload_n 0, 1) := by decide +kernel
theorem ditem_17 : decode cX12_item 17 = .ok (.invokevirtual 723, 3) := by decide +kernel
theorem ditem_20 : decode cX12_item 20 = .ok (.ifCond .eq 7, 3) := by decide +kernel
theorem ditem_23 : decode cX12_item 23 = .ok (.iconst 1, 1) := by decide +kernel
theorem ditem_24 : decode cX12_item 24 = .ok (.goto 4, 3) := by decide +kernel
theorem ditem_27 : decode cX12_item 27 = .ok (.iconst 0, 1) := by decide +kernel
theorem ditem_28 : decode cX12_item 28 = .ok (.ireturn, 1) := by decide +kernel
theorem ditem_29 : decode cX12_item 29 = .ok (.aload_n 0, 1) := by decide +kernel
theorem ditem_30 : decode cX12_item 30 = .ok (.bipush 23, 2) := by decide +kernel
theorem ditem_32 : decode cX12_item 32 = .ok (.invokevirtual 596, 3) := by decide +kernel
theorem ditem_35 : decode cX12_item 35 = .ok (.ifCond .eq 87, 3) := by decide +kernel
theorem ditem_38 : decode cX12_item 38 = .ok (.aload_n 0, 1) := by decide +kernel
theorem ditem_39 : decode cX12_item 39 = .ok (.getfield 677, 3) := by decide +kernel
theorem ditem_42 : decode cX12_item 42 = .ok (.ifCond .le 12, 3) := by decide +kernel
theorem ditem_45 : decode cX12_item 45 = .ok (.aload_n 0, 1) := by decide +kernel
theorem ditem_46 : decode cX12_item 46 = .ok (.iconst 4, 1) := by decide +kernel
theorem ditem_47 : decode cX12_item 47 = .ok (.aload_n 0, 1) := by decide +kernel
theorem ditem_48 : decode cX12_item 48 = .ok (.getfield 574, 3) := by decide +kernel
theorem ditem_51 : decode cX12_item 51 = .ok (.invokevirtual 719, 3) := by decide +kernel
theorem ditem_54 : decode cX12_item 54 = .ok (.aload_n 0, 1) := by decide +kernel
theorem ditem_55 : decode cX12_item 55 = .ok (.dup, 1) := by decide +kernel
theorem ditem_56 : decode cX12_item 56 = .ok (.getfield 677, 3) := by decide +kernel
theorem ditem_59 : decode cX12_item 59 = .ok (.iconst 1, 1) := by decide +kernel
theorem ditem_60 : decode cX12_item 60 = .ok (.iadd, 1) := by decide +kernel
theorem ditem_61 : decode cX12_item 61 = .ok (.putfield 677, 3) := by decide +kernel
theorem ditem_64 : decode cX12_item 64 = .ok (.aload_n 0, 1) := by decide +kernel
theorem ditem_65 : decode cX12_item 65 = .ok (.iconst 0, 1) := by decide +kernel
theorem ditem_66 : decode cX12_item 66 = .ok (.iconst 0, 1) := by decide +kernel
theorem ditem_67 : decode cX12_item 67 = .ok (.invokevirtual 726, 3) := by decide +kernel
theorem ditem_70 : decode cX12_item 70 = .ok (.aload_n 0, 1) := by decide +kernel
theorem ditem_71 : decode cX12_item 71 = .ok (.getfield 611, 3) := by decide +kernel
theorem ditem_74 : decode cX12_item 74 = .ok (.istore_n 1, 1) := by decide +kernel
theorem ditem_75 : decode cX12_item 75 = .ok (.aload_n 0, 1) := by decide +kernel
theorem ditem_76 : decode cX12_item 76 = .ok (.invokevirtual 589, 3) := by decide +kernel
theorem ditem_79 : decode cX12_item 79 = .ok (.ifCond .eq 10, 3) := by decide +kernel
theorem ditem_82 : decode cX12_item 82 = .ok (.aload_n 0, 1) := by decide +kernel
theorem ditem_83 : decode cX12_item 83 = .ok (.invokevirtual 729, 3) := by decide +kernel
theorem ditem_86 : decode cX12_item 86 = .ok (.ifCond .ne 5, 3) := by decide +kernel
theorem ditem_89 : decode cX12_item 89 = .ok (.iconst 0, 1) := by decide +kernel
theorem ditem_90 : decode cX12_item 90 = .ok (.ireturn, 1) := by decide +kernel
theorem ditem_91 : decode cX12_item 91 = .ok (.aload_n 0, 1) := by decide +kernel
theorem ditem_92 : decode cX12_item 92 = .ok (.bipush 26, 2) := by decide +kernel
theorem ditem_94 : decode cX12_item 94 = .ok (.iconst 0, 1) := by decide +kernel
theorem ditem_95 : decode cX12_item 95 = .ok (.iconst 0, 1) := by decide +kernel
theorem ditem_96 : decode cX12_item 96 = .ok (.invokevirtual 732, 3) := by decide +kernel
theorem ditem_99 : decode cX12_item 99 = .ok (.istore_n 2, 1) := by decide +kernel
theorem ditem_100 : decode cX12_item 100 = .ok (.aload_n 0, 1) := by decide +kernel
theorem ditem_101 : decode cX12_item 101 = .ok (.aload_n 0, 1) := by decide +kernel
theorem ditem_102 : decode cX12_item 102 = .ok (.getfield 677, 3) := by decide +kernel
theorem ditem_105 : decode cX12_item 105 = .ok (.iconst 1, 1) := by decide +kernel
theorem ditem_106 : decode cX12_item 106 = .ok (.if_icmp .ne 7, 3) := by decide +kernel
theorem ditem_109 : decode cX12_item 109 = .ok (.iload_n 1, 1) := by decide +kernel
theorem ditem_110 : decode cX12_item 110 = .ok (.goto 7, 3) := by decide +kernel
theorem ditem_113 : decode cX12_item 113 = .ok (.aload_n 0, 1) := by decide +kernel
theorem ditem_114 : decode cX12_item 114 = .ok (.getfield 680, 3) := by decide +kernel
theorem ditem_117 : decode cX12_item 117 = .ok (.putfield 680, 3) := by decide +kernel
theorem ditem_120 : decode cX12_item 120 = .ok (.iconst 1, 1) := by decide +kernel
theorem ditem_121 : decode cX12_item 121 = .ok (.ireturn, 1) := by decide +kernel
theorem ditem_122 : decode cX12_item 122 = .ok (.aload_n 0, 1) := by decide +kernel
theorem ditem_123 : decode cX12_item 123 = .ok (.iconst 4, 1) := by decide +kernel
theorem ditem_124 : decode cX12_item 124 = .ok (.invokevirtual 596, 3) := by decide +kernel
theorem ditem_127 : decode cX12_item 127 = .ok (.ifCond .eq 23, 3) := by decide +kernel
theorem ditem_130 : decode cX12_item 130 = .ok (.aload_n 0, 1) := by decide +kernel
theorem ditem_131 : decode cX12_item 131 = .ok (.invokevirtual 589, 3) := by decide +kernel
theorem ditem_134 : decode cX12_item 134 = .ok (.ifCond .eq 14, 3) := by decide +kernel
theorem ditem_137 : decode cX12_item 137 = .ok (.aload_n 0, 1) := by decide +kernel
theorem ditem_138 : decode cX12_item 138 = .ok (.invokevirtual 736, 3) := by decide +kernel
theorem ditem_141 : decode cX12_item 141 = .ok (.ifCond .eq 7, 3) := by decide +kernel
theorem ditem_144 : decode cX12_item 144 = .ok (.iconst 1, 1) := by decide +kernel
theorem ditem_145 : decode cX12_item 145 = .ok (.goto 4, 3) := by decide +kernel
theorem ditem_148 : decode cX12_item 148 = .ok (.iconst 0, 1) := by decide +kernel
theorem ditem_149 : decode cX12_item 149 = .ok (.ireturn, 1) := by decide +kernel
theorem ditem_150 : decode cX12_item 150 = .ok (.aload_n 0, 1) := by decide +kernel
theorem ditem_151 : decode cX12_item 151 = .ok (.bipush 31, 2) := by decide +kernel
theorem ditem_153 : decode cX12_item 153 = .ok (.invokevirtual 596, 3) := by decide +kernel
theorem ditem_156 : decode cX12_item 156 = .ok (.ifCond .eq 107, 3) := by decide +kernel
theorem ditem_159 : decode cX12_item 159 = .ok (.aload_n 0, 1) := by decide +kernel
theorem ditem_160 : decode cX12_item 160 = .ok (.invokevirtual 589, 3) := by decide +kernel
theorem ditem_163 : decode cX12_item 163 = .ok (.istore_n 1, 1) := by decide +kernel
theorem ditem_164 : decode cX12_item 164 = .ok (.iload_n 1, 1) := by decide +kernel
theorem ditem_165 : decode cX12_item 165 = .ok (.istore_n 2, 1) := by decide +kernel
theorem ditem_166 : decode cX12_item 166 = .ok (.iload_n 2, 1) := by decide +kernel
theorem ditem_167 : decode cX12_item 167 = .ok (.ifCond .eq 77, 3) := by decide +kernel
theorem ditem_170 : decode cX12_item 170 = .ok (.aload_n 0, 1) := by decide +kernel
theorem ditem_171 : decode cX12_item 171 = .ok (.getfield 137, 3) := by decide +kernel
theorem ditem_174 : decode cX12_item 174 = .ok (.aload_n 0, 1) := by decide +kernel
theorem ditem_175 : decode cX12_item 175 = .ok (.getfield 674, 3) := by decide +kernel
theorem ditem_178 : decode cX12_item 178 = .ok (.aload_n 0, 1) := by decide +kernel
theorem ditem_179 : decode cX12_item 179 = .ok (.getfield 574, 3) := by decide +kernel
theorem ditem_182 : decode cX12_item 182 = .ok (.iastore, 1) := by decide +kernel
theorem ditem_183 : decode cX12_item 183 = .ok (.aload_n 0, 1) := by decide +kernel
theorem ditem_184 : decode cX12_item 184 = .ok (.dup, 1) := by decide +kernel
theorem ditem_185 : decode cX12_item 185 = .ok (.getfield 674, 3) := by decide +kernel
theorem ditem_188 : decode cX12_item 188 = .ok (.iconst 1, 1) := by decide +kernel
theorem ditem_189 : decode cX12_item 189 = .ok (.iadd, 1) := by decide +kernel
theorem ditem_190 : decode cX12_item 190 = .ok (.putfield 674, 3) := by decide +kernel
theorem ditem_193 : decode cX12_item 193 = .ok (.aload_n 0, 1) := by decide +kernel
theorem ditem_194 : decode cX12_item 194 = .ok (.invokevirtual 739, 3) := by decide +kernel
theorem ditem_197 : decode cX12_item 197 = .ok (.istore_n 1, 1) := by decide +kernel
theorem ditem_198 : decode cX12_item 198 = .ok (.iload_n 1, 1) := by decide +kernel
theorem ditem_199 : decode cX12_item 199 = .ok (.ifCond .eq 23, 3) := by decide +kernel
theorem ditem_202 : decode cX12_item 202 = .ok (.aload_n 0, 1) := by decide +kernel
theorem ditem_203 : decode cX12_item 203 = .ok (.bipush 44, 2) := by decide +kernel
theorem ditem_205 : decode cX12_item 205 = .ok (.invokevirtual 586, 3) := by decide +kernel
theorem ditem_208 : decode cX12_item 208 = .ok (.ifCond .eq 14, 3) := by decide +kernel
theorem ditem_211 : decode cX12_item 211 = .ok (.aload_n 0, 1) := by decide +kernel
theorem ditem_212 : decode cX12_item 212 = .ok (.invokevirtual 589, 3) := by decide +kernel
theorem ditem_215 : decode cX12_item 215 = .ok (.ifCond .eq 7, 3) := by decide +kernel
theorem ditem_218 : decode cX12_item 218 = .ok (.iconst 1, 1) := by decide +kernel
theorem ditem_219 : decode cX12_item 219 = .ok (.goto 4, 3) := by decide +kernel
theorem ditem_222 : decode cX12_item 222 = .ok (.iconst 0, 1) := by decide +kernel
theorem ditem_223 : decode cX12_item 223 = .ok (.istore_n 2, 1) := by decide +kernel
theorem ditem_224 : decode cX12_item 224 = .ok (.iload_n 1, 1) := by decide +kernel
theorem ditem_225 : decode cX12_item 225 = .ok (.ifCond .eq 14, 3) := by decide +kernel
theorem ditem_228 : decode cX12_item 228 = .ok (.aload_n 0, 1) := by decide +kernel
theorem ditem_229 : decode cX12_item 229 = .ok (.getfield 577, 3) := by decide +kernel
theorem ditem_232 : decode cX12_item 232 = .ok (.ifCond .ne 7, 3) := by decide +kernel
theorem ditem_235 : decode cX12_item 235 = .ok (.iconst 1, 1) := by decide +kernel
theorem ditem_236 : decode cX12_item 236 = .ok (.goto 4, 3) := by decide +kernel
theorem ditem_239 : decode cX12_item 239 = .ok (.iconst 0, 1) := by decide +kernel
theorem ditem_240 : decode cX12_item 240 = .ok (.istore_n 1, 1) := by decide +kernel
theorem ditem_241 : decode cX12_item 241 = .ok (.goto (-75), 3) := by decide +kernel
theorem ditem_244 : decode cX12_item 244 = .ok (.iload_n 1, 1) := by decide +kernel
theorem ditem_245 : decode cX12_item 245 = .ok (.ifCond .eq 16, 3) := by decide +kernel
theorem ditem_248 : decode cX12_item 248 = .ok (.aload_n 0, 1) := by decide +kernel
theorem ditem_249 : decode cX12_item 249 = .ok (.bipush 59, 2) := by decide +kernel
theorem ditem_251 : decode cX12_item 251 = .ok (.invokevirtual 742, 3) := by decide +kernel
theorem ditem_254 : decode cX12_item 254 = .ok (.ifCond .eq 7, 3) := by decide +kernel
theorem ditem_257 : decode cX12_item 257 = .ok (.iconst 1, 1) := by decide +kernel
theorem ditem_258 : decode cX12_item 258 = .ok (.goto 4, 3) := by decide +kernel
theorem ditem_261 : decode cX12_item 261 = .ok (.iconst 0, 1) := by decide +kernel
theorem ditem_262 : decode cX12_item 262 = .ok (.ireturn, 1) := by decide +kernel
theorem ditem_263 : decode cX12_item 263 = .ok (.aload_n 0, 1) := by decide +kernel
theorem ditem_264 : decode cX12_item 264 = .ok (.invokevirtual 593, 3) := by decide +kernel
theorem ditem_267 : decode cX12_item 267 = .ok (.ireturn, 1) := by decide +kernel
section
variable {l : Launch} {D : va_G} {cA : Nat → ClassId} {ad : Nat → Nat}
theorem s_item {ht st rg : Nat → Int} {h : ja_H} {Q : Option ja_V → ja_H → Prop} (g : mo_G h) (p1 : it h ht st rg) (k1 : ∀ (h' : ja_H), ((∃ ht st rg : Nat → Int, it h' ht st rg) ∧ (h 0 7) < (h' 0 7) ∧ mo_ag FKQ h h') → mo_G h' → Q (some (0, 1)) h') (k2 : ∀ (h' : ja_H), (0 < (h' 0 8) ∧ (h' 0 1) = (h 0 1) ∧ (h' 0 118) = (h 0 118) ∧ (h' 0 127) = (h 0 127)) → mo_G h' → Q (some (0, 0)) h') : mM_item l D cA ad  h Q := by
  show mJ l D cA ad 14 cX12_item 3 (some .boolean) 0 [(0, (2, ((0 : Nat) : Int)))] [] h Q
  have kn_at := gF_at g
  have kn_mains := gF_mains g
  have kn_words := gF_words g
  have CUT : ∀ n : Nat, (∀ (x1 x2 : Int) (u : ja_H), mo_G u → (-2147483648 ≤ x1 ∧ x1 ≤ 2147483647) → (-2147483648 ≤ x2 ∧ x2 ≤ 2147483647) → (lo_O h u x1 x2) → ((if x2 = 1 then (1001 - (u 0 7)).toNat else 0)) = n → mJ l D cA ad 14 cX12_item 3 (some .boolean) 166 [(0, (2, ((0 : Nat) : Int))), (1, (0, x1)), (2, (0, x2))] [] u Q) := by
    intro n
    induction n using Nat.strongRecOn with
    | _ n ih =>
      skip
      · intro x1 x2 u gu qx1 qx2 iv hm
        subst hm
        have ku_at := gF_at gu
        have ku_mains := gF_mains gu
        have ku_words := gF_words gu
        have kua := gF_at gu
        have kub := gF_bad gu
        refine ja_iload_n ditem_166 rfl rfl ?_
        refine ja_if_eq 244 ditem_167 rfl ⟨by omega, by omega⟩ (fun c167 => ?_) (fun c167 => ?_)
        · refine ja_iload_n ditem_244 rfl rfl ?_
          refine ja_if_eq 261 ditem_245 rfl ⟨by omega, by omega⟩ (fun c245 => ?_) (fun c245 => ?_)
          · rcases iv with iv | iv
            case inl => exact absurd iv.1 (by omega)
            refine ja_iconst ditem_261 ?_
            refine ja_zreturn ditem_262 rfl (by omega) ?_
            exact mo_fin (by omega) rfl (k2 u (by omega) gu)
          · rcases iv with ⟨ex, ⟨ht1, st1, rg1, hit⟩, lat, lag, las⟩ | iv
            case inr => exact absurd iv.1 (by omega)
            obtain ⟨y1, y2, y3, y4, y5, y6, y7, y8, y9, y10, y11, y12, y13, y14⟩ := hit.2.2.1
            have l_size : (u 0 1) = (h 0 1) := lag 0 1 rfl
            have l_compiled : (u 0 118) = (h 0 118) := lag 0 118 rfl
            have l_started : (u 0 127) = (h 0 127) := lag 0 127 rfl
            refine ja_aload_n ditem_248 rfl rfl ?_
            refine ja_bipush 59 ditem_249 rfl ?_
            refine t_sign (by decide) (show (0 : Nat) ≤ 8 by decide) ditem_251 gu ⟨by decide, by decide⟩ ?_ ?_
            · intro k251_0 g1
              replace k251_0 : (u 0 7) < 900 ∧ (u 2 (u 0 7).toNat) = 5 ∧ (u 5 (u 0 7).toNat) = 59 := k251_0
              replace g1 : mo_G (ja_up u 0 7 ((u 0 7) + 1)) := g1
              show mJ l D cA ad 14 cX12_item 3 (some .boolean) 254 [(0, (2, ((0 : Nat) : Int))), (1, (0, x1)), (2, (0, x2))] [(0, 1)] (ja_up u 0 7 ((u 0 7) + 1)) Q
              refine ja_if_eq 261 ditem_254 rfl ⟨by decide, by decide⟩ (fun c254 => absurd c254 (by omega)) (fun c254 => ?_)
              refine ja_iconst ditem_257 ?_
              refine ja_goto 262 ditem_258 rfl ?_
              refine ja_zreturn ditem_262 rfl (by omega) ?_
              exact mo_fin (by omega) rfl (k1 (ja_up u 0 7 ((u 0 7) + 1)) (⟨⟨_, _, _, it_keep hit (by (repeat (first | exact ag_refl | refine ag_up rfl ?_))) (show it_nn ((u 0 7) + 1) (u 0 113) (u 0 95) (u 0 68) (u 0 72) (u 0 31) (u 0 41) (u 0 64) (u 0 61) (u 0 18) (u 0 84) (u 0 87) (u 0 86) (u 0 85) (u 0 109) (u 0 66) from by unfold it_nn; omega) (it_F_eq (it_F_of hit) rfl rfl) (fun z => z) (fun _ _ _ z => z) (Int.le_refl _)⟩, (show (h 0 7) < ((u 0 7) + 1) by omega), ag_trans lag (by (repeat (first | exact ag_refl | refine ag_up rfl ?_)))⟩) g1)
            · intro h2 k251_1 g3
              refine ja_if_eq 261 ditem_254 rfl ⟨by decide, by decide⟩ (fun c254 => ?_) (fun c254 => absurd c254 (by omega))
              rcases iv with iv | iv
              case inl => exact absurd iv.1 (by omega)
              refine ja_iconst ditem_261 ?_
              refine ja_zreturn ditem_262 rfl (by omega) ?_
              exact mo_fin (by omega) rfl (k2 h2 (by omega) g3)
        · rcases iv with ⟨ex, ⟨ht1, st1, rg1, hit⟩, lat, lag, las⟩ | iv
          case inr => exact absurd iv.2.1 (by omega)
          obtain ⟨y1, y2, y3, y4, y5, y6, y7, y8, y9, y10, y11, y12, y13, y14⟩ := hit.2.2.1
          have l_size : (u 0 1) = (h 0 1) := lag 0 1 rfl
          have l_compiled : (u 0 118) = (h 0 118) := lag 0 118 rfl
          have l_started : (u 0 127) = (h 0 127) := lag 0 127 rfl
          refine ja_aload_n ditem_170 rfl rfl ?_
          refine fa_orderName ditem_171 ?_
          refine ja_aload_n ditem_174 rfl rfl ?_
          refine fg_orders (v := u 0 64) rfl ditem_175 ?_
          have f4 := gF_orders gu
          refine ja_aload_n ditem_178 rfl rfl ?_
          refine fg_at (v := u 0 7) rfl ditem_179 ?_
          have f5 := gF_at gu
          have g6 := gW_orderName gu (u 0 64).toNat (x := u 0 7) ⟨by omega, by omega⟩
          refine is_orderName ⟨by omega, by omega⟩ ditem_182 ?_
          refine ja_aload_n ditem_183 rfl rfl ?_
          refine ja_dup ditem_184 (by decide) ?_
          refine fg_orders (v := u 0 64) rfl ditem_185 ?_
          refine ja_iconst ditem_188 ?_
          refine ja_iadd ditem_189 ?_
          have g7 := gP_orders g6 (x := (u 0 64) + 1) ⟨by omega, by omega⟩
          refine fp_orders ditem_190 ?_
          refine ja_aload_n ditem_193 rfl rfl ?_
          refine t_name (by decide) (show (0 : Nat) ≤ 8 by decide) ditem_194 g7  ?_ ?_
          · intro k194_0 g8
            replace k194_0 : (u 0 7) < 900 ∧ (u 2 (u 0 7).toNat) = 2 := k194_0
            replace g8 : mo_G (ja_up (ja_up (ja_up u 43 ((u 0 64).toNat) (u 0 7)) 0 64 ((u 0 64) + 1)) 0 7 ((u 0 7) + 1)) := g8
            show mJ l D cA ad 14 cX12_item 3 (some .boolean) 197 [(0, (2, ((0 : Nat) : Int))), (1, (0, x1)), (2, (0, x2))] [(0, 1)] (ja_up (ja_up (ja_up u 43 ((u 0 64).toNat) (u 0 7)) 0 64 ((u 0 64) + 1)) 0 7 ((u 0 7) + 1)) Q
            refine ja_istore_n ditem_197 rfl (by decide) (L2 := [(1, (0, 1)), (0, (2, ((0 : Nat) : Int))), (2, (0, x2))]) rfl ?_
            refine ja_iload_n ditem_198 rfl rfl ?_
            refine ja_if_eq 222 ditem_199 rfl ⟨by decide, by decide⟩ (fun c199 => absurd c199 (by omega)) (fun c199 => ?_)
            refine ja_aload_n ditem_202 rfl rfl ?_
            refine ja_bipush 44 ditem_203 rfl ?_
            refine t_isSign (by decide) (show (0 : Nat) ≤ 8 by decide) ditem_205 g8 ⟨by decide, by decide⟩ ?_
            intro w9 k205_0
            replace k205_0 : (w9 = 1 ∧ (u 2 ((u 0 7) + 1).toNat) = 5 ∧ (u 5 ((u 0 7) + 1).toNat) = 44) ∨ (w9 = 0 ∧ ¬ ((u 2 ((u 0 7) + 1).toNat) = 5 ∧ (u 5 ((u 0 7) + 1).toNat) = 44)) := k205_0
            refine ja_if_eq 222 ditem_208 rfl ⟨by omega, by omega⟩ (fun c208 => ?_) (fun c208 => ?_)
            · replace k205_0 := is0 k205_0 c208
              refine ja_iconst ditem_222 ?_
              refine ja_istore_n ditem_223 rfl (by decide) (L2 := [(2, (0, 0)), (1, (0, 1)), (0, (2, ((0 : Nat) : Int)))]) rfl ?_
              refine ja_iload_n ditem_224 rfl rfl ?_
              refine ja_if_eq 239 ditem_225 rfl ⟨by decide, by decide⟩ (fun c225 => absurd c225 (by omega)) (fun c225 => ?_)
              refine ja_aload_n ditem_228 rfl rfl ?_
              refine fg_bad (v := u 0 8) rfl ditem_229 ?_
              have f10 := gF_bad gu
              refine ja_if_ne 239 ditem_232 rfl ⟨by omega, by omega⟩ (fun c232 => ?_) (fun c232 => ?_)
              · refine ja_iconst ditem_239 ?_
                refine ja_istore_n ditem_240 rfl (by decide) (L2 := [(1, (0, 0)), (2, (0, 0)), (0, (2, ((0 : Nat) : Int)))]) rfl ?_
                refine ja_goto 166 ditem_241 rfl ?_
                exact ja_wk (fun q hq => by simp only [List.mem_cons, List.not_mem_nil, or_false] at hq; rcases hq with rfl | rfl | rfl <;> rfl) ((ih ((if 0 = 1 then (1001 - ((u 0 7) + 1)).toNat else 0)) (by (repeat' split) <;> omega)) 0 0 (ja_up (ja_up (ja_up u 43 ((u 0 64).toNat) (u 0 7)) 0 64 ((u 0 64) + 1)) 0 7 ((u 0 7) + 1)) g8 ⟨by decide, by decide⟩ ⟨by decide, by decide⟩ ((Or.inr (by refine ⟨rfl, (by first | rfl | (exfalso; omega)), ?_, ?_, ?_, ?_⟩ <;> omega))) rfl)
              · refine ja_iconst ditem_235 ?_
                refine ja_goto 240 ditem_236 rfl ?_
                refine ja_istore_n ditem_240 rfl (by decide) (L2 := [(1, (0, 1)), (2, (0, 0)), (0, (2, ((0 : Nat) : Int)))]) rfl ?_
                refine ja_goto 166 ditem_241 rfl ?_
                exact ja_wk (fun q hq => by simp only [List.mem_cons, List.not_mem_nil, or_false] at hq; rcases hq with rfl | rfl | rfl <;> rfl) ((ih ((if 0 = 1 then (1001 - ((u 0 7) + 1)).toNat else 0)) (by (repeat' split) <;> omega)) 1 0 (ja_up (ja_up (ja_up u 43 ((u 0 64).toNat) (u 0 7)) 0 64 ((u 0 64) + 1)) 0 7 ((u 0 7) + 1)) g8 ⟨by decide, by decide⟩ ⟨by decide, by decide⟩ ((by first | (exfalso; omega) | exact (Or.inl ⟨rfl, ⟨_, _, _, it_keep hit (by (repeat (first | exact ag_refl | refine ag_up rfl ?_))) (show it_nn ((u 0 7) + 1) (u 0 113) (u 0 95) (u 0 68) (u 0 72) (u 0 31) (u 0 41) ((u 0 64) + 1) (u 0 61) (u 0 18) (u 0 84) (u 0 87) (u 0 86) (u 0 85) (u 0 109) (u 0 66) from by unfold it_nn; omega) (it_F_eq (it_F_of hit) rfl rfl) (fun z => z) (fun _ _ _ z => z) (Int.le_refl _)⟩, (show (h 0 7) < ((u 0 7) + 1) by omega), ag_trans lag (by (repeat (first | exact ag_refl | refine ag_up rfl ?_))), (by exact Or.inl rfl)⟩))) rfl)
            · have z208 := is1v k205_0 c208
              replace k205_0 := is1 k205_0 c208
              refine ja_aload_n ditem_211 rfl rfl ?_
              refine t_take (by decide) (show (0 : Nat) ≤ 8 by decide) ditem_212 g8  ?_ ?_
              · intro k212_0 g11
                replace k212_0 : ((u 0 7) + 1) < 900 := k212_0
                replace g11 : mo_G (ja_up (ja_up (ja_up (ja_up u 43 ((u 0 64).toNat) (u 0 7)) 0 64 ((u 0 64) + 1)) 0 7 ((u 0 7) + 1)) 0 7 (((u 0 7) + 1) + 1)) := g11
                show mJ l D cA ad 14 cX12_item 3 (some .boolean) 215 [(1, (0, 1)), (0, (2, ((0 : Nat) : Int))), (2, (0, x2))] [(0, 1)] (ja_up (ja_up (ja_up (ja_up u 43 ((u 0 64).toNat) (u 0 7)) 0 64 ((u 0 64) + 1)) 0 7 ((u 0 7) + 1)) 0 7 (((u 0 7) + 1) + 1)) Q
                refine ja_if_eq 222 ditem_215 rfl ⟨by decide, by decide⟩ (fun c215 => absurd c215 (by omega)) (fun c215 => ?_)
                refine ja_iconst ditem_218 ?_
                refine ja_goto 223 ditem_219 rfl ?_
                refine ja_istore_n ditem_223 rfl (by decide) (L2 := [(2, (0, 1)), (1, (0, 1)), (0, (2, ((0 : Nat) : Int)))]) rfl ?_
                refine ja_iload_n ditem_224 rfl rfl ?_
                refine ja_if_eq 239 ditem_225 rfl ⟨by decide, by decide⟩ (fun c225 => absurd c225 (by omega)) (fun c225 => ?_)
                refine ja_aload_n ditem_228 rfl rfl ?_
                refine fg_bad (v := u 0 8) rfl ditem_229 ?_
                have f12 := gF_bad gu
                refine ja_if_ne 239 ditem_232 rfl ⟨by omega, by omega⟩ (fun c232 => ?_) (fun c232 => ?_)
                · refine ja_iconst ditem_239 ?_
                  refine ja_istore_n ditem_240 rfl (by decide) (L2 := [(1, (0, 0)), (2, (0, 1)), (0, (2, ((0 : Nat) : Int)))]) rfl ?_
                  refine ja_goto 166 ditem_241 rfl ?_
                  exact ja_wk (fun q hq => by simp only [List.mem_cons, List.not_mem_nil, or_false] at hq; rcases hq with rfl | rfl | rfl <;> rfl) ((ih ((if 1 = 1 then (1001 - (((u 0 7) + 1) + 1)).toNat else 0)) (by (repeat' split) <;> omega)) 0 1 (ja_up (ja_up (ja_up (ja_up u 43 ((u 0 64).toNat) (u 0 7)) 0 64 ((u 0 64) + 1)) 0 7 ((u 0 7) + 1)) 0 7 (((u 0 7) + 1) + 1)) g11 ⟨by decide, by decide⟩ ⟨by decide, by decide⟩ ((Or.inr (by refine ⟨rfl, (by first | rfl | (exfalso; omega)), ?_, ?_, ?_, ?_⟩ <;> omega))) rfl)
                · refine ja_iconst ditem_235 ?_
                  refine ja_goto 240 ditem_236 rfl ?_
                  refine ja_istore_n ditem_240 rfl (by decide) (L2 := [(1, (0, 1)), (2, (0, 1)), (0, (2, ((0 : Nat) : Int)))]) rfl ?_
                  refine ja_goto 166 ditem_241 rfl ?_
                  exact ja_wk (fun q hq => by simp only [List.mem_cons, List.not_mem_nil, or_false] at hq; rcases hq with rfl | rfl | rfl <;> rfl) ((ih ((if 1 = 1 then (1001 - (((u 0 7) + 1) + 1)).toNat else 0)) (by (repeat' split) <;> omega)) 1 1 (ja_up (ja_up (ja_up (ja_up u 43 ((u 0 64).toNat) (u 0 7)) 0 64 ((u 0 64) + 1)) 0 7 ((u 0 7) + 1)) 0 7 (((u 0 7) + 1) + 1)) g11 ⟨by decide, by decide⟩ ⟨by decide, by decide⟩ ((by first | (exfalso; omega) | exact (Or.inl ⟨rfl, ⟨_, _, _, it_keep hit (by (repeat (first | exact ag_refl | refine ag_up rfl ?_))) (show it_nn (((u 0 7) + 1) + 1) (u 0 113) (u 0 95) (u 0 68) (u 0 72) (u 0 31) (u 0 41) ((u 0 64) + 1) (u 0 61) (u 0 18) (u 0 84) (u 0 87) (u 0 86) (u 0 85) (u 0 109) (u 0 66) from by unfold it_nn; omega) (it_F_eq (it_F_of hit) rfl rfl) (fun z => z) (fun _ _ _ z => z) (Int.le_refl _)⟩, (show (h 0 7) < (((u 0 7) + 1) + 1) by omega), ag_trans lag (by (repeat (first | exact ag_refl | refine ag_up rfl ?_))), (by exact Or.inr ⟨rfl, (show (((u 0 64) + 1) : Int) < (((u 0 7) + 1) + 1) by omega)⟩)⟩))) rfl)
              · intro h13 k212_1 g14
                replace k212_1 : 0 < (h13 0 8) ∧ (h13 0 1) = (u 0 1) ∧ (h13 0 118) = (u 0 118) ∧ (h13 0 127) = (u 0 127) := k212_1
                refine ja_if_eq 222 ditem_215 rfl ⟨by decide, by decide⟩ (fun c215 => ?_) (fun c215 => absurd c215 (by omega))
                refine ja_iconst ditem_222 ?_
                refine ja_istore_n ditem_223 rfl (by decide) (L2 := [(2, (0, 0)), (1, (0, 1)), (0, (2, ((0 : Nat) : Int)))]) rfl ?_
                refine ja_iload_n ditem_224 rfl rfl ?_
                refine ja_if_eq 239 ditem_225 rfl ⟨by decide, by decide⟩ (fun c225 => absurd c225 (by omega)) (fun c225 => ?_)
                refine ja_aload_n ditem_228 rfl rfl ?_
                refine fg_bad (v := h13 0 8) rfl ditem_229 ?_
                have f15 := gF_bad g14
                refine ja_if_ne 239 ditem_232 rfl ⟨by omega, by omega⟩ (fun c232 => ?_) (fun c232 => ?_)
                · refine ja_iconst ditem_239 ?_
                  refine ja_istore_n ditem_240 rfl (by decide) (L2 := [(1, (0, 0)), (2, (0, 0)), (0, (2, ((0 : Nat) : Int)))]) rfl ?_
                  refine ja_goto 166 ditem_241 rfl ?_
                  exact ja_wk (fun q hq => by simp only [List.mem_cons, List.not_mem_nil, or_false] at hq; rcases hq with rfl | rfl | rfl <;> rfl) ((ih ((if 0 = 1 then (1001 - (h13 0 7)).toNat else 0)) (by (repeat' split) <;> omega)) 0 0 h13 g14 ⟨by decide, by decide⟩ ⟨by decide, by decide⟩ ((Or.inr (by refine ⟨rfl, (by first | rfl | (exfalso; omega)), ?_, ?_, ?_, ?_⟩ <;> omega))) rfl)
                · refine ja_iconst ditem_235 ?_
                  refine ja_goto 240 ditem_236 rfl ?_
                  refine ja_istore_n ditem_240 rfl (by decide) (L2 := [(1, (0, 1)), (2, (0, 0)), (0, (2, ((0 : Nat) : Int)))]) rfl ?_
                  refine ja_goto 166 ditem_241 rfl ?_
                  exact ja_wk (fun q hq => by simp only [List.mem_cons, List.not_mem_nil, or_false] at hq; rcases hq with rfl | rfl | rfl <;> rfl) ((ih ((if 0 = 1 then (1001 - (h13 0 7)).toNat else 0)) (by (repeat' split) <;> omega)) 1 0 h13 g14 ⟨by decide, by decide⟩ ⟨by decide, by decide⟩ ((by first | (exfalso; omega) | exact (Or.inl ⟨rfl, ⟨_, _, _, it_keep hit (by (repeat (first | exact ag_refl | refine ag_up rfl ?_))) (show it_nn (h13 0 7) (h13 0 113) (h13 0 95) (h13 0 68) (h13 0 72) (h13 0 31) (h13 0 41) (h13 0 64) (h13 0 61) (h13 0 18) (h13 0 84) (h13 0 87) (h13 0 86) (h13 0 85) (h13 0 109) (h13 0 66) from by unfold it_nn; omega) (it_F_eq (it_F_of hit) rfl rfl) (fun z => z) (fun _ _ _ z => z) (Int.le_refl _)⟩, (show (h 0 7) < (h13 0 7) by omega), ag_trans lag (by (repeat (first | exact ag_refl | refine ag_up rfl ?_))), (by exact Or.inl rfl)⟩))) rfl)
          · intro h16 k194_1 g17
            replace k194_1 : 0 < (h16 0 8) ∧ (h16 0 1) = (u 0 1) ∧ (h16 0 118) = (u 0 118) ∧ (h16 0 127) = (u 0 127) := k194_1
            refine ja_istore_n ditem_197 rfl (by decide) (L2 := [(1, (0, 0)), (0, (2, ((0 : Nat) : Int))), (2, (0, x2))]) rfl ?_
            refine ja_iload_n ditem_198 rfl rfl ?_
            refine ja_if_eq 222 ditem_199 rfl ⟨by decide, by decide⟩ (fun c199 => ?_) (fun c199 => absurd c199 (by omega))
            refine ja_iconst ditem_222 ?_
            refine ja_istore_n ditem_223 rfl (by decide) (L2 := [(2, (0, 0)), (1, (0, 0)), (0, (2, ((0 : Nat) : Int)))]) rfl ?_
            refine ja_iload_n ditem_224 rfl rfl ?_
            refine ja_if_eq 239 ditem_225 rfl ⟨by decide, by decide⟩ (fun c225 => ?_) (fun c225 => absurd c225 (by omega))
            refine ja_iconst ditem_239 ?_
            refine ja_istore_n ditem_240 rfl (by decide) (L2 := [(1, (0, 0)), (2, (0, 0)), (0, (2, ((0 : Nat) : Int)))]) rfl ?_
            refine ja_goto 166 ditem_241 rfl ?_
            exact ja_wk (fun q hq => by simp only [List.mem_cons, List.not_mem_nil, or_false] at hq; rcases hq with rfl | rfl | rfl <;> rfl) ((ih ((if 0 = 1 then (1001 - (h16 0 7)).toNat else 0)) (by (repeat' split) <;> omega)) 0 0 h16 g17 ⟨by decide, by decide⟩ ⟨by decide, by decide⟩ ((Or.inr (by refine ⟨rfl, (by first | rfl | (exfalso; omega)), ?_, ?_, ?_, ?_⟩ <;> omega))) rfl)
  obtain ⟨z1, z2, z3, z4, z5, z6, z7, z8, z9, z10, z11, z12, z13, z14⟩ := p1.2.2.1
  refine ja_aload_n ditem_0 rfl rfl ?_
  refine ja_bipush 10 ditem_1 rfl ?_
  refine t_isWord (by decide) (show (0 : Nat) ≤ 8 by decide) ditem_3 g ⟨by decide, by decide⟩ ?_
  intro w18 k3_0
  refine ja_if_eq 29 ditem_6 rfl ⟨by omega, by omega⟩ (fun c6 => ?_) (fun c6 => ?_)
  · replace k3_0 := is0 k3_0 c6
    refine ja_aload_n ditem_29 rfl rfl ?_
    refine ja_bipush 23 ditem_30 rfl ?_
    refine t_isWord (by decide) (show (0 : Nat) ≤ 8 by decide) ditem_32 g ⟨by decide, by decide⟩ ?_
    intro w19 k32_0
    refine ja_if_eq 122 ditem_35 rfl ⟨by omega, by omega⟩ (fun c35 => ?_) (fun c35 => ?_)
    · replace k32_0 := is0 k32_0 c35
      refine ja_aload_n ditem_122 rfl rfl ?_
      refine ja_iconst ditem_123 ?_
      refine t_isWord (by decide) (show (0 : Nat) ≤ 8 by decide) ditem_124 g ⟨by decide, by decide⟩ ?_
      intro w20 k124_0
      refine ja_if_eq 150 ditem_127 rfl ⟨by omega, by omega⟩ (fun c127 => ?_) (fun c127 => ?_)
      · replace k124_0 := is0 k124_0 c127
        refine ja_aload_n ditem_150 rfl rfl ?_
        refine ja_bipush 31 ditem_151 rfl ?_
        refine t_isWord (by decide) (show (0 : Nat) ≤ 8 by decide) ditem_153 g ⟨by decide, by decide⟩ ?_
        intro w21 k153_0
        refine ja_if_eq 263 ditem_156 rfl ⟨by omega, by omega⟩ (fun c156 => ?_) (fun c156 => ?_)
        · replace k153_0 := is0 k153_0 c156
          refine ja_aload_n ditem_263 rfl rfl ?_
          refine t_wrong (by decide) (show (0 : Nat) ≤ 8 by decide) ditem_264 g  ?_
          intro h22 k264_0 g23
          refine ja_zreturn ditem_267 rfl (by omega) ?_
          exact mo_fin (by omega) rfl (k2 h22 (by omega) g23)
        · have z156 := is1v k153_0 c156
          replace k153_0 := is1 k153_0 c156
          refine ja_aload_n ditem_159 rfl rfl ?_
          refine t_take (by decide) (show (0 : Nat) ≤ 8 by decide) ditem_160 g  ?_ ?_
          · intro k160_0 g24
            replace k160_0 : (h 0 7) < 900 := k160_0
            replace g24 : mo_G (ja_up h 0 7 ((h 0 7) + 1)) := g24
            show mJ l D cA ad 14 cX12_item 3 (some .boolean) 163 [(0, (2, ((0 : Nat) : Int)))] [(0, 1)] (ja_up h 0 7 ((h 0 7) + 1)) Q
            refine ja_istore_n ditem_163 rfl (by decide) (L2 := [(1, (0, 1)), (0, (2, ((0 : Nat) : Int)))]) rfl ?_
            refine ja_iload_n ditem_164 rfl rfl ?_
            refine ja_istore_n ditem_165 rfl (by decide) (L2 := [(2, (0, 1)), (1, (0, 1)), (0, (2, ((0 : Nat) : Int)))]) rfl ?_
            exact ja_wk (fun q hq => by simp only [List.mem_cons, List.not_mem_nil, or_false] at hq; rcases hq with rfl | rfl | rfl <;> rfl) ((CUT _) 1 1 (ja_up h 0 7 ((h 0 7) + 1)) g24 ⟨by decide, by decide⟩ ⟨by decide, by decide⟩ ((Or.inl ⟨rfl, ⟨_, _, _, it_keep p1 (by (repeat (first | exact ag_refl | refine ag_up rfl ?_))) (show it_nn ((h 0 7) + 1) (h 0 113) (h 0 95) (h 0 68) (h 0 72) (h 0 31) (h 0 41) (h 0 64) (h 0 61) (h 0 18) (h 0 84) (h 0 87) (h 0 86) (h 0 85) (h 0 109) (h 0 66) from by unfold it_nn; omega) (it_F_eq (it_F_of p1) rfl rfl) (fun z => z) (fun _ _ _ z => z) (Int.le_refl _)⟩, (show (h 0 7) < ((h 0 7) + 1) by omega), (by (repeat (first | exact ag_refl | refine ag_up rfl ?_))), (Or.inr ⟨rfl, (show ((h 0 64) : Int) < ((h 0 7) + 1) by omega)⟩)⟩)) rfl)
          · intro h25 k160_1 g26
            refine ja_istore_n ditem_163 rfl (by decide) (L2 := [(1, (0, 0)), (0, (2, ((0 : Nat) : Int)))]) rfl ?_
            refine ja_iload_n ditem_164 rfl rfl ?_
            refine ja_istore_n ditem_165 rfl (by decide) (L2 := [(2, (0, 0)), (1, (0, 0)), (0, (2, ((0 : Nat) : Int)))]) rfl ?_
            exact ja_wk (fun q hq => by simp only [List.mem_cons, List.not_mem_nil, or_false] at hq; rcases hq with rfl | rfl | rfl <;> rfl) ((CUT _) 0 0 h25 g26 ⟨by decide, by decide⟩ ⟨by decide, by decide⟩ ((Or.inr (by refine ⟨rfl, rfl, ?_, ?_, ?_, ?_⟩ <;> omega))) rfl)
      · have z127 := is1v k124_0 c127
        replace k124_0 := is1 k124_0 c127
        refine ja_aload_n ditem_130 rfl rfl ?_
        refine t_take (by decide) (show (0 : Nat) ≤ 8 by decide) ditem_131 g  ?_ ?_
        · intro k131_0 g27
          replace k131_0 : (h 0 7) < 900 := k131_0
          replace g27 : mo_G (ja_up h 0 7 ((h 0 7) + 1)) := g27
          show mJ l D cA ad 14 cX12_item 3 (some .boolean) 134 [(0, (2, ((0 : Nat) : Int)))] [(0, 1)] (ja_up h 0 7 ((h 0 7) + 1)) Q
          refine ja_if_eq 148 ditem_134 rfl ⟨by decide, by decide⟩ (fun c134 => absurd c134 (by omega)) (fun c134 => ?_)
          refine ja_aload_n ditem_137 rfl rfl ?_
          refine t_aspectItem (by decide) (show (0 : Nat) ≤ 8 by decide) ditem_138 g27 (it_keep p1 (by (repeat (first | exact ag_refl | refine ag_up rfl ?_))) (show it_nn ((h 0 7) + 1) (h 0 113) (h 0 95) (h 0 68) (h 0 72) (h 0 31) (h 0 41) (h 0 64) (h 0 61) (h 0 18) (h 0 84) (h 0 87) (h 0 86) (h 0 85) (h 0 109) (h 0 66) from by unfold it_nn; omega) (it_F_eq (it_F_of p1) rfl rfl) (fun z => z) (fun _ _ _ z => z) (Int.le_refl _)) ?_ ?_
          · intro h28 k138_0 g29
            refine ja_if_eq 148 ditem_141 rfl ⟨by decide, by decide⟩ (fun c141 => absurd c141 (by omega)) (fun c141 => ?_)
            refine ja_iconst ditem_144 ?_
            refine ja_goto 149 ditem_145 rfl ?_
            refine ja_zreturn ditem_149 rfl (by omega) ?_
            exact mo_fin (by omega) rfl (k1 h28 (⟨k138_0.1, Int.lt_of_le_of_lt (show (h 0 7) ≤ (h 0 7) + 1 by omega) k138_0.2.1, ag_trans (by (repeat (first | exact ag_refl | refine ag_up rfl ?_))) k138_0.2.2⟩) g29)
          · intro h30 k138_1 g31
            replace k138_1 : 0 < (h30 0 8) ∧ (h30 0 1) = (h 0 1) ∧ (h30 0 118) = (h 0 118) ∧ (h30 0 127) = (h 0 127) := k138_1
            refine ja_if_eq 148 ditem_141 rfl ⟨by decide, by decide⟩ (fun c141 => ?_) (fun c141 => absurd c141 (by omega))
            refine ja_iconst ditem_148 ?_
            refine ja_zreturn ditem_149 rfl (by omega) ?_
            exact mo_fin (by omega) rfl (k2 h30 (by omega) g31)
        · intro h32 k131_1 g33
          refine ja_if_eq 148 ditem_134 rfl ⟨by decide, by decide⟩ (fun c134 => ?_) (fun c134 => absurd c134 (by omega))
          refine ja_iconst ditem_148 ?_
          refine ja_zreturn ditem_149 rfl (by omega) ?_
          exact mo_fin (by omega) rfl (k2 h32 (by omega) g33)
    · have z35 := is1v k32_0 c35
      replace k32_0 := is1 k32_0 c35
      refine ja_aload_n ditem_38 rfl rfl ?_
      refine fg_mains (v := h 0 66) rfl ditem_39 ?_
      have f34 := gF_mains g
      refine ja_if_le 54 ditem_42 rfl ⟨by omega, by omega⟩ (fun c42 => ?_) (fun c42 => ?_)
      · refine ja_aload_n ditem_54 rfl rfl ?_
        refine ja_dup ditem_55 (by decide) ?_
        refine fg_mains (v := h 0 66) rfl ditem_56 ?_
        refine ja_iconst ditem_59 ?_
        refine ja_iadd ditem_60 ?_
        have g35 := gP_mains g (x := (h 0 66) + 1) ⟨by omega, by omega⟩
        refine fp_mains ditem_61 ?_
        refine ja_aload_n ditem_64 rfl rfl ?_
        refine ja_iconst ditem_65 ?_
        refine ja_iconst ditem_66 ?_
        refine t_beginBody (by decide) (show (0 : Nat) ≤ 8 by decide) ditem_67 g35 ⟨by decide, by decide⟩ ⟨by decide, by decide⟩ (show 0 ≤ 0 ∧ 0 ≤ 3 by omega) (show 0 ≤ 0 ∧ 0 ≤ 60 by omega) ?_
        intro g36
        replace g36 : mo_G (ja_up (ja_up (ja_up (ja_up (ja_up h 0 66 ((h 0 66) + 1)) 0 74 0) 0 75 0) 0 77 0) 0 79 0) := g36
        show mJ l D cA ad 14 cX12_item 3 (some .boolean) 70 [(0, (2, ((0 : Nat) : Int)))] [] (ja_up (ja_up (ja_up (ja_up (ja_up h 0 66 ((h 0 66) + 1)) 0 74 0) 0 75 0) 0 77 0) 0 79 0) Q
        refine ja_aload_n ditem_70 rfl rfl ?_
        refine fg_words (v := h 0 113) rfl ditem_71 ?_
        have f37 := gF_words g
        refine ja_istore_n ditem_74 rfl (by decide) (L2 := [(1, (0, (h 0 113))), (0, (2, ((0 : Nat) : Int)))]) rfl ?_
        refine ja_aload_n ditem_75 rfl rfl ?_
        refine t_take (by decide) (show (0 : Nat) ≤ 8 by decide) ditem_76 g36  ?_ ?_
        · intro k76_0 g38
          replace k76_0 : (h 0 7) < 900 := k76_0
          replace g38 : mo_G (ja_up (ja_up (ja_up (ja_up (ja_up (ja_up h 0 66 ((h 0 66) + 1)) 0 74 0) 0 75 0) 0 77 0) 0 79 0) 0 7 ((h 0 7) + 1)) := g38
          show mJ l D cA ad 14 cX12_item 3 (some .boolean) 79 [(1, (0, (h 0 113))), (0, (2, ((0 : Nat) : Int)))] [(0, 1)] (ja_up (ja_up (ja_up (ja_up (ja_up (ja_up h 0 66 ((h 0 66) + 1)) 0 74 0) 0 75 0) 0 77 0) 0 79 0) 0 7 ((h 0 7) + 1)) Q
          refine ja_if_eq 89 ditem_79 rfl ⟨by decide, by decide⟩ (fun c79 => absurd c79 (by omega)) (fun c79 => ?_)
          obtain ⟨tf4, ht4, st4, rg4, hB4, hE4⟩ := mn_blk g g38 p1 (by (repeat (first | exact ag_refl | refine ag_up rfl ?_))) (show (h 0 7) < ((h 0 7) + 1) by omega) (fun z => by have z2 : (h 0 11) = 0 := z; omega) (show (0 : Int) = 0 by omega) (show (0 : Int) ≤ 0 by omega) (show (0 : Int) ≤ 10 by omega) (show (((h 0 66) + 1) : Int) = (h 0 66) + 1 by omega)
          refine ja_aload_n ditem_82 rfl rfl ?_
          refine t_block (by decide) (show (0 : Nat) ≤ 8 by decide) ditem_83 g38 (hB4.1) (show 0 ≤ 1 ∨ 0 ≤ 24 by omega) (hB4.2) ?_ ?_
          · intro h39 k83_0 g40
            obtain ⟨⟨ht5, st5, rg5, tu5, hp5⟩, agB, hatB⟩ := k83_0
            have nm := it_num hp5
            have gat5 := gF_at g40
            have b_mains : (h39 0 66) = (h 0 66) + 1 := agB 0 66 rfl
            refine ja_if_ne 91 ditem_86 rfl ⟨by decide, by decide⟩ (fun c86 => ?_) (fun c86 => absurd c86 (by omega))
            refine ja_aload_n ditem_91 rfl rfl ?_
            refine ja_bipush 26 ditem_92 rfl ?_
            refine ja_iconst ditem_94 ?_
            refine ja_iconst ditem_95 ?_
            refine t_emit (by decide) (show (0 : Nat) ≤ 8 by decide) ditem_96 g40 ⟨by decide, by decide⟩ ⟨by decide, by decide⟩ ⟨by decide, by decide⟩ (show 0 ≤ 26 ∧ 26 ≤ 26 by omega) (show (h39 0 113) < 5000 by omega) ?_
            intro g41
            replace g41 : mo_G (ja_up (ja_up (ja_up (ja_up h39 74 ((h39 0 113).toNat) 26) 75 ((h39 0 113).toNat) 0) 76 ((h39 0 113).toNat) 0) 0 113 ((h39 0 113) + 1)) := g41
            show mJ l D cA ad 14 cX12_item 3 (some .boolean) 99 [(1, (0, (h 0 113))), (0, (2, ((0 : Nat) : Int)))] [(0, (h39 0 113))] (ja_up (ja_up (ja_up (ja_up h39 74 ((h39 0 113).toNat) 26) 75 ((h39 0 113).toNat) 0) 76 ((h39 0 113).toNat) 0) 0 113 ((h39 0 113) + 1)) Q
            refine ja_istore_n ditem_99 rfl (by decide) (L2 := [(2, (0, (h39 0 113))), (1, (0, (h 0 113))), (0, (2, ((0 : Nat) : Int)))]) rfl ?_
            refine ja_aload_n ditem_100 rfl rfl ?_
            refine ja_aload_n ditem_101 rfl rfl ?_
            refine fg_mains (v := h39 0 66) rfl ditem_102 ?_
            have f42 := gF_mains g40
            refine ja_iconst ditem_105 ?_
            refine ja_icmp_ne 113 ditem_106 rfl ⟨by omega, by omega⟩ ⟨by decide, by decide⟩ (fun c106 => ?_) (fun c106 => ?_)
            · refine ja_aload_n ditem_113 rfl rfl ?_
              refine fg_mainStart (v := h39 0 67) rfl ditem_114 ?_
              have f43 := gF_mainStart g40
              have g44 := gP_mainStart g41 (x := h39 0 67) ⟨by omega, by omega⟩
              refine fp_mainStart ditem_117 ?_
              refine ja_iconst ditem_120 ?_
              refine ja_zreturn ditem_121 rfl (by omega) ?_
              exact mo_fin (by omega) rfl (k1 (ja_up (ja_up (ja_up (ja_up (ja_up h39 74 ((h39 0 113).toNat) 26) 75 ((h39 0 113).toNat) 0) 76 ((h39 0 113).toNat) 0) 0 113 ((h39 0 113) + 1)) 0 67 (h39 0 67)) (⟨hE4 _ _ _ _ _ _ g40 hp5 agB hatB (by omega), Int.lt_of_lt_of_le (show (h 0 7) < (h 0 7) + 1 by omega) hatB, ag_trans (by (repeat (first | exact ag_refl | refine ag_up rfl ?_))) (ag_trans (kq_kp (kp_FK agB)) (by (repeat (first | exact ag_refl | refine ag_up rfl ?_))))⟩) g44)
            · refine ja_iload_n ditem_109 rfl rfl ?_
              refine ja_goto 117 ditem_110 rfl ?_
              have g45 := gP_mainStart g41 (x := h 0 113) ⟨by omega, by omega⟩
              refine fp_mainStart ditem_117 ?_
              refine ja_iconst ditem_120 ?_
              refine ja_zreturn ditem_121 rfl (by omega) ?_
              exact mo_fin (by omega) rfl (k1 (ja_up (ja_up (ja_up (ja_up (ja_up h39 74 ((h39 0 113).toNat) 26) 75 ((h39 0 113).toNat) 0) 76 ((h39 0 113).toNat) 0) 0 113 ((h39 0 113) + 1)) 0 67 (h 0 113)) (⟨hE4 _ _ _ _ _ _ g40 hp5 agB hatB (by omega), Int.lt_of_lt_of_le (show (h 0 7) < (h 0 7) + 1 by omega) hatB, ag_trans (by (repeat (first | exact ag_refl | refine ag_up rfl ?_))) (ag_trans (kq_kp (kp_FK agB)) (by (repeat (first | exact ag_refl | refine ag_up rfl ?_))))⟩) g45)
          · intro h46 k83_1 g47
            replace k83_1 : 0 < (h46 0 8) ∧ (h46 0 1) = (h 0 1) ∧ (h46 0 118) = (h 0 118) ∧ (h46 0 127) = (h 0 127) := k83_1
            refine ja_if_ne 91 ditem_86 rfl ⟨by decide, by decide⟩ (fun c86 => absurd c86 (by omega)) (fun c86 => ?_)
            refine ja_iconst ditem_89 ?_
            refine ja_zreturn ditem_90 rfl (by omega) ?_
            exact mo_fin (by omega) rfl (k2 h46 (by omega) g47)
        · intro h48 k76_1 g49
          replace k76_1 : 0 < (h48 0 8) ∧ (h48 0 1) = (h 0 1) ∧ (h48 0 118) = (h 0 118) ∧ (h48 0 127) = (h 0 127) := k76_1
          refine ja_if_eq 89 ditem_79 rfl ⟨by decide, by decide⟩ (fun c79 => ?_) (fun c79 => absurd c79 (by omega))
          refine ja_iconst ditem_89 ?_
          refine ja_zreturn ditem_90 rfl (by omega) ?_
          exact mo_fin (by omega) rfl (k2 h48 (by omega) g49)
      · refine ja_aload_n ditem_45 rfl rfl ?_
        refine ja_iconst ditem_46 ?_
        refine ja_aload_n ditem_47 rfl rfl ?_
        refine fg_at (v := h 0 7) rfl ditem_48 ?_
        have f50 := gF_at g
        refine t_judge (by decide) (show (0 : Nat) ≤ 8 by decide) ditem_51 g ⟨by decide, by decide⟩ ⟨by omega, by omega⟩ (show 1 ≤ 4 ∧ 4 ≤ 8 by omega) (show 0 ≤ (h 0 7) ∧ (h 0 7) ≤ 900 by omega) ?_
        intro w51 w52 k51_0 g53
        replace k51_0 : 1 ≤ w51 ∧ w51 ≤ 8 ∧ -2147483648 ≤ w52 ∧ w52 ≤ 2147483647 := k51_0
        replace g53 : mo_G (ja_up (ja_up h 0 11 w51) 0 12 w52) := g53
        show mJ l D cA ad 14 cX12_item 3 (some .boolean) 54 [(0, (2, ((0 : Nat) : Int)))] [] (ja_up (ja_up h 0 11 w51) 0 12 w52) Q
        refine ja_aload_n ditem_54 rfl rfl ?_
        refine ja_dup ditem_55 (by decide) ?_
        refine fg_mains (v := h 0 66) rfl ditem_56 ?_
        refine ja_iconst ditem_59 ?_
        refine ja_iadd ditem_60 ?_
        have g54 := gP_mains g53 (x := (h 0 66) + 1) ⟨by omega, by omega⟩
        refine fp_mains ditem_61 ?_
        refine ja_aload_n ditem_64 rfl rfl ?_
        refine ja_iconst ditem_65 ?_
        refine ja_iconst ditem_66 ?_
        refine t_beginBody (by decide) (show (0 : Nat) ≤ 8 by decide) ditem_67 g54 ⟨by decide, by decide⟩ ⟨by decide, by decide⟩ (show 0 ≤ 0 ∧ 0 ≤ 3 by omega) (show 0 ≤ 0 ∧ 0 ≤ 60 by omega) ?_
        intro g55
        replace g55 : mo_G (ja_up (ja_up (ja_up (ja_up (ja_up (ja_up (ja_up h 0 11 w51) 0 12 w52) 0 66 ((h 0 66) + 1)) 0 74 0) 0 75 0) 0 77 0) 0 79 0) := g55
        show mJ l D cA ad 14 cX12_item 3 (some .boolean) 70 [(0, (2, ((0 : Nat) : Int)))] [] (ja_up (ja_up (ja_up (ja_up (ja_up (ja_up (ja_up h 0 11 w51) 0 12 w52) 0 66 ((h 0 66) + 1)) 0 74 0) 0 75 0) 0 77 0) 0 79 0) Q
        refine ja_aload_n ditem_70 rfl rfl ?_
        refine fg_words (v := h 0 113) rfl ditem_71 ?_
        have f56 := gF_words g
        refine ja_istore_n ditem_74 rfl (by decide) (L2 := [(1, (0, (h 0 113))), (0, (2, ((0 : Nat) : Int)))]) rfl ?_
        refine ja_aload_n ditem_75 rfl rfl ?_
        refine t_take (by decide) (show (0 : Nat) ≤ 8 by decide) ditem_76 g55  ?_ ?_
        · intro k76_0 g57
          replace k76_0 : (h 0 7) < 900 := k76_0
          replace g57 : mo_G (ja_up (ja_up (ja_up (ja_up (ja_up (ja_up (ja_up (ja_up h 0 11 w51) 0 12 w52) 0 66 ((h 0 66) + 1)) 0 74 0) 0 75 0) 0 77 0) 0 79 0) 0 7 ((h 0 7) + 1)) := g57
          show mJ l D cA ad 14 cX12_item 3 (some .boolean) 79 [(1, (0, (h 0 113))), (0, (2, ((0 : Nat) : Int)))] [(0, 1)] (ja_up (ja_up (ja_up (ja_up (ja_up (ja_up (ja_up (ja_up h 0 11 w51) 0 12 w52) 0 66 ((h 0 66) + 1)) 0 74 0) 0 75 0) 0 77 0) 0 79 0) 0 7 ((h 0 7) + 1)) Q
          refine ja_if_eq 89 ditem_79 rfl ⟨by decide, by decide⟩ (fun c79 => absurd c79 (by omega)) (fun c79 => ?_)
          obtain ⟨tf4, ht4, st4, rg4, hB4, hE4⟩ := mn_blk g g57 p1 (by (repeat (first | exact ag_refl | refine ag_up rfl ?_))) (show (h 0 7) < ((h 0 7) + 1) by omega) (fun z => by have z2 : w51 = 0 := z; omega) (show (0 : Int) = 0 by omega) (show (0 : Int) ≤ 0 by omega) (show (0 : Int) ≤ 10 by omega) (show (((h 0 66) + 1) : Int) = (h 0 66) + 1 by omega)
          refine ja_aload_n ditem_82 rfl rfl ?_
          refine t_block (by decide) (show (0 : Nat) ≤ 8 by decide) ditem_83 g57 (hB4.1) (show 0 ≤ 1 ∨ 0 ≤ 24 by omega) (hB4.2) ?_ ?_
          · intro h58 k83_0 g59
            obtain ⟨⟨ht5, st5, rg5, tu5, hp5⟩, agB, hatB⟩ := k83_0
            have nm := it_num hp5
            have gat5 := gF_at g59
            have b_mains : (h58 0 66) = (h 0 66) + 1 := agB 0 66 rfl
            refine ja_if_ne 91 ditem_86 rfl ⟨by decide, by decide⟩ (fun c86 => ?_) (fun c86 => absurd c86 (by omega))
            refine ja_aload_n ditem_91 rfl rfl ?_
            refine ja_bipush 26 ditem_92 rfl ?_
            refine ja_iconst ditem_94 ?_
            refine ja_iconst ditem_95 ?_
            refine t_emit (by decide) (show (0 : Nat) ≤ 8 by decide) ditem_96 g59 ⟨by decide, by decide⟩ ⟨by decide, by decide⟩ ⟨by decide, by decide⟩ (show 0 ≤ 26 ∧ 26 ≤ 26 by omega) (show (h58 0 113) < 5000 by omega) ?_
            intro g60
            replace g60 : mo_G (ja_up (ja_up (ja_up (ja_up h58 74 ((h58 0 113).toNat) 26) 75 ((h58 0 113).toNat) 0) 76 ((h58 0 113).toNat) 0) 0 113 ((h58 0 113) + 1)) := g60
            show mJ l D cA ad 14 cX12_item 3 (some .boolean) 99 [(1, (0, (h 0 113))), (0, (2, ((0 : Nat) : Int)))] [(0, (h58 0 113))] (ja_up (ja_up (ja_up (ja_up h58 74 ((h58 0 113).toNat) 26) 75 ((h58 0 113).toNat) 0) 76 ((h58 0 113).toNat) 0) 0 113 ((h58 0 113) + 1)) Q
            refine ja_istore_n ditem_99 rfl (by decide) (L2 := [(2, (0, (h58 0 113))), (1, (0, (h 0 113))), (0, (2, ((0 : Nat) : Int)))]) rfl ?_
            refine ja_aload_n ditem_100 rfl rfl ?_
            refine ja_aload_n ditem_101 rfl rfl ?_
            refine fg_mains (v := h58 0 66) rfl ditem_102 ?_
            have f61 := gF_mains g59
            refine ja_iconst ditem_105 ?_
            refine ja_icmp_ne 113 ditem_106 rfl ⟨by omega, by omega⟩ ⟨by decide, by decide⟩ (fun c106 => ?_) (fun c106 => ?_)
            · refine ja_aload_n ditem_113 rfl rfl ?_
              refine fg_mainStart (v := h58 0 67) rfl ditem_114 ?_
              have f62 := gF_mainStart g59
              have g63 := gP_mainStart g60 (x := h58 0 67) ⟨by omega, by omega⟩
              refine fp_mainStart ditem_117 ?_
              refine ja_iconst ditem_120 ?_
              refine ja_zreturn ditem_121 rfl (by omega) ?_
              exact mo_fin (by omega) rfl (k1 (ja_up (ja_up (ja_up (ja_up (ja_up h58 74 ((h58 0 113).toNat) 26) 75 ((h58 0 113).toNat) 0) 76 ((h58 0 113).toNat) 0) 0 113 ((h58 0 113) + 1)) 0 67 (h58 0 67)) (⟨hE4 _ _ _ _ _ _ g59 hp5 agB hatB (by omega), Int.lt_of_lt_of_le (show (h 0 7) < (h 0 7) + 1 by omega) hatB, ag_trans (by (repeat (first | exact ag_refl | refine ag_up rfl ?_))) (ag_trans (kq_kp (kp_FK agB)) (by (repeat (first | exact ag_refl | refine ag_up rfl ?_))))⟩) g63)
            · refine ja_iload_n ditem_109 rfl rfl ?_
              refine ja_goto 117 ditem_110 rfl ?_
              have g64 := gP_mainStart g60 (x := h 0 113) ⟨by omega, by omega⟩
              refine fp_mainStart ditem_117 ?_
              refine ja_iconst ditem_120 ?_
              refine ja_zreturn ditem_121 rfl (by omega) ?_
              exact mo_fin (by omega) rfl (k1 (ja_up (ja_up (ja_up (ja_up (ja_up h58 74 ((h58 0 113).toNat) 26) 75 ((h58 0 113).toNat) 0) 76 ((h58 0 113).toNat) 0) 0 113 ((h58 0 113) + 1)) 0 67 (h 0 113)) (⟨hE4 _ _ _ _ _ _ g59 hp5 agB hatB (by omega), Int.lt_of_lt_of_le (show (h 0 7) < (h 0 7) + 1 by omega) hatB, ag_trans (by (repeat (first | exact ag_refl | refine ag_up rfl ?_))) (ag_trans (kq_kp (kp_FK agB)) (by (repeat (first | exact ag_refl | refine ag_up rfl ?_))))⟩) g64)
          · intro h65 k83_1 g66
            replace k83_1 : 0 < (h65 0 8) ∧ (h65 0 1) = (h 0 1) ∧ (h65 0 118) = (h 0 118) ∧ (h65 0 127) = (h 0 127) := k83_1
            refine ja_if_ne 91 ditem_86 rfl ⟨by decide, by decide⟩ (fun c86 => absurd c86 (by omega)) (fun c86 => ?_)
            refine ja_iconst ditem_89 ?_
            refine ja_zreturn ditem_90 rfl (by omega) ?_
            exact mo_fin (by omega) rfl (k2 h65 (by omega) g66)
        · intro h67 k76_1 g68
          replace k76_1 : 0 < (h67 0 8) ∧ (h67 0 1) = (h 0 1) ∧ (h67 0 118) = (h 0 118) ∧ (h67 0 127) = (h 0 127) := k76_1
          refine ja_if_eq 89 ditem_79 rfl ⟨by decide, by decide⟩ (fun c79 => ?_) (fun c79 => absurd c79 (by omega))
          refine ja_iconst ditem_89 ?_
          refine ja_zreturn ditem_90 rfl (by omega) ?_
          exact mo_fin (by omega) rfl (k2 h67 (by omega) g68)
  · have z6 := is1v k3_0 c6
    replace k3_0 := is1 k3_0 c6
    refine ja_aload_n ditem_9 rfl rfl ?_
    refine t_take (by decide) (show (0 : Nat) ≤ 8 by decide) ditem_10 g  ?_ ?_
    · intro k10_0 g69
      replace k10_0 : (h 0 7) < 900 := k10_0
      replace g69 : mo_G (ja_up h 0 7 ((h 0 7) + 1)) := g69
      show mJ l D cA ad 14 cX12_item 3 (some .boolean) 13 [(0, (2, ((0 : Nat) : Int)))] [(0, 1)] (ja_up h 0 7 ((h 0 7) + 1)) Q
      refine ja_if_eq 27 ditem_13 rfl ⟨by decide, by decide⟩ (fun c13 => absurd c13 (by omega)) (fun c13 => ?_)
      refine ja_aload_n ditem_16 rfl rfl ?_
      refine t_classItem (by decide) (show (0 : Nat) ≤ 8 by decide) ditem_17 g69 (it_keep p1 (by (repeat (first | exact ag_refl | refine ag_up rfl ?_))) (show it_nn ((h 0 7) + 1) (h 0 113) (h 0 95) (h 0 68) (h 0 72) (h 0 31) (h 0 41) (h 0 64) (h 0 61) (h 0 18) (h 0 84) (h 0 87) (h 0 86) (h 0 85) (h 0 109) (h 0 66) from by unfold it_nn; omega) (it_F_eq (it_F_of p1) rfl rfl) (fun z => z) (fun _ _ _ z => z) (Int.le_refl _)) ?_ ?_
      · intro h70 k17_0 g71
        refine ja_if_eq 27 ditem_20 rfl ⟨by decide, by decide⟩ (fun c20 => absurd c20 (by omega)) (fun c20 => ?_)
        refine ja_iconst ditem_23 ?_
        refine ja_goto 28 ditem_24 rfl ?_
        refine ja_zreturn ditem_28 rfl (by omega) ?_
        exact mo_fin (by omega) rfl (k1 h70 (⟨k17_0.1, Int.lt_of_le_of_lt (show (h 0 7) ≤ (h 0 7) + 1 by omega) k17_0.2.1, ag_trans (by (repeat (first | exact ag_refl | refine ag_up rfl ?_))) (kq_kp k17_0.2.2)⟩) g71)
      · intro h72 k17_1 g73
        replace k17_1 : 0 < (h72 0 8) ∧ (h72 0 1) = (h 0 1) ∧ (h72 0 118) = (h 0 118) ∧ (h72 0 127) = (h 0 127) := k17_1
        refine ja_if_eq 27 ditem_20 rfl ⟨by decide, by decide⟩ (fun c20 => ?_) (fun c20 => absurd c20 (by omega))
        refine ja_iconst ditem_27 ?_
        refine ja_zreturn ditem_28 rfl (by omega) ?_
        exact mo_fin (by omega) rfl (k2 h72 (by omega) g73)
    · intro h74 k10_1 g75
      refine ja_if_eq 27 ditem_13 rfl ⟨by decide, by decide⟩ (fun c13 => ?_) (fun c13 => absurd c13 (by omega))
      refine ja_iconst ditem_27 ?_
      refine ja_zreturn ditem_28 rfl (by omega) ?_
      exact mo_fin (by omega) rfl (k2 h74 (by omega) g75)
theorem t_item {ht st rg : Nat → Int} {d nL pc : Nat} {cc : ByteArray} {rt : Option FieldType} {L : List (Nat × ja_V)} {S : List ja_V} {h : ja_H} {Q : Option ja_V → ja_H → Prop} (hdd : 14 < d) (hwd : ja_wd S ≤ 8) (hd : decode cc pc = .ok (.invokevirtual 635, 3)) (g : mo_G h) (p1 : it h ht st rg) (k1 : ∀ (h' : ja_H), ((∃ ht st rg : Nat → Int, it h' ht st rg) ∧ (h 0 7) < (h' 0 7) ∧ mo_ag FKQ h h') → mo_G h' → mJ l D cA ad d cc nL rt (pc + 3) L ((0, 1) :: S) h' Q) (k2 : ∀ (h' : ja_H), (0 < (h' 0 8) ∧ (h' 0 1) = (h 0 1) ∧ (h' 0 118) = (h 0 118) ∧ (h' 0 127) = (h 0 127)) → mo_G h' → mJ l D cA ad d cc nL rt (pc + 3) L ((0, 0) :: S) h' Q) : mJ l D cA ad d cc nL rt pc L ((2, ((0 : Nat) : Int)) :: S) h Q :=
  mc_item hdd hwd hd (s_item g p1 k1 k2)
end
