/-! the reference: ITEMS whole (written by a program) -/
variable {Zz : Zc}
/-! the reference's parser: an aspect, an ITEM -/
def FKQ : Nat → Nat → Bool := mo_F [1, 118, 127, 119] []
theorem kq_kp {h u : ja_H} (q : mo_ag FKP h u) : mo_ag FKQ h u := ag_sub (fun k j e => F_F (by decide) rfl k j e) q
theorem kq_X {fs cs : List Nat} {h u : ja_H} (q : mo_ag (mo_X fs cs) h u) (h1 : [1, 118, 127, 119].all (fun j => !fs.contains j) = true) : mo_ag FKQ h u := ag_sub (X_sub h1 rfl) q
/-- the state of the loop over an aspect's parts -/
def lo_A (h u : ja_H) (x : Int) : Prop := (x = 1 ∧ (∃ ht st rg : Nat → Int, it u ht st rg) ∧ (h 0 7) < (u 0 7) ∧ mo_ag FKQ h u ∧ (u 0 76) < (u 0 26)) ∨ (x = 0 ∧ 0 < (u 0 8) ∧ (u 0 1) = (h 0 1) ∧ (u 0 118) = (h 0 118) ∧ (u 0 127) = (h 0 127))
theorem lo_A_next {h u h1 : ja_H} (lat : (h 0 7) < (u 0 7)) (lag : mo_ag FKQ h u) (las : (u 0 76) < (u 0 26)) (k : (∃ ht st rg : Nat → Int, it h1 ht st rg) ∧ (u 0 7) < (h1 0 7) ∧ mo_ag FKP u h1) : lo_A h h1 1 := by
  obtain ⟨k1, k2, k3⟩ := k
  have e1 : (h1 0 76) = (u 0 76) := k3 _ _ rfl
  have e2 : (h1 0 26) = (u 0 26) := k3 _ _ rfl
  exact Or.inl ⟨rfl, k1, Int.lt_trans lat k2, ag_trans lag (kq_kp k3), by omega⟩
/-- the block of main -/
def FMN : Nat → Nat → Bool := mo_X [7, 8, 9, 11, 12, 66, 74, 75, 77, 79] []
theorem mn_blk {h u : ja_H} {ht st rg : Nat → Int} (g : mo_G Zz h) (gu : mo_G Zz u) (q : it h ht st rg) (ag : mo_ag FMN h u) (hat : (h 0 7) < (u 0 7)) (hf : (u 0 11) = 0 → (h 0 11) = 0) (hb : (u 0 74) = 0) (b2 : (u 0 79) ≤ (u 0 77)) (b3 : (u 0 77) ≤ 10) (hm : (u 0 66) = (h 0 66) + 1) : ∃ (tf : mo_TF) (ht3 st3 rg3 : Nat → Int),
    (piB (mo_L (ja_up u 0 17 0) 14 0 0 0) 0 0 0 tf 0 [(14, 0, 0)] ht3 st3 rg3 0 ∧ tf_ok 0 tf) ∧ ∀ (h4 : ja_H) (ht4 st4 rg4 : Nat → Int) (tu4 w : Int), mo_G Zz h4 → pi h4 0 0 0 tf 0 [] ht4 st4 rg4 tu4 → mo_ag FK u h4 → (u 0 7) ≤ (h4 0 7) → (((h4 0 66) = 1 ∧ w = (h 0 113)) ∨ ((h4 0 66) ≠ 1 ∧ w = (h4 0 67))) → ∃ ht2 st2 rg2 : Nat → Int, it (ja_up (mo_E h4 26 0 0) 0 67 w) ht2 st2 rg2 := by
  obtain ⟨qc, qP, ⟨z1, z2, z3, z4, z5, z6, z7, z8, z9, z10, z11, z12, z13, z14, z15, z16⟩, qS, qF⟩ := q
  have agC : mo_ag FCD h u := ag_sub (X_sub (by decide) (by decide)) ag
  have hv := tr_wt ag rfl (fun _ => rfl) (fun _ => rfl) (fun _ => rfl)
  have c1 := cd_keep qc agC hf hv
  have c2 := pP_keep qP agC hv
  have U1 : (u 0 113) = (h 0 113) := ag _ _ rfl
  have U2 : (u 0 95) = (h 0 95) := ag _ _ rfl
  have U3 : (u 0 68) = (h 0 68) := ag _ _ rfl
  have U4 : (u 0 72) = (h 0 72) := ag _ _ rfl
  have U5 : (u 0 18) = (h 0 18) := ag _ _ rfl
  have U6 : (u 0 87) = (h 0 87) := ag _ _ rfl
  have U7 : (u 0 86) = (h 0 86) := ag _ _ rfl
  have U8 : (u 0 109) = (h 0 109) := ag _ _ rfl
  have U9 : (u 0 84) = (h 0 84) := ag _ _ rfl
  have U10 : (u 0 31) = (h 0 31) := ag _ _ rfl
  have U11 : (u 0 64) = (h 0 64) := ag _ _ rfl
  have U12 : (u 0 61) = (h 0 61) := ag _ _ rfl
  have U13 : (u 0 41) = (h 0 41) := ag _ _ rfl
  have U14 : (u 0 85) = (h 0 85) := ag _ _ rfl
  have U15 : (u 0 34) = (h 0 34) := ag _ _ rfl
  have U16 : (u 0 44) = (h 0 44) := ag _ _ rfl
  have U17 : (u 0 52) = (h 0 52) := ag _ _ rfl
  have U18 : (u 0 57) = (h 0 57) := ag _ _ rfl
  have U19 : (u 0 26) = (h 0 26) := ag _ _ rfl
  have U20 : (u 0 67) = (h 0 67) := ag _ _ rfl
  have l6 : (u 67) = (h 67) := funext fun j => ag _ _ rfl
  have hT : pi_T u := fun k hk => by rw [U8] at hk; omega
  refine ⟨_, _, _, _, it_block gu hb c1 c2 hT (by omega) (by omega) (by omega) (by omega) (by omega) (by omega) (by omega) (by omega) b2 b3, ?_⟩
  intro h4 ht4 st4 rg4 tu4 w g4 hp4 ag4 hat4 hw
  obtain ⟨ht2, st2, rg2, hcd, hP, -, gh2, nf2⟩ := it_end g4 ⟨by omega, by omega⟩ hp4
  obtain ⟨k1, k2, k3, k4, k5, k6, k7, k8, k9, k10, -⟩ := it_num hp4
  dsimp only at k9 k10 gh2 nf2
  have gw := (gF_words g).1
  have B2 : (h4 0 31) = (u 0 31) := ag4 _ _ rfl
  have B3 : (h4 0 64) = (u 0 64) := ag4 _ _ rfl
  have B4 : (h4 0 61) = (u 0 61) := ag4 _ _ rfl
  have B5 : (h4 0 85) = (u 0 85) := ag4 _ _ rfl
  have B6 : (h4 0 41) = (u 0 41) := ag4 _ _ rfl
  have B7 : (h4 0 34) = (u 0 34) := ag4 _ _ rfl
  have B8 : (h4 0 44) = (u 0 44) := ag4 _ _ rfl
  have B9 : (h4 0 66) = (u 0 66) := ag4 _ _ rfl
  have B10 : (h4 0 67) = (u 0 67) := ag4 _ _ rfl
  have B11 : (h4 0 52) = (u 0 52) := ag4 _ _ rfl
  have B12 : (h4 0 57) = (u 0 57) := ag4 _ _ rfl
  have B13 : (h4 0 26) = (u 0 26) := ag4 _ _ rfl
  have F1 : (h4 23) = (h 23) := funext fun j => (ag4 _ _ rfl).trans (ag _ _ rfl)
  have F2 : (h4 32) = (h 32) := funext fun j => (ag4 _ _ rfl).trans (ag _ _ rfl)
  have F3 : (h4 31) = (h 31) := funext fun j => (ag4 _ _ rfl).trans (ag _ _ rfl)
  have F4 : (h4 29) = (h 29) := funext fun j => (ag4 _ _ rfl).trans (ag _ _ rfl)
  have F5 : (h4 37) = (h 37) := funext fun j => (ag4 _ _ rfl).trans (ag _ _ rfl)
  have F6 : (h4 38) = (h 38) := funext fun j => (ag4 _ _ rfl).trans (ag _ _ rfl)
  have F7 : (h4 18) = (h 18) := funext fun j => (ag4 _ _ rfl).trans (ag _ _ rfl)
  have agE : mo_ag FCD (mo_E h4 26 0 0) (ja_up (mo_E h4 26 0 0) 0 67 w) := ag_up rfl ag_refl
  have eW : (ja_up (mo_E h4 26 0 0) 0 67 w) 0 113 = (h4 0 113) + 1 := rfl
  have eM : (ja_up (mo_E h4 26 0 0) 0 67 w) 0 67 = w := rfl
  refine ⟨ht2, st2, rg2, cd_keep hcd agE (fun z => z) (fun _ _ _ z => z), pP_keep hP agE (fun _ _ _ z => z), (show it_nn (h4 0 7) ((h4 0 113) + 1) (h4 0 95) (h4 0 68) (h4 0 72) (h4 0 31) (h4 0 41) (h4 0 64) (h4 0 61) (h4 0 18) (h4 0 84) (h4 0 87) (h4 0 86) (h4 0 85) (h4 0 109) (h4 0 66) from ?_), ?_, ?_⟩
  · refine ⟨?_, ?_, ?_, ?_, ?_, ?_, ?_, ?_, ?_, ?_, ?_, ?_, ?_, ?_, ?_, ?_⟩ <;> omega
  · refine it_S_more (h := h) (H := ja_up (mo_E h4 26 0 0) 0 67 w) g qS (by rw [eW]; omega) (fun j hj => ?_) (fun a z => nf2 a ⟨z.1, by rw [nf_keep U2 l6]; exact z.2⟩) (show (h 0 26) ≤ (h4 0 26) by omega) (fun m hm => Or.inl ⟨(show (m : Int) < (h 0 34) by have z : (m : Int) < (h4 0 34) := hm; omega), (show (h4 23) m = (h 23) m by rw [F1])⟩) (fun a ha => Or.inl ⟨(show (a : Int) < (h 0 44) by have z : (a : Int) < (h4 0 44) := ha; omega), (show (h4 32) a = (h 32) a by rw [F2]), (show (h4 31) a = (h 31) a by rw [F3]), (show (h4 29) a = (h 29) a by rw [F4])⟩) (fun _ => ?_) (fun p hp2 => Or.inl ⟨(show (p : Int) < (h 0 52) by have z : (p : Int) < (h4 0 52) := hp2; omega), (show (h4 37) p = (h 37) p by rw [F5])⟩) (fun b hb => Or.inl ⟨(show (b : Int) < (h 0 57) by have z : (b : Int) < (h4 0 57) := hb; omega), (show (h4 38) b = (h 38) b by rw [F6])⟩)
    · obtain ⟨y1, y2, y3⟩ := gh2 j (by omega)
      exact ⟨y1.trans (mo_zo (by omega)), y2.trans (mo_zo (by omega)), y3.trans (mo_zo (by omega))⟩
    · rw [eW, eM]
      rcases hw with ⟨w1, w2⟩ | ⟨w1, w2⟩
      · right
        obtain ⟨y1, y2, y3⟩ := gh2 (u 0 113).toNat (by omega)
        rw [w2, ← U1]
        exact ⟨by omega, by omega, y1.trans mo_zn, y2.trans mo_zn, y3.trans mo_zn⟩
      · left
        exact ⟨by omega, by omega⟩
  · exact it_F_eq (h := h) (H := ja_up (mo_E h4 26 0 0) 0 67 w) qF (show (h4 0 31) = (h 0 31) by omega) F7
/-- the loop over an order's names -/
def lo_O (h u : ja_H) (x y : Int) : Prop := ((x = 1 ∨ (x = 0 ∧ 0 < (u 0 8))) ∧ (∃ ht st rg : Nat → Int, it u ht st rg) ∧ (h 0 7) < (u 0 7) ∧ mo_ag FKQ h u ∧ (y = 0 ∨ (y = 1 ∧ (u 0 64) < (u 0 7)))) ∨ (x = 0 ∧ y = 0 ∧ 0 < (u 0 8) ∧ (u 0 1) = (h 0 1) ∧ (u 0 118) = (h 0 118) ∧ (u 0 127) = (h 0 127))
theorem lo_O_0 {h u : ja_H} {x y : Int} (q : lo_O h u x y) (e : x = 0) : 0 < (u 0 8) ∧ (u 0 1) = (h 0 1) ∧ (u 0 118) = (h 0 118) ∧ (u 0 127) = (h 0 127) := by
  rcases q with ⟨q1, -, -, ag, -⟩ | ⟨-, -, q⟩
  · exact ⟨by omega, ag _ _ rfl, ag _ _ rfl, ag _ _ rfl⟩
  · exact q
theorem dpart_0 : decode cX12_part 0 = .ok (.aload_n 0, 1) := by decide +kernel
theorem dpart_1 : decode cX12_part 1 = .ok (.bipush 14, 2) := by decide +kernel
theorem dpart_3 : decode cX12_part 3 = .ok (.invokevirtual 596, 3) := by decide +kernel
theorem dpart_6 : decode cX12_part 6 = .ok (.ifCond .eq 23, 3) := by decide +kernel
theorem dpart_9 : decode cX12_part 9 = .ok (.aload_n 0, 1) := by decide +kernel
theorem dpart_10 : decode cX12_part 10 = .ok (.invokevirtual 589, 3) := by decide +kernel
theorem dpart_13 : decode cX12_part 13 = .ok (.ifCond .eq 14, 3) := by decide +kernel
theorem dpart_16 : decode cX12_part 16 = .ok (.aload_n 0, 1) := by decide +kernel
theorem dpart_17 : decode cX12_part 17 = .ok (.invokevirtual 769, 3) := by decide +kernel
theorem dpart_20 : decode cX12_part 20 = .ok (.ifCond .eq 7, 3) := by decide +kernel
theorem dpart_23 : decode cX12_part 23 = .ok (.iconst 1, 1) := by decide +kernel
theorem dpart_24 : decode cX12_part 24 = .ok (.goto 4, 3) := by decide +kernel
theorem dpart_27 : decode cX12_part 27 = .ok (.iconst 0, 1) := by decide +kernel
theorem dpart_28 : decode cX12_part 28 = .ok (.ireturn, 1) := by decide +kernel
theorem dpart_29 : decode cX12_part 29 = .ok (.aload_n 0, 1) := by decide +kernel
theorem dpart_30 : decode cX12_part 30 = .ok (.bipush 20, 2) := by decide +kernel
theorem dpart_32 : decode cX12_part 32 = .ok (.invokevirtual 596, 3) := by decide +kernel
theorem dpart_35 : decode cX12_part 35 = .ok (.ifCond .eq 23, 3) := by decide +kernel
theorem dpart_38 : decode cX12_part 38 = .ok (.aload_n 0, 1) := by decide +kernel
theorem dpart_39 : decode cX12_part 39 = .ok (.invokevirtual 589, 3) := by decide +kernel
theorem dpart_42 : decode cX12_part 42 = .ok (.ifCond .eq 14, 3) := by decide +kernel
theorem dpart_45 : decode cX12_part 45 = .ok (.aload_n 0, 1) := by decide +kernel
theorem dpart_46 : decode cX12_part 46 = .ok (.invokevirtual 771, 3) := by decide +kernel
theorem dpart_49 : decode cX12_part 49 = .ok (.ifCond .eq 7, 3) := by decide +kernel
theorem dpart_52 : decode cX12_part 52 = .ok (.iconst 1, 1) := by decide +kernel
theorem dpart_53 : decode cX12_part 53 = .ok (.goto 4, 3) := by decide +kernel
theorem dpart_56 : decode cX12_part 56 = .ok (.iconst 0, 1) := by decide +kernel
theorem dpart_57 : decode cX12_part 57 = .ok (.ireturn, 1) := by decide +kernel
theorem dpart_58 : decode cX12_part 58 = .ok (.aload_n 0, 1) := by decide +kernel
theorem dpart_59 : decode cX12_part 59 = .ok (.bipush 32, 2) := by decide +kernel
theorem dpart_61 : decode cX12_part 61 = .ok (.invokevirtual 596, 3) := by decide +kernel
theorem dpart_64 : decode cX12_part 64 = .ok (.ifCond .eq 23, 3) := by decide +kernel
theorem dpart_67 : decode cX12_part 67 = .ok (.aload_n 0, 1) := by decide +kernel
theorem dpart_68 : decode cX12_part 68 = .ok (.invokevirtual 589, 3) := by decide +kernel
theorem dpart_71 : decode cX12_part 71 = .ok (.ifCond .eq 14, 3) := by decide +kernel
theorem dpart_74 : decode cX12_part 74 = .ok (.aload_n 0, 1) := by decide +kernel
theorem dpart_75 : decode cX12_part 75 = .ok (.invokevirtual 774, 3) := by decide +kernel
theorem dpart_78 : decode cX12_part 78 = .ok (.ifCond .eq 7, 3) := by decide +kernel
theorem dpart_81 : decode cX12_part 81 = .ok (.iconst 1, 1) := by decide +kernel
theorem dpart_82 : decode cX12_part 82 = .ok (.goto 4, 3) := by decide +kernel
theorem dpart_85 : decode cX12_part 85 = .ok (.iconst 0, 1) := by decide +kernel
theorem dpart_86 : decode cX12_part 86 = .ok (.ireturn, 1) := by decide +kernel
theorem dpart_87 : decode cX12_part 87 = .ok (.aload_n 0, 1) := by decide +kernel
theorem dpart_88 : decode cX12_part 88 = .ok (.bipush 6, 2) := by decide +kernel
theorem dpart_90 : decode cX12_part 90 = .ok (.invokevirtual 596, 3) := by decide +kernel
theorem dpart_93 : decode cX12_part 93 = .ok (.ifCond .ne 20, 3) := by decide +kernel
theorem dpart_96 : decode cX12_part 96 = .ok (.aload_n 0, 1) := by decide +kernel
theorem dpart_97 : decode cX12_part 97 = .ok (.bipush 7, 2) := by decide +kernel
theorem dpart_99 : decode cX12_part 99 = .ok (.invokevirtual 596, 3) := by decide +kernel
theorem dpart_102 : decode cX12_part 102 = .ok (.ifCond .ne 11, 3) := by decide +kernel
theorem dpart_105 : decode cX12_part 105 = .ok (.aload_n 0, 1) := by decide +kernel
theorem dpart_106 : decode cX12_part 106 = .ok (.iconst 3, 1) := by decide +kernel
theorem dpart_107 : decode cX12_part 107 = .ok (.invokevirtual 596, 3) := by decide +kernel
theorem dpart_110 : decode cX12_part 110 = .ok (.ifCond .eq 8, 3) := by decide +kernel
theorem dpart_113 : decode cX12_part 113 = .ok (.aload_n 0, 1) := by decide +kernel
theorem dpart_114 : decode cX12_part 114 = .ok (.invokevirtual 777, 3) := by decide +kernel
theorem dpart_117 : decode cX12_part 117 = .ok (.ireturn, 1) := by decide +kernel
theorem dpart_118 : decode cX12_part 118 = .ok (.aload_n 0, 1) := by decide +kernel
theorem dpart_119 : decode cX12_part 119 = .ok (.iconst 5, 1) := by decide +kernel
theorem dpart_120 : decode cX12_part 120 = .ok (.invokevirtual 596, 3) := by decide +kernel
theorem dpart_123 : decode cX12_part 123 = .ok (.ifCond .ne 12, 3) := by decide +kernel
theorem dpart_126 : decode cX12_part 126 = .ok (.aload_n 0, 1) := by decide +kernel
theorem dpart_127 : decode cX12_part 127 = .ok (.bipush 42, 2) := by decide +kernel
theorem dpart_129 : decode cX12_part 129 = .ok (.invokevirtual 596, 3) := by decide +kernel
theorem dpart_132 : decode cX12_part 132 = .ok (.ifCond .eq 8, 3) := by decide +kernel
theorem dpart_135 : decode cX12_part 135 = .ok (.aload_n 0, 1) := by decide +kernel
theorem dpart_136 : decode cX12_part 136 = .ok (.invokevirtual 780, 3) := by decide +kernel
theorem dpart_139 : decode cX12_part 139 = .ok (.ireturn, 1) := by decide +kernel
theorem dpart_140 : decode cX12_part 140 = .ok (.aload_n 0, 1) := by decide +kernel
theorem dpart_141 : decode cX12_part 141 = .ok (.invokevirtual 593, 3) := by decide +kernel
theorem dpart_144 : decode cX12_part 144 = .ok (.ireturn, 1) := by decide +kernel
section
variable {l : Launch} {D : va_G} {cA : Nat → ClassId} {ad : Nat → Nat}
theorem s_part {ht st rg : Nat → Int} {h : ja_H} {Q : Option ja_V → ja_H → Prop} (g : mo_G Zz h) (p1 : it h ht st rg) (p2 : (h 0 76) < (h 0 26)) (k1 : ∀ (h' : ja_H), ((∃ ht st rg : Nat → Int, it h' ht st rg) ∧ (h 0 7) < (h' 0 7) ∧ mo_ag FKP h h') → mo_G Zz h' → Q (some (0, 1)) h') (k2 : ∀ (h' : ja_H), (0 < (h' 0 8) ∧ (h' 0 1) = (h 0 1) ∧ (h' 0 118) = (h 0 118) ∧ (h' 0 127) = (h 0 127)) → mo_G Zz h' → Q (some (0, 0)) h') : mM_part l D cA ad  h Q := by
  show mJ l D cA ad 12 cX12_part 1 (some .boolean) 0 [(0, (2, ((0 : Nat) : Int)))] [] h Q
  have kn_at := gF_at g
  obtain ⟨z1, z2, z3, z4, z5, z6, z7, z8, z9, z10, z11, z12, z13, z14⟩ := p1.2.2.1
  refine ja_aload_n dpart_0 rfl rfl ?_
  refine ja_bipush 14 dpart_1 rfl ?_
  refine t_isWord (by decide) (show (0 : Nat) ≤ 8 by decide) dpart_3 g ⟨by decide, by decide⟩ ?_
  intro w1 k3_0
  refine ja_if_eq 29 dpart_6 rfl ⟨by omega, by omega⟩ (fun c6 => ?_) (fun c6 => ?_)
  · replace k3_0 := is0 k3_0 c6
    refine ja_aload_n dpart_29 rfl rfl ?_
    refine ja_bipush 20 dpart_30 rfl ?_
    refine t_isWord (by decide) (show (0 : Nat) ≤ 8 by decide) dpart_32 g ⟨by decide, by decide⟩ ?_
    intro w2 k32_0
    refine ja_if_eq 58 dpart_35 rfl ⟨by omega, by omega⟩ (fun c35 => ?_) (fun c35 => ?_)
    · replace k32_0 := is0 k32_0 c35
      refine ja_aload_n dpart_58 rfl rfl ?_
      refine ja_bipush 32 dpart_59 rfl ?_
      refine t_isWord (by decide) (show (0 : Nat) ≤ 8 by decide) dpart_61 g ⟨by decide, by decide⟩ ?_
      intro w3 k61_0
      refine ja_if_eq 87 dpart_64 rfl ⟨by omega, by omega⟩ (fun c64 => ?_) (fun c64 => ?_)
      · replace k61_0 := is0 k61_0 c64
        refine ja_aload_n dpart_87 rfl rfl ?_
        refine ja_bipush 6 dpart_88 rfl ?_
        refine t_isWord (by decide) (show (0 : Nat) ≤ 8 by decide) dpart_90 g ⟨by decide, by decide⟩ ?_
        intro w4 k90_0
        refine ja_if_ne 113 dpart_93 rfl ⟨by omega, by omega⟩ (fun c93 => ?_) (fun c93 => ?_)
        · have z93 := is1v k90_0 c93
          replace k90_0 := is1 k90_0 c93
          refine ja_aload_n dpart_113 rfl rfl ?_
          refine t_advice (by decide) (show (0 : Nat) ≤ 8 by decide) dpart_114 g (p1) (p2) ?_ ?_
          · intro h5 k114_0 g6
            refine ja_zreturn dpart_117 rfl (by omega) ?_
            exact mo_fin (by omega) rfl (k1 h5 (k114_0) g6)
          · intro h7 k114_1 g8
            refine ja_zreturn dpart_117 rfl (by omega) ?_
            exact mo_fin (by omega) rfl (k2 h7 (by omega) g8)
        · replace k90_0 := is0 k90_0 c93
          refine ja_aload_n dpart_96 rfl rfl ?_
          refine ja_bipush 7 dpart_97 rfl ?_
          refine t_isWord (by decide) (show (0 : Nat) ≤ 8 by decide) dpart_99 g ⟨by decide, by decide⟩ ?_
          intro w9 k99_0
          refine ja_if_ne 113 dpart_102 rfl ⟨by omega, by omega⟩ (fun c102 => ?_) (fun c102 => ?_)
          · have z102 := is1v k99_0 c102
            replace k99_0 := is1 k99_0 c102
            refine ja_aload_n dpart_113 rfl rfl ?_
            refine t_advice (by decide) (show (0 : Nat) ≤ 8 by decide) dpart_114 g (p1) (p2) ?_ ?_
            · intro h10 k114_0 g11
              refine ja_zreturn dpart_117 rfl (by omega) ?_
              exact mo_fin (by omega) rfl (k1 h10 (k114_0) g11)
            · intro h12 k114_1 g13
              refine ja_zreturn dpart_117 rfl (by omega) ?_
              exact mo_fin (by omega) rfl (k2 h12 (by omega) g13)
          · replace k99_0 := is0 k99_0 c102
            refine ja_aload_n dpart_105 rfl rfl ?_
            refine ja_iconst dpart_106 ?_
            refine t_isWord (by decide) (show (0 : Nat) ≤ 8 by decide) dpart_107 g ⟨by decide, by decide⟩ ?_
            intro w14 k107_0
            refine ja_if_eq 118 dpart_110 rfl ⟨by omega, by omega⟩ (fun c110 => ?_) (fun c110 => ?_)
            · replace k107_0 := is0 k107_0 c110
              refine ja_aload_n dpart_118 rfl rfl ?_
              refine ja_iconst dpart_119 ?_
              refine t_isWord (by decide) (show (0 : Nat) ≤ 8 by decide) dpart_120 g ⟨by decide, by decide⟩ ?_
              intro w15 k120_0
              refine ja_if_ne 135 dpart_123 rfl ⟨by omega, by omega⟩ (fun c123 => ?_) (fun c123 => ?_)
              · have z123 := is1v k120_0 c123
                replace k120_0 := is1 k120_0 c123
                refine ja_aload_n dpart_135 rfl rfl ?_
                refine t_bar (by decide) (show (0 : Nat) ≤ 8 by decide) dpart_136 g (p1) ?_ ?_
                · intro h16 k136_0 g17
                  refine ja_zreturn dpart_139 rfl (by omega) ?_
                  exact mo_fin (by omega) rfl (k1 h16 (k136_0) g17)
                · intro h18 k136_1 g19
                  refine ja_zreturn dpart_139 rfl (by omega) ?_
                  exact mo_fin (by omega) rfl (k2 h18 (by omega) g19)
              · replace k120_0 := is0 k120_0 c123
                refine ja_aload_n dpart_126 rfl rfl ?_
                refine ja_bipush 42 dpart_127 rfl ?_
                refine t_isWord (by decide) (show (0 : Nat) ≤ 8 by decide) dpart_129 g ⟨by decide, by decide⟩ ?_
                intro w20 k129_0
                refine ja_if_eq 140 dpart_132 rfl ⟨by omega, by omega⟩ (fun c132 => ?_) (fun c132 => ?_)
                · replace k129_0 := is0 k129_0 c132
                  refine ja_aload_n dpart_140 rfl rfl ?_
                  refine t_wrong (by decide) (show (0 : Nat) ≤ 8 by decide) dpart_141 g  ?_
                  intro h21 k141_0 g22
                  refine ja_zreturn dpart_144 rfl (by omega) ?_
                  exact mo_fin (by omega) rfl (k2 h21 (by omega) g22)
                · have z132 := is1v k129_0 c132
                  replace k129_0 := is1 k129_0 c132
                  refine ja_aload_n dpart_135 rfl rfl ?_
                  refine t_bar (by decide) (show (0 : Nat) ≤ 8 by decide) dpart_136 g (p1) ?_ ?_
                  · intro h23 k136_0 g24
                    refine ja_zreturn dpart_139 rfl (by omega) ?_
                    exact mo_fin (by omega) rfl (k1 h23 (k136_0) g24)
                  · intro h25 k136_1 g26
                    refine ja_zreturn dpart_139 rfl (by omega) ?_
                    exact mo_fin (by omega) rfl (k2 h25 (by omega) g26)
            · have z110 := is1v k107_0 c110
              replace k107_0 := is1 k107_0 c110
              refine ja_aload_n dpart_113 rfl rfl ?_
              refine t_advice (by decide) (show (0 : Nat) ≤ 8 by decide) dpart_114 g (p1) (p2) ?_ ?_
              · intro h27 k114_0 g28
                refine ja_zreturn dpart_117 rfl (by omega) ?_
                exact mo_fin (by omega) rfl (k1 h27 (k114_0) g28)
              · intro h29 k114_1 g30
                refine ja_zreturn dpart_117 rfl (by omega) ?_
                exact mo_fin (by omega) rfl (k2 h29 (by omega) g30)
      · have z64 := is1v k61_0 c64
        replace k61_0 := is1 k61_0 c64
        refine ja_aload_n dpart_67 rfl rfl ?_
        refine t_take (by decide) (show (0 : Nat) ≤ 8 by decide) dpart_68 g  ?_ ?_
        · intro k68_0 g31
          replace k68_0 : (h 0 7) < 900 := k68_0
          replace g31 : mo_G Zz (ja_up h 0 7 ((h 0 7) + 1)) := g31
          show mJ l D cA ad 12 cX12_part 1 (some .boolean) 71 [(0, (2, ((0 : Nat) : Int)))] [(0, 1)] (ja_up h 0 7 ((h 0 7) + 1)) Q
          refine ja_if_eq 85 dpart_71 rfl ⟨by decide, by decide⟩ (fun c71 => absurd c71 (by omega)) (fun c71 => ?_)
          refine ja_aload_n dpart_74 rfl rfl ?_
          refine t_pick (by decide) (show (0 : Nat) ≤ 8 by decide) dpart_75 g31 (it_keep p1 (by (repeat (first | exact ag_refl | refine ag_up rfl ?_))) (show it_nn ((h 0 7) + 1) (h 0 113) (h 0 95) (h 0 68) (h 0 72) (h 0 31) (h 0 41) (h 0 64) (h 0 61) (h 0 18) (h 0 84) (h 0 87) (h 0 86) (h 0 85) (h 0 109) (h 0 66) from by unfold it_nn; omega) (it_F_eq (it_F_of p1) rfl rfl) (fun z => z) (fun _ _ _ z => z) (Int.le_refl _)) ?_ ?_
          · intro h32 k75_0 g33
            refine ja_if_eq 85 dpart_78 rfl ⟨by decide, by decide⟩ (fun c78 => absurd c78 (by omega)) (fun c78 => ?_)
            refine ja_iconst dpart_81 ?_
            refine ja_goto 86 dpart_82 rfl ?_
            refine ja_zreturn dpart_86 rfl (by omega) ?_
            exact mo_fin (by omega) rfl (k1 h32 (⟨k75_0.1, Int.lt_of_le_of_lt (show (h 0 7) ≤ (h 0 7) + 1 by omega) k75_0.2.1, ag_trans (by (repeat (first | exact ag_refl | refine ag_up rfl ?_))) k75_0.2.2⟩) g33)
          · intro h34 k75_1 g35
            replace k75_1 : 0 < (h34 0 8) ∧ (h34 0 1) = (h 0 1) ∧ (h34 0 118) = (h 0 118) ∧ (h34 0 127) = (h 0 127) := k75_1
            refine ja_if_eq 85 dpart_78 rfl ⟨by decide, by decide⟩ (fun c78 => ?_) (fun c78 => absurd c78 (by omega))
            refine ja_iconst dpart_85 ?_
            refine ja_zreturn dpart_86 rfl (by omega) ?_
            exact mo_fin (by omega) rfl (k2 h34 (by omega) g35)
        · intro h36 k68_1 g37
          refine ja_if_eq 85 dpart_71 rfl ⟨by decide, by decide⟩ (fun c71 => ?_) (fun c71 => absurd c71 (by omega))
          refine ja_iconst dpart_85 ?_
          refine ja_zreturn dpart_86 rfl (by omega) ?_
          exact mo_fin (by omega) rfl (k2 h36 (by omega) g37)
    · have z35 := is1v k32_0 c35
      replace k32_0 := is1 k32_0 c35
      refine ja_aload_n dpart_38 rfl rfl ?_
      refine t_take (by decide) (show (0 : Nat) ≤ 8 by decide) dpart_39 g  ?_ ?_
      · intro k39_0 g38
        replace k39_0 : (h 0 7) < 900 := k39_0
        replace g38 : mo_G Zz (ja_up h 0 7 ((h 0 7) + 1)) := g38
        show mJ l D cA ad 12 cX12_part 1 (some .boolean) 42 [(0, (2, ((0 : Nat) : Int)))] [(0, 1)] (ja_up h 0 7 ((h 0 7) + 1)) Q
        refine ja_if_eq 56 dpart_42 rfl ⟨by decide, by decide⟩ (fun c42 => absurd c42 (by omega)) (fun c42 => ?_)
        refine ja_aload_n dpart_45 rfl rfl ?_
        refine t_told (by decide) (show (0 : Nat) ≤ 8 by decide) dpart_46 g38 (it_keep p1 (by (repeat (first | exact ag_refl | refine ag_up rfl ?_))) (show it_nn ((h 0 7) + 1) (h 0 113) (h 0 95) (h 0 68) (h 0 72) (h 0 31) (h 0 41) (h 0 64) (h 0 61) (h 0 18) (h 0 84) (h 0 87) (h 0 86) (h 0 85) (h 0 109) (h 0 66) from by unfold it_nn; omega) (it_F_eq (it_F_of p1) rfl rfl) (fun z => z) (fun _ _ _ z => z) (Int.le_refl _)) ?_ ?_
        · intro h39 k46_0 g40
          refine ja_if_eq 56 dpart_49 rfl ⟨by decide, by decide⟩ (fun c49 => absurd c49 (by omega)) (fun c49 => ?_)
          refine ja_iconst dpart_52 ?_
          refine ja_goto 57 dpart_53 rfl ?_
          refine ja_zreturn dpart_57 rfl (by omega) ?_
          exact mo_fin (by omega) rfl (k1 h39 (⟨k46_0.1, Int.lt_of_le_of_lt (show (h 0 7) ≤ (h 0 7) + 1 by omega) k46_0.2.1, ag_trans (by (repeat (first | exact ag_refl | refine ag_up rfl ?_))) k46_0.2.2⟩) g40)
        · intro h41 k46_1 g42
          replace k46_1 : 0 < (h41 0 8) ∧ (h41 0 1) = (h 0 1) ∧ (h41 0 118) = (h 0 118) ∧ (h41 0 127) = (h 0 127) := k46_1
          refine ja_if_eq 56 dpart_49 rfl ⟨by decide, by decide⟩ (fun c49 => ?_) (fun c49 => absurd c49 (by omega))
          refine ja_iconst dpart_56 ?_
          refine ja_zreturn dpart_57 rfl (by omega) ?_
          exact mo_fin (by omega) rfl (k2 h41 (by omega) g42)
      · intro h43 k39_1 g44
        refine ja_if_eq 56 dpart_42 rfl ⟨by decide, by decide⟩ (fun c42 => ?_) (fun c42 => absurd c42 (by omega))
        refine ja_iconst dpart_56 ?_
        refine ja_zreturn dpart_57 rfl (by omega) ?_
        exact mo_fin (by omega) rfl (k2 h43 (by omega) g44)
  · have z6 := is1v k3_0 c6
    replace k3_0 := is1 k3_0 c6
    refine ja_aload_n dpart_9 rfl rfl ?_
    refine t_take (by decide) (show (0 : Nat) ≤ 8 by decide) dpart_10 g  ?_ ?_
    · intro k10_0 g45
      replace k10_0 : (h 0 7) < 900 := k10_0
      replace g45 : mo_G Zz (ja_up h 0 7 ((h 0 7) + 1)) := g45
      show mJ l D cA ad 12 cX12_part 1 (some .boolean) 13 [(0, (2, ((0 : Nat) : Int)))] [(0, 1)] (ja_up h 0 7 ((h 0 7) + 1)) Q
      refine ja_if_eq 27 dpart_13 rfl ⟨by decide, by decide⟩ (fun c13 => absurd c13 (by omega)) (fun c13 => ?_)
      refine ja_aload_n dpart_16 rfl rfl ?_
      refine t_aspectField (by decide) (show (0 : Nat) ≤ 8 by decide) dpart_17 g45 (it_keep p1 (by (repeat (first | exact ag_refl | refine ag_up rfl ?_))) (show it_nn ((h 0 7) + 1) (h 0 113) (h 0 95) (h 0 68) (h 0 72) (h 0 31) (h 0 41) (h 0 64) (h 0 61) (h 0 18) (h 0 84) (h 0 87) (h 0 86) (h 0 85) (h 0 109) (h 0 66) from by unfold it_nn; omega) (it_F_eq (it_F_of p1) rfl rfl) (fun z => z) (fun _ _ _ z => z) (Int.le_refl _)) ?_ ?_
      · intro h46 k17_0 g47
        replace k17_0 : (∃ ht st rg : Nat → Int, it h46 ht st rg) ∧ ((h 0 7) + 1) < (h46 0 7) ∧ mo_ag FKP (ja_up h 0 7 ((h 0 7) + 1)) h46 := k17_0
        refine ja_if_eq 27 dpart_20 rfl ⟨by decide, by decide⟩ (fun c20 => absurd c20 (by omega)) (fun c20 => ?_)
        refine ja_iconst dpart_23 ?_
        refine ja_goto 28 dpart_24 rfl ?_
        refine ja_zreturn dpart_28 rfl (by omega) ?_
        exact mo_fin (by omega) rfl (k1 h46 (⟨k17_0.1, Int.lt_of_le_of_lt (show (h 0 7) ≤ (h 0 7) + 1 by omega) k17_0.2.1, ag_trans (by (repeat (first | exact ag_refl | refine ag_up rfl ?_))) k17_0.2.2⟩) g47)
      · intro h48 k17_1 g49
        replace k17_1 : 0 < (h48 0 8) ∧ (h48 0 1) = (h 0 1) ∧ (h48 0 118) = (h 0 118) ∧ (h48 0 127) = (h 0 127) := k17_1
        refine ja_if_eq 27 dpart_20 rfl ⟨by decide, by decide⟩ (fun c20 => ?_) (fun c20 => absurd c20 (by omega))
        refine ja_iconst dpart_27 ?_
        refine ja_zreturn dpart_28 rfl (by omega) ?_
        exact mo_fin (by omega) rfl (k2 h48 (by omega) g49)
    · intro h50 k10_1 g51
      refine ja_if_eq 27 dpart_13 rfl ⟨by decide, by decide⟩ (fun c13 => ?_) (fun c13 => absurd c13 (by omega))
      refine ja_iconst dpart_27 ?_
      refine ja_zreturn dpart_28 rfl (by omega) ?_
      exact mo_fin (by omega) rfl (k2 h50 (by omega) g51)
theorem t_part {ht st rg : Nat → Int} {d nL pc : Nat} {cc : ByteArray} {rt : Option FieldType} {L : List (Nat × ja_V)} {S : List ja_V} {h : ja_H} {Q : Option ja_V → ja_H → Prop} (hdd : 12 < d) (hwd : ja_wd S ≤ 8) (hd : decode cc pc = .ok (.invokevirtual 766, 3)) (g : mo_G Zz h) (p1 : it h ht st rg) (p2 : (h 0 76) < (h 0 26)) (k1 : ∀ (h' : ja_H), ((∃ ht st rg : Nat → Int, it h' ht st rg) ∧ (h 0 7) < (h' 0 7) ∧ mo_ag FKP h h') → mo_G Zz h' → mJ l D cA ad d cc nL rt (pc + 3) L ((0, 1) :: S) h' Q) (k2 : ∀ (h' : ja_H), (0 < (h' 0 8) ∧ (h' 0 1) = (h 0 1) ∧ (h' 0 118) = (h 0 118) ∧ (h' 0 127) = (h 0 127)) → mo_G Zz h' → mJ l D cA ad d cc nL rt (pc + 3) L ((0, 0) :: S) h' Q) : mJ l D cA ad d cc nL rt pc L ((2, ((0 : Nat) : Int)) :: S) h Q :=
  mc_part hdd hwd hd (s_part g p1 p2 k1 k2)
end
