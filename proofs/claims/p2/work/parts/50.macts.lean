/-! the reference: its acts (written by a program) -/
theorem bs_w1 {h : ja_H} {R r ph tf q0 a b : Int} {s : List mo_A} {ht st rg : Nat → Int} {tu : Int} (hB : piB h R r ph tf q0 ((18, a, b) :: s) ht st rg tu) (q : (h 0 19) = 1 ∨ (h 0 19) = 2) : 1 ≤ (h 0 113) := by
  obtain ⟨-, -, -, -, -, -, -, -, top⟩ := hB
  obtain ⟨F1, F2, -⟩ := top.1 (Or.inr (Or.inr rfl))
  rcases q with q | q
  · exact (F1 q).1
  · exact (F2 q).1
theorem bs_be {h : ja_H} {R r ph tf q0 a b : Int} {s : List mo_A} {ht st rg : Nat → Int} {tu : Int} (hB : piB h R r ph tf q0 ((6, a, b) :: s) ht st rg tu) : ((h 2) (h 0 7).toNat = 3 ∨ (h 2) (h 0 7).toNat = 2 ∨ ((h 2) (h 0 7).toNat = 5 ∧ ((h 5) (h 0 7).toNat = 40 ∨ (h 5) (h 0 7).toNat = 45)) ∨ ((h 2) (h 0 7).toNat = 1 ∧ ((h 5) (h 0 7).toNat = 28 ∨ (h 5) (h 0 7).toNat = 27)) ∨ ((h 0 86) = 0 ∧ (h 2) (h 0 7).toNat = 1 ∧ ((h 5) (h 0 7).toNat = 36 ∨ (h 5) (h 0 7).toNat = 26 ∨ (h 5) (h 0 7).toNat = 18))) ∧ ¬ ((h 2) (h 0 7).toNat = 5 ∧ (h 5) (h 0 7).toNat = 45) ∧ ¬ ((h 2) (h 0 7).toNat = 1 ∧ (h 5) (h 0 7).toNat = 28) := by
  obtain ⟨-, -, -, -, -, -, -, -, top⟩ := hB
  exact top.2.1 rfl
theorem bs_28 {h : ja_H} {R r ph tf q0 a b : Int} {s : List mo_A} {ht st rg : Nat → Int} {tu : Int} (hB : piB h R r ph tf q0 ((28, a, b) :: s) ht st rg tu) : 0 ≤ a ∧ a < (h 0 113) := by
  obtain ⟨-, -, -, hpt, -⟩ := hB
  obtain ⟨-, -, q3, -⟩ := hpt
  obtain ⟨-, -, -, -, -, -, -, -, -, -, -, -, -, -, -, -, -, -, -, -, -, -, -, -, -, o28, -⟩ := q3
  have := (o28 rfl).1
  exact ⟨this.1, this.2.1⟩
theorem bs_21 {h : ja_H} {R r ph tf q0 a b : Int} {s : List mo_A} {ht st rg : Nat → Int} {tu : Int} (hB : piB h R r ph tf q0 ((21, a, b) :: s) ht st rg tu) : 0 ≤ a ∧ a < (h 0 113) := by
  obtain ⟨-, -, -, hpt, -⟩ := hB
  obtain ⟨-, -, q3, -⟩ := hpt
  obtain ⟨-, -, -, -, -, -, -, -, -, -, -, -, -, -, -, -, -, -, -, -, -, o21, -⟩ := q3
  have := (o21 rfl).1
  exact ⟨this.1, this.2.1⟩
theorem wn_go {h : ja_H} {r : Int} (q : (h 0 11) = 0 → r = 3) : pi_wn h r (-1) := ⟨fun _ z => q z, fun z => absurd z.1 (by decide), fun z => absurd z.1 (by decide), fun z => absurd z.1 (by decide), fun z => absurd z (by decide)⟩
theorem mo_j_G {h : ja_H} {f p : Int} (g : mo_G h) (hf : 0 ≤ f ∧ f ≤ 8) (hp : -2147483648 ≤ p ∧ p ≤ 2147483647) : mo_G (ja_up (ja_up h 0 11 f) 0 12 p) := gP_falseAt (gP_false1 g (x := f) hf) (x := p) hp
section
variable {h : ja_H} {R r ph tf q0 a b f p : Int} {s : List mo_A} {ht st rg : Nat → Int} {tu : Int}
theorem ab_loadj {tok : Int} (g : mo_G h) (hS : pk_S h (h 0 17).toNat s) (hB : piB h R r ph tf q0 ((6, a, b) :: s) ht st rg tu) (htk : 0 ≤ tok ∧ tok ≤ 900) (hf : 1 ≤ f ∧ f ≤ 8 ∧ -2147483648 ≤ p ∧ p ≤ 2147483647) : pi_done h (mo_L (mo_tk (mo_E (ja_up (ja_up (ja_up h 0 19 1) 0 11 f) 0 12 p) 6 tok ((h 0 76)))) 7 0 0 0) R r ph tf q0 (pi_mu h ((6, a, b) :: s)) := by
  refine pi_done_of (h1 := ja_up (ja_up (ja_up h 0 19 1) 0 11 f) 0 12 p) (by (repeat (refine ag_up rfl ?_)); exact ag_refl) ?_
  exact ab_od_loadj (mo_j_G (gP_form g (x := 1) (by decide)) (by omega) (by omega)) (pk_S_ag (by (repeat (refine ag_up rfl ?_)); exact ag_refl) hS) (piB_judge (fun z => by omega) (piB_form hB)) htk rfl (show f ≠ 0 by omega)
theorem ab_selfj (g : mo_G h) (hS : pk_S h (h 0 17).toNat s) (hB : piB h R r ph tf q0 ((6, a, b) :: s) ht st rg tu) (hr3 : r ≤ 3) (hf : 1 ≤ f ∧ f ≤ 8 ∧ -2147483648 ≤ p ∧ p ≤ 2147483647) : pi_done h (mo_L (mo_tk (mo_E (ja_up (ja_up (ja_up h 0 19 0) 0 11 f) 0 12 p) 3 0 0)) 7 0 0 0) R r ph tf q0 (pi_mu h ((6, a, b) :: s)) := by
  refine pi_done_of (h1 := ja_up (ja_up (ja_up h 0 19 0) 0 11 f) 0 12 p) (by (repeat (refine ag_up rfl ?_)); exact ag_refl) ?_
  exact ab_od_self1 (mo_j_G (gP_form g (x := 0) (by decide)) (by omega) (by omega)) (pk_S_ag (by (repeat (refine ag_up rfl ?_)); exact ag_refl) hS) (piB_judge (fun z => by omega) (piB_form hB)) hr3 rfl
theorem ab_goj1 (g : mo_G h) (hS : pk_S h (h 0 17).toNat s) (hB : piB h R r ph tf q0 ((6, a, b) :: s) ht st rg tu) (hr3 : r ≤ 3) (hf : 1 ≤ f ∧ f ≤ 8 ∧ -2147483648 ≤ p ∧ p ≤ 2147483647) : pi_done h (mo_L (mo_E (ja_up (mo_tk (ja_up (ja_up h 0 11 f) 0 12 p)) 0 19 5) 16 0 0) 7 0 0 0) R r ph tf q0 (pi_mu h ((6, a, b) :: s)) := by
  refine pi_done_of (h1 := ja_up (ja_up h 0 11 f) 0 12 p) (by (repeat (refine ag_up rfl ?_)); exact ag_refl) ?_
  exact ab_od_go1 (mo_j_G g (by omega) (by omega)) (pk_S_ag (by (repeat (refine ag_up rfl ?_)); exact ag_refl) hS) (piB_judge (fun z => by omega) hB) hr3 (wn_go (fun z => absurd (show f = 0 from z) (by omega)))
theorem ab_goj (g : mo_G h) (hS : pk_S h (h 0 17).toNat s) (hB : piB h R r ph tf q0 ((6, a, b) :: s) ht st rg tu) (hr3 : r ≤ 3) (hf : 1 ≤ f ∧ f ≤ 8 ∧ -2147483648 ≤ p ∧ p ≤ 2147483647) : pi_done h (mo_L (mo_L (mo_L (mo_tk (ja_up (ja_up h 0 11 f) 0 12 p)) 7 0 0 0) 12 0 0 0) 8 0 0 0) R r ph tf q0 (pi_mu h ((6, a, b) :: s)) := by
  refine pi_done_of (h1 := ja_up (ja_up h 0 11 f) 0 12 p) (by (repeat (refine ag_up rfl ?_)); exact ag_refl) ?_
  exact ab_od_go (mo_j_G g (by omega) (by omega)) (pk_S_ag (by (repeat (refine ag_up rfl ?_)); exact ag_refl) hS) (piB_judge (fun z => by omega) hB) (wn_go (fun z => absurd (show f = 0 from z) (by omega))) hr3
end
theorem doperators_0 : decode cX12_operators 0 = .ok (.aload_n 0, 1) := by decide +kernel
theorem doperators_1 : decode cX12_operators 1 = .ok (.invokevirtual 862, 3) := by decide +kernel
theorem doperators_4 : decode cX12_operators 4 = .ok (.istore_n 2, 1) := by decide +kernel
theorem doperators_5 : decode cX12_operators 5 = .ok (.iload_n 2, 1) := by decide +kernel
theorem doperators_6 : decode cX12_operators 6 = .ok (.iload_n 1, 1) := by decide +kernel
theorem doperators_7 : decode cX12_operators 7 = .ok (.if_icmp .gt 15, 3) := by decide +kernel
theorem doperators_10 : decode cX12_operators 10 = .ok (.aload_n 0, 1) := by decide +kernel
theorem doperators_11 : decode cX12_operators 11 = .ok (.dup, 1) := by decide +kernel
theorem doperators_12 : decode cX12_operators 12 = .ok (.getfield 614, 3) := by decide +kernel
theorem doperators_15 : decode cX12_operators 15 = .ok (.iconst 1, 1) := by decide +kernel
theorem doperators_16 : decode cX12_operators 16 = .ok (.isub, 1) := by decide +kernel
theorem doperators_17 : decode cX12_operators 17 = .ok (.putfield 614, 3) := by decide +kernel
theorem doperators_20 : decode cX12_operators 20 = .ok (.iconst 1, 1) := by decide +kernel
theorem doperators_21 : decode cX12_operators 21 = .ok (.ireturn, 1) := by decide +kernel
theorem doperators_22 : decode cX12_operators 22 = .ok (.aload_n 0, 1) := by decide +kernel
theorem doperators_23 : decode cX12_operators 23 = .ok (.getfield 13, 3) := by decide +kernel
theorem doperators_26 : decode cX12_operators 26 = .ok (.aload_n 0, 1) := by decide +kernel
theorem doperators_27 : decode cX12_operators 27 = .ok (.getfield 574, 3) := by decide +kernel
theorem doperators_30 : decode cX12_operators 30 = .ok (.iaload, 1) := by decide +kernel
theorem doperators_31 : decode cX12_operators 31 = .ok (.iconst 1, 1) := by decide +kernel
theorem doperators_32 : decode cX12_operators 32 = .ok (.if_icmp .ne 7, 3) := by decide +kernel
theorem doperators_35 : decode cX12_operators 35 = .ok (.iconst 0, 1) := by decide +kernel
theorem doperators_36 : decode cX12_operators 36 = .ok (.goto 12, 3) := by decide +kernel
theorem doperators_39 : decode cX12_operators 39 = .ok (.aload_n 0, 1) := by decide +kernel
theorem doperators_40 : decode cX12_operators 40 = .ok (.getfield 22, 3) := by decide +kernel
theorem doperators_43 : decode cX12_operators 43 = .ok (.aload_n 0, 1) := by decide +kernel
theorem doperators_44 : decode cX12_operators 44 = .ok (.getfield 574, 3) := by decide +kernel
theorem doperators_47 : decode cX12_operators 47 = .ok (.iaload, 1) := by decide +kernel
theorem doperators_48 : decode cX12_operators 48 = .ok (.istore_n 3, 1) := by decide +kernel
theorem doperators_49 : decode cX12_operators 49 = .ok (.aload_n 0, 1) := by decide +kernel
theorem doperators_50 : decode cX12_operators 50 = .ok (.invokevirtual 589, 3) := by decide +kernel
theorem doperators_53 : decode cX12_operators 53 = .ok (.ifCond .ne 5, 3) := by decide +kernel
theorem doperators_56 : decode cX12_operators 56 = .ok (.iconst 0, 1) := by decide +kernel
theorem doperators_57 : decode cX12_operators 57 = .ok (.ireturn, 1) := by decide +kernel
theorem doperators_58 : decode cX12_operators 58 = .ok (.aload_n 0, 1) := by decide +kernel
theorem doperators_59 : decode cX12_operators 59 = .ok (.iconst 2, 1) := by decide +kernel
theorem doperators_60 : decode cX12_operators 60 = .ok (.iload_n 1, 1) := by decide +kernel
theorem doperators_61 : decode cX12_operators 61 = .ok (.iconst 0, 1) := by decide +kernel
theorem doperators_62 : decode cX12_operators 62 = .ok (.iconst 0, 1) := by decide +kernel
theorem doperators_63 : decode cX12_operators 63 = .ok (.invokevirtual 790, 3) := by decide +kernel
theorem doperators_66 : decode cX12_operators 66 = .ok (.istore 4, 2) := by decide +kernel
theorem doperators_68 : decode cX12_operators 68 = .ok (.iload_n 2, 1) := by decide +kernel
theorem doperators_69 : decode cX12_operators 69 = .ok (.iconst 2, 1) := by decide +kernel
theorem doperators_70 : decode cX12_operators 70 = .ok (.if_icmp .gt 31, 3) := by decide +kernel
theorem doperators_73 : decode cX12_operators 73 = .ok (.aload_n 0, 1) := by decide +kernel
theorem doperators_74 : decode cX12_operators 74 = .ok (.iconst 4, 1) := by decide +kernel
theorem doperators_75 : decode cX12_operators 75 = .ok (.aload_n 0, 1) := by decide +kernel
theorem doperators_76 : decode cX12_operators 76 = .ok (.iload_n 2, 1) := by decide +kernel
theorem doperators_77 : decode cX12_operators 77 = .ok (.iconst 1, 1) := by decide +kernel
theorem doperators_78 : decode cX12_operators 78 = .ok (.if_icmp .ne 8, 3) := by decide +kernel
theorem doperators_81 : decode cX12_operators 81 = .ok (.bipush 13, 2) := by decide +kernel
theorem doperators_83 : decode cX12_operators 83 = .ok (.goto 5, 3) := by decide +kernel
theorem doperators_86 : decode cX12_operators 86 = .ok (.bipush 12, 2) := by decide +kernel
theorem doperators_88 : decode cX12_operators 88 = .ok (.iconst 0, 1) := by decide +kernel
theorem doperators_89 : decode cX12_operators 89 = .ok (.iconst 0, 1) := by decide +kernel
theorem doperators_90 : decode cX12_operators 90 = .ok (.invokevirtual 732, 3) := by decide +kernel
theorem doperators_93 : decode cX12_operators 93 = .ok (.iconst 0, 1) := by decide +kernel
theorem doperators_94 : decode cX12_operators 94 = .ok (.iconst 0, 1) := by decide +kernel
theorem doperators_95 : decode cX12_operators 95 = .ok (.invokevirtual 790, 3) := by decide +kernel
theorem doperators_98 : decode cX12_operators 98 = .ok (.goto 11, 3) := by decide +kernel
theorem doperators_101 : decode cX12_operators 101 = .ok (.aload_n 0, 1) := by decide +kernel
theorem doperators_102 : decode cX12_operators 102 = .ok (.iconst 3, 1) := by decide +kernel
theorem doperators_103 : decode cX12_operators 103 = .ok (.iload_n 3, 1) := by decide +kernel
theorem doperators_104 : decode cX12_operators 104 = .ok (.iconst 0, 1) := by decide +kernel
theorem doperators_105 : decode cX12_operators 105 = .ok (.iconst 0, 1) := by decide +kernel
theorem doperators_106 : decode cX12_operators 106 = .ok (.invokevirtual 790, 3) := by decide +kernel
theorem doperators_109 : decode cX12_operators 109 = .ok (.istore 4, 2) := by decide +kernel
theorem doperators_111 : decode cX12_operators 111 = .ok (.aload_n 0, 1) := by decide +kernel
theorem doperators_112 : decode cX12_operators 112 = .ok (.iconst 1, 1) := by decide +kernel
theorem doperators_113 : decode cX12_operators 113 = .ok (.iload_n 2, 1) := by decide +kernel
theorem doperators_114 : decode cX12_operators 114 = .ok (.iconst 0, 1) := by decide +kernel
theorem doperators_115 : decode cX12_operators 115 = .ok (.iconst 0, 1) := by decide +kernel
theorem doperators_116 : decode cX12_operators 116 = .ok (.invokevirtual 790, 3) := by decide +kernel
theorem doperators_119 : decode cX12_operators 119 = .ok (.ireturn, 1) := by decide +kernel
section
variable {l : Launch} {D : va_G} {cA : Nat → ClassId} {ad : Nat → Nat}
theorem s_operators {a1 : Int} {R r ph tf q0 b : Int} {s : List mo_A} {ht st rg : Nat → Int} {tu : Int} {h : ja_H} {Q : Option ja_V → ja_H → Prop} (g : mo_G h) (r1 : -2147483648 ≤ a1 ∧ a1 ≤ 2147483647) (p1 : pk_S h (h 0 17).toNat s) (p2 : piB h R r ph tf q0 ((2, a1, b) :: s) ht st rg tu) (k1 : ∀ (h' : ja_H), (pi_done h h' R r ph tf q0 (pi_mu h ((2, a1, b) :: s))) → mo_G h' → Q (some (0, 1)) h') (k2 : ∀ (h' : ja_H), (0 < (h' 0 8) ∧ (h' 0 1) = (h 0 1) ∧ (h' 0 118) = (h 0 118) ∧ (h' 0 127) = (h 0 127)) → mo_G h' → Q (some (0, 0)) h') : mM_operators l D cA ad a1 h Q := by
  show mJ l D cA ad 3 cX12_operators 5 (some .boolean) 0 [(0, (2, ((0 : Nat) : Int))), (1, (0, a1))] [] h Q
  have kn_at := gF_at g
  have kn_wTop := gF_wTop g
  have kn_words := gF_words g
  have kn_nest := gF_nest g
  have hN := piB_num g p1 p2
  obtain ⟨N1, N2, N3, N4, N5, N6, N7, N8, N9, N10, N11, N12, N13, ⟨NK1, NK2⟩, ND1, ND2, ND3, NU1, NU2⟩ := hN
  have hll := bs_hl p2
  have hn1 : (h 0 18) = 1 + pk_sum pk_c s := p2.1.1
  refine ja_aload_n doperators_0 rfl rfl ?_
  refine t_strength (by decide) (show (0 : Nat) ≤ 8 by decide) doperators_1 g  ?_
  intro w1 k1_0
  refine ja_istore_n doperators_4 rfl (by decide) (L2 := [(2, (0, w1)), (0, (2, ((0 : Nat) : Int))), (1, (0, a1))]) rfl ?_
  refine ja_iload_n doperators_5 rfl rfl ?_
  refine ja_iload_n doperators_6 rfl rfl ?_
  refine ja_icmp_gt 22 doperators_7 rfl ⟨by omega, by omega⟩ ⟨by omega, by omega⟩ (fun c7 => ?_) (fun c7 => ?_)
  · refine ja_aload_n doperators_22 rfl rfl ?_
    refine fa_kinds doperators_23 ?_
    refine ja_aload_n doperators_26 rfl rfl ?_
    refine fg_at (v := h 0 7) rfl doperators_27 ?_
    have f2 := gF_at g
    refine il_kinds (v := h 2 (h 0 7).toNat) rfl ⟨by omega, by omega⟩ doperators_30 ?_
    have f3 := gC_kinds g (h 0 7).toNat
    refine ja_iconst doperators_31 ?_
    refine ja_icmp_ne 39 doperators_32 rfl ⟨by omega, by omega⟩ ⟨by decide, by decide⟩ (fun c32 => ?_) (fun c32 => ?_)
    · refine ja_aload_n doperators_39 rfl rfl ?_
      refine fa_worths doperators_40 ?_
      refine ja_aload_n doperators_43 rfl rfl ?_
      refine fg_at (v := h 0 7) rfl doperators_44 ?_
      refine il_worths (v := h 5 (h 0 7).toNat) rfl ⟨by omega, by omega⟩ doperators_47 ?_
      have f4 := gC_worths g (h 0 7).toNat
      refine ja_istore_n doperators_48 rfl (by decide) (L2 := [(3, (0, (h 5 (h 0 7).toNat))), (2, (0, w1)), (0, (2, ((0 : Nat) : Int))), (1, (0, a1))]) rfl ?_
      refine ja_aload_n doperators_49 rfl rfl ?_
      refine t_take (by decide) (show (0 : Nat) ≤ 8 by decide) doperators_50 g  ?_ ?_
      · intro k50_0 g5
        replace k50_0 : (h 0 7) < 900 := k50_0
        replace g5 : mo_G (ja_up h 0 7 ((h 0 7) + 1)) := g5
        show mJ l D cA ad 3 cX12_operators 5 (some .boolean) 53 [(3, (0, (h 5 (h 0 7).toNat))), (2, (0, w1)), (0, (2, ((0 : Nat) : Int))), (1, (0, a1))] [(0, 1)] (ja_up h 0 7 ((h 0 7) + 1)) Q
        refine ja_if_ne 58 doperators_53 rfl ⟨by decide, by decide⟩ (fun c53 => ?_) (fun c53 => absurd c53 (by omega))
        refine ja_aload_n doperators_58 rfl rfl ?_
        refine ja_iconst doperators_59 ?_
        refine ja_iload_n doperators_60 rfl rfl ?_
        refine ja_iconst doperators_61 ?_
        refine ja_iconst doperators_62 ?_
        refine t_later (by decide) (show (0 : Nat) ≤ 8 by decide) doperators_63 g5 ⟨by decide, by decide⟩ ⟨by omega, by omega⟩ ⟨by decide, by decide⟩ ⟨by decide, by decide⟩ (show 0 ≤ 2 ∧ 2 ≤ 38 by omega) (show (h 0 17) < 2000 by omega) ?_
        intro g6
        replace g6 : mo_G (ja_up (ja_up (ja_up (ja_up (ja_up (ja_up h 0 7 ((h 0 7) + 1)) 6 ((h 0 17).toNat) 2) 7 ((h 0 17).toNat) a1) 8 ((h 0 17).toNat) 0) 9 ((h 0 17).toNat) 0) 0 17 ((h 0 17) + 1)) := g6
        show mJ l D cA ad 3 cX12_operators 5 (some .boolean) 66 [(3, (0, (h 5 (h 0 7).toNat))), (2, (0, w1)), (0, (2, ((0 : Nat) : Int))), (1, (0, a1))] [(0, 1)] (ja_up (ja_up (ja_up (ja_up (ja_up (ja_up h 0 7 ((h 0 7) + 1)) 6 ((h 0 17).toNat) 2) 7 ((h 0 17).toNat) a1) 8 ((h 0 17).toNat) 0) 9 ((h 0 17).toNat) 0) 0 17 ((h 0 17) + 1)) Q
        refine ja_istore doperators_66 (by decide) (L2 := [(4, (0, 1)), (3, (0, (h 5 (h 0 7).toNat))), (2, (0, w1)), (0, (2, ((0 : Nat) : Int))), (1, (0, a1))]) rfl ?_
        refine ja_iload_n doperators_68 rfl rfl ?_
        refine ja_iconst doperators_69 ?_
        refine ja_icmp_gt 101 doperators_70 rfl ⟨by omega, by omega⟩ ⟨by decide, by decide⟩ (fun c70 => ?_) (fun c70 => ?_)
        · refine ja_aload_n doperators_101 rfl rfl ?_
          refine ja_iconst doperators_102 ?_
          refine ja_iload_n doperators_103 rfl rfl ?_
          refine ja_iconst doperators_104 ?_
          refine ja_iconst doperators_105 ?_
          refine t_later (by decide) (show (0 : Nat) ≤ 8 by decide) doperators_106 g6 ⟨by decide, by decide⟩ ⟨by omega, by omega⟩ ⟨by decide, by decide⟩ ⟨by decide, by decide⟩ (show 0 ≤ 3 ∧ 3 ≤ 38 by omega) (show ((h 0 17) + 1) < 2000 by omega) ?_
          intro g7
          replace g7 : mo_G (ja_up (ja_up (ja_up (ja_up (ja_up (ja_up (ja_up (ja_up (ja_up (ja_up (ja_up h 0 7 ((h 0 7) + 1)) 6 ((h 0 17).toNat) 2) 7 ((h 0 17).toNat) a1) 8 ((h 0 17).toNat) 0) 9 ((h 0 17).toNat) 0) 0 17 ((h 0 17) + 1)) 6 (((h 0 17) + 1).toNat) 3) 7 (((h 0 17) + 1).toNat) (h 5 (h 0 7).toNat)) 8 (((h 0 17) + 1).toNat) 0) 9 (((h 0 17) + 1).toNat) 0) 0 17 (((h 0 17) + 1) + 1)) := g7
          show mJ l D cA ad 3 cX12_operators 5 (some .boolean) 109 [(4, (0, 1)), (3, (0, (h 5 (h 0 7).toNat))), (2, (0, w1)), (0, (2, ((0 : Nat) : Int))), (1, (0, a1))] [(0, 1)] (ja_up (ja_up (ja_up (ja_up (ja_up (ja_up (ja_up (ja_up (ja_up (ja_up (ja_up h 0 7 ((h 0 7) + 1)) 6 ((h 0 17).toNat) 2) 7 ((h 0 17).toNat) a1) 8 ((h 0 17).toNat) 0) 9 ((h 0 17).toNat) 0) 0 17 ((h 0 17) + 1)) 6 (((h 0 17) + 1).toNat) 3) 7 (((h 0 17) + 1).toNat) (h 5 (h 0 7).toNat)) 8 (((h 0 17) + 1).toNat) 0) 9 (((h 0 17) + 1).toNat) 0) 0 17 (((h 0 17) + 1) + 1)) Q
          refine ja_istore doperators_109 (by decide) (L2 := [(4, (0, 1)), (3, (0, (h 5 (h 0 7).toNat))), (2, (0, w1)), (0, (2, ((0 : Nat) : Int))), (1, (0, a1))]) rfl ?_
          refine ja_aload_n doperators_111 rfl rfl ?_
          refine ja_iconst doperators_112 ?_
          refine ja_iload_n doperators_113 rfl rfl ?_
          refine ja_iconst doperators_114 ?_
          refine ja_iconst doperators_115 ?_
          refine t_later (by decide) (show (0 : Nat) ≤ 8 by decide) doperators_116 g7 ⟨by decide, by decide⟩ ⟨by omega, by omega⟩ ⟨by decide, by decide⟩ ⟨by decide, by decide⟩ (show 0 ≤ 1 ∧ 1 ≤ 38 by omega) (show (((h 0 17) + 1) + 1) < 2000 by omega) ?_
          intro g8
          replace g8 : mo_G (ja_up (ja_up (ja_up (ja_up (ja_up (ja_up (ja_up (ja_up (ja_up (ja_up (ja_up (ja_up (ja_up (ja_up (ja_up (ja_up h 0 7 ((h 0 7) + 1)) 6 ((h 0 17).toNat) 2) 7 ((h 0 17).toNat) a1) 8 ((h 0 17).toNat) 0) 9 ((h 0 17).toNat) 0) 0 17 ((h 0 17) + 1)) 6 (((h 0 17) + 1).toNat) 3) 7 (((h 0 17) + 1).toNat) (h 5 (h 0 7).toNat)) 8 (((h 0 17) + 1).toNat) 0) 9 (((h 0 17) + 1).toNat) 0) 0 17 (((h 0 17) + 1) + 1)) 6 ((((h 0 17) + 1) + 1).toNat) 1) 7 ((((h 0 17) + 1) + 1).toNat) w1) 8 ((((h 0 17) + 1) + 1).toNat) 0) 9 ((((h 0 17) + 1) + 1).toNat) 0) 0 17 ((((h 0 17) + 1) + 1) + 1)) := g8
          show mJ l D cA ad 3 cX12_operators 5 (some .boolean) 119 [(4, (0, 1)), (3, (0, (h 5 (h 0 7).toNat))), (2, (0, w1)), (0, (2, ((0 : Nat) : Int))), (1, (0, a1))] [(0, 1)] (ja_up (ja_up (ja_up (ja_up (ja_up (ja_up (ja_up (ja_up (ja_up (ja_up (ja_up (ja_up (ja_up (ja_up (ja_up (ja_up h 0 7 ((h 0 7) + 1)) 6 ((h 0 17).toNat) 2) 7 ((h 0 17).toNat) a1) 8 ((h 0 17).toNat) 0) 9 ((h 0 17).toNat) 0) 0 17 ((h 0 17) + 1)) 6 (((h 0 17) + 1).toNat) 3) 7 (((h 0 17) + 1).toNat) (h 5 (h 0 7).toNat)) 8 (((h 0 17) + 1).toNat) 0) 9 (((h 0 17) + 1).toNat) 0) 0 17 (((h 0 17) + 1) + 1)) 6 ((((h 0 17) + 1) + 1).toNat) 1) 7 ((((h 0 17) + 1) + 1).toNat) w1) 8 ((((h 0 17) + 1) + 1).toNat) 0) 9 ((((h 0 17) + 1) + 1).toNat) 0) 0 17 ((((h 0 17) + 1) + 1) + 1)) Q
          refine ja_zreturn doperators_119 rfl (by omega) ?_
          exact mo_fin (by omega) rfl (k1 (ja_up (ja_up (ja_up (ja_up (ja_up (ja_up (ja_up (ja_up (ja_up (ja_up (ja_up (ja_up (ja_up (ja_up (ja_up (ja_up h 0 7 ((h 0 7) + 1)) 6 ((h 0 17).toNat) 2) 7 ((h 0 17).toNat) a1) 8 ((h 0 17).toNat) 0) 9 ((h 0 17).toNat) 0) 0 17 ((h 0 17) + 1)) 6 (((h 0 17) + 1).toNat) 3) 7 (((h 0 17) + 1).toNat) (h 5 (h 0 7).toNat)) 8 (((h 0 17) + 1).toNat) 0) 9 (((h 0 17) + 1).toNat) 0) 0 17 (((h 0 17) + 1) + 1)) 6 ((((h 0 17) + 1) + 1).toNat) 1) 7 ((((h 0 17) + 1) + 1).toNat) w1) 8 ((((h 0 17) + 1) + 1).toNat) 0) 9 ((((h 0 17) + 1) + 1).toNat) 0) 0 17 ((((h 0 17) + 1) + 1) + 1)) (ab_ops_bin g p1 p2) g8)
        · refine ja_aload_n doperators_73 rfl rfl ?_
          refine ja_iconst doperators_74 ?_
          refine ja_aload_n doperators_75 rfl rfl ?_
          refine ja_iload_n doperators_76 rfl rfl ?_
          refine ja_iconst doperators_77 ?_
          refine ja_icmp_ne 86 doperators_78 rfl ⟨by omega, by omega⟩ ⟨by decide, by decide⟩ (fun c78 => ?_) (fun c78 => ?_)
          · refine ja_bipush 12 doperators_86 rfl ?_
            refine ja_iconst doperators_88 ?_
            refine ja_iconst doperators_89 ?_
            refine t_emit (by decide) (show (2 : Nat) ≤ 8 by decide) doperators_90 g6 ⟨by decide, by decide⟩ ⟨by decide, by decide⟩ ⟨by decide, by decide⟩ (show 0 ≤ 12 ∧ 12 ≤ 26 by omega) (show (h 0 113) < 5000 by omega) ?_
            intro g9
            replace g9 : mo_G (ja_up (ja_up (ja_up (ja_up (ja_up (ja_up (ja_up (ja_up (ja_up (ja_up h 0 7 ((h 0 7) + 1)) 6 ((h 0 17).toNat) 2) 7 ((h 0 17).toNat) a1) 8 ((h 0 17).toNat) 0) 9 ((h 0 17).toNat) 0) 0 17 ((h 0 17) + 1)) 74 ((h 0 113).toNat) 12) 75 ((h 0 113).toNat) 0) 76 ((h 0 113).toNat) 0) 0 113 ((h 0 113) + 1)) := g9
            show mJ l D cA ad 3 cX12_operators 5 (some .boolean) 93 [(4, (0, 1)), (3, (0, (h 5 (h 0 7).toNat))), (2, (0, w1)), (0, (2, ((0 : Nat) : Int))), (1, (0, a1))] [(0, (h 0 113)), (0, 4), (2, ((0 : Nat) : Int))] (ja_up (ja_up (ja_up (ja_up (ja_up (ja_up (ja_up (ja_up (ja_up (ja_up h 0 7 ((h 0 7) + 1)) 6 ((h 0 17).toNat) 2) 7 ((h 0 17).toNat) a1) 8 ((h 0 17).toNat) 0) 9 ((h 0 17).toNat) 0) 0 17 ((h 0 17) + 1)) 74 ((h 0 113).toNat) 12) 75 ((h 0 113).toNat) 0) 76 ((h 0 113).toNat) 0) 0 113 ((h 0 113) + 1)) Q
            refine ja_iconst doperators_93 ?_
            refine ja_iconst doperators_94 ?_
            refine t_later (by decide) (show (0 : Nat) ≤ 8 by decide) doperators_95 g9 ⟨by decide, by decide⟩ ⟨by omega, by omega⟩ ⟨by decide, by decide⟩ ⟨by decide, by decide⟩ (show 0 ≤ 4 ∧ 4 ≤ 38 by omega) (show ((h 0 17) + 1) < 2000 by omega) ?_
            intro g10
            replace g10 : mo_G (ja_up (ja_up (ja_up (ja_up (ja_up (ja_up (ja_up (ja_up (ja_up (ja_up (ja_up (ja_up (ja_up (ja_up (ja_up h 0 7 ((h 0 7) + 1)) 6 ((h 0 17).toNat) 2) 7 ((h 0 17).toNat) a1) 8 ((h 0 17).toNat) 0) 9 ((h 0 17).toNat) 0) 0 17 ((h 0 17) + 1)) 74 ((h 0 113).toNat) 12) 75 ((h 0 113).toNat) 0) 76 ((h 0 113).toNat) 0) 0 113 ((h 0 113) + 1)) 6 (((h 0 17) + 1).toNat) 4) 7 (((h 0 17) + 1).toNat) (h 0 113)) 8 (((h 0 17) + 1).toNat) 0) 9 (((h 0 17) + 1).toNat) 0) 0 17 (((h 0 17) + 1) + 1)) := g10
            show mJ l D cA ad 3 cX12_operators 5 (some .boolean) 98 [(4, (0, 1)), (3, (0, (h 5 (h 0 7).toNat))), (2, (0, w1)), (0, (2, ((0 : Nat) : Int))), (1, (0, a1))] [(0, 1)] (ja_up (ja_up (ja_up (ja_up (ja_up (ja_up (ja_up (ja_up (ja_up (ja_up (ja_up (ja_up (ja_up (ja_up (ja_up h 0 7 ((h 0 7) + 1)) 6 ((h 0 17).toNat) 2) 7 ((h 0 17).toNat) a1) 8 ((h 0 17).toNat) 0) 9 ((h 0 17).toNat) 0) 0 17 ((h 0 17) + 1)) 74 ((h 0 113).toNat) 12) 75 ((h 0 113).toNat) 0) 76 ((h 0 113).toNat) 0) 0 113 ((h 0 113) + 1)) 6 (((h 0 17) + 1).toNat) 4) 7 (((h 0 17) + 1).toNat) (h 0 113)) 8 (((h 0 17) + 1).toNat) 0) 9 (((h 0 17) + 1).toNat) 0) 0 17 (((h 0 17) + 1) + 1)) Q
            refine ja_goto 109 doperators_98 rfl ?_
            refine ja_istore doperators_109 (by decide) (L2 := [(4, (0, 1)), (3, (0, (h 5 (h 0 7).toNat))), (2, (0, w1)), (0, (2, ((0 : Nat) : Int))), (1, (0, a1))]) rfl ?_
            refine ja_aload_n doperators_111 rfl rfl ?_
            refine ja_iconst doperators_112 ?_
            refine ja_iload_n doperators_113 rfl rfl ?_
            refine ja_iconst doperators_114 ?_
            refine ja_iconst doperators_115 ?_
            refine t_later (by decide) (show (0 : Nat) ≤ 8 by decide) doperators_116 g10 ⟨by decide, by decide⟩ ⟨by omega, by omega⟩ ⟨by decide, by decide⟩ ⟨by decide, by decide⟩ (show 0 ≤ 1 ∧ 1 ≤ 38 by omega) (show (((h 0 17) + 1) + 1) < 2000 by omega) ?_
            intro g11
            replace g11 : mo_G (ja_up (ja_up (ja_up (ja_up (ja_up (ja_up (ja_up (ja_up (ja_up (ja_up (ja_up (ja_up (ja_up (ja_up (ja_up (ja_up (ja_up (ja_up (ja_up (ja_up h 0 7 ((h 0 7) + 1)) 6 ((h 0 17).toNat) 2) 7 ((h 0 17).toNat) a1) 8 ((h 0 17).toNat) 0) 9 ((h 0 17).toNat) 0) 0 17 ((h 0 17) + 1)) 74 ((h 0 113).toNat) 12) 75 ((h 0 113).toNat) 0) 76 ((h 0 113).toNat) 0) 0 113 ((h 0 113) + 1)) 6 (((h 0 17) + 1).toNat) 4) 7 (((h 0 17) + 1).toNat) (h 0 113)) 8 (((h 0 17) + 1).toNat) 0) 9 (((h 0 17) + 1).toNat) 0) 0 17 (((h 0 17) + 1) + 1)) 6 ((((h 0 17) + 1) + 1).toNat) 1) 7 ((((h 0 17) + 1) + 1).toNat) w1) 8 ((((h 0 17) + 1) + 1).toNat) 0) 9 ((((h 0 17) + 1) + 1).toNat) 0) 0 17 ((((h 0 17) + 1) + 1) + 1)) := g11
            show mJ l D cA ad 3 cX12_operators 5 (some .boolean) 119 [(4, (0, 1)), (3, (0, (h 5 (h 0 7).toNat))), (2, (0, w1)), (0, (2, ((0 : Nat) : Int))), (1, (0, a1))] [(0, 1)] (ja_up (ja_up (ja_up (ja_up (ja_up (ja_up (ja_up (ja_up (ja_up (ja_up (ja_up (ja_up (ja_up (ja_up (ja_up (ja_up (ja_up (ja_up (ja_up (ja_up h 0 7 ((h 0 7) + 1)) 6 ((h 0 17).toNat) 2) 7 ((h 0 17).toNat) a1) 8 ((h 0 17).toNat) 0) 9 ((h 0 17).toNat) 0) 0 17 ((h 0 17) + 1)) 74 ((h 0 113).toNat) 12) 75 ((h 0 113).toNat) 0) 76 ((h 0 113).toNat) 0) 0 113 ((h 0 113) + 1)) 6 (((h 0 17) + 1).toNat) 4) 7 (((h 0 17) + 1).toNat) (h 0 113)) 8 (((h 0 17) + 1).toNat) 0) 9 (((h 0 17) + 1).toNat) 0) 0 17 (((h 0 17) + 1) + 1)) 6 ((((h 0 17) + 1) + 1).toNat) 1) 7 ((((h 0 17) + 1) + 1).toNat) w1) 8 ((((h 0 17) + 1) + 1).toNat) 0) 9 ((((h 0 17) + 1) + 1).toNat) 0) 0 17 ((((h 0 17) + 1) + 1) + 1)) Q
            refine ja_zreturn doperators_119 rfl (by omega) ?_
            exact mo_fin (by omega) rfl (k1 (ja_up (ja_up (ja_up (ja_up (ja_up (ja_up (ja_up (ja_up (ja_up (ja_up (ja_up (ja_up (ja_up (ja_up (ja_up (ja_up (ja_up (ja_up (ja_up (ja_up h 0 7 ((h 0 7) + 1)) 6 ((h 0 17).toNat) 2) 7 ((h 0 17).toNat) a1) 8 ((h 0 17).toNat) 0) 9 ((h 0 17).toNat) 0) 0 17 ((h 0 17) + 1)) 74 ((h 0 113).toNat) 12) 75 ((h 0 113).toNat) 0) 76 ((h 0 113).toNat) 0) 0 113 ((h 0 113) + 1)) 6 (((h 0 17) + 1).toNat) 4) 7 (((h 0 17) + 1).toNat) (h 0 113)) 8 (((h 0 17) + 1).toNat) 0) 9 (((h 0 17) + 1).toNat) 0) 0 17 (((h 0 17) + 1) + 1)) 6 ((((h 0 17) + 1) + 1).toNat) 1) 7 ((((h 0 17) + 1) + 1).toNat) w1) 8 ((((h 0 17) + 1) + 1).toNat) 0) 9 ((((h 0 17) + 1) + 1).toNat) 0) 0 17 ((((h 0 17) + 1) + 1) + 1)) (ab_ops_12 g p1 p2) g11)
          · refine ja_bipush 13 doperators_81 rfl ?_
            refine ja_goto 88 doperators_83 rfl ?_
            refine ja_iconst doperators_88 ?_
            refine ja_iconst doperators_89 ?_
            refine t_emit (by decide) (show (2 : Nat) ≤ 8 by decide) doperators_90 g6 ⟨by decide, by decide⟩ ⟨by decide, by decide⟩ ⟨by decide, by decide⟩ (show 0 ≤ 13 ∧ 13 ≤ 26 by omega) (show (h 0 113) < 5000 by omega) ?_
            intro g12
            replace g12 : mo_G (ja_up (ja_up (ja_up (ja_up (ja_up (ja_up (ja_up (ja_up (ja_up (ja_up h 0 7 ((h 0 7) + 1)) 6 ((h 0 17).toNat) 2) 7 ((h 0 17).toNat) a1) 8 ((h 0 17).toNat) 0) 9 ((h 0 17).toNat) 0) 0 17 ((h 0 17) + 1)) 74 ((h 0 113).toNat) 13) 75 ((h 0 113).toNat) 0) 76 ((h 0 113).toNat) 0) 0 113 ((h 0 113) + 1)) := g12
            show mJ l D cA ad 3 cX12_operators 5 (some .boolean) 93 [(4, (0, 1)), (3, (0, (h 5 (h 0 7).toNat))), (2, (0, w1)), (0, (2, ((0 : Nat) : Int))), (1, (0, a1))] [(0, (h 0 113)), (0, 4), (2, ((0 : Nat) : Int))] (ja_up (ja_up (ja_up (ja_up (ja_up (ja_up (ja_up (ja_up (ja_up (ja_up h 0 7 ((h 0 7) + 1)) 6 ((h 0 17).toNat) 2) 7 ((h 0 17).toNat) a1) 8 ((h 0 17).toNat) 0) 9 ((h 0 17).toNat) 0) 0 17 ((h 0 17) + 1)) 74 ((h 0 113).toNat) 13) 75 ((h 0 113).toNat) 0) 76 ((h 0 113).toNat) 0) 0 113 ((h 0 113) + 1)) Q
            refine ja_iconst doperators_93 ?_
            refine ja_iconst doperators_94 ?_
            refine t_later (by decide) (show (0 : Nat) ≤ 8 by decide) doperators_95 g12 ⟨by decide, by decide⟩ ⟨by omega, by omega⟩ ⟨by decide, by decide⟩ ⟨by decide, by decide⟩ (show 0 ≤ 4 ∧ 4 ≤ 38 by omega) (show ((h 0 17) + 1) < 2000 by omega) ?_
            intro g13
            replace g13 : mo_G (ja_up (ja_up (ja_up (ja_up (ja_up (ja_up (ja_up (ja_up (ja_up (ja_up (ja_up (ja_up (ja_up (ja_up (ja_up h 0 7 ((h 0 7) + 1)) 6 ((h 0 17).toNat) 2) 7 ((h 0 17).toNat) a1) 8 ((h 0 17).toNat) 0) 9 ((h 0 17).toNat) 0) 0 17 ((h 0 17) + 1)) 74 ((h 0 113).toNat) 13) 75 ((h 0 113).toNat) 0) 76 ((h 0 113).toNat) 0) 0 113 ((h 0 113) + 1)) 6 (((h 0 17) + 1).toNat) 4) 7 (((h 0 17) + 1).toNat) (h 0 113)) 8 (((h 0 17) + 1).toNat) 0) 9 (((h 0 17) + 1).toNat) 0) 0 17 (((h 0 17) + 1) + 1)) := g13
            show mJ l D cA ad 3 cX12_operators 5 (some .boolean) 98 [(4, (0, 1)), (3, (0, (h 5 (h 0 7).toNat))), (2, (0, w1)), (0, (2, ((0 : Nat) : Int))), (1, (0, a1))] [(0, 1)] (ja_up (ja_up (ja_up (ja_up (ja_up (ja_up (ja_up (ja_up (ja_up (ja_up (ja_up (ja_up (ja_up (ja_up (ja_up h 0 7 ((h 0 7) + 1)) 6 ((h 0 17).toNat) 2) 7 ((h 0 17).toNat) a1) 8 ((h 0 17).toNat) 0) 9 ((h 0 17).toNat) 0) 0 17 ((h 0 17) + 1)) 74 ((h 0 113).toNat) 13) 75 ((h 0 113).toNat) 0) 76 ((h 0 113).toNat) 0) 0 113 ((h 0 113) + 1)) 6 (((h 0 17) + 1).toNat) 4) 7 (((h 0 17) + 1).toNat) (h 0 113)) 8 (((h 0 17) + 1).toNat) 0) 9 (((h 0 17) + 1).toNat) 0) 0 17 (((h 0 17) + 1) + 1)) Q
            refine ja_goto 109 doperators_98 rfl ?_
            refine ja_istore doperators_109 (by decide) (L2 := [(4, (0, 1)), (3, (0, (h 5 (h 0 7).toNat))), (2, (0, w1)), (0, (2, ((0 : Nat) : Int))), (1, (0, a1))]) rfl ?_
            refine ja_aload_n doperators_111 rfl rfl ?_
            refine ja_iconst doperators_112 ?_
            refine ja_iload_n doperators_113 rfl rfl ?_
            refine ja_iconst doperators_114 ?_
            refine ja_iconst doperators_115 ?_
            refine t_later (by decide) (show (0 : Nat) ≤ 8 by decide) doperators_116 g13 ⟨by decide, by decide⟩ ⟨by omega, by omega⟩ ⟨by decide, by decide⟩ ⟨by decide, by decide⟩ (show 0 ≤ 1 ∧ 1 ≤ 38 by omega) (show (((h 0 17) + 1) + 1) < 2000 by omega) ?_
            intro g14
            replace g14 : mo_G (ja_up (ja_up (ja_up (ja_up (ja_up (ja_up (ja_up (ja_up (ja_up (ja_up (ja_up (ja_up (ja_up (ja_up (ja_up (ja_up (ja_up (ja_up (ja_up (ja_up h 0 7 ((h 0 7) + 1)) 6 ((h 0 17).toNat) 2) 7 ((h 0 17).toNat) a1) 8 ((h 0 17).toNat) 0) 9 ((h 0 17).toNat) 0) 0 17 ((h 0 17) + 1)) 74 ((h 0 113).toNat) 13) 75 ((h 0 113).toNat) 0) 76 ((h 0 113).toNat) 0) 0 113 ((h 0 113) + 1)) 6 (((h 0 17) + 1).toNat) 4) 7 (((h 0 17) + 1).toNat) (h 0 113)) 8 (((h 0 17) + 1).toNat) 0) 9 (((h 0 17) + 1).toNat) 0) 0 17 (((h 0 17) + 1) + 1)) 6 ((((h 0 17) + 1) + 1).toNat) 1) 7 ((((h 0 17) + 1) + 1).toNat) w1) 8 ((((h 0 17) + 1) + 1).toNat) 0) 9 ((((h 0 17) + 1) + 1).toNat) 0) 0 17 ((((h 0 17) + 1) + 1) + 1)) := g14
            show mJ l D cA ad 3 cX12_operators 5 (some .boolean) 119 [(4, (0, 1)), (3, (0, (h 5 (h 0 7).toNat))), (2, (0, w1)), (0, (2, ((0 : Nat) : Int))), (1, (0, a1))] [(0, 1)] (ja_up (ja_up (ja_up (ja_up (ja_up (ja_up (ja_up (ja_up (ja_up (ja_up (ja_up (ja_up (ja_up (ja_up (ja_up (ja_up (ja_up (ja_up (ja_up (ja_up h 0 7 ((h 0 7) + 1)) 6 ((h 0 17).toNat) 2) 7 ((h 0 17).toNat) a1) 8 ((h 0 17).toNat) 0) 9 ((h 0 17).toNat) 0) 0 17 ((h 0 17) + 1)) 74 ((h 0 113).toNat) 13) 75 ((h 0 113).toNat) 0) 76 ((h 0 113).toNat) 0) 0 113 ((h 0 113) + 1)) 6 (((h 0 17) + 1).toNat) 4) 7 (((h 0 17) + 1).toNat) (h 0 113)) 8 (((h 0 17) + 1).toNat) 0) 9 (((h 0 17) + 1).toNat) 0) 0 17 (((h 0 17) + 1) + 1)) 6 ((((h 0 17) + 1) + 1).toNat) 1) 7 ((((h 0 17) + 1) + 1).toNat) w1) 8 ((((h 0 17) + 1) + 1).toNat) 0) 9 ((((h 0 17) + 1) + 1).toNat) 0) 0 17 ((((h 0 17) + 1) + 1) + 1)) Q
            refine ja_zreturn doperators_119 rfl (by omega) ?_
            exact mo_fin (by omega) rfl (k1 (ja_up (ja_up (ja_up (ja_up (ja_up (ja_up (ja_up (ja_up (ja_up (ja_up (ja_up (ja_up (ja_up (ja_up (ja_up (ja_up (ja_up (ja_up (ja_up (ja_up h 0 7 ((h 0 7) + 1)) 6 ((h 0 17).toNat) 2) 7 ((h 0 17).toNat) a1) 8 ((h 0 17).toNat) 0) 9 ((h 0 17).toNat) 0) 0 17 ((h 0 17) + 1)) 74 ((h 0 113).toNat) 13) 75 ((h 0 113).toNat) 0) 76 ((h 0 113).toNat) 0) 0 113 ((h 0 113) + 1)) 6 (((h 0 17) + 1).toNat) 4) 7 (((h 0 17) + 1).toNat) (h 0 113)) 8 (((h 0 17) + 1).toNat) 0) 9 (((h 0 17) + 1).toNat) 0) 0 17 (((h 0 17) + 1) + 1)) 6 ((((h 0 17) + 1) + 1).toNat) 1) 7 ((((h 0 17) + 1) + 1).toNat) w1) 8 ((((h 0 17) + 1) + 1).toNat) 0) 9 ((((h 0 17) + 1) + 1).toNat) 0) 0 17 ((((h 0 17) + 1) + 1) + 1)) (ab_ops_13 g p1 p2) g14)
      · intro h15 k50_1 g16
        refine ja_if_ne 58 doperators_53 rfl ⟨by decide, by decide⟩ (fun c53 => absurd c53 (by omega)) (fun c53 => ?_)
        refine ja_iconst doperators_56 ?_
        refine ja_zreturn doperators_57 rfl (by omega) ?_
        exact mo_fin (by omega) rfl (k2 h15 (by omega) g16)
    · refine ja_iconst doperators_35 ?_
      refine ja_goto 48 doperators_36 rfl ?_
      refine ja_istore_n doperators_48 rfl (by decide) (L2 := [(3, (0, 0)), (2, (0, w1)), (0, (2, ((0 : Nat) : Int))), (1, (0, a1))]) rfl ?_
      refine ja_aload_n doperators_49 rfl rfl ?_
      refine t_take (by decide) (show (0 : Nat) ≤ 8 by decide) doperators_50 g  ?_ ?_
      · intro k50_0 g17
        replace k50_0 : (h 0 7) < 900 := k50_0
        replace g17 : mo_G (ja_up h 0 7 ((h 0 7) + 1)) := g17
        show mJ l D cA ad 3 cX12_operators 5 (some .boolean) 53 [(3, (0, 0)), (2, (0, w1)), (0, (2, ((0 : Nat) : Int))), (1, (0, a1))] [(0, 1)] (ja_up h 0 7 ((h 0 7) + 1)) Q
        refine ja_if_ne 58 doperators_53 rfl ⟨by decide, by decide⟩ (fun c53 => ?_) (fun c53 => absurd c53 (by omega))
        refine ja_aload_n doperators_58 rfl rfl ?_
        refine ja_iconst doperators_59 ?_
        refine ja_iload_n doperators_60 rfl rfl ?_
        refine ja_iconst doperators_61 ?_
        refine ja_iconst doperators_62 ?_
        refine t_later (by decide) (show (0 : Nat) ≤ 8 by decide) doperators_63 g17 ⟨by decide, by decide⟩ ⟨by omega, by omega⟩ ⟨by decide, by decide⟩ ⟨by decide, by decide⟩ (show 0 ≤ 2 ∧ 2 ≤ 38 by omega) (show (h 0 17) < 2000 by omega) ?_
        intro g18
        replace g18 : mo_G (ja_up (ja_up (ja_up (ja_up (ja_up (ja_up h 0 7 ((h 0 7) + 1)) 6 ((h 0 17).toNat) 2) 7 ((h 0 17).toNat) a1) 8 ((h 0 17).toNat) 0) 9 ((h 0 17).toNat) 0) 0 17 ((h 0 17) + 1)) := g18
        show mJ l D cA ad 3 cX12_operators 5 (some .boolean) 66 [(3, (0, 0)), (2, (0, w1)), (0, (2, ((0 : Nat) : Int))), (1, (0, a1))] [(0, 1)] (ja_up (ja_up (ja_up (ja_up (ja_up (ja_up h 0 7 ((h 0 7) + 1)) 6 ((h 0 17).toNat) 2) 7 ((h 0 17).toNat) a1) 8 ((h 0 17).toNat) 0) 9 ((h 0 17).toNat) 0) 0 17 ((h 0 17) + 1)) Q
        refine ja_istore doperators_66 (by decide) (L2 := [(4, (0, 1)), (3, (0, 0)), (2, (0, w1)), (0, (2, ((0 : Nat) : Int))), (1, (0, a1))]) rfl ?_
        refine ja_iload_n doperators_68 rfl rfl ?_
        refine ja_iconst doperators_69 ?_
        refine ja_icmp_gt 101 doperators_70 rfl ⟨by omega, by omega⟩ ⟨by decide, by decide⟩ (fun c70 => ?_) (fun c70 => ?_)
        · refine ja_aload_n doperators_101 rfl rfl ?_
          refine ja_iconst doperators_102 ?_
          refine ja_iload_n doperators_103 rfl rfl ?_
          refine ja_iconst doperators_104 ?_
          refine ja_iconst doperators_105 ?_
          refine t_later (by decide) (show (0 : Nat) ≤ 8 by decide) doperators_106 g18 ⟨by decide, by decide⟩ ⟨by decide, by decide⟩ ⟨by decide, by decide⟩ ⟨by decide, by decide⟩ (show 0 ≤ 3 ∧ 3 ≤ 38 by omega) (show ((h 0 17) + 1) < 2000 by omega) ?_
          intro g19
          replace g19 : mo_G (ja_up (ja_up (ja_up (ja_up (ja_up (ja_up (ja_up (ja_up (ja_up (ja_up (ja_up h 0 7 ((h 0 7) + 1)) 6 ((h 0 17).toNat) 2) 7 ((h 0 17).toNat) a1) 8 ((h 0 17).toNat) 0) 9 ((h 0 17).toNat) 0) 0 17 ((h 0 17) + 1)) 6 (((h 0 17) + 1).toNat) 3) 7 (((h 0 17) + 1).toNat) 0) 8 (((h 0 17) + 1).toNat) 0) 9 (((h 0 17) + 1).toNat) 0) 0 17 (((h 0 17) + 1) + 1)) := g19
          show mJ l D cA ad 3 cX12_operators 5 (some .boolean) 109 [(4, (0, 1)), (3, (0, 0)), (2, (0, w1)), (0, (2, ((0 : Nat) : Int))), (1, (0, a1))] [(0, 1)] (ja_up (ja_up (ja_up (ja_up (ja_up (ja_up (ja_up (ja_up (ja_up (ja_up (ja_up h 0 7 ((h 0 7) + 1)) 6 ((h 0 17).toNat) 2) 7 ((h 0 17).toNat) a1) 8 ((h 0 17).toNat) 0) 9 ((h 0 17).toNat) 0) 0 17 ((h 0 17) + 1)) 6 (((h 0 17) + 1).toNat) 3) 7 (((h 0 17) + 1).toNat) 0) 8 (((h 0 17) + 1).toNat) 0) 9 (((h 0 17) + 1).toNat) 0) 0 17 (((h 0 17) + 1) + 1)) Q
          refine ja_istore doperators_109 (by decide) (L2 := [(4, (0, 1)), (3, (0, 0)), (2, (0, w1)), (0, (2, ((0 : Nat) : Int))), (1, (0, a1))]) rfl ?_
          refine ja_aload_n doperators_111 rfl rfl ?_
          refine ja_iconst doperators_112 ?_
          refine ja_iload_n doperators_113 rfl rfl ?_
          refine ja_iconst doperators_114 ?_
          refine ja_iconst doperators_115 ?_
          refine t_later (by decide) (show (0 : Nat) ≤ 8 by decide) doperators_116 g19 ⟨by decide, by decide⟩ ⟨by omega, by omega⟩ ⟨by decide, by decide⟩ ⟨by decide, by decide⟩ (show 0 ≤ 1 ∧ 1 ≤ 38 by omega) (show (((h 0 17) + 1) + 1) < 2000 by omega) ?_
          intro g20
          replace g20 : mo_G (ja_up (ja_up (ja_up (ja_up (ja_up (ja_up (ja_up (ja_up (ja_up (ja_up (ja_up (ja_up (ja_up (ja_up (ja_up (ja_up h 0 7 ((h 0 7) + 1)) 6 ((h 0 17).toNat) 2) 7 ((h 0 17).toNat) a1) 8 ((h 0 17).toNat) 0) 9 ((h 0 17).toNat) 0) 0 17 ((h 0 17) + 1)) 6 (((h 0 17) + 1).toNat) 3) 7 (((h 0 17) + 1).toNat) 0) 8 (((h 0 17) + 1).toNat) 0) 9 (((h 0 17) + 1).toNat) 0) 0 17 (((h 0 17) + 1) + 1)) 6 ((((h 0 17) + 1) + 1).toNat) 1) 7 ((((h 0 17) + 1) + 1).toNat) w1) 8 ((((h 0 17) + 1) + 1).toNat) 0) 9 ((((h 0 17) + 1) + 1).toNat) 0) 0 17 ((((h 0 17) + 1) + 1) + 1)) := g20
          show mJ l D cA ad 3 cX12_operators 5 (some .boolean) 119 [(4, (0, 1)), (3, (0, 0)), (2, (0, w1)), (0, (2, ((0 : Nat) : Int))), (1, (0, a1))] [(0, 1)] (ja_up (ja_up (ja_up (ja_up (ja_up (ja_up (ja_up (ja_up (ja_up (ja_up (ja_up (ja_up (ja_up (ja_up (ja_up (ja_up h 0 7 ((h 0 7) + 1)) 6 ((h 0 17).toNat) 2) 7 ((h 0 17).toNat) a1) 8 ((h 0 17).toNat) 0) 9 ((h 0 17).toNat) 0) 0 17 ((h 0 17) + 1)) 6 (((h 0 17) + 1).toNat) 3) 7 (((h 0 17) + 1).toNat) 0) 8 (((h 0 17) + 1).toNat) 0) 9 (((h 0 17) + 1).toNat) 0) 0 17 (((h 0 17) + 1) + 1)) 6 ((((h 0 17) + 1) + 1).toNat) 1) 7 ((((h 0 17) + 1) + 1).toNat) w1) 8 ((((h 0 17) + 1) + 1).toNat) 0) 9 ((((h 0 17) + 1) + 1).toNat) 0) 0 17 ((((h 0 17) + 1) + 1) + 1)) Q
          refine ja_zreturn doperators_119 rfl (by omega) ?_
          exact mo_fin (by omega) rfl (k1 (ja_up (ja_up (ja_up (ja_up (ja_up (ja_up (ja_up (ja_up (ja_up (ja_up (ja_up (ja_up (ja_up (ja_up (ja_up (ja_up h 0 7 ((h 0 7) + 1)) 6 ((h 0 17).toNat) 2) 7 ((h 0 17).toNat) a1) 8 ((h 0 17).toNat) 0) 9 ((h 0 17).toNat) 0) 0 17 ((h 0 17) + 1)) 6 (((h 0 17) + 1).toNat) 3) 7 (((h 0 17) + 1).toNat) 0) 8 (((h 0 17) + 1).toNat) 0) 9 (((h 0 17) + 1).toNat) 0) 0 17 (((h 0 17) + 1) + 1)) 6 ((((h 0 17) + 1) + 1).toNat) 1) 7 ((((h 0 17) + 1) + 1).toNat) w1) 8 ((((h 0 17) + 1) + 1).toNat) 0) 9 ((((h 0 17) + 1) + 1).toNat) 0) 0 17 ((((h 0 17) + 1) + 1) + 1)) (ab_ops_bin g p1 p2) g20)
        · refine ja_aload_n doperators_73 rfl rfl ?_
          refine ja_iconst doperators_74 ?_
          refine ja_aload_n doperators_75 rfl rfl ?_
          refine ja_iload_n doperators_76 rfl rfl ?_
          refine ja_iconst doperators_77 ?_
          refine ja_icmp_ne 86 doperators_78 rfl ⟨by omega, by omega⟩ ⟨by decide, by decide⟩ (fun c78 => ?_) (fun c78 => ?_)
          · refine ja_bipush 12 doperators_86 rfl ?_
            refine ja_iconst doperators_88 ?_
            refine ja_iconst doperators_89 ?_
            refine t_emit (by decide) (show (2 : Nat) ≤ 8 by decide) doperators_90 g18 ⟨by decide, by decide⟩ ⟨by decide, by decide⟩ ⟨by decide, by decide⟩ (show 0 ≤ 12 ∧ 12 ≤ 26 by omega) (show (h 0 113) < 5000 by omega) ?_
            intro g21
            replace g21 : mo_G (ja_up (ja_up (ja_up (ja_up (ja_up (ja_up (ja_up (ja_up (ja_up (ja_up h 0 7 ((h 0 7) + 1)) 6 ((h 0 17).toNat) 2) 7 ((h 0 17).toNat) a1) 8 ((h 0 17).toNat) 0) 9 ((h 0 17).toNat) 0) 0 17 ((h 0 17) + 1)) 74 ((h 0 113).toNat) 12) 75 ((h 0 113).toNat) 0) 76 ((h 0 113).toNat) 0) 0 113 ((h 0 113) + 1)) := g21
            show mJ l D cA ad 3 cX12_operators 5 (some .boolean) 93 [(4, (0, 1)), (3, (0, 0)), (2, (0, w1)), (0, (2, ((0 : Nat) : Int))), (1, (0, a1))] [(0, (h 0 113)), (0, 4), (2, ((0 : Nat) : Int))] (ja_up (ja_up (ja_up (ja_up (ja_up (ja_up (ja_up (ja_up (ja_up (ja_up h 0 7 ((h 0 7) + 1)) 6 ((h 0 17).toNat) 2) 7 ((h 0 17).toNat) a1) 8 ((h 0 17).toNat) 0) 9 ((h 0 17).toNat) 0) 0 17 ((h 0 17) + 1)) 74 ((h 0 113).toNat) 12) 75 ((h 0 113).toNat) 0) 76 ((h 0 113).toNat) 0) 0 113 ((h 0 113) + 1)) Q
            refine ja_iconst doperators_93 ?_
            refine ja_iconst doperators_94 ?_
            refine t_later (by decide) (show (0 : Nat) ≤ 8 by decide) doperators_95 g21 ⟨by decide, by decide⟩ ⟨by omega, by omega⟩ ⟨by decide, by decide⟩ ⟨by decide, by decide⟩ (show 0 ≤ 4 ∧ 4 ≤ 38 by omega) (show ((h 0 17) + 1) < 2000 by omega) ?_
            intro g22
            replace g22 : mo_G (ja_up (ja_up (ja_up (ja_up (ja_up (ja_up (ja_up (ja_up (ja_up (ja_up (ja_up (ja_up (ja_up (ja_up (ja_up h 0 7 ((h 0 7) + 1)) 6 ((h 0 17).toNat) 2) 7 ((h 0 17).toNat) a1) 8 ((h 0 17).toNat) 0) 9 ((h 0 17).toNat) 0) 0 17 ((h 0 17) + 1)) 74 ((h 0 113).toNat) 12) 75 ((h 0 113).toNat) 0) 76 ((h 0 113).toNat) 0) 0 113 ((h 0 113) + 1)) 6 (((h 0 17) + 1).toNat) 4) 7 (((h 0 17) + 1).toNat) (h 0 113)) 8 (((h 0 17) + 1).toNat) 0) 9 (((h 0 17) + 1).toNat) 0) 0 17 (((h 0 17) + 1) + 1)) := g22
            show mJ l D cA ad 3 cX12_operators 5 (some .boolean) 98 [(4, (0, 1)), (3, (0, 0)), (2, (0, w1)), (0, (2, ((0 : Nat) : Int))), (1, (0, a1))] [(0, 1)] (ja_up (ja_up (ja_up (ja_up (ja_up (ja_up (ja_up (ja_up (ja_up (ja_up (ja_up (ja_up (ja_up (ja_up (ja_up h 0 7 ((h 0 7) + 1)) 6 ((h 0 17).toNat) 2) 7 ((h 0 17).toNat) a1) 8 ((h 0 17).toNat) 0) 9 ((h 0 17).toNat) 0) 0 17 ((h 0 17) + 1)) 74 ((h 0 113).toNat) 12) 75 ((h 0 113).toNat) 0) 76 ((h 0 113).toNat) 0) 0 113 ((h 0 113) + 1)) 6 (((h 0 17) + 1).toNat) 4) 7 (((h 0 17) + 1).toNat) (h 0 113)) 8 (((h 0 17) + 1).toNat) 0) 9 (((h 0 17) + 1).toNat) 0) 0 17 (((h 0 17) + 1) + 1)) Q
            refine ja_goto 109 doperators_98 rfl ?_
            refine ja_istore doperators_109 (by decide) (L2 := [(4, (0, 1)), (3, (0, 0)), (2, (0, w1)), (0, (2, ((0 : Nat) : Int))), (1, (0, a1))]) rfl ?_
            refine ja_aload_n doperators_111 rfl rfl ?_
            refine ja_iconst doperators_112 ?_
            refine ja_iload_n doperators_113 rfl rfl ?_
            refine ja_iconst doperators_114 ?_
            refine ja_iconst doperators_115 ?_
            refine t_later (by decide) (show (0 : Nat) ≤ 8 by decide) doperators_116 g22 ⟨by decide, by decide⟩ ⟨by omega, by omega⟩ ⟨by decide, by decide⟩ ⟨by decide, by decide⟩ (show 0 ≤ 1 ∧ 1 ≤ 38 by omega) (show (((h 0 17) + 1) + 1) < 2000 by omega) ?_
            intro g23
            replace g23 : mo_G (ja_up (ja_up (ja_up (ja_up (ja_up (ja_up (ja_up (ja_up (ja_up (ja_up (ja_up (ja_up (ja_up (ja_up (ja_up (ja_up (ja_up (ja_up (ja_up (ja_up h 0 7 ((h 0 7) + 1)) 6 ((h 0 17).toNat) 2) 7 ((h 0 17).toNat) a1) 8 ((h 0 17).toNat) 0) 9 ((h 0 17).toNat) 0) 0 17 ((h 0 17) + 1)) 74 ((h 0 113).toNat) 12) 75 ((h 0 113).toNat) 0) 76 ((h 0 113).toNat) 0) 0 113 ((h 0 113) + 1)) 6 (((h 0 17) + 1).toNat) 4) 7 (((h 0 17) + 1).toNat) (h 0 113)) 8 (((h 0 17) + 1).toNat) 0) 9 (((h 0 17) + 1).toNat) 0) 0 17 (((h 0 17) + 1) + 1)) 6 ((((h 0 17) + 1) + 1).toNat) 1) 7 ((((h 0 17) + 1) + 1).toNat) w1) 8 ((((h 0 17) + 1) + 1).toNat) 0) 9 ((((h 0 17) + 1) + 1).toNat) 0) 0 17 ((((h 0 17) + 1) + 1) + 1)) := g23
            show mJ l D cA ad 3 cX12_operators 5 (some .boolean) 119 [(4, (0, 1)), (3, (0, 0)), (2, (0, w1)), (0, (2, ((0 : Nat) : Int))), (1, (0, a1))] [(0, 1)] (ja_up (ja_up (ja_up (ja_up (ja_up (ja_up (ja_up (ja_up (ja_up (ja_up (ja_up (ja_up (ja_up (ja_up (ja_up (ja_up (ja_up (ja_up (ja_up (ja_up h 0 7 ((h 0 7) + 1)) 6 ((h 0 17).toNat) 2) 7 ((h 0 17).toNat) a1) 8 ((h 0 17).toNat) 0) 9 ((h 0 17).toNat) 0) 0 17 ((h 0 17) + 1)) 74 ((h 0 113).toNat) 12) 75 ((h 0 113).toNat) 0) 76 ((h 0 113).toNat) 0) 0 113 ((h 0 113) + 1)) 6 (((h 0 17) + 1).toNat) 4) 7 (((h 0 17) + 1).toNat) (h 0 113)) 8 (((h 0 17) + 1).toNat) 0) 9 (((h 0 17) + 1).toNat) 0) 0 17 (((h 0 17) + 1) + 1)) 6 ((((h 0 17) + 1) + 1).toNat) 1) 7 ((((h 0 17) + 1) + 1).toNat) w1) 8 ((((h 0 17) + 1) + 1).toNat) 0) 9 ((((h 0 17) + 1) + 1).toNat) 0) 0 17 ((((h 0 17) + 1) + 1) + 1)) Q
            refine ja_zreturn doperators_119 rfl (by omega) ?_
            exact mo_fin (by omega) rfl (k1 (ja_up (ja_up (ja_up (ja_up (ja_up (ja_up (ja_up (ja_up (ja_up (ja_up (ja_up (ja_up (ja_up (ja_up (ja_up (ja_up (ja_up (ja_up (ja_up (ja_up h 0 7 ((h 0 7) + 1)) 6 ((h 0 17).toNat) 2) 7 ((h 0 17).toNat) a1) 8 ((h 0 17).toNat) 0) 9 ((h 0 17).toNat) 0) 0 17 ((h 0 17) + 1)) 74 ((h 0 113).toNat) 12) 75 ((h 0 113).toNat) 0) 76 ((h 0 113).toNat) 0) 0 113 ((h 0 113) + 1)) 6 (((h 0 17) + 1).toNat) 4) 7 (((h 0 17) + 1).toNat) (h 0 113)) 8 (((h 0 17) + 1).toNat) 0) 9 (((h 0 17) + 1).toNat) 0) 0 17 (((h 0 17) + 1) + 1)) 6 ((((h 0 17) + 1) + 1).toNat) 1) 7 ((((h 0 17) + 1) + 1).toNat) w1) 8 ((((h 0 17) + 1) + 1).toNat) 0) 9 ((((h 0 17) + 1) + 1).toNat) 0) 0 17 ((((h 0 17) + 1) + 1) + 1)) (ab_ops_12 g p1 p2) g23)
          · refine ja_bipush 13 doperators_81 rfl ?_
            refine ja_goto 88 doperators_83 rfl ?_
            refine ja_iconst doperators_88 ?_
            refine ja_iconst doperators_89 ?_
            refine t_emit (by decide) (show (2 : Nat) ≤ 8 by decide) doperators_90 g18 ⟨by decide, by decide⟩ ⟨by decide, by decide⟩ ⟨by decide, by decide⟩ (show 0 ≤ 13 ∧ 13 ≤ 26 by omega) (show (h 0 113) < 5000 by omega) ?_
            intro g24
            replace g24 : mo_G (ja_up (ja_up (ja_up (ja_up (ja_up (ja_up (ja_up (ja_up (ja_up (ja_up h 0 7 ((h 0 7) + 1)) 6 ((h 0 17).toNat) 2) 7 ((h 0 17).toNat) a1) 8 ((h 0 17).toNat) 0) 9 ((h 0 17).toNat) 0) 0 17 ((h 0 17) + 1)) 74 ((h 0 113).toNat) 13) 75 ((h 0 113).toNat) 0) 76 ((h 0 113).toNat) 0) 0 113 ((h 0 113) + 1)) := g24
            show mJ l D cA ad 3 cX12_operators 5 (some .boolean) 93 [(4, (0, 1)), (3, (0, 0)), (2, (0, w1)), (0, (2, ((0 : Nat) : Int))), (1, (0, a1))] [(0, (h 0 113)), (0, 4), (2, ((0 : Nat) : Int))] (ja_up (ja_up (ja_up (ja_up (ja_up (ja_up (ja_up (ja_up (ja_up (ja_up h 0 7 ((h 0 7) + 1)) 6 ((h 0 17).toNat) 2) 7 ((h 0 17).toNat) a1) 8 ((h 0 17).toNat) 0) 9 ((h 0 17).toNat) 0) 0 17 ((h 0 17) + 1)) 74 ((h 0 113).toNat) 13) 75 ((h 0 113).toNat) 0) 76 ((h 0 113).toNat) 0) 0 113 ((h 0 113) + 1)) Q
            refine ja_iconst doperators_93 ?_
            refine ja_iconst doperators_94 ?_
            refine t_later (by decide) (show (0 : Nat) ≤ 8 by decide) doperators_95 g24 ⟨by decide, by decide⟩ ⟨by omega, by omega⟩ ⟨by decide, by decide⟩ ⟨by decide, by decide⟩ (show 0 ≤ 4 ∧ 4 ≤ 38 by omega) (show ((h 0 17) + 1) < 2000 by omega) ?_
            intro g25
            replace g25 : mo_G (ja_up (ja_up (ja_up (ja_up (ja_up (ja_up (ja_up (ja_up (ja_up (ja_up (ja_up (ja_up (ja_up (ja_up (ja_up h 0 7 ((h 0 7) + 1)) 6 ((h 0 17).toNat) 2) 7 ((h 0 17).toNat) a1) 8 ((h 0 17).toNat) 0) 9 ((h 0 17).toNat) 0) 0 17 ((h 0 17) + 1)) 74 ((h 0 113).toNat) 13) 75 ((h 0 113).toNat) 0) 76 ((h 0 113).toNat) 0) 0 113 ((h 0 113) + 1)) 6 (((h 0 17) + 1).toNat) 4) 7 (((h 0 17) + 1).toNat) (h 0 113)) 8 (((h 0 17) + 1).toNat) 0) 9 (((h 0 17) + 1).toNat) 0) 0 17 (((h 0 17) + 1) + 1)) := g25
            show mJ l D cA ad 3 cX12_operators 5 (some .boolean) 98 [(4, (0, 1)), (3, (0, 0)), (2, (0, w1)), (0, (2, ((0 : Nat) : Int))), (1, (0, a1))] [(0, 1)] (ja_up (ja_up (ja_up (ja_up (ja_up (ja_up (ja_up (ja_up (ja_up (ja_up (ja_up (ja_up (ja_up (ja_up (ja_up h 0 7 ((h 0 7) + 1)) 6 ((h 0 17).toNat) 2) 7 ((h 0 17).toNat) a1) 8 ((h 0 17).toNat) 0) 9 ((h 0 17).toNat) 0) 0 17 ((h 0 17) + 1)) 74 ((h 0 113).toNat) 13) 75 ((h 0 113).toNat) 0) 76 ((h 0 113).toNat) 0) 0 113 ((h 0 113) + 1)) 6 (((h 0 17) + 1).toNat) 4) 7 (((h 0 17) + 1).toNat) (h 0 113)) 8 (((h 0 17) + 1).toNat) 0) 9 (((h 0 17) + 1).toNat) 0) 0 17 (((h 0 17) + 1) + 1)) Q
            refine ja_goto 109 doperators_98 rfl ?_
            refine ja_istore doperators_109 (by decide) (L2 := [(4, (0, 1)), (3, (0, 0)), (2, (0, w1)), (0, (2, ((0 : Nat) : Int))), (1, (0, a1))]) rfl ?_
            refine ja_aload_n doperators_111 rfl rfl ?_
            refine ja_iconst doperators_112 ?_
            refine ja_iload_n doperators_113 rfl rfl ?_
            refine ja_iconst doperators_114 ?_
            refine ja_iconst doperators_115 ?_
            refine t_later (by decide) (show (0 : Nat) ≤ 8 by decide) doperators_116 g25 ⟨by decide, by decide⟩ ⟨by omega, by omega⟩ ⟨by decide, by decide⟩ ⟨by decide, by decide⟩ (show 0 ≤ 1 ∧ 1 ≤ 38 by omega) (show (((h 0 17) + 1) + 1) < 2000 by omega) ?_
            intro g26
            replace g26 : mo_G (ja_up (ja_up (ja_up (ja_up (ja_up (ja_up (ja_up (ja_up (ja_up (ja_up (ja_up (ja_up (ja_up (ja_up (ja_up (ja_up (ja_up (ja_up (ja_up (ja_up h 0 7 ((h 0 7) + 1)) 6 ((h 0 17).toNat) 2) 7 ((h 0 17).toNat) a1) 8 ((h 0 17).toNat) 0) 9 ((h 0 17).toNat) 0) 0 17 ((h 0 17) + 1)) 74 ((h 0 113).toNat) 13) 75 ((h 0 113).toNat) 0) 76 ((h 0 113).toNat) 0) 0 113 ((h 0 113) + 1)) 6 (((h 0 17) + 1).toNat) 4) 7 (((h 0 17) + 1).toNat) (h 0 113)) 8 (((h 0 17) + 1).toNat) 0) 9 (((h 0 17) + 1).toNat) 0) 0 17 (((h 0 17) + 1) + 1)) 6 ((((h 0 17) + 1) + 1).toNat) 1) 7 ((((h 0 17) + 1) + 1).toNat) w1) 8 ((((h 0 17) + 1) + 1).toNat) 0) 9 ((((h 0 17) + 1) + 1).toNat) 0) 0 17 ((((h 0 17) + 1) + 1) + 1)) := g26
            show mJ l D cA ad 3 cX12_operators 5 (some .boolean) 119 [(4, (0, 1)), (3, (0, 0)), (2, (0, w1)), (0, (2, ((0 : Nat) : Int))), (1, (0, a1))] [(0, 1)] (ja_up (ja_up (ja_up (ja_up (ja_up (ja_up (ja_up (ja_up (ja_up (ja_up (ja_up (ja_up (ja_up (ja_up (ja_up (ja_up (ja_up (ja_up (ja_up (ja_up h 0 7 ((h 0 7) + 1)) 6 ((h 0 17).toNat) 2) 7 ((h 0 17).toNat) a1) 8 ((h 0 17).toNat) 0) 9 ((h 0 17).toNat) 0) 0 17 ((h 0 17) + 1)) 74 ((h 0 113).toNat) 13) 75 ((h 0 113).toNat) 0) 76 ((h 0 113).toNat) 0) 0 113 ((h 0 113) + 1)) 6 (((h 0 17) + 1).toNat) 4) 7 (((h 0 17) + 1).toNat) (h 0 113)) 8 (((h 0 17) + 1).toNat) 0) 9 (((h 0 17) + 1).toNat) 0) 0 17 (((h 0 17) + 1) + 1)) 6 ((((h 0 17) + 1) + 1).toNat) 1) 7 ((((h 0 17) + 1) + 1).toNat) w1) 8 ((((h 0 17) + 1) + 1).toNat) 0) 9 ((((h 0 17) + 1) + 1).toNat) 0) 0 17 ((((h 0 17) + 1) + 1) + 1)) Q
            refine ja_zreturn doperators_119 rfl (by omega) ?_
            exact mo_fin (by omega) rfl (k1 (ja_up (ja_up (ja_up (ja_up (ja_up (ja_up (ja_up (ja_up (ja_up (ja_up (ja_up (ja_up (ja_up (ja_up (ja_up (ja_up (ja_up (ja_up (ja_up (ja_up h 0 7 ((h 0 7) + 1)) 6 ((h 0 17).toNat) 2) 7 ((h 0 17).toNat) a1) 8 ((h 0 17).toNat) 0) 9 ((h 0 17).toNat) 0) 0 17 ((h 0 17) + 1)) 74 ((h 0 113).toNat) 13) 75 ((h 0 113).toNat) 0) 76 ((h 0 113).toNat) 0) 0 113 ((h 0 113) + 1)) 6 (((h 0 17) + 1).toNat) 4) 7 (((h 0 17) + 1).toNat) (h 0 113)) 8 (((h 0 17) + 1).toNat) 0) 9 (((h 0 17) + 1).toNat) 0) 0 17 (((h 0 17) + 1) + 1)) 6 ((((h 0 17) + 1) + 1).toNat) 1) 7 ((((h 0 17) + 1) + 1).toNat) w1) 8 ((((h 0 17) + 1) + 1).toNat) 0) 9 ((((h 0 17) + 1) + 1).toNat) 0) 0 17 ((((h 0 17) + 1) + 1) + 1)) (ab_ops_13 g p1 p2) g26)
      · intro h27 k50_1 g28
        refine ja_if_ne 58 doperators_53 rfl ⟨by decide, by decide⟩ (fun c53 => absurd c53 (by omega)) (fun c53 => ?_)
        refine ja_iconst doperators_56 ?_
        refine ja_zreturn doperators_57 rfl (by omega) ?_
        exact mo_fin (by omega) rfl (k2 h27 (by omega) g28)
  · refine ja_aload_n doperators_10 rfl rfl ?_
    refine ja_dup doperators_11 (by decide) ?_
    refine fg_nest (v := h 0 18) rfl doperators_12 ?_
    have f29 := gF_nest g
    refine ja_iconst doperators_15 ?_
    refine ja_isub doperators_16 ?_
    have g30 := gP_nest g (x := (h 0 18) - 1) ⟨by omega, by omega⟩
    refine fp_nest doperators_17 ?_
    refine ja_iconst doperators_20 ?_
    refine ja_zreturn doperators_21 rfl (by omega) ?_
    exact mo_fin (by omega) rfl (k1 (ja_up h 0 18 ((h 0 18) - 1)) (ab_ops_end g p1 p2) g30)
theorem t_operators {a1 : Int} {R r ph tf q0 b : Int} {s : List mo_A} {ht st rg : Nat → Int} {tu : Int} {d nL pc : Nat} {cc : ByteArray} {rt : Option FieldType} {L : List (Nat × ja_V)} {S : List ja_V} {h : ja_H} {Q : Option ja_V → ja_H → Prop} (hdd : 3 < d) (hwd : ja_wd S ≤ 8) (hd : decode cc pc = .ok (.invokevirtual 847, 3)) (g : mo_G h) (r1 : -2147483648 ≤ a1 ∧ a1 ≤ 2147483647) (p1 : pk_S h (h 0 17).toNat s) (p2 : piB h R r ph tf q0 ((2, a1, b) :: s) ht st rg tu) (k1 : ∀ (h' : ja_H), (pi_done h h' R r ph tf q0 (pi_mu h ((2, a1, b) :: s))) → mo_G h' → mJ l D cA ad d cc nL rt (pc + 3) L ((0, 1) :: S) h' Q) (k2 : ∀ (h' : ja_H), (0 < (h' 0 8) ∧ (h' 0 1) = (h 0 1) ∧ (h' 0 118) = (h 0 118) ∧ (h' 0 127) = (h 0 127)) → mo_G h' → mJ l D cA ad d cc nL rt (pc + 3) L ((0, 0) :: S) h' Q) : mJ l D cA ad d cc nL rt pc L ((0, a1) :: (2, ((0 : Nat) : Int)) :: S) h Q :=
  mc_operators hdd hwd hd (s_operators g r1 p1 p2 k1 k2)
end
theorem dexpression_0 : decode cX12_expression 0 = .ok (.aload_n 0, 1) := by decide +kernel
theorem dexpression_1 : decode cX12_expression 1 = .ok (.invokevirtual 808, 3) := by decide +kernel
theorem dexpression_4 : decode cX12_expression 4 = .ok (.ifCond .ne 8, 3) := by decide +kernel
theorem dexpression_7 : decode cX12_expression 7 = .ok (.aload_n 0, 1) := by decide +kernel
theorem dexpression_8 : decode cX12_expression 8 = .ok (.invokevirtual 593, 3) := by decide +kernel
theorem dexpression_11 : decode cX12_expression 11 = .ok (.ireturn, 1) := by decide +kernel
theorem dexpression_12 : decode cX12_expression 12 = .ok (.aload_n 0, 1) := by decide +kernel
theorem dexpression_13 : decode cX12_expression 13 = .ok (.invokevirtual 814, 3) := by decide +kernel
theorem dexpression_16 : decode cX12_expression 16 = .ok (.ifCond .ne 5, 3) := by decide +kernel
theorem dexpression_19 : decode cX12_expression 19 = .ok (.iconst 0, 1) := by decide +kernel
theorem dexpression_20 : decode cX12_expression 20 = .ok (.ireturn, 1) := by decide +kernel
theorem dexpression_21 : decode cX12_expression 21 = .ok (.aload_n 0, 1) := by decide +kernel
theorem dexpression_22 : decode cX12_expression 22 = .ok (.iconst 2, 1) := by decide +kernel
theorem dexpression_23 : decode cX12_expression 23 = .ok (.iload_n 1, 1) := by decide +kernel
theorem dexpression_24 : decode cX12_expression 24 = .ok (.iconst 0, 1) := by decide +kernel
theorem dexpression_25 : decode cX12_expression 25 = .ok (.iconst 0, 1) := by decide +kernel
theorem dexpression_26 : decode cX12_expression 26 = .ok (.invokevirtual 790, 3) := by decide +kernel
theorem dexpression_29 : decode cX12_expression 29 = .ok (.istore_n 2, 1) := by decide +kernel
theorem dexpression_30 : decode cX12_expression 30 = .ok (.aload_n 0, 1) := by decide +kernel
theorem dexpression_31 : decode cX12_expression 31 = .ok (.bipush 45, 2) := by decide +kernel
theorem dexpression_33 : decode cX12_expression 33 = .ok (.invokevirtual 586, 3) := by decide +kernel
theorem dexpression_36 : decode cX12_expression 36 = .ok (.ifCond .ne 12, 3) := by decide +kernel
theorem dexpression_39 : decode cX12_expression 39 = .ok (.aload_n 0, 1) := by decide +kernel
theorem dexpression_40 : decode cX12_expression 40 = .ok (.bipush 28, 2) := by decide +kernel
theorem dexpression_42 : decode cX12_expression 42 = .ok (.invokevirtual 596, 3) := by decide +kernel
theorem dexpression_45 : decode cX12_expression 45 = .ok (.ifCond .eq 53, 3) := by decide +kernel
theorem dexpression_48 : decode cX12_expression 48 = .ok (.aload_n 0, 1) := by decide +kernel
theorem dexpression_49 : decode cX12_expression 49 = .ok (.bipush 45, 2) := by decide +kernel
theorem dexpression_51 : decode cX12_expression 51 = .ok (.invokevirtual 586, 3) := by decide +kernel
theorem dexpression_54 : decode cX12_expression 54 = .ok (.ifCond .eq 7, 3) := by decide +kernel
theorem dexpression_57 : decode cX12_expression 57 = .ok (.iconst 1, 1) := by decide +kernel
theorem dexpression_58 : decode cX12_expression 58 = .ok (.goto 4, 3) := by decide +kernel
theorem dexpression_61 : decode cX12_expression 61 = .ok (.iconst 0, 1) := by decide +kernel
theorem dexpression_62 : decode cX12_expression 62 = .ok (.istore_n 3, 1) := by decide +kernel
theorem dexpression_63 : decode cX12_expression 63 = .ok (.aload_n 0, 1) := by decide +kernel
theorem dexpression_64 : decode cX12_expression 64 = .ok (.invokevirtual 589, 3) := by decide +kernel
theorem dexpression_67 : decode cX12_expression 67 = .ok (.ifCond .eq 29, 3) := by decide +kernel
theorem dexpression_70 : decode cX12_expression 70 = .ok (.aload_n 0, 1) := by decide +kernel
theorem dexpression_71 : decode cX12_expression 71 = .ok (.iconst 5, 1) := by decide +kernel
theorem dexpression_72 : decode cX12_expression 72 = .ok (.iload_n 3, 1) := by decide +kernel
theorem dexpression_73 : decode cX12_expression 73 = .ok (.iconst 0, 1) := by decide +kernel
theorem dexpression_74 : decode cX12_expression 74 = .ok (.iconst 0, 1) := by decide +kernel
theorem dexpression_75 : decode cX12_expression 75 = .ok (.invokevirtual 790, 3) := by decide +kernel
theorem dexpression_78 : decode cX12_expression 78 = .ok (.ifCond .eq 18, 3) := by decide +kernel
theorem dexpression_81 : decode cX12_expression 81 = .ok (.aload_n 0, 1) := by decide +kernel
theorem dexpression_82 : decode cX12_expression 82 = .ok (.iconst 1, 1) := by decide +kernel
theorem dexpression_83 : decode cX12_expression 83 = .ok (.iconst 5, 1) := by decide +kernel
theorem dexpression_84 : decode cX12_expression 84 = .ok (.iconst 0, 1) := by decide +kernel
theorem dexpression_85 : decode cX12_expression 85 = .ok (.iconst 0, 1) := by decide +kernel
theorem dexpression_86 : decode cX12_expression 86 = .ok (.invokevirtual 790, 3) := by decide +kernel
theorem dexpression_89 : decode cX12_expression 89 = .ok (.ifCond .eq 7, 3) := by decide +kernel
theorem dexpression_92 : decode cX12_expression 92 = .ok (.iconst 1, 1) := by decide +kernel
theorem dexpression_93 : decode cX12_expression 93 = .ok (.goto 4, 3) := by decide +kernel
theorem dexpression_96 : decode cX12_expression 96 = .ok (.iconst 0, 1) := by decide +kernel
theorem dexpression_97 : decode cX12_expression 97 = .ok (.ireturn, 1) := by decide +kernel
theorem dexpression_98 : decode cX12_expression 98 = .ok (.aload_n 0, 1) := by decide +kernel
theorem dexpression_99 : decode cX12_expression 99 = .ok (.bipush 6, 2) := by decide +kernel
theorem dexpression_101 : decode cX12_expression 101 = .ok (.iconst 0, 1) := by decide +kernel
theorem dexpression_102 : decode cX12_expression 102 = .ok (.iconst 0, 1) := by decide +kernel
theorem dexpression_103 : decode cX12_expression 103 = .ok (.iconst 0, 1) := by decide +kernel
theorem dexpression_104 : decode cX12_expression 104 = .ok (.invokevirtual 790, 3) := by decide +kernel
theorem dexpression_107 : decode cX12_expression 107 = .ok (.ireturn, 1) := by decide +kernel
section
variable {l : Launch} {D : va_G} {cA : Nat → ClassId} {ad : Nat → Nat}
theorem s_expression {a1 : Int} {R r ph tf q0 b : Int} {s : List mo_A} {ht st rg : Nat → Int} {tu : Int} {h : ja_H} {Q : Option ja_V → ja_H → Prop} (g : mo_G h) (r1 : -2147483648 ≤ a1 ∧ a1 ≤ 2147483647) (p1 : pk_S h (h 0 17).toNat s) (p2 : piB h R r ph tf q0 ((1, a1, b) :: s) ht st rg tu) (k1 : ∀ (h' : ja_H), (pi_done h h' R r ph tf q0 (pi_mu h ((1, a1, b) :: s))) → mo_G h' → Q (some (0, 1)) h') (k2 : ∀ (h' : ja_H), (0 < (h' 0 8) ∧ (h' 0 1) = (h 0 1) ∧ (h' 0 118) = (h 0 118) ∧ (h' 0 127) = (h 0 127)) → mo_G h' → Q (some (0, 0)) h') : mM_expression l D cA ad a1 h Q := by
  show mJ l D cA ad 3 cX12_expression 4 (some .boolean) 0 [(0, (2, ((0 : Nat) : Int))), (1, (0, a1))] [] h Q
  have kn_at := gF_at g
  have kn_wTop := gF_wTop g
  have kn_words := gF_words g
  have kn_nest := gF_nest g
  have hN := piB_num g p1 p2
  obtain ⟨N1, N2, N3, N4, N5, N6, N7, N8, N9, N10, N11, N12, N13, ⟨NK1, NK2⟩, ND1, ND2, ND3, NU1, NU2⟩ := hN
  have hll := bs_hl p2
  have hn1 : (h 0 18) = 0 + pk_sum pk_c s := p2.1.1
  refine ja_aload_n dexpression_0 rfl rfl ?_
  refine t_beginsExpression (by decide) (show (0 : Nat) ≤ 8 by decide) dexpression_1 g  ?_
  intro w1 k1_0
  refine ja_if_ne 12 dexpression_4 rfl ⟨by omega, by omega⟩ (fun c4 => ?_) (fun c4 => ?_)
  · refine ja_aload_n dexpression_12 rfl rfl ?_
    refine t_enter (by decide) (show (0 : Nat) ≤ 8 by decide) dexpression_13 g  ?_ ?_
    · intro k13_0 g2
      replace k13_0 : (h 0 18) < 16 := k13_0
      replace g2 : mo_G (ja_up h 0 18 ((h 0 18) + 1)) := g2
      show mJ l D cA ad 3 cX12_expression 4 (some .boolean) 16 [(0, (2, ((0 : Nat) : Int))), (1, (0, a1))] [(0, 1)] (ja_up h 0 18 ((h 0 18) + 1)) Q
      refine ja_if_ne 21 dexpression_16 rfl ⟨by decide, by decide⟩ (fun c16 => ?_) (fun c16 => absurd c16 (by omega))
      refine ja_aload_n dexpression_21 rfl rfl ?_
      refine ja_iconst dexpression_22 ?_
      refine ja_iload_n dexpression_23 rfl rfl ?_
      refine ja_iconst dexpression_24 ?_
      refine ja_iconst dexpression_25 ?_
      refine t_later (by decide) (show (0 : Nat) ≤ 8 by decide) dexpression_26 g2 ⟨by decide, by decide⟩ ⟨by omega, by omega⟩ ⟨by decide, by decide⟩ ⟨by decide, by decide⟩ (show 0 ≤ 2 ∧ 2 ≤ 38 by omega) (show (h 0 17) < 2000 by omega) ?_
      intro g3
      replace g3 : mo_G (ja_up (ja_up (ja_up (ja_up (ja_up (ja_up h 0 18 ((h 0 18) + 1)) 6 ((h 0 17).toNat) 2) 7 ((h 0 17).toNat) a1) 8 ((h 0 17).toNat) 0) 9 ((h 0 17).toNat) 0) 0 17 ((h 0 17) + 1)) := g3
      show mJ l D cA ad 3 cX12_expression 4 (some .boolean) 29 [(0, (2, ((0 : Nat) : Int))), (1, (0, a1))] [(0, 1)] (ja_up (ja_up (ja_up (ja_up (ja_up (ja_up h 0 18 ((h 0 18) + 1)) 6 ((h 0 17).toNat) 2) 7 ((h 0 17).toNat) a1) 8 ((h 0 17).toNat) 0) 9 ((h 0 17).toNat) 0) 0 17 ((h 0 17) + 1)) Q
      refine ja_istore_n dexpression_29 rfl (by decide) (L2 := [(2, (0, 1)), (0, (2, ((0 : Nat) : Int))), (1, (0, a1))]) rfl ?_
      refine ja_aload_n dexpression_30 rfl rfl ?_
      refine ja_bipush 45 dexpression_31 rfl ?_
      refine t_isSign (by decide) (show (0 : Nat) ≤ 8 by decide) dexpression_33 g3 ⟨by decide, by decide⟩ ?_
      intro w4 k33_0
      replace k33_0 : (w4 = 1 ∧ (h 2 (h 0 7).toNat) = 5 ∧ (h 5 (h 0 7).toNat) = 45) ∨ (w4 = 0 ∧ ¬ ((h 2 (h 0 7).toNat) = 5 ∧ (h 5 (h 0 7).toNat) = 45)) := k33_0
      refine ja_if_ne 48 dexpression_36 rfl ⟨by omega, by omega⟩ (fun c36 => ?_) (fun c36 => ?_)
      · refine ja_aload_n dexpression_48 rfl rfl ?_
        refine ja_bipush 45 dexpression_49 rfl ?_
        refine t_isSign (by decide) (show (0 : Nat) ≤ 8 by decide) dexpression_51 g3 ⟨by decide, by decide⟩ ?_
        intro w5 k51_0
        replace k51_0 : (w5 = 1 ∧ (h 2 (h 0 7).toNat) = 5 ∧ (h 5 (h 0 7).toNat) = 45) ∨ (w5 = 0 ∧ ¬ ((h 2 (h 0 7).toNat) = 5 ∧ (h 5 (h 0 7).toNat) = 45)) := k51_0
        refine ja_if_eq 61 dexpression_54 rfl ⟨by omega, by omega⟩ (fun c54 => ?_) (fun c54 => ?_)
        · refine ja_iconst dexpression_61 ?_
          refine ja_istore_n dexpression_62 rfl (by decide) (L2 := [(3, (0, 0)), (2, (0, 1)), (0, (2, ((0 : Nat) : Int))), (1, (0, a1))]) rfl ?_
          refine ja_aload_n dexpression_63 rfl rfl ?_
          refine t_take (by decide) (show (0 : Nat) ≤ 8 by decide) dexpression_64 g3  ?_ ?_
          · intro k64_0 g6
            replace k64_0 : (h 0 7) < 900 := k64_0
            replace g6 : mo_G (ja_up (ja_up (ja_up (ja_up (ja_up (ja_up (ja_up h 0 18 ((h 0 18) + 1)) 6 ((h 0 17).toNat) 2) 7 ((h 0 17).toNat) a1) 8 ((h 0 17).toNat) 0) 9 ((h 0 17).toNat) 0) 0 17 ((h 0 17) + 1)) 0 7 ((h 0 7) + 1)) := g6
            show mJ l D cA ad 3 cX12_expression 4 (some .boolean) 67 [(3, (0, 0)), (2, (0, 1)), (0, (2, ((0 : Nat) : Int))), (1, (0, a1))] [(0, 1)] (ja_up (ja_up (ja_up (ja_up (ja_up (ja_up (ja_up h 0 18 ((h 0 18) + 1)) 6 ((h 0 17).toNat) 2) 7 ((h 0 17).toNat) a1) 8 ((h 0 17).toNat) 0) 9 ((h 0 17).toNat) 0) 0 17 ((h 0 17) + 1)) 0 7 ((h 0 7) + 1)) Q
            refine ja_if_eq 96 dexpression_67 rfl ⟨by decide, by decide⟩ (fun c67 => absurd c67 (by omega)) (fun c67 => ?_)
            refine ja_aload_n dexpression_70 rfl rfl ?_
            refine ja_iconst dexpression_71 ?_
            refine ja_iload_n dexpression_72 rfl rfl ?_
            refine ja_iconst dexpression_73 ?_
            refine ja_iconst dexpression_74 ?_
            refine t_later (by decide) (show (0 : Nat) ≤ 8 by decide) dexpression_75 g6 ⟨by decide, by decide⟩ ⟨by decide, by decide⟩ ⟨by decide, by decide⟩ ⟨by decide, by decide⟩ (show 0 ≤ 5 ∧ 5 ≤ 38 by omega) (show ((h 0 17) + 1) < 2000 by omega) ?_
            intro g7
            replace g7 : mo_G (ja_up (ja_up (ja_up (ja_up (ja_up (ja_up (ja_up (ja_up (ja_up (ja_up (ja_up (ja_up h 0 18 ((h 0 18) + 1)) 6 ((h 0 17).toNat) 2) 7 ((h 0 17).toNat) a1) 8 ((h 0 17).toNat) 0) 9 ((h 0 17).toNat) 0) 0 17 ((h 0 17) + 1)) 0 7 ((h 0 7) + 1)) 6 (((h 0 17) + 1).toNat) 5) 7 (((h 0 17) + 1).toNat) 0) 8 (((h 0 17) + 1).toNat) 0) 9 (((h 0 17) + 1).toNat) 0) 0 17 (((h 0 17) + 1) + 1)) := g7
            show mJ l D cA ad 3 cX12_expression 4 (some .boolean) 78 [(3, (0, 0)), (2, (0, 1)), (0, (2, ((0 : Nat) : Int))), (1, (0, a1))] [(0, 1)] (ja_up (ja_up (ja_up (ja_up (ja_up (ja_up (ja_up (ja_up (ja_up (ja_up (ja_up (ja_up h 0 18 ((h 0 18) + 1)) 6 ((h 0 17).toNat) 2) 7 ((h 0 17).toNat) a1) 8 ((h 0 17).toNat) 0) 9 ((h 0 17).toNat) 0) 0 17 ((h 0 17) + 1)) 0 7 ((h 0 7) + 1)) 6 (((h 0 17) + 1).toNat) 5) 7 (((h 0 17) + 1).toNat) 0) 8 (((h 0 17) + 1).toNat) 0) 9 (((h 0 17) + 1).toNat) 0) 0 17 (((h 0 17) + 1) + 1)) Q
            refine ja_if_eq 96 dexpression_78 rfl ⟨by decide, by decide⟩ (fun c78 => absurd c78 (by omega)) (fun c78 => ?_)
            refine ja_aload_n dexpression_81 rfl rfl ?_
            refine ja_iconst dexpression_82 ?_
            refine ja_iconst dexpression_83 ?_
            refine ja_iconst dexpression_84 ?_
            refine ja_iconst dexpression_85 ?_
            refine t_later (by decide) (show (0 : Nat) ≤ 8 by decide) dexpression_86 g7 ⟨by decide, by decide⟩ ⟨by decide, by decide⟩ ⟨by decide, by decide⟩ ⟨by decide, by decide⟩ (show 0 ≤ 1 ∧ 1 ≤ 38 by omega) (show (((h 0 17) + 1) + 1) < 2000 by omega) ?_
            intro g8
            replace g8 : mo_G (ja_up (ja_up (ja_up (ja_up (ja_up (ja_up (ja_up (ja_up (ja_up (ja_up (ja_up (ja_up (ja_up (ja_up (ja_up (ja_up (ja_up h 0 18 ((h 0 18) + 1)) 6 ((h 0 17).toNat) 2) 7 ((h 0 17).toNat) a1) 8 ((h 0 17).toNat) 0) 9 ((h 0 17).toNat) 0) 0 17 ((h 0 17) + 1)) 0 7 ((h 0 7) + 1)) 6 (((h 0 17) + 1).toNat) 5) 7 (((h 0 17) + 1).toNat) 0) 8 (((h 0 17) + 1).toNat) 0) 9 (((h 0 17) + 1).toNat) 0) 0 17 (((h 0 17) + 1) + 1)) 6 ((((h 0 17) + 1) + 1).toNat) 1) 7 ((((h 0 17) + 1) + 1).toNat) 5) 8 ((((h 0 17) + 1) + 1).toNat) 0) 9 ((((h 0 17) + 1) + 1).toNat) 0) 0 17 ((((h 0 17) + 1) + 1) + 1)) := g8
            show mJ l D cA ad 3 cX12_expression 4 (some .boolean) 89 [(3, (0, 0)), (2, (0, 1)), (0, (2, ((0 : Nat) : Int))), (1, (0, a1))] [(0, 1)] (ja_up (ja_up (ja_up (ja_up (ja_up (ja_up (ja_up (ja_up (ja_up (ja_up (ja_up (ja_up (ja_up (ja_up (ja_up (ja_up (ja_up h 0 18 ((h 0 18) + 1)) 6 ((h 0 17).toNat) 2) 7 ((h 0 17).toNat) a1) 8 ((h 0 17).toNat) 0) 9 ((h 0 17).toNat) 0) 0 17 ((h 0 17) + 1)) 0 7 ((h 0 7) + 1)) 6 (((h 0 17) + 1).toNat) 5) 7 (((h 0 17) + 1).toNat) 0) 8 (((h 0 17) + 1).toNat) 0) 9 (((h 0 17) + 1).toNat) 0) 0 17 (((h 0 17) + 1) + 1)) 6 ((((h 0 17) + 1) + 1).toNat) 1) 7 ((((h 0 17) + 1) + 1).toNat) 5) 8 ((((h 0 17) + 1) + 1).toNat) 0) 9 ((((h 0 17) + 1) + 1).toNat) 0) 0 17 ((((h 0 17) + 1) + 1) + 1)) Q
            refine ja_if_eq 96 dexpression_89 rfl ⟨by decide, by decide⟩ (fun c89 => absurd c89 (by omega)) (fun c89 => ?_)
            refine ja_iconst dexpression_92 ?_
            refine ja_goto 97 dexpression_93 rfl ?_
            refine ja_zreturn dexpression_97 rfl (by omega) ?_
            exact mo_fin (by omega) rfl (k1 (ja_up (ja_up (ja_up (ja_up (ja_up (ja_up (ja_up (ja_up (ja_up (ja_up (ja_up (ja_up (ja_up (ja_up (ja_up (ja_up (ja_up h 0 18 ((h 0 18) + 1)) 6 ((h 0 17).toNat) 2) 7 ((h 0 17).toNat) a1) 8 ((h 0 17).toNat) 0) 9 ((h 0 17).toNat) 0) 0 17 ((h 0 17) + 1)) 0 7 ((h 0 7) + 1)) 6 (((h 0 17) + 1).toNat) 5) 7 (((h 0 17) + 1).toNat) 0) 8 (((h 0 17) + 1).toNat) 0) 9 (((h 0 17) + 1).toNat) 0) 0 17 (((h 0 17) + 1) + 1)) 6 ((((h 0 17) + 1) + 1).toNat) 1) 7 ((((h 0 17) + 1) + 1).toNat) 5) 8 ((((h 0 17) + 1) + 1).toNat) 0) 9 ((((h 0 17) + 1) + 1).toNat) 0) 0 17 ((((h 0 17) + 1) + 1) + 1)) (ab_ex_un g p1 p2 (by exact k1_0.2.2.1 (by omega))) g8)
          · intro h9 k64_1 g10
            replace k64_1 : 0 < (h9 0 8) ∧ (h9 0 1) = (h 0 1) ∧ (h9 0 118) = (h 0 118) ∧ (h9 0 127) = (h 0 127) := k64_1
            refine ja_if_eq 96 dexpression_67 rfl ⟨by decide, by decide⟩ (fun c67 => ?_) (fun c67 => absurd c67 (by omega))
            refine ja_iconst dexpression_96 ?_
            refine ja_zreturn dexpression_97 rfl (by omega) ?_
            exact mo_fin (by omega) rfl (k2 h9 (by omega) g10)
        · refine ja_iconst dexpression_57 ?_
          refine ja_goto 62 dexpression_58 rfl ?_
          refine ja_istore_n dexpression_62 rfl (by decide) (L2 := [(3, (0, 1)), (2, (0, 1)), (0, (2, ((0 : Nat) : Int))), (1, (0, a1))]) rfl ?_
          refine ja_aload_n dexpression_63 rfl rfl ?_
          refine t_take (by decide) (show (0 : Nat) ≤ 8 by decide) dexpression_64 g3  ?_ ?_
          · intro k64_0 g11
            replace k64_0 : (h 0 7) < 900 := k64_0
            replace g11 : mo_G (ja_up (ja_up (ja_up (ja_up (ja_up (ja_up (ja_up h 0 18 ((h 0 18) + 1)) 6 ((h 0 17).toNat) 2) 7 ((h 0 17).toNat) a1) 8 ((h 0 17).toNat) 0) 9 ((h 0 17).toNat) 0) 0 17 ((h 0 17) + 1)) 0 7 ((h 0 7) + 1)) := g11
            show mJ l D cA ad 3 cX12_expression 4 (some .boolean) 67 [(3, (0, 1)), (2, (0, 1)), (0, (2, ((0 : Nat) : Int))), (1, (0, a1))] [(0, 1)] (ja_up (ja_up (ja_up (ja_up (ja_up (ja_up (ja_up h 0 18 ((h 0 18) + 1)) 6 ((h 0 17).toNat) 2) 7 ((h 0 17).toNat) a1) 8 ((h 0 17).toNat) 0) 9 ((h 0 17).toNat) 0) 0 17 ((h 0 17) + 1)) 0 7 ((h 0 7) + 1)) Q
            refine ja_if_eq 96 dexpression_67 rfl ⟨by decide, by decide⟩ (fun c67 => absurd c67 (by omega)) (fun c67 => ?_)
            refine ja_aload_n dexpression_70 rfl rfl ?_
            refine ja_iconst dexpression_71 ?_
            refine ja_iload_n dexpression_72 rfl rfl ?_
            refine ja_iconst dexpression_73 ?_
            refine ja_iconst dexpression_74 ?_
            refine t_later (by decide) (show (0 : Nat) ≤ 8 by decide) dexpression_75 g11 ⟨by decide, by decide⟩ ⟨by decide, by decide⟩ ⟨by decide, by decide⟩ ⟨by decide, by decide⟩ (show 0 ≤ 5 ∧ 5 ≤ 38 by omega) (show ((h 0 17) + 1) < 2000 by omega) ?_
            intro g12
            replace g12 : mo_G (ja_up (ja_up (ja_up (ja_up (ja_up (ja_up (ja_up (ja_up (ja_up (ja_up (ja_up (ja_up h 0 18 ((h 0 18) + 1)) 6 ((h 0 17).toNat) 2) 7 ((h 0 17).toNat) a1) 8 ((h 0 17).toNat) 0) 9 ((h 0 17).toNat) 0) 0 17 ((h 0 17) + 1)) 0 7 ((h 0 7) + 1)) 6 (((h 0 17) + 1).toNat) 5) 7 (((h 0 17) + 1).toNat) 1) 8 (((h 0 17) + 1).toNat) 0) 9 (((h 0 17) + 1).toNat) 0) 0 17 (((h 0 17) + 1) + 1)) := g12
            show mJ l D cA ad 3 cX12_expression 4 (some .boolean) 78 [(3, (0, 1)), (2, (0, 1)), (0, (2, ((0 : Nat) : Int))), (1, (0, a1))] [(0, 1)] (ja_up (ja_up (ja_up (ja_up (ja_up (ja_up (ja_up (ja_up (ja_up (ja_up (ja_up (ja_up h 0 18 ((h 0 18) + 1)) 6 ((h 0 17).toNat) 2) 7 ((h 0 17).toNat) a1) 8 ((h 0 17).toNat) 0) 9 ((h 0 17).toNat) 0) 0 17 ((h 0 17) + 1)) 0 7 ((h 0 7) + 1)) 6 (((h 0 17) + 1).toNat) 5) 7 (((h 0 17) + 1).toNat) 1) 8 (((h 0 17) + 1).toNat) 0) 9 (((h 0 17) + 1).toNat) 0) 0 17 (((h 0 17) + 1) + 1)) Q
            refine ja_if_eq 96 dexpression_78 rfl ⟨by decide, by decide⟩ (fun c78 => absurd c78 (by omega)) (fun c78 => ?_)
            refine ja_aload_n dexpression_81 rfl rfl ?_
            refine ja_iconst dexpression_82 ?_
            refine ja_iconst dexpression_83 ?_
            refine ja_iconst dexpression_84 ?_
            refine ja_iconst dexpression_85 ?_
            refine t_later (by decide) (show (0 : Nat) ≤ 8 by decide) dexpression_86 g12 ⟨by decide, by decide⟩ ⟨by decide, by decide⟩ ⟨by decide, by decide⟩ ⟨by decide, by decide⟩ (show 0 ≤ 1 ∧ 1 ≤ 38 by omega) (show (((h 0 17) + 1) + 1) < 2000 by omega) ?_
            intro g13
            replace g13 : mo_G (ja_up (ja_up (ja_up (ja_up (ja_up (ja_up (ja_up (ja_up (ja_up (ja_up (ja_up (ja_up (ja_up (ja_up (ja_up (ja_up (ja_up h 0 18 ((h 0 18) + 1)) 6 ((h 0 17).toNat) 2) 7 ((h 0 17).toNat) a1) 8 ((h 0 17).toNat) 0) 9 ((h 0 17).toNat) 0) 0 17 ((h 0 17) + 1)) 0 7 ((h 0 7) + 1)) 6 (((h 0 17) + 1).toNat) 5) 7 (((h 0 17) + 1).toNat) 1) 8 (((h 0 17) + 1).toNat) 0) 9 (((h 0 17) + 1).toNat) 0) 0 17 (((h 0 17) + 1) + 1)) 6 ((((h 0 17) + 1) + 1).toNat) 1) 7 ((((h 0 17) + 1) + 1).toNat) 5) 8 ((((h 0 17) + 1) + 1).toNat) 0) 9 ((((h 0 17) + 1) + 1).toNat) 0) 0 17 ((((h 0 17) + 1) + 1) + 1)) := g13
            show mJ l D cA ad 3 cX12_expression 4 (some .boolean) 89 [(3, (0, 1)), (2, (0, 1)), (0, (2, ((0 : Nat) : Int))), (1, (0, a1))] [(0, 1)] (ja_up (ja_up (ja_up (ja_up (ja_up (ja_up (ja_up (ja_up (ja_up (ja_up (ja_up (ja_up (ja_up (ja_up (ja_up (ja_up (ja_up h 0 18 ((h 0 18) + 1)) 6 ((h 0 17).toNat) 2) 7 ((h 0 17).toNat) a1) 8 ((h 0 17).toNat) 0) 9 ((h 0 17).toNat) 0) 0 17 ((h 0 17) + 1)) 0 7 ((h 0 7) + 1)) 6 (((h 0 17) + 1).toNat) 5) 7 (((h 0 17) + 1).toNat) 1) 8 (((h 0 17) + 1).toNat) 0) 9 (((h 0 17) + 1).toNat) 0) 0 17 (((h 0 17) + 1) + 1)) 6 ((((h 0 17) + 1) + 1).toNat) 1) 7 ((((h 0 17) + 1) + 1).toNat) 5) 8 ((((h 0 17) + 1) + 1).toNat) 0) 9 ((((h 0 17) + 1) + 1).toNat) 0) 0 17 ((((h 0 17) + 1) + 1) + 1)) Q
            refine ja_if_eq 96 dexpression_89 rfl ⟨by decide, by decide⟩ (fun c89 => absurd c89 (by omega)) (fun c89 => ?_)
            refine ja_iconst dexpression_92 ?_
            refine ja_goto 97 dexpression_93 rfl ?_
            refine ja_zreturn dexpression_97 rfl (by omega) ?_
            exact mo_fin (by omega) rfl (k1 (ja_up (ja_up (ja_up (ja_up (ja_up (ja_up (ja_up (ja_up (ja_up (ja_up (ja_up (ja_up (ja_up (ja_up (ja_up (ja_up (ja_up h 0 18 ((h 0 18) + 1)) 6 ((h 0 17).toNat) 2) 7 ((h 0 17).toNat) a1) 8 ((h 0 17).toNat) 0) 9 ((h 0 17).toNat) 0) 0 17 ((h 0 17) + 1)) 0 7 ((h 0 7) + 1)) 6 (((h 0 17) + 1).toNat) 5) 7 (((h 0 17) + 1).toNat) 1) 8 (((h 0 17) + 1).toNat) 0) 9 (((h 0 17) + 1).toNat) 0) 0 17 (((h 0 17) + 1) + 1)) 6 ((((h 0 17) + 1) + 1).toNat) 1) 7 ((((h 0 17) + 1) + 1).toNat) 5) 8 ((((h 0 17) + 1) + 1).toNat) 0) 9 ((((h 0 17) + 1) + 1).toNat) 0) 0 17 ((((h 0 17) + 1) + 1) + 1)) (ab_ex_un g p1 p2 (by exact k1_0.2.2.1 (by omega))) g13)
          · intro h14 k64_1 g15
            replace k64_1 : 0 < (h14 0 8) ∧ (h14 0 1) = (h 0 1) ∧ (h14 0 118) = (h 0 118) ∧ (h14 0 127) = (h 0 127) := k64_1
            refine ja_if_eq 96 dexpression_67 rfl ⟨by decide, by decide⟩ (fun c67 => ?_) (fun c67 => absurd c67 (by omega))
            refine ja_iconst dexpression_96 ?_
            refine ja_zreturn dexpression_97 rfl (by omega) ?_
            exact mo_fin (by omega) rfl (k2 h14 (by omega) g15)
      · refine ja_aload_n dexpression_39 rfl rfl ?_
        refine ja_bipush 28 dexpression_40 rfl ?_
        refine t_isWord (by decide) (show (0 : Nat) ≤ 8 by decide) dexpression_42 g3 ⟨by decide, by decide⟩ ?_
        intro w16 k42_0
        replace k42_0 : (w16 = 1 ∧ (h 2 (h 0 7).toNat) = 1 ∧ (h 5 (h 0 7).toNat) = 28) ∨ (w16 = 0 ∧ ¬ ((h 2 (h 0 7).toNat) = 1 ∧ (h 5 (h 0 7).toNat) = 28)) := k42_0
        refine ja_if_eq 98 dexpression_45 rfl ⟨by omega, by omega⟩ (fun c45 => ?_) (fun c45 => ?_)
        · refine ja_aload_n dexpression_98 rfl rfl ?_
          refine ja_bipush 6 dexpression_99 rfl ?_
          refine ja_iconst dexpression_101 ?_
          refine ja_iconst dexpression_102 ?_
          refine ja_iconst dexpression_103 ?_
          refine t_later (by decide) (show (0 : Nat) ≤ 8 by decide) dexpression_104 g3 ⟨by decide, by decide⟩ ⟨by decide, by decide⟩ ⟨by decide, by decide⟩ ⟨by decide, by decide⟩ (show 0 ≤ 6 ∧ 6 ≤ 38 by omega) (show ((h 0 17) + 1) < 2000 by omega) ?_
          intro g17
          replace g17 : mo_G (ja_up (ja_up (ja_up (ja_up (ja_up (ja_up (ja_up (ja_up (ja_up (ja_up (ja_up h 0 18 ((h 0 18) + 1)) 6 ((h 0 17).toNat) 2) 7 ((h 0 17).toNat) a1) 8 ((h 0 17).toNat) 0) 9 ((h 0 17).toNat) 0) 0 17 ((h 0 17) + 1)) 6 (((h 0 17) + 1).toNat) 6) 7 (((h 0 17) + 1).toNat) 0) 8 (((h 0 17) + 1).toNat) 0) 9 (((h 0 17) + 1).toNat) 0) 0 17 (((h 0 17) + 1) + 1)) := g17
          show mJ l D cA ad 3 cX12_expression 4 (some .boolean) 107 [(2, (0, 1)), (0, (2, ((0 : Nat) : Int))), (1, (0, a1))] [(0, 1)] (ja_up (ja_up (ja_up (ja_up (ja_up (ja_up (ja_up (ja_up (ja_up (ja_up (ja_up h 0 18 ((h 0 18) + 1)) 6 ((h 0 17).toNat) 2) 7 ((h 0 17).toNat) a1) 8 ((h 0 17).toNat) 0) 9 ((h 0 17).toNat) 0) 0 17 ((h 0 17) + 1)) 6 (((h 0 17) + 1).toNat) 6) 7 (((h 0 17) + 1).toNat) 0) 8 (((h 0 17) + 1).toNat) 0) 9 (((h 0 17) + 1).toNat) 0) 0 17 (((h 0 17) + 1) + 1)) Q
          refine ja_zreturn dexpression_107 rfl (by omega) ?_
          exact mo_fin (by omega) rfl (k1 (ja_up (ja_up (ja_up (ja_up (ja_up (ja_up (ja_up (ja_up (ja_up (ja_up (ja_up h 0 18 ((h 0 18) + 1)) 6 ((h 0 17).toNat) 2) 7 ((h 0 17).toNat) a1) 8 ((h 0 17).toNat) 0) 9 ((h 0 17).toNat) 0) 0 17 ((h 0 17) + 1)) 6 (((h 0 17) + 1).toNat) 6) 7 (((h 0 17) + 1).toNat) 0) 8 (((h 0 17) + 1).toNat) 0) 9 (((h 0 17) + 1).toNat) 0) 0 17 (((h 0 17) + 1) + 1)) (ab_ex_op g p1 p2 (by exact k1_0.2.2.1 (by omega)) (by omega) (by omega)) g17)
        · refine ja_aload_n dexpression_48 rfl rfl ?_
          refine ja_bipush 45 dexpression_49 rfl ?_
          refine t_isSign (by decide) (show (0 : Nat) ≤ 8 by decide) dexpression_51 g3 ⟨by decide, by decide⟩ ?_
          intro w18 k51_0
          replace k51_0 : (w18 = 1 ∧ (h 2 (h 0 7).toNat) = 5 ∧ (h 5 (h 0 7).toNat) = 45) ∨ (w18 = 0 ∧ ¬ ((h 2 (h 0 7).toNat) = 5 ∧ (h 5 (h 0 7).toNat) = 45)) := k51_0
          refine ja_if_eq 61 dexpression_54 rfl ⟨by omega, by omega⟩ (fun c54 => ?_) (fun c54 => ?_)
          · refine ja_iconst dexpression_61 ?_
            refine ja_istore_n dexpression_62 rfl (by decide) (L2 := [(3, (0, 0)), (2, (0, 1)), (0, (2, ((0 : Nat) : Int))), (1, (0, a1))]) rfl ?_
            refine ja_aload_n dexpression_63 rfl rfl ?_
            refine t_take (by decide) (show (0 : Nat) ≤ 8 by decide) dexpression_64 g3  ?_ ?_
            · intro k64_0 g19
              replace k64_0 : (h 0 7) < 900 := k64_0
              replace g19 : mo_G (ja_up (ja_up (ja_up (ja_up (ja_up (ja_up (ja_up h 0 18 ((h 0 18) + 1)) 6 ((h 0 17).toNat) 2) 7 ((h 0 17).toNat) a1) 8 ((h 0 17).toNat) 0) 9 ((h 0 17).toNat) 0) 0 17 ((h 0 17) + 1)) 0 7 ((h 0 7) + 1)) := g19
              show mJ l D cA ad 3 cX12_expression 4 (some .boolean) 67 [(3, (0, 0)), (2, (0, 1)), (0, (2, ((0 : Nat) : Int))), (1, (0, a1))] [(0, 1)] (ja_up (ja_up (ja_up (ja_up (ja_up (ja_up (ja_up h 0 18 ((h 0 18) + 1)) 6 ((h 0 17).toNat) 2) 7 ((h 0 17).toNat) a1) 8 ((h 0 17).toNat) 0) 9 ((h 0 17).toNat) 0) 0 17 ((h 0 17) + 1)) 0 7 ((h 0 7) + 1)) Q
              refine ja_if_eq 96 dexpression_67 rfl ⟨by decide, by decide⟩ (fun c67 => absurd c67 (by omega)) (fun c67 => ?_)
              refine ja_aload_n dexpression_70 rfl rfl ?_
              refine ja_iconst dexpression_71 ?_
              refine ja_iload_n dexpression_72 rfl rfl ?_
              refine ja_iconst dexpression_73 ?_
              refine ja_iconst dexpression_74 ?_
              refine t_later (by decide) (show (0 : Nat) ≤ 8 by decide) dexpression_75 g19 ⟨by decide, by decide⟩ ⟨by decide, by decide⟩ ⟨by decide, by decide⟩ ⟨by decide, by decide⟩ (show 0 ≤ 5 ∧ 5 ≤ 38 by omega) (show ((h 0 17) + 1) < 2000 by omega) ?_
              intro g20
              replace g20 : mo_G (ja_up (ja_up (ja_up (ja_up (ja_up (ja_up (ja_up (ja_up (ja_up (ja_up (ja_up (ja_up h 0 18 ((h 0 18) + 1)) 6 ((h 0 17).toNat) 2) 7 ((h 0 17).toNat) a1) 8 ((h 0 17).toNat) 0) 9 ((h 0 17).toNat) 0) 0 17 ((h 0 17) + 1)) 0 7 ((h 0 7) + 1)) 6 (((h 0 17) + 1).toNat) 5) 7 (((h 0 17) + 1).toNat) 0) 8 (((h 0 17) + 1).toNat) 0) 9 (((h 0 17) + 1).toNat) 0) 0 17 (((h 0 17) + 1) + 1)) := g20
              show mJ l D cA ad 3 cX12_expression 4 (some .boolean) 78 [(3, (0, 0)), (2, (0, 1)), (0, (2, ((0 : Nat) : Int))), (1, (0, a1))] [(0, 1)] (ja_up (ja_up (ja_up (ja_up (ja_up (ja_up (ja_up (ja_up (ja_up (ja_up (ja_up (ja_up h 0 18 ((h 0 18) + 1)) 6 ((h 0 17).toNat) 2) 7 ((h 0 17).toNat) a1) 8 ((h 0 17).toNat) 0) 9 ((h 0 17).toNat) 0) 0 17 ((h 0 17) + 1)) 0 7 ((h 0 7) + 1)) 6 (((h 0 17) + 1).toNat) 5) 7 (((h 0 17) + 1).toNat) 0) 8 (((h 0 17) + 1).toNat) 0) 9 (((h 0 17) + 1).toNat) 0) 0 17 (((h 0 17) + 1) + 1)) Q
              refine ja_if_eq 96 dexpression_78 rfl ⟨by decide, by decide⟩ (fun c78 => absurd c78 (by omega)) (fun c78 => ?_)
              refine ja_aload_n dexpression_81 rfl rfl ?_
              refine ja_iconst dexpression_82 ?_
              refine ja_iconst dexpression_83 ?_
              refine ja_iconst dexpression_84 ?_
              refine ja_iconst dexpression_85 ?_
              refine t_later (by decide) (show (0 : Nat) ≤ 8 by decide) dexpression_86 g20 ⟨by decide, by decide⟩ ⟨by decide, by decide⟩ ⟨by decide, by decide⟩ ⟨by decide, by decide⟩ (show 0 ≤ 1 ∧ 1 ≤ 38 by omega) (show (((h 0 17) + 1) + 1) < 2000 by omega) ?_
              intro g21
              replace g21 : mo_G (ja_up (ja_up (ja_up (ja_up (ja_up (ja_up (ja_up (ja_up (ja_up (ja_up (ja_up (ja_up (ja_up (ja_up (ja_up (ja_up (ja_up h 0 18 ((h 0 18) + 1)) 6 ((h 0 17).toNat) 2) 7 ((h 0 17).toNat) a1) 8 ((h 0 17).toNat) 0) 9 ((h 0 17).toNat) 0) 0 17 ((h 0 17) + 1)) 0 7 ((h 0 7) + 1)) 6 (((h 0 17) + 1).toNat) 5) 7 (((h 0 17) + 1).toNat) 0) 8 (((h 0 17) + 1).toNat) 0) 9 (((h 0 17) + 1).toNat) 0) 0 17 (((h 0 17) + 1) + 1)) 6 ((((h 0 17) + 1) + 1).toNat) 1) 7 ((((h 0 17) + 1) + 1).toNat) 5) 8 ((((h 0 17) + 1) + 1).toNat) 0) 9 ((((h 0 17) + 1) + 1).toNat) 0) 0 17 ((((h 0 17) + 1) + 1) + 1)) := g21
              show mJ l D cA ad 3 cX12_expression 4 (some .boolean) 89 [(3, (0, 0)), (2, (0, 1)), (0, (2, ((0 : Nat) : Int))), (1, (0, a1))] [(0, 1)] (ja_up (ja_up (ja_up (ja_up (ja_up (ja_up (ja_up (ja_up (ja_up (ja_up (ja_up (ja_up (ja_up (ja_up (ja_up (ja_up (ja_up h 0 18 ((h 0 18) + 1)) 6 ((h 0 17).toNat) 2) 7 ((h 0 17).toNat) a1) 8 ((h 0 17).toNat) 0) 9 ((h 0 17).toNat) 0) 0 17 ((h 0 17) + 1)) 0 7 ((h 0 7) + 1)) 6 (((h 0 17) + 1).toNat) 5) 7 (((h 0 17) + 1).toNat) 0) 8 (((h 0 17) + 1).toNat) 0) 9 (((h 0 17) + 1).toNat) 0) 0 17 (((h 0 17) + 1) + 1)) 6 ((((h 0 17) + 1) + 1).toNat) 1) 7 ((((h 0 17) + 1) + 1).toNat) 5) 8 ((((h 0 17) + 1) + 1).toNat) 0) 9 ((((h 0 17) + 1) + 1).toNat) 0) 0 17 ((((h 0 17) + 1) + 1) + 1)) Q
              refine ja_if_eq 96 dexpression_89 rfl ⟨by decide, by decide⟩ (fun c89 => absurd c89 (by omega)) (fun c89 => ?_)
              refine ja_iconst dexpression_92 ?_
              refine ja_goto 97 dexpression_93 rfl ?_
              refine ja_zreturn dexpression_97 rfl (by omega) ?_
              exact mo_fin (by omega) rfl (k1 (ja_up (ja_up (ja_up (ja_up (ja_up (ja_up (ja_up (ja_up (ja_up (ja_up (ja_up (ja_up (ja_up (ja_up (ja_up (ja_up (ja_up h 0 18 ((h 0 18) + 1)) 6 ((h 0 17).toNat) 2) 7 ((h 0 17).toNat) a1) 8 ((h 0 17).toNat) 0) 9 ((h 0 17).toNat) 0) 0 17 ((h 0 17) + 1)) 0 7 ((h 0 7) + 1)) 6 (((h 0 17) + 1).toNat) 5) 7 (((h 0 17) + 1).toNat) 0) 8 (((h 0 17) + 1).toNat) 0) 9 (((h 0 17) + 1).toNat) 0) 0 17 (((h 0 17) + 1) + 1)) 6 ((((h 0 17) + 1) + 1).toNat) 1) 7 ((((h 0 17) + 1) + 1).toNat) 5) 8 ((((h 0 17) + 1) + 1).toNat) 0) 9 ((((h 0 17) + 1) + 1).toNat) 0) 0 17 ((((h 0 17) + 1) + 1) + 1)) (ab_ex_un g p1 p2 (by exact k1_0.2.2.1 (by omega))) g21)
            · intro h22 k64_1 g23
              replace k64_1 : 0 < (h22 0 8) ∧ (h22 0 1) = (h 0 1) ∧ (h22 0 118) = (h 0 118) ∧ (h22 0 127) = (h 0 127) := k64_1
              refine ja_if_eq 96 dexpression_67 rfl ⟨by decide, by decide⟩ (fun c67 => ?_) (fun c67 => absurd c67 (by omega))
              refine ja_iconst dexpression_96 ?_
              refine ja_zreturn dexpression_97 rfl (by omega) ?_
              exact mo_fin (by omega) rfl (k2 h22 (by omega) g23)
          · refine ja_iconst dexpression_57 ?_
            refine ja_goto 62 dexpression_58 rfl ?_
            refine ja_istore_n dexpression_62 rfl (by decide) (L2 := [(3, (0, 1)), (2, (0, 1)), (0, (2, ((0 : Nat) : Int))), (1, (0, a1))]) rfl ?_
            refine ja_aload_n dexpression_63 rfl rfl ?_
            refine t_take (by decide) (show (0 : Nat) ≤ 8 by decide) dexpression_64 g3  ?_ ?_
            · intro k64_0 g24
              replace k64_0 : (h 0 7) < 900 := k64_0
              replace g24 : mo_G (ja_up (ja_up (ja_up (ja_up (ja_up (ja_up (ja_up h 0 18 ((h 0 18) + 1)) 6 ((h 0 17).toNat) 2) 7 ((h 0 17).toNat) a1) 8 ((h 0 17).toNat) 0) 9 ((h 0 17).toNat) 0) 0 17 ((h 0 17) + 1)) 0 7 ((h 0 7) + 1)) := g24
              show mJ l D cA ad 3 cX12_expression 4 (some .boolean) 67 [(3, (0, 1)), (2, (0, 1)), (0, (2, ((0 : Nat) : Int))), (1, (0, a1))] [(0, 1)] (ja_up (ja_up (ja_up (ja_up (ja_up (ja_up (ja_up h 0 18 ((h 0 18) + 1)) 6 ((h 0 17).toNat) 2) 7 ((h 0 17).toNat) a1) 8 ((h 0 17).toNat) 0) 9 ((h 0 17).toNat) 0) 0 17 ((h 0 17) + 1)) 0 7 ((h 0 7) + 1)) Q
              refine ja_if_eq 96 dexpression_67 rfl ⟨by decide, by decide⟩ (fun c67 => absurd c67 (by omega)) (fun c67 => ?_)
              refine ja_aload_n dexpression_70 rfl rfl ?_
              refine ja_iconst dexpression_71 ?_
              refine ja_iload_n dexpression_72 rfl rfl ?_
              refine ja_iconst dexpression_73 ?_
              refine ja_iconst dexpression_74 ?_
              refine t_later (by decide) (show (0 : Nat) ≤ 8 by decide) dexpression_75 g24 ⟨by decide, by decide⟩ ⟨by decide, by decide⟩ ⟨by decide, by decide⟩ ⟨by decide, by decide⟩ (show 0 ≤ 5 ∧ 5 ≤ 38 by omega) (show ((h 0 17) + 1) < 2000 by omega) ?_
              intro g25
              replace g25 : mo_G (ja_up (ja_up (ja_up (ja_up (ja_up (ja_up (ja_up (ja_up (ja_up (ja_up (ja_up (ja_up h 0 18 ((h 0 18) + 1)) 6 ((h 0 17).toNat) 2) 7 ((h 0 17).toNat) a1) 8 ((h 0 17).toNat) 0) 9 ((h 0 17).toNat) 0) 0 17 ((h 0 17) + 1)) 0 7 ((h 0 7) + 1)) 6 (((h 0 17) + 1).toNat) 5) 7 (((h 0 17) + 1).toNat) 1) 8 (((h 0 17) + 1).toNat) 0) 9 (((h 0 17) + 1).toNat) 0) 0 17 (((h 0 17) + 1) + 1)) := g25
              show mJ l D cA ad 3 cX12_expression 4 (some .boolean) 78 [(3, (0, 1)), (2, (0, 1)), (0, (2, ((0 : Nat) : Int))), (1, (0, a1))] [(0, 1)] (ja_up (ja_up (ja_up (ja_up (ja_up (ja_up (ja_up (ja_up (ja_up (ja_up (ja_up (ja_up h 0 18 ((h 0 18) + 1)) 6 ((h 0 17).toNat) 2) 7 ((h 0 17).toNat) a1) 8 ((h 0 17).toNat) 0) 9 ((h 0 17).toNat) 0) 0 17 ((h 0 17) + 1)) 0 7 ((h 0 7) + 1)) 6 (((h 0 17) + 1).toNat) 5) 7 (((h 0 17) + 1).toNat) 1) 8 (((h 0 17) + 1).toNat) 0) 9 (((h 0 17) + 1).toNat) 0) 0 17 (((h 0 17) + 1) + 1)) Q
              refine ja_if_eq 96 dexpression_78 rfl ⟨by decide, by decide⟩ (fun c78 => absurd c78 (by omega)) (fun c78 => ?_)
              refine ja_aload_n dexpression_81 rfl rfl ?_
              refine ja_iconst dexpression_82 ?_
              refine ja_iconst dexpression_83 ?_
              refine ja_iconst dexpression_84 ?_
              refine ja_iconst dexpression_85 ?_
              refine t_later (by decide) (show (0 : Nat) ≤ 8 by decide) dexpression_86 g25 ⟨by decide, by decide⟩ ⟨by decide, by decide⟩ ⟨by decide, by decide⟩ ⟨by decide, by decide⟩ (show 0 ≤ 1 ∧ 1 ≤ 38 by omega) (show (((h 0 17) + 1) + 1) < 2000 by omega) ?_
              intro g26
              replace g26 : mo_G (ja_up (ja_up (ja_up (ja_up (ja_up (ja_up (ja_up (ja_up (ja_up (ja_up (ja_up (ja_up (ja_up (ja_up (ja_up (ja_up (ja_up h 0 18 ((h 0 18) + 1)) 6 ((h 0 17).toNat) 2) 7 ((h 0 17).toNat) a1) 8 ((h 0 17).toNat) 0) 9 ((h 0 17).toNat) 0) 0 17 ((h 0 17) + 1)) 0 7 ((h 0 7) + 1)) 6 (((h 0 17) + 1).toNat) 5) 7 (((h 0 17) + 1).toNat) 1) 8 (((h 0 17) + 1).toNat) 0) 9 (((h 0 17) + 1).toNat) 0) 0 17 (((h 0 17) + 1) + 1)) 6 ((((h 0 17) + 1) + 1).toNat) 1) 7 ((((h 0 17) + 1) + 1).toNat) 5) 8 ((((h 0 17) + 1) + 1).toNat) 0) 9 ((((h 0 17) + 1) + 1).toNat) 0) 0 17 ((((h 0 17) + 1) + 1) + 1)) := g26
              show mJ l D cA ad 3 cX12_expression 4 (some .boolean) 89 [(3, (0, 1)), (2, (0, 1)), (0, (2, ((0 : Nat) : Int))), (1, (0, a1))] [(0, 1)] (ja_up (ja_up (ja_up (ja_up (ja_up (ja_up (ja_up (ja_up (ja_up (ja_up (ja_up (ja_up (ja_up (ja_up (ja_up (ja_up (ja_up h 0 18 ((h 0 18) + 1)) 6 ((h 0 17).toNat) 2) 7 ((h 0 17).toNat) a1) 8 ((h 0 17).toNat) 0) 9 ((h 0 17).toNat) 0) 0 17 ((h 0 17) + 1)) 0 7 ((h 0 7) + 1)) 6 (((h 0 17) + 1).toNat) 5) 7 (((h 0 17) + 1).toNat) 1) 8 (((h 0 17) + 1).toNat) 0) 9 (((h 0 17) + 1).toNat) 0) 0 17 (((h 0 17) + 1) + 1)) 6 ((((h 0 17) + 1) + 1).toNat) 1) 7 ((((h 0 17) + 1) + 1).toNat) 5) 8 ((((h 0 17) + 1) + 1).toNat) 0) 9 ((((h 0 17) + 1) + 1).toNat) 0) 0 17 ((((h 0 17) + 1) + 1) + 1)) Q
              refine ja_if_eq 96 dexpression_89 rfl ⟨by decide, by decide⟩ (fun c89 => absurd c89 (by omega)) (fun c89 => ?_)
              refine ja_iconst dexpression_92 ?_
              refine ja_goto 97 dexpression_93 rfl ?_
              refine ja_zreturn dexpression_97 rfl (by omega) ?_
              exact mo_fin (by omega) rfl (k1 (ja_up (ja_up (ja_up (ja_up (ja_up (ja_up (ja_up (ja_up (ja_up (ja_up (ja_up (ja_up (ja_up (ja_up (ja_up (ja_up (ja_up h 0 18 ((h 0 18) + 1)) 6 ((h 0 17).toNat) 2) 7 ((h 0 17).toNat) a1) 8 ((h 0 17).toNat) 0) 9 ((h 0 17).toNat) 0) 0 17 ((h 0 17) + 1)) 0 7 ((h 0 7) + 1)) 6 (((h 0 17) + 1).toNat) 5) 7 (((h 0 17) + 1).toNat) 1) 8 (((h 0 17) + 1).toNat) 0) 9 (((h 0 17) + 1).toNat) 0) 0 17 (((h 0 17) + 1) + 1)) 6 ((((h 0 17) + 1) + 1).toNat) 1) 7 ((((h 0 17) + 1) + 1).toNat) 5) 8 ((((h 0 17) + 1) + 1).toNat) 0) 9 ((((h 0 17) + 1) + 1).toNat) 0) 0 17 ((((h 0 17) + 1) + 1) + 1)) (ab_ex_un g p1 p2 (by exact k1_0.2.2.1 (by omega))) g26)
            · intro h27 k64_1 g28
              replace k64_1 : 0 < (h27 0 8) ∧ (h27 0 1) = (h 0 1) ∧ (h27 0 118) = (h 0 118) ∧ (h27 0 127) = (h 0 127) := k64_1
              refine ja_if_eq 96 dexpression_67 rfl ⟨by decide, by decide⟩ (fun c67 => ?_) (fun c67 => absurd c67 (by omega))
              refine ja_iconst dexpression_96 ?_
              refine ja_zreturn dexpression_97 rfl (by omega) ?_
              exact mo_fin (by omega) rfl (k2 h27 (by omega) g28)
    · intro h29 k13_1 g30
      refine ja_if_ne 21 dexpression_16 rfl ⟨by decide, by decide⟩ (fun c16 => absurd c16 (by omega)) (fun c16 => ?_)
      refine ja_iconst dexpression_19 ?_
      refine ja_zreturn dexpression_20 rfl (by omega) ?_
      exact mo_fin (by omega) rfl (k2 h29 (by omega) g30)
  · refine ja_aload_n dexpression_7 rfl rfl ?_
    refine t_wrong (by decide) (show (0 : Nat) ≤ 8 by decide) dexpression_8 g  ?_
    intro h31 k8_0 g32
    refine ja_zreturn dexpression_11 rfl (by omega) ?_
    exact mo_fin (by omega) rfl (k2 h31 (by omega) g32)
theorem t_expression {a1 : Int} {R r ph tf q0 b : Int} {s : List mo_A} {ht st rg : Nat → Int} {tu : Int} {d nL pc : Nat} {cc : ByteArray} {rt : Option FieldType} {L : List (Nat × ja_V)} {S : List ja_V} {h : ja_H} {Q : Option ja_V → ja_H → Prop} (hdd : 3 < d) (hwd : ja_wd S ≤ 8) (hd : decode cc pc = .ok (.invokevirtual 844, 3)) (g : mo_G h) (r1 : -2147483648 ≤ a1 ∧ a1 ≤ 2147483647) (p1 : pk_S h (h 0 17).toNat s) (p2 : piB h R r ph tf q0 ((1, a1, b) :: s) ht st rg tu) (k1 : ∀ (h' : ja_H), (pi_done h h' R r ph tf q0 (pi_mu h ((1, a1, b) :: s))) → mo_G h' → mJ l D cA ad d cc nL rt (pc + 3) L ((0, 1) :: S) h' Q) (k2 : ∀ (h' : ja_H), (0 < (h' 0 8) ∧ (h' 0 1) = (h 0 1) ∧ (h' 0 118) = (h 0 118) ∧ (h' 0 127) = (h 0 127)) → mo_G h' → mJ l D cA ad d cc nL rt (pc + 3) L ((0, 0) :: S) h' Q) : mJ l D cA ad d cc nL rt pc L ((0, a1) :: (2, ((0 : Nat) : Int)) :: S) h Q :=
  mc_expression hdd hwd hd (s_expression g r1 p1 p2 k1 k2)
end
theorem dargument_0 : decode cX12_argument 0 = .ok (.aload_n 0, 1) := by decide +kernel
theorem dargument_1 : decode cX12_argument 1 = .ok (.bipush 44, 2) := by decide +kernel
theorem dargument_3 : decode cX12_argument 3 = .ok (.invokevirtual 586, 3) := by decide +kernel
theorem dargument_6 : decode cX12_argument 6 = .ok (.ifCond .ne 15, 3) := by decide +kernel
theorem dargument_9 : decode cX12_argument 9 = .ok (.aload_n 0, 1) := by decide +kernel
theorem dargument_10 : decode cX12_argument 10 = .ok (.iload_n 1, 1) := by decide +kernel
theorem dargument_11 : decode cX12_argument 11 = .ok (.putfield 856, 3) := by decide +kernel
theorem dargument_14 : decode cX12_argument 14 = .ok (.aload_n 0, 1) := by decide +kernel
theorem dargument_15 : decode cX12_argument 15 = .ok (.bipush 41, 2) := by decide +kernel
theorem dargument_17 : decode cX12_argument 17 = .ok (.invokevirtual 742, 3) := by decide +kernel
theorem dargument_20 : decode cX12_argument 20 = .ok (.ireturn, 1) := by decide +kernel
theorem dargument_21 : decode cX12_argument 21 = .ok (.aload_n 0, 1) := by decide +kernel
theorem dargument_22 : decode cX12_argument 22 = .ok (.invokevirtual 589, 3) := by decide +kernel
theorem dargument_25 : decode cX12_argument 25 = .ok (.ifCond .ne 5, 3) := by decide +kernel
theorem dargument_28 : decode cX12_argument 28 = .ok (.iconst 0, 1) := by decide +kernel
theorem dargument_29 : decode cX12_argument 29 = .ok (.ireturn, 1) := by decide +kernel
theorem dargument_30 : decode cX12_argument 30 = .ok (.iload_n 1, 1) := by decide +kernel
theorem dargument_31 : decode cX12_argument 31 = .ok (.bipush 6, 2) := by decide +kernel
theorem dargument_33 : decode cX12_argument 33 = .ok (.if_icmp .ne 16, 3) := by decide +kernel
theorem dargument_36 : decode cX12_argument 36 = .ok (.aload_n 0, 1) := by decide +kernel
theorem dargument_37 : decode cX12_argument 37 = .ok (.invokevirtual 808, 3) := by decide +kernel
theorem dargument_40 : decode cX12_argument 40 = .ok (.ifCond .eq 9, 3) := by decide +kernel
theorem dargument_43 : decode cX12_argument 43 = .ok (.aload_n 0, 1) := by decide +kernel
theorem dargument_44 : decode cX12_argument 44 = .ok (.iconst 3, 1) := by decide +kernel
theorem dargument_45 : decode cX12_argument 45 = .ok (.invokevirtual 583, 3) := by decide +kernel
theorem dargument_48 : decode cX12_argument 48 = .ok (.ireturn, 1) := by decide +kernel
theorem dargument_49 : decode cX12_argument 49 = .ok (.aload_n 0, 1) := by decide +kernel
theorem dargument_50 : decode cX12_argument 50 = .ok (.bipush 9, 2) := by decide +kernel
theorem dargument_52 : decode cX12_argument 52 = .ok (.iload_n 1, 1) := by decide +kernel
theorem dargument_53 : decode cX12_argument 53 = .ok (.iconst 1, 1) := by decide +kernel
theorem dargument_54 : decode cX12_argument 54 = .ok (.iadd, 1) := by decide +kernel
theorem dargument_55 : decode cX12_argument 55 = .ok (.iconst 0, 1) := by decide +kernel
theorem dargument_56 : decode cX12_argument 56 = .ok (.iconst 0, 1) := by decide +kernel
theorem dargument_57 : decode cX12_argument 57 = .ok (.invokevirtual 790, 3) := by decide +kernel
theorem dargument_60 : decode cX12_argument 60 = .ok (.ifCond .eq 18, 3) := by decide +kernel
theorem dargument_63 : decode cX12_argument 63 = .ok (.aload_n 0, 1) := by decide +kernel
theorem dargument_64 : decode cX12_argument 64 = .ok (.iconst 1, 1) := by decide +kernel
theorem dargument_65 : decode cX12_argument 65 = .ok (.iconst 0, 1) := by decide +kernel
theorem dargument_66 : decode cX12_argument 66 = .ok (.iconst 0, 1) := by decide +kernel
theorem dargument_67 : decode cX12_argument 67 = .ok (.iconst 0, 1) := by decide +kernel
theorem dargument_68 : decode cX12_argument 68 = .ok (.invokevirtual 790, 3) := by decide +kernel
theorem dargument_71 : decode cX12_argument 71 = .ok (.ifCond .eq 7, 3) := by decide +kernel
theorem dargument_74 : decode cX12_argument 74 = .ok (.iconst 1, 1) := by decide +kernel
theorem dargument_75 : decode cX12_argument 75 = .ok (.goto 4, 3) := by decide +kernel
theorem dargument_78 : decode cX12_argument 78 = .ok (.iconst 0, 1) := by decide +kernel
theorem dargument_79 : decode cX12_argument 79 = .ok (.ireturn, 1) := by decide +kernel
section
variable {l : Launch} {D : va_G} {cA : Nat → ClassId} {ad : Nat → Nat}
theorem s_argument {a1 : Int} {R r ph tf q0 b : Int} {s : List mo_A} {ht st rg : Nat → Int} {tu : Int} {h : ja_H} {Q : Option ja_V → ja_H → Prop} (g : mo_G h) (r1 : -2147483648 ≤ a1 ∧ a1 ≤ 2147483647) (p1 : pk_S h (h 0 17).toNat s) (p2 : piB h R r ph tf q0 ((9, a1, b) :: s) ht st rg tu) (k1 : ∀ (h' : ja_H), (pi_done h h' R r ph tf q0 (pi_mu h ((9, a1, b) :: s))) → mo_G h' → Q (some (0, 1)) h') (k2 : ∀ (h' : ja_H), (0 < (h' 0 8) ∧ (h' 0 1) = (h 0 1) ∧ (h' 0 118) = (h 0 118) ∧ (h' 0 127) = (h 0 127)) → mo_G h' → Q (some (0, 0)) h') : mM_argument l D cA ad a1 h Q := by
  show mJ l D cA ad 4 cX12_argument 2 (some .boolean) 0 [(0, (2, ((0 : Nat) : Int))), (1, (0, a1))] [] h Q
  have kn_at := gF_at g
  have kn_wTop := gF_wTop g
  have kn_words := gF_words g
  have kn_nest := gF_nest g
  have hN := piB_num g p1 p2
  obtain ⟨N1, N2, N3, N4, N5, N6, N7, N8, N9, N10, N11, N12, N13, ⟨NK1, NK2⟩, ND1, ND2, ND3, NU1, NU2⟩ := hN
  have hll := bs_hl p2
  have hn1 : (h 0 18) = 0 + pk_sum pk_c s := p2.1.1
  obtain ⟨ha1, ha7⟩ : 1 ≤ a1 ∧ a1 ≤ 6 := arg_le p2
  refine ja_aload_n dargument_0 rfl rfl ?_
  refine ja_bipush 44 dargument_1 rfl ?_
  refine t_isSign (by decide) (show (0 : Nat) ≤ 8 by decide) dargument_3 g ⟨by decide, by decide⟩ ?_
  intro w1 k3_0
  refine ja_if_ne 21 dargument_6 rfl ⟨by omega, by omega⟩ (fun c6 => ?_) (fun c6 => ?_)
  · refine ja_aload_n dargument_21 rfl rfl ?_
    refine t_take (by decide) (show (0 : Nat) ≤ 8 by decide) dargument_22 g  ?_ ?_
    · intro k22_0 g2
      replace k22_0 : (h 0 7) < 900 := k22_0
      replace g2 : mo_G (ja_up h 0 7 ((h 0 7) + 1)) := g2
      show mJ l D cA ad 4 cX12_argument 2 (some .boolean) 25 [(0, (2, ((0 : Nat) : Int))), (1, (0, a1))] [(0, 1)] (ja_up h 0 7 ((h 0 7) + 1)) Q
      refine ja_if_ne 30 dargument_25 rfl ⟨by decide, by decide⟩ (fun c25 => ?_) (fun c25 => absurd c25 (by omega))
      refine ja_iload_n dargument_30 rfl rfl ?_
      refine ja_bipush 6 dargument_31 rfl ?_
      refine ja_icmp_ne 49 dargument_33 rfl ⟨by omega, by omega⟩ ⟨by decide, by decide⟩ (fun c33 => ?_) (fun c33 => ?_)
      · refine ja_aload_n dargument_49 rfl rfl ?_
        refine ja_bipush 9 dargument_50 rfl ?_
        refine ja_iload_n dargument_52 rfl rfl ?_
        refine ja_iconst dargument_53 ?_
        refine ja_iadd dargument_54 ?_
        refine ja_iconst dargument_55 ?_
        refine ja_iconst dargument_56 ?_
        refine t_later (by decide) (show (0 : Nat) ≤ 8 by decide) dargument_57 g2 ⟨by decide, by decide⟩ ⟨by omega, by omega⟩ ⟨by decide, by decide⟩ ⟨by decide, by decide⟩ (show 0 ≤ 9 ∧ 9 ≤ 38 by omega) (show (h 0 17) < 2000 by omega) ?_
        intro g3
        replace g3 : mo_G (ja_up (ja_up (ja_up (ja_up (ja_up (ja_up h 0 7 ((h 0 7) + 1)) 6 ((h 0 17).toNat) 9) 7 ((h 0 17).toNat) (a1 + 1)) 8 ((h 0 17).toNat) 0) 9 ((h 0 17).toNat) 0) 0 17 ((h 0 17) + 1)) := g3
        show mJ l D cA ad 4 cX12_argument 2 (some .boolean) 60 [(0, (2, ((0 : Nat) : Int))), (1, (0, a1))] [(0, 1)] (ja_up (ja_up (ja_up (ja_up (ja_up (ja_up h 0 7 ((h 0 7) + 1)) 6 ((h 0 17).toNat) 9) 7 ((h 0 17).toNat) (a1 + 1)) 8 ((h 0 17).toNat) 0) 9 ((h 0 17).toNat) 0) 0 17 ((h 0 17) + 1)) Q
        refine ja_if_eq 78 dargument_60 rfl ⟨by decide, by decide⟩ (fun c60 => absurd c60 (by omega)) (fun c60 => ?_)
        refine ja_aload_n dargument_63 rfl rfl ?_
        refine ja_iconst dargument_64 ?_
        refine ja_iconst dargument_65 ?_
        refine ja_iconst dargument_66 ?_
        refine ja_iconst dargument_67 ?_
        refine t_later (by decide) (show (0 : Nat) ≤ 8 by decide) dargument_68 g3 ⟨by decide, by decide⟩ ⟨by decide, by decide⟩ ⟨by decide, by decide⟩ ⟨by decide, by decide⟩ (show 0 ≤ 1 ∧ 1 ≤ 38 by omega) (show ((h 0 17) + 1) < 2000 by omega) ?_
        intro g4
        replace g4 : mo_G (ja_up (ja_up (ja_up (ja_up (ja_up (ja_up (ja_up (ja_up (ja_up (ja_up (ja_up h 0 7 ((h 0 7) + 1)) 6 ((h 0 17).toNat) 9) 7 ((h 0 17).toNat) (a1 + 1)) 8 ((h 0 17).toNat) 0) 9 ((h 0 17).toNat) 0) 0 17 ((h 0 17) + 1)) 6 (((h 0 17) + 1).toNat) 1) 7 (((h 0 17) + 1).toNat) 0) 8 (((h 0 17) + 1).toNat) 0) 9 (((h 0 17) + 1).toNat) 0) 0 17 (((h 0 17) + 1) + 1)) := g4
        show mJ l D cA ad 4 cX12_argument 2 (some .boolean) 71 [(0, (2, ((0 : Nat) : Int))), (1, (0, a1))] [(0, 1)] (ja_up (ja_up (ja_up (ja_up (ja_up (ja_up (ja_up (ja_up (ja_up (ja_up (ja_up h 0 7 ((h 0 7) + 1)) 6 ((h 0 17).toNat) 9) 7 ((h 0 17).toNat) (a1 + 1)) 8 ((h 0 17).toNat) 0) 9 ((h 0 17).toNat) 0) 0 17 ((h 0 17) + 1)) 6 (((h 0 17) + 1).toNat) 1) 7 (((h 0 17) + 1).toNat) 0) 8 (((h 0 17) + 1).toNat) 0) 9 (((h 0 17) + 1).toNat) 0) 0 17 (((h 0 17) + 1) + 1)) Q
        refine ja_if_eq 78 dargument_71 rfl ⟨by decide, by decide⟩ (fun c71 => absurd c71 (by omega)) (fun c71 => ?_)
        refine ja_iconst dargument_74 ?_
        refine ja_goto 79 dargument_75 rfl ?_
        refine ja_zreturn dargument_79 rfl (by omega) ?_
        exact mo_fin (by omega) rfl (k1 (ja_up (ja_up (ja_up (ja_up (ja_up (ja_up (ja_up (ja_up (ja_up (ja_up (ja_up h 0 7 ((h 0 7) + 1)) 6 ((h 0 17).toNat) 9) 7 ((h 0 17).toNat) (a1 + 1)) 8 ((h 0 17).toNat) 0) 9 ((h 0 17).toNat) 0) 0 17 ((h 0 17) + 1)) 6 (((h 0 17) + 1).toNat) 1) 7 (((h 0 17) + 1).toNat) 0) 8 (((h 0 17) + 1).toNat) 0) 9 (((h 0 17) + 1).toNat) 0) 0 17 (((h 0 17) + 1) + 1)) (ab_arg_more g p1 p2 (fun q => by first | exact absurd q c33 | exact k37_0.2.2.2 (by omega))) g4)
      · refine ja_aload_n dargument_36 rfl rfl ?_
        refine t_beginsExpression (by decide) (show (0 : Nat) ≤ 8 by decide) dargument_37 g2  ?_
        intro w5 k37_0
        replace k37_0 : 0 ≤ w5 ∧ w5 ≤ 1 ∧ (w5 = 1 → ((h 2 ((h 0 7) + 1).toNat) = 3 ∨ (h 2 ((h 0 7) + 1).toNat) = 2 ∨ ((h 2 ((h 0 7) + 1).toNat) = 5 ∧ ((h 5 ((h 0 7) + 1).toNat) = 40 ∨ (h 5 ((h 0 7) + 1).toNat) = 45)) ∨ ((h 2 ((h 0 7) + 1).toNat) = 1 ∧ ((h 5 ((h 0 7) + 1).toNat) = 28 ∨ (h 5 ((h 0 7) + 1).toNat) = 27)) ∨ ((h 0 86) = 0 ∧ (h 2 ((h 0 7) + 1).toNat) = 1 ∧ ((h 5 ((h 0 7) + 1).toNat) = 36 ∨ (h 5 ((h 0 7) + 1).toNat) = 26 ∨ (h 5 ((h 0 7) + 1).toNat) = 18)))) ∧ (w5 = 0 → ¬ ((h 2 ((h 0 7) + 1).toNat) = 3 ∨ (h 2 ((h 0 7) + 1).toNat) = 2 ∨ ((h 2 ((h 0 7) + 1).toNat) = 5 ∧ ((h 5 ((h 0 7) + 1).toNat) = 40 ∨ (h 5 ((h 0 7) + 1).toNat) = 45)) ∨ ((h 2 ((h 0 7) + 1).toNat) = 1 ∧ ((h 5 ((h 0 7) + 1).toNat) = 28 ∨ (h 5 ((h 0 7) + 1).toNat) = 27)) ∨ ((h 0 86) = 0 ∧ (h 2 ((h 0 7) + 1).toNat) = 1 ∧ ((h 5 ((h 0 7) + 1).toNat) = 36 ∨ (h 5 ((h 0 7) + 1).toNat) = 26 ∨ (h 5 ((h 0 7) + 1).toNat) = 18)))) := k37_0
        refine ja_if_eq 49 dargument_40 rfl ⟨by omega, by omega⟩ (fun c40 => ?_) (fun c40 => ?_)
        · refine ja_aload_n dargument_49 rfl rfl ?_
          refine ja_bipush 9 dargument_50 rfl ?_
          refine ja_iload_n dargument_52 rfl rfl ?_
          refine ja_iconst dargument_53 ?_
          refine ja_iadd dargument_54 ?_
          refine ja_iconst dargument_55 ?_
          refine ja_iconst dargument_56 ?_
          refine t_later (by decide) (show (0 : Nat) ≤ 8 by decide) dargument_57 g2 ⟨by decide, by decide⟩ ⟨by omega, by omega⟩ ⟨by decide, by decide⟩ ⟨by decide, by decide⟩ (show 0 ≤ 9 ∧ 9 ≤ 38 by omega) (show (h 0 17) < 2000 by omega) ?_
          intro g6
          replace g6 : mo_G (ja_up (ja_up (ja_up (ja_up (ja_up (ja_up h 0 7 ((h 0 7) + 1)) 6 ((h 0 17).toNat) 9) 7 ((h 0 17).toNat) (a1 + 1)) 8 ((h 0 17).toNat) 0) 9 ((h 0 17).toNat) 0) 0 17 ((h 0 17) + 1)) := g6
          show mJ l D cA ad 4 cX12_argument 2 (some .boolean) 60 [(0, (2, ((0 : Nat) : Int))), (1, (0, a1))] [(0, 1)] (ja_up (ja_up (ja_up (ja_up (ja_up (ja_up h 0 7 ((h 0 7) + 1)) 6 ((h 0 17).toNat) 9) 7 ((h 0 17).toNat) (a1 + 1)) 8 ((h 0 17).toNat) 0) 9 ((h 0 17).toNat) 0) 0 17 ((h 0 17) + 1)) Q
          refine ja_if_eq 78 dargument_60 rfl ⟨by decide, by decide⟩ (fun c60 => absurd c60 (by omega)) (fun c60 => ?_)
          refine ja_aload_n dargument_63 rfl rfl ?_
          refine ja_iconst dargument_64 ?_
          refine ja_iconst dargument_65 ?_
          refine ja_iconst dargument_66 ?_
          refine ja_iconst dargument_67 ?_
          refine t_later (by decide) (show (0 : Nat) ≤ 8 by decide) dargument_68 g6 ⟨by decide, by decide⟩ ⟨by decide, by decide⟩ ⟨by decide, by decide⟩ ⟨by decide, by decide⟩ (show 0 ≤ 1 ∧ 1 ≤ 38 by omega) (show ((h 0 17) + 1) < 2000 by omega) ?_
          intro g7
          replace g7 : mo_G (ja_up (ja_up (ja_up (ja_up (ja_up (ja_up (ja_up (ja_up (ja_up (ja_up (ja_up h 0 7 ((h 0 7) + 1)) 6 ((h 0 17).toNat) 9) 7 ((h 0 17).toNat) (a1 + 1)) 8 ((h 0 17).toNat) 0) 9 ((h 0 17).toNat) 0) 0 17 ((h 0 17) + 1)) 6 (((h 0 17) + 1).toNat) 1) 7 (((h 0 17) + 1).toNat) 0) 8 (((h 0 17) + 1).toNat) 0) 9 (((h 0 17) + 1).toNat) 0) 0 17 (((h 0 17) + 1) + 1)) := g7
          show mJ l D cA ad 4 cX12_argument 2 (some .boolean) 71 [(0, (2, ((0 : Nat) : Int))), (1, (0, a1))] [(0, 1)] (ja_up (ja_up (ja_up (ja_up (ja_up (ja_up (ja_up (ja_up (ja_up (ja_up (ja_up h 0 7 ((h 0 7) + 1)) 6 ((h 0 17).toNat) 9) 7 ((h 0 17).toNat) (a1 + 1)) 8 ((h 0 17).toNat) 0) 9 ((h 0 17).toNat) 0) 0 17 ((h 0 17) + 1)) 6 (((h 0 17) + 1).toNat) 1) 7 (((h 0 17) + 1).toNat) 0) 8 (((h 0 17) + 1).toNat) 0) 9 (((h 0 17) + 1).toNat) 0) 0 17 (((h 0 17) + 1) + 1)) Q
          refine ja_if_eq 78 dargument_71 rfl ⟨by decide, by decide⟩ (fun c71 => absurd c71 (by omega)) (fun c71 => ?_)
          refine ja_iconst dargument_74 ?_
          refine ja_goto 79 dargument_75 rfl ?_
          refine ja_zreturn dargument_79 rfl (by omega) ?_
          exact mo_fin (by omega) rfl (k1 (ja_up (ja_up (ja_up (ja_up (ja_up (ja_up (ja_up (ja_up (ja_up (ja_up (ja_up h 0 7 ((h 0 7) + 1)) 6 ((h 0 17).toNat) 9) 7 ((h 0 17).toNat) (a1 + 1)) 8 ((h 0 17).toNat) 0) 9 ((h 0 17).toNat) 0) 0 17 ((h 0 17) + 1)) 6 (((h 0 17) + 1).toNat) 1) 7 (((h 0 17) + 1).toNat) 0) 8 (((h 0 17) + 1).toNat) 0) 9 (((h 0 17) + 1).toNat) 0) 0 17 (((h 0 17) + 1) + 1)) (ab_arg_more g p1 p2 (fun q => by first | exact absurd q c33 | exact k37_0.2.2.2 (by omega))) g7)
        · refine ja_aload_n dargument_43 rfl rfl ?_
          refine ja_iconst dargument_44 ?_
          refine t_halt (by decide) (show (0 : Nat) ≤ 8 by decide) dargument_45 g2 ⟨by decide, by decide⟩ (show 1 ≤ 3 ∧ 3 ≤ 8 by omega) ?_
          intro h8 k45_0 g9
          replace k45_0 : 0 < (h8 0 8) ∧ (h8 0 1) = (h 0 1) ∧ (h8 0 118) = (h 0 118) ∧ (h8 0 127) = (h 0 127) := k45_0
          refine ja_zreturn dargument_48 rfl (by omega) ?_
          exact mo_fin (by omega) rfl (k2 h8 (by omega) g9)
    · intro h10 k22_1 g11
      refine ja_if_ne 30 dargument_25 rfl ⟨by decide, by decide⟩ (fun c25 => absurd c25 (by omega)) (fun c25 => ?_)
      refine ja_iconst dargument_28 ?_
      refine ja_zreturn dargument_29 rfl (by omega) ?_
      exact mo_fin (by omega) rfl (k2 h10 (by omega) g11)
  · refine ja_aload_n dargument_9 rfl rfl ?_
    refine ja_iload_n dargument_10 rfl rfl ?_
    have g12 := gP_given g (x := a1) ⟨by omega, by omega⟩
    refine fp_given dargument_11 ?_
    refine ja_aload_n dargument_14 rfl rfl ?_
    refine ja_bipush 41 dargument_15 rfl ?_
    refine t_sign (by decide) (show (0 : Nat) ≤ 8 by decide) dargument_17 g12 ⟨by decide, by decide⟩ ?_ ?_
    · intro k17_0 g13
      replace k17_0 : (h 0 7) < 900 ∧ (h 2 (h 0 7).toNat) = 5 ∧ (h 5 (h 0 7).toNat) = 41 := k17_0
      replace g13 : mo_G (ja_up (ja_up h 0 21 a1) 0 7 ((h 0 7) + 1)) := g13
      show mJ l D cA ad 4 cX12_argument 2 (some .boolean) 20 [(0, (2, ((0 : Nat) : Int))), (1, (0, a1))] [(0, 1)] (ja_up (ja_up h 0 21 a1) 0 7 ((h 0 7) + 1)) Q
      refine ja_zreturn dargument_20 rfl (by omega) ?_
      exact mo_fin (by omega) rfl (k1 (ja_up (ja_up h 0 21 a1) 0 7 ((h 0 7) + 1)) (ab_arg_end g p1 p2) g13)
    · intro h14 k17_1 g15
      replace k17_1 : 0 < (h14 0 8) ∧ (h14 0 1) = (h 0 1) ∧ (h14 0 118) = (h 0 118) ∧ (h14 0 127) = (h 0 127) := k17_1
      refine ja_zreturn dargument_20 rfl (by omega) ?_
      exact mo_fin (by omega) rfl (k2 h14 (by omega) g15)
theorem t_argument {a1 : Int} {R r ph tf q0 b : Int} {s : List mo_A} {ht st rg : Nat → Int} {tu : Int} {d nL pc : Nat} {cc : ByteArray} {rt : Option FieldType} {L : List (Nat × ja_V)} {S : List ja_V} {h : ja_H} {Q : Option ja_V → ja_H → Prop} (hdd : 4 < d) (hwd : ja_wd S ≤ 8) (hd : decode cc pc = .ok (.invokevirtual 859, 3)) (g : mo_G h) (r1 : -2147483648 ≤ a1 ∧ a1 ≤ 2147483647) (p1 : pk_S h (h 0 17).toNat s) (p2 : piB h R r ph tf q0 ((9, a1, b) :: s) ht st rg tu) (k1 : ∀ (h' : ja_H), (pi_done h h' R r ph tf q0 (pi_mu h ((9, a1, b) :: s))) → mo_G h' → mJ l D cA ad d cc nL rt (pc + 3) L ((0, 1) :: S) h' Q) (k2 : ∀ (h' : ja_H), (0 < (h' 0 8) ∧ (h' 0 1) = (h 0 1) ∧ (h' 0 118) = (h 0 118) ∧ (h' 0 127) = (h 0 127)) → mo_G h' → mJ l D cA ad d cc nL rt (pc + 3) L ((0, 0) :: S) h' Q) : mJ l D cA ad d cc nL rt pc L ((0, a1) :: (2, ((0 : Nat) : Int)) :: S) h Q :=
  mc_argument hdd hwd hd (s_argument g r1 p1 p2 k1 k2)
end
theorem dassigned_0 : decode cX12_assigned 0 = .ok (.iload_n 1, 1) := by decide +kernel
theorem dassigned_1 : decode cX12_assigned 1 = .ok (.iconst 2, 1) := by decide +kernel
theorem dassigned_2 : decode cX12_assigned 2 = .ok (.if_icmp .ne 31, 3) := by decide +kernel
theorem dassigned_5 : decode cX12_assigned 5 = .ok (.aload_n 0, 1) := by decide +kernel
theorem dassigned_6 : decode cX12_assigned 6 = .ok (.bipush 15, 2) := by decide +kernel
theorem dassigned_8 : decode cX12_assigned 8 = .ok (.iload_n 2, 1) := by decide +kernel
theorem dassigned_9 : decode cX12_assigned 9 = .ok (.iconst 0, 1) := by decide +kernel
theorem dassigned_10 : decode cX12_assigned 10 = .ok (.invokevirtual 732, 3) := by decide +kernel
theorem dassigned_13 : decode cX12_assigned 13 = .ok (.ifCond .lt 18, 3) := by decide +kernel
theorem dassigned_16 : decode cX12_assigned 16 = .ok (.aload_n 0, 1) := by decide +kernel
theorem dassigned_17 : decode cX12_assigned 17 = .ok (.bipush 17, 2) := by decide +kernel
theorem dassigned_19 : decode cX12_assigned 19 = .ok (.iconst 0, 1) := by decide +kernel
theorem dassigned_20 : decode cX12_assigned 20 = .ok (.iconst 0, 1) := by decide +kernel
theorem dassigned_21 : decode cX12_assigned 21 = .ok (.invokevirtual 732, 3) := by decide +kernel
theorem dassigned_24 : decode cX12_assigned 24 = .ok (.ifCond .lt 7, 3) := by decide +kernel
theorem dassigned_27 : decode cX12_assigned 27 = .ok (.iconst 1, 1) := by decide +kernel
theorem dassigned_28 : decode cX12_assigned 28 = .ok (.goto 4, 3) := by decide +kernel
theorem dassigned_31 : decode cX12_assigned 31 = .ok (.iconst 0, 1) := by decide +kernel
theorem dassigned_32 : decode cX12_assigned 32 = .ok (.ireturn, 1) := by decide +kernel
theorem dassigned_33 : decode cX12_assigned 33 = .ok (.aload_n 0, 1) := by decide +kernel
theorem dassigned_34 : decode cX12_assigned 34 = .ok (.iload_n 1, 1) := by decide +kernel
theorem dassigned_35 : decode cX12_assigned 35 = .ok (.iconst 1, 1) := by decide +kernel
theorem dassigned_36 : decode cX12_assigned 36 = .ok (.if_icmp .ne 8, 3) := by decide +kernel
theorem dassigned_39 : decode cX12_assigned 39 = .ok (.bipush 7, 2) := by decide +kernel
theorem dassigned_41 : decode cX12_assigned 41 = .ok (.goto 4, 3) := by decide +kernel
theorem dassigned_44 : decode cX12_assigned 44 = .ok (.iconst 5, 1) := by decide +kernel
theorem dassigned_45 : decode cX12_assigned 45 = .ok (.iload_n 2, 1) := by decide +kernel
theorem dassigned_46 : decode cX12_assigned 46 = .ok (.aload_n 0, 1) := by decide +kernel
theorem dassigned_47 : decode cX12_assigned 47 = .ok (.getfield 760, 3) := by decide +kernel
theorem dassigned_50 : decode cX12_assigned 50 = .ok (.invokevirtual 732, 3) := by decide +kernel
theorem dassigned_53 : decode cX12_assigned 53 = .ok (.ifCond .lt 7, 3) := by decide +kernel
theorem dassigned_56 : decode cX12_assigned 56 = .ok (.iconst 1, 1) := by decide +kernel
theorem dassigned_57 : decode cX12_assigned 57 = .ok (.goto 4, 3) := by decide +kernel
theorem dassigned_60 : decode cX12_assigned 60 = .ok (.iconst 0, 1) := by decide +kernel
theorem dassigned_61 : decode cX12_assigned 61 = .ok (.ireturn, 1) := by decide +kernel
section
variable {l : Launch} {D : va_G} {cA : Nat → ClassId} {ad : Nat → Nat}
theorem s_assigned {a1 a2 : Int} {R r ph tf q0 : Int} {s : List mo_A} {ht st rg : Nat → Int} {tu : Int} {h : ja_H} {Q : Option ja_V → ja_H → Prop} (g : mo_G h) (r1 : -2147483648 ≤ a1 ∧ a1 ≤ 2147483647) (r2 : -2147483648 ≤ a2 ∧ a2 ≤ 2147483647) (p1 : pk_S h (h 0 17).toNat s) (p2 : piB h R r ph tf q0 ((19, a1, a2) :: s) ht st rg tu) (k1 : ∀ (h' : ja_H), (pi_done h h' R r ph tf q0 (pi_mu h ((19, a1, a2) :: s))) → mo_G h' → Q (some (0, 1)) h') (k2 : ∀ (h' : ja_H), (0 < (h' 0 8) ∧ (h' 0 1) = (h 0 1) ∧ (h' 0 118) = (h 0 118) ∧ (h' 0 127) = (h 0 127)) → mo_G h' → Q (some (0, 0)) h') : mM_assigned l D cA ad a1 a2 h Q := by
  show mJ l D cA ad 2 cX12_assigned 3 (some .boolean) 0 [(0, (2, ((0 : Nat) : Int))), (1, (0, a1)), (2, (0, a2))] [] h Q
  have kn_at := gF_at g
  have kn_wTop := gF_wTop g
  have kn_words := gF_words g
  have kn_nest := gF_nest g
  have hN := piB_num g p1 p2
  obtain ⟨N1, N2, N3, N4, N5, N6, N7, N8, N9, N10, N11, N12, N13, ⟨NK1, NK2⟩, ND1, ND2, ND3, NU1, NU2⟩ := hN
  have hll := bs_hl p2
  have hn1 : (h 0 18) = 0 + pk_sum pk_c s := p2.1.1
  have hk := kind_19 p2
  refine ja_iload_n dassigned_0 rfl rfl ?_
  refine ja_iconst dassigned_1 ?_
  refine ja_icmp_ne 33 dassigned_2 rfl ⟨by omega, by omega⟩ ⟨by decide, by decide⟩ (fun c2 => ?_) (fun c2 => ?_)
  · refine ja_aload_n dassigned_33 rfl rfl ?_
    refine ja_iload_n dassigned_34 rfl rfl ?_
    refine ja_iconst dassigned_35 ?_
    refine ja_icmp_ne 44 dassigned_36 rfl ⟨by omega, by omega⟩ ⟨by decide, by decide⟩ (fun c36 => ?_) (fun c36 => ?_)
    · refine ja_iconst dassigned_44 ?_
      refine ja_iload_n dassigned_45 rfl rfl ?_
      refine ja_aload_n dassigned_46 rfl rfl ?_
      refine fg_inAspect (v := h 0 76) rfl dassigned_47 ?_
      have f1 := gF_inAspect g
      refine t_emit (by decide) (show (0 : Nat) ≤ 8 by decide) dassigned_50 g ⟨by decide, by decide⟩ ⟨by omega, by omega⟩ ⟨by omega, by omega⟩ (show 0 ≤ 5 ∧ 5 ≤ 26 by omega) (show (h 0 113) < 5000 by omega) ?_
      intro g2
      replace g2 : mo_G (ja_up (ja_up (ja_up (ja_up h 74 ((h 0 113).toNat) 5) 75 ((h 0 113).toNat) a2) 76 ((h 0 113).toNat) (h 0 76)) 0 113 ((h 0 113) + 1)) := g2
      show mJ l D cA ad 2 cX12_assigned 3 (some .boolean) 53 [(0, (2, ((0 : Nat) : Int))), (1, (0, a1)), (2, (0, a2))] [(0, (h 0 113))] (ja_up (ja_up (ja_up (ja_up h 74 ((h 0 113).toNat) 5) 75 ((h 0 113).toNat) a2) 76 ((h 0 113).toNat) (h 0 76)) 0 113 ((h 0 113) + 1)) Q
      refine ja_if_lt 60 dassigned_53 rfl ⟨by omega, by omega⟩ (fun c53 => ?_) (fun c53 => ?_)
      · refine ja_iconst dassigned_60 ?_
        refine ja_zreturn dassigned_61 rfl (by omega) ?_
        exact mo_fin (by omega) rfl (k2 (ja_up (ja_up (ja_up (ja_up h 74 ((h 0 113).toNat) 5) 75 ((h 0 113).toNat) a2) 76 ((h 0 113).toNat) (h 0 76)) 0 113 ((h 0 113) + 1)) (by omega) g2)
      · refine ja_iconst dassigned_56 ?_
        refine ja_goto 61 dassigned_57 rfl ?_
        refine ja_zreturn dassigned_61 rfl (by omega) ?_
        exact mo_fin (by omega) rfl (k1 (ja_up (ja_up (ja_up (ja_up h 74 ((h 0 113).toNat) 5) 75 ((h 0 113).toNat) a2) 76 ((h 0 113).toNat) (h 0 76)) 0 113 ((h 0 113) + 1)) ((by have e : a1 = 0 := (by omega); (subst e; exact ab_as0 (a := 0) g p1 p2))) g2)
    · refine ja_bipush 7 dassigned_39 rfl ?_
      refine ja_goto 45 dassigned_41 rfl ?_
      refine ja_iload_n dassigned_45 rfl rfl ?_
      refine ja_aload_n dassigned_46 rfl rfl ?_
      refine fg_inAspect (v := h 0 76) rfl dassigned_47 ?_
      have f3 := gF_inAspect g
      refine t_emit (by decide) (show (0 : Nat) ≤ 8 by decide) dassigned_50 g ⟨by decide, by decide⟩ ⟨by omega, by omega⟩ ⟨by omega, by omega⟩ (show 0 ≤ 7 ∧ 7 ≤ 26 by omega) (show (h 0 113) < 5000 by omega) ?_
      intro g4
      replace g4 : mo_G (ja_up (ja_up (ja_up (ja_up h 74 ((h 0 113).toNat) 7) 75 ((h 0 113).toNat) a2) 76 ((h 0 113).toNat) (h 0 76)) 0 113 ((h 0 113) + 1)) := g4
      show mJ l D cA ad 2 cX12_assigned 3 (some .boolean) 53 [(0, (2, ((0 : Nat) : Int))), (1, (0, a1)), (2, (0, a2))] [(0, (h 0 113))] (ja_up (ja_up (ja_up (ja_up h 74 ((h 0 113).toNat) 7) 75 ((h 0 113).toNat) a2) 76 ((h 0 113).toNat) (h 0 76)) 0 113 ((h 0 113) + 1)) Q
      refine ja_if_lt 60 dassigned_53 rfl ⟨by omega, by omega⟩ (fun c53 => ?_) (fun c53 => ?_)
      · refine ja_iconst dassigned_60 ?_
        refine ja_zreturn dassigned_61 rfl (by omega) ?_
        exact mo_fin (by omega) rfl (k2 (ja_up (ja_up (ja_up (ja_up h 74 ((h 0 113).toNat) 7) 75 ((h 0 113).toNat) a2) 76 ((h 0 113).toNat) (h 0 76)) 0 113 ((h 0 113) + 1)) (by omega) g4)
      · refine ja_iconst dassigned_56 ?_
        refine ja_goto 61 dassigned_57 rfl ?_
        refine ja_zreturn dassigned_61 rfl (by omega) ?_
        exact mo_fin (by omega) rfl (k1 (ja_up (ja_up (ja_up (ja_up h 74 ((h 0 113).toNat) 7) 75 ((h 0 113).toNat) a2) 76 ((h 0 113).toNat) (h 0 76)) 0 113 ((h 0 113) + 1)) ((by have e : a1 = 1 := (by omega); (subst e; exact ab_as1 (a := 0) g p1 p2))) g4)
  · refine ja_aload_n dassigned_5 rfl rfl ?_
    refine ja_bipush 15 dassigned_6 rfl ?_
    refine ja_iload_n dassigned_8 rfl rfl ?_
    refine ja_iconst dassigned_9 ?_
    refine t_emit (by decide) (show (0 : Nat) ≤ 8 by decide) dassigned_10 g ⟨by decide, by decide⟩ ⟨by omega, by omega⟩ ⟨by decide, by decide⟩ (show 0 ≤ 15 ∧ 15 ≤ 26 by omega) (show (h 0 113) < 5000 by omega) ?_
    intro g5
    replace g5 : mo_G (ja_up (ja_up (ja_up (ja_up h 74 ((h 0 113).toNat) 15) 75 ((h 0 113).toNat) a2) 76 ((h 0 113).toNat) 0) 0 113 ((h 0 113) + 1)) := g5
    show mJ l D cA ad 2 cX12_assigned 3 (some .boolean) 13 [(0, (2, ((0 : Nat) : Int))), (1, (0, a1)), (2, (0, a2))] [(0, (h 0 113))] (ja_up (ja_up (ja_up (ja_up h 74 ((h 0 113).toNat) 15) 75 ((h 0 113).toNat) a2) 76 ((h 0 113).toNat) 0) 0 113 ((h 0 113) + 1)) Q
    refine ja_if_lt 31 dassigned_13 rfl ⟨by omega, by omega⟩ (fun c13 => ?_) (fun c13 => ?_)
    · refine ja_iconst dassigned_31 ?_
      refine ja_zreturn dassigned_32 rfl (by omega) ?_
      exact mo_fin (by omega) rfl (k2 (ja_up (ja_up (ja_up (ja_up h 74 ((h 0 113).toNat) 15) 75 ((h 0 113).toNat) a2) 76 ((h 0 113).toNat) 0) 0 113 ((h 0 113) + 1)) (by omega) g5)
    · refine ja_aload_n dassigned_16 rfl rfl ?_
      refine ja_bipush 17 dassigned_17 rfl ?_
      refine ja_iconst dassigned_19 ?_
      refine ja_iconst dassigned_20 ?_
      refine t_emit (by decide) (show (0 : Nat) ≤ 8 by decide) dassigned_21 g5 ⟨by decide, by decide⟩ ⟨by decide, by decide⟩ ⟨by decide, by decide⟩ (show 0 ≤ 17 ∧ 17 ≤ 26 by omega) (show ((h 0 113) + 1) < 5000 by omega) ?_
      intro g6
      replace g6 : mo_G (ja_up (ja_up (ja_up (ja_up (ja_up (ja_up (ja_up (ja_up h 74 ((h 0 113).toNat) 15) 75 ((h 0 113).toNat) a2) 76 ((h 0 113).toNat) 0) 0 113 ((h 0 113) + 1)) 74 (((h 0 113) + 1).toNat) 17) 75 (((h 0 113) + 1).toNat) 0) 76 (((h 0 113) + 1).toNat) 0) 0 113 (((h 0 113) + 1) + 1)) := g6
      show mJ l D cA ad 2 cX12_assigned 3 (some .boolean) 24 [(0, (2, ((0 : Nat) : Int))), (1, (0, a1)), (2, (0, a2))] [(0, ((h 0 113) + 1))] (ja_up (ja_up (ja_up (ja_up (ja_up (ja_up (ja_up (ja_up h 74 ((h 0 113).toNat) 15) 75 ((h 0 113).toNat) a2) 76 ((h 0 113).toNat) 0) 0 113 ((h 0 113) + 1)) 74 (((h 0 113) + 1).toNat) 17) 75 (((h 0 113) + 1).toNat) 0) 76 (((h 0 113) + 1).toNat) 0) 0 113 (((h 0 113) + 1) + 1)) Q
      refine ja_if_lt 31 dassigned_24 rfl ⟨by omega, by omega⟩ (fun c24 => ?_) (fun c24 => ?_)
      · refine ja_iconst dassigned_31 ?_
        refine ja_zreturn dassigned_32 rfl (by omega) ?_
        exact mo_fin (by omega) rfl (k2 (ja_up (ja_up (ja_up (ja_up (ja_up (ja_up (ja_up (ja_up h 74 ((h 0 113).toNat) 15) 75 ((h 0 113).toNat) a2) 76 ((h 0 113).toNat) 0) 0 113 ((h 0 113) + 1)) 74 (((h 0 113) + 1).toNat) 17) 75 (((h 0 113) + 1).toNat) 0) 76 (((h 0 113) + 1).toNat) 0) 0 113 (((h 0 113) + 1) + 1)) (by omega) g6)
      · refine ja_iconst dassigned_27 ?_
        refine ja_goto 32 dassigned_28 rfl ?_
        refine ja_zreturn dassigned_32 rfl (by omega) ?_
        exact mo_fin (by omega) rfl (k1 (ja_up (ja_up (ja_up (ja_up (ja_up (ja_up (ja_up (ja_up h 74 ((h 0 113).toNat) 15) 75 ((h 0 113).toNat) a2) 76 ((h 0 113).toNat) 0) 0 113 ((h 0 113) + 1)) 74 (((h 0 113) + 1).toNat) 17) 75 (((h 0 113) + 1).toNat) 0) 76 (((h 0 113) + 1).toNat) 0) 0 113 (((h 0 113) + 1) + 1)) ((by have e : a1 = 2 := (by omega); (subst e; exact ab_as2 g p1 p2))) g6)
theorem t_assigned {a1 a2 : Int} {R r ph tf q0 : Int} {s : List mo_A} {ht st rg : Nat → Int} {tu : Int} {d nL pc : Nat} {cc : ByteArray} {rt : Option FieldType} {L : List (Nat × ja_V)} {S : List ja_V} {h : ja_H} {Q : Option ja_V → ja_H → Prop} (hdd : 2 < d) (hwd : ja_wd S ≤ 8) (hd : decode cc pc = .ok (.invokevirtual 826, 3)) (g : mo_G h) (r1 : -2147483648 ≤ a1 ∧ a1 ≤ 2147483647) (r2 : -2147483648 ≤ a2 ∧ a2 ≤ 2147483647) (p1 : pk_S h (h 0 17).toNat s) (p2 : piB h R r ph tf q0 ((19, a1, a2) :: s) ht st rg tu) (k1 : ∀ (h' : ja_H), (pi_done h h' R r ph tf q0 (pi_mu h ((19, a1, a2) :: s))) → mo_G h' → mJ l D cA ad d cc nL rt (pc + 3) L ((0, 1) :: S) h' Q) (k2 : ∀ (h' : ja_H), (0 < (h' 0 8) ∧ (h' 0 1) = (h 0 1) ∧ (h' 0 118) = (h 0 118) ∧ (h' 0 127) = (h 0 127)) → mo_G h' → mJ l D cA ad d cc nL rt (pc + 3) L ((0, 0) :: S) h' Q) : mJ l D cA ad d cc nL rt pc L ((0, a2) :: (0, a1) :: (2, ((0 : Nat) : Int)) :: S) h Q :=
  mc_assigned hdd hwd hd (s_assigned g r1 r2 p1 p2 k1 k2)
end
theorem devaluated_0 : decode cX12_evaluated 0 = .ok (.aload_n 0, 1) := by decide +kernel
theorem devaluated_1 : decode cX12_evaluated 1 = .ok (.bipush 59, 2) := by decide +kernel
theorem devaluated_3 : decode cX12_evaluated 3 = .ok (.invokevirtual 586, 3) := by decide +kernel
theorem devaluated_6 : decode cX12_evaluated 6 = .ok (.ifCond .eq 43, 3) := by decide +kernel
theorem devaluated_9 : decode cX12_evaluated 9 = .ok (.aload_n 0, 1) := by decide +kernel
theorem devaluated_10 : decode cX12_evaluated 10 = .ok (.getfield 838, 3) := by decide +kernel
theorem devaluated_13 : decode cX12_evaluated 13 = .ok (.iconst 3, 1) := by decide +kernel
theorem devaluated_14 : decode cX12_evaluated 14 = .ok (.if_icmp .lt 29, 3) := by decide +kernel
theorem devaluated_17 : decode cX12_evaluated 17 = .ok (.aload_n 0, 1) := by decide +kernel
theorem devaluated_18 : decode cX12_evaluated 18 = .ok (.invokevirtual 589, 3) := by decide +kernel
theorem devaluated_21 : decode cX12_evaluated 21 = .ok (.ifCond .eq 18, 3) := by decide +kernel
theorem devaluated_24 : decode cX12_evaluated 24 = .ok (.aload_n 0, 1) := by decide +kernel
theorem devaluated_25 : decode cX12_evaluated 25 = .ok (.bipush 17, 2) := by decide +kernel
theorem devaluated_27 : decode cX12_evaluated 27 = .ok (.iconst 0, 1) := by decide +kernel
theorem devaluated_28 : decode cX12_evaluated 28 = .ok (.iconst 0, 1) := by decide +kernel
theorem devaluated_29 : decode cX12_evaluated 29 = .ok (.invokevirtual 732, 3) := by decide +kernel
theorem devaluated_32 : decode cX12_evaluated 32 = .ok (.ifCond .lt 7, 3) := by decide +kernel
theorem devaluated_35 : decode cX12_evaluated 35 = .ok (.iconst 1, 1) := by decide +kernel
theorem devaluated_36 : decode cX12_evaluated 36 = .ok (.goto 12, 3) := by decide +kernel
theorem devaluated_39 : decode cX12_evaluated 39 = .ok (.iconst 0, 1) := by decide +kernel
theorem devaluated_40 : decode cX12_evaluated 40 = .ok (.goto 8, 3) := by decide +kernel
theorem devaluated_43 : decode cX12_evaluated 43 = .ok (.aload_n 0, 1) := by decide +kernel
theorem devaluated_44 : decode cX12_evaluated 44 = .ok (.iconst 2, 1) := by decide +kernel
theorem devaluated_45 : decode cX12_evaluated 45 = .ok (.invokevirtual 583, 3) := by decide +kernel
theorem devaluated_48 : decode cX12_evaluated 48 = .ok (.ireturn, 1) := by decide +kernel
theorem devaluated_49 : decode cX12_evaluated 49 = .ok (.aload_n 0, 1) := by decide +kernel
theorem devaluated_50 : decode cX12_evaluated 50 = .ok (.bipush 61, 2) := by decide +kernel
theorem devaluated_52 : decode cX12_evaluated 52 = .ok (.invokevirtual 586, 3) := by decide +kernel
theorem devaluated_55 : decode cX12_evaluated 55 = .ok (.ifCond .ne 8, 3) := by decide +kernel
theorem devaluated_58 : decode cX12_evaluated 58 = .ok (.aload_n 0, 1) := by decide +kernel
theorem devaluated_59 : decode cX12_evaluated 59 = .ok (.invokevirtual 593, 3) := by decide +kernel
theorem devaluated_62 : decode cX12_evaluated 62 = .ok (.ireturn, 1) := by decide +kernel
theorem devaluated_63 : decode cX12_evaluated 63 = .ok (.aload_n 0, 1) := by decide +kernel
theorem devaluated_64 : decode cX12_evaluated 64 = .ok (.getfield 838, 3) := by decide +kernel
theorem devaluated_67 : decode cX12_evaluated 67 = .ok (.iconst 1, 1) := by decide +kernel
theorem devaluated_68 : decode cX12_evaluated 68 = .ok (.if_icmp .eq 17, 3) := by decide +kernel
theorem devaluated_71 : decode cX12_evaluated 71 = .ok (.aload_n 0, 1) := by decide +kernel
theorem devaluated_72 : decode cX12_evaluated 72 = .ok (.getfield 838, 3) := by decide +kernel
theorem devaluated_75 : decode cX12_evaluated 75 = .ok (.iconst 2, 1) := by decide +kernel
theorem devaluated_76 : decode cX12_evaluated 76 = .ok (.if_icmp .eq 9, 3) := by decide +kernel
theorem devaluated_79 : decode cX12_evaluated 79 = .ok (.aload_n 0, 1) := by decide +kernel
theorem devaluated_80 : decode cX12_evaluated 80 = .ok (.iconst 2, 1) := by decide +kernel
theorem devaluated_81 : decode cX12_evaluated 81 = .ok (.invokevirtual 583, 3) := by decide +kernel
theorem devaluated_84 : decode cX12_evaluated 84 = .ok (.ireturn, 1) := by decide +kernel
theorem devaluated_85 : decode cX12_evaluated 85 = .ok (.aload_n 0, 1) := by decide +kernel
theorem devaluated_86 : decode cX12_evaluated 86 = .ok (.dup, 1) := by decide +kernel
theorem devaluated_87 : decode cX12_evaluated 87 = .ok (.getfield 611, 3) := by decide +kernel
theorem devaluated_90 : decode cX12_evaluated 90 = .ok (.iconst 1, 1) := by decide +kernel
theorem devaluated_91 : decode cX12_evaluated 91 = .ok (.isub, 1) := by decide +kernel
theorem devaluated_92 : decode cX12_evaluated 92 = .ok (.putfield 611, 3) := by decide +kernel
theorem devaluated_95 : decode cX12_evaluated 95 = .ok (.aload_n 0, 1) := by decide +kernel
theorem devaluated_96 : decode cX12_evaluated 96 = .ok (.getfield 838, 3) := by decide +kernel
theorem devaluated_99 : decode cX12_evaluated 99 = .ok (.iconst 2, 1) := by decide +kernel
theorem devaluated_100 : decode cX12_evaluated 100 = .ok (.if_icmp .ne 7, 3) := by decide +kernel
theorem devaluated_103 : decode cX12_evaluated 103 = .ok (.iconst 2, 1) := by decide +kernel
theorem devaluated_104 : decode cX12_evaluated 104 = .ok (.goto 22, 3) := by decide +kernel
theorem devaluated_107 : decode cX12_evaluated 107 = .ok (.aload_n 0, 1) := by decide +kernel
theorem devaluated_108 : decode cX12_evaluated 108 = .ok (.getfield 231, 3) := by decide +kernel
theorem devaluated_111 : decode cX12_evaluated 111 = .ok (.aload_n 0, 1) := by decide +kernel
theorem devaluated_112 : decode cX12_evaluated 112 = .ok (.getfield 611, 3) := by decide +kernel
theorem devaluated_115 : decode cX12_evaluated 115 = .ok (.iaload, 1) := by decide +kernel
theorem devaluated_116 : decode cX12_evaluated 116 = .ok (.bipush 6, 2) := by decide +kernel
theorem devaluated_118 : decode cX12_evaluated 118 = .ok (.if_icmp .ne 7, 3) := by decide +kernel
theorem devaluated_121 : decode cX12_evaluated 121 = .ok (.iconst 1, 1) := by decide +kernel
theorem devaluated_122 : decode cX12_evaluated 122 = .ok (.goto 4, 3) := by decide +kernel
theorem devaluated_125 : decode cX12_evaluated 125 = .ok (.iconst 0, 1) := by decide +kernel
theorem devaluated_126 : decode cX12_evaluated 126 = .ok (.istore_n 1, 1) := by decide +kernel
theorem devaluated_127 : decode cX12_evaluated 127 = .ok (.aload_n 0, 1) := by decide +kernel
theorem devaluated_128 : decode cX12_evaluated 128 = .ok (.getfield 838, 3) := by decide +kernel
theorem devaluated_131 : decode cX12_evaluated 131 = .ok (.iconst 2, 1) := by decide +kernel
theorem devaluated_132 : decode cX12_evaluated 132 = .ok (.if_icmp .ne 10, 3) := by decide +kernel
theorem devaluated_135 : decode cX12_evaluated 135 = .ok (.aload_n 0, 1) := by decide +kernel
theorem devaluated_136 : decode cX12_evaluated 136 = .ok (.getfield 841, 3) := by decide +kernel
theorem devaluated_139 : decode cX12_evaluated 139 = .ok (.goto 12, 3) := by decide +kernel
theorem devaluated_142 : decode cX12_evaluated 142 = .ok (.aload_n 0, 1) := by decide +kernel
theorem devaluated_143 : decode cX12_evaluated 143 = .ok (.getfield 234, 3) := by decide +kernel
theorem devaluated_146 : decode cX12_evaluated 146 = .ok (.aload_n 0, 1) := by decide +kernel
theorem devaluated_147 : decode cX12_evaluated 147 = .ok (.getfield 611, 3) := by decide +kernel
theorem devaluated_150 : decode cX12_evaluated 150 = .ok (.iaload, 1) := by decide +kernel
theorem devaluated_151 : decode cX12_evaluated 151 = .ok (.istore_n 2, 1) := by decide +kernel
theorem devaluated_152 : decode cX12_evaluated 152 = .ok (.aload_n 0, 1) := by decide +kernel
theorem devaluated_153 : decode cX12_evaluated 153 = .ok (.getfield 838, 3) := by decide +kernel
theorem devaluated_156 : decode cX12_evaluated 156 = .ok (.iconst 2, 1) := by decide +kernel
theorem devaluated_157 : decode cX12_evaluated 157 = .ok (.if_icmp .ne 23, 3) := by decide +kernel
theorem devaluated_160 : decode cX12_evaluated 160 = .ok (.aload_n 0, 1) := by decide +kernel
theorem devaluated_161 : decode cX12_evaluated 161 = .ok (.getfield 164, 3) := by decide +kernel
theorem devaluated_164 : decode cX12_evaluated 164 = .ok (.aload_n 0, 1) := by decide +kernel
theorem devaluated_165 : decode cX12_evaluated 165 = .ok (.getfield 841, 3) := by decide +kernel
theorem devaluated_168 : decode cX12_evaluated 168 = .ok (.iconst 4, 1) := by decide +kernel
theorem devaluated_169 : decode cX12_evaluated 169 = .ok (.iastore, 1) := by decide +kernel
theorem devaluated_170 : decode cX12_evaluated 170 = .ok (.aload_n 0, 1) := by decide +kernel
theorem devaluated_171 : decode cX12_evaluated 171 = .ok (.getfield 173, 3) := by decide +kernel
theorem devaluated_174 : decode cX12_evaluated 174 = .ok (.aload_n 0, 1) := by decide +kernel
theorem devaluated_175 : decode cX12_evaluated 175 = .ok (.getfield 841, 3) := by decide +kernel
theorem devaluated_178 : decode cX12_evaluated 178 = .ok (.iconst 1, 1) := by decide +kernel
theorem devaluated_179 : decode cX12_evaluated 179 = .ok (.iastore, 1) := by decide +kernel
theorem devaluated_180 : decode cX12_evaluated 180 = .ok (.aload_n 0, 1) := by decide +kernel
theorem devaluated_181 : decode cX12_evaluated 181 = .ok (.invokevirtual 589, 3) := by decide +kernel
theorem devaluated_184 : decode cX12_evaluated 184 = .ok (.ifCond .eq 43, 3) := by decide +kernel
theorem devaluated_187 : decode cX12_evaluated 187 = .ok (.aload_n 0, 1) := by decide +kernel
theorem devaluated_188 : decode cX12_evaluated 188 = .ok (.bipush 19, 2) := by decide +kernel
theorem devaluated_190 : decode cX12_evaluated 190 = .ok (.iload_n 1, 1) := by decide +kernel
theorem devaluated_191 : decode cX12_evaluated 191 = .ok (.iload_n 2, 1) := by decide +kernel
theorem devaluated_192 : decode cX12_evaluated 192 = .ok (.iconst 0, 1) := by decide +kernel
theorem devaluated_193 : decode cX12_evaluated 193 = .ok (.invokevirtual 790, 3) := by decide +kernel
theorem devaluated_196 : decode cX12_evaluated 196 = .ok (.ifCond .eq 31, 3) := by decide +kernel
theorem devaluated_199 : decode cX12_evaluated 199 = .ok (.aload_n 0, 1) := by decide +kernel
theorem devaluated_200 : decode cX12_evaluated 200 = .ok (.bipush 37, 2) := by decide +kernel
theorem devaluated_202 : decode cX12_evaluated 202 = .ok (.bipush 59, 2) := by decide +kernel
theorem devaluated_204 : decode cX12_evaluated 204 = .ok (.iconst 0, 1) := by decide +kernel
theorem devaluated_205 : decode cX12_evaluated 205 = .ok (.iconst 0, 1) := by decide +kernel
theorem devaluated_206 : decode cX12_evaluated 206 = .ok (.invokevirtual 790, 3) := by decide +kernel
theorem devaluated_209 : decode cX12_evaluated 209 = .ok (.ifCond .eq 18, 3) := by decide +kernel
theorem devaluated_212 : decode cX12_evaluated 212 = .ok (.aload_n 0, 1) := by decide +kernel
theorem devaluated_213 : decode cX12_evaluated 213 = .ok (.iconst 1, 1) := by decide +kernel
theorem devaluated_214 : decode cX12_evaluated 214 = .ok (.iconst 0, 1) := by decide +kernel
theorem devaluated_215 : decode cX12_evaluated 215 = .ok (.iconst 0, 1) := by decide +kernel
theorem devaluated_216 : decode cX12_evaluated 216 = .ok (.iconst 0, 1) := by decide +kernel
theorem devaluated_217 : decode cX12_evaluated 217 = .ok (.invokevirtual 790, 3) := by decide +kernel
theorem devaluated_220 : decode cX12_evaluated 220 = .ok (.ifCond .eq 7, 3) := by decide +kernel
theorem devaluated_223 : decode cX12_evaluated 223 = .ok (.iconst 1, 1) := by decide +kernel
theorem devaluated_224 : decode cX12_evaluated 224 = .ok (.goto 4, 3) := by decide +kernel
theorem devaluated_227 : decode cX12_evaluated 227 = .ok (.iconst 0, 1) := by decide +kernel
theorem devaluated_228 : decode cX12_evaluated 228 = .ok (.ireturn, 1) := by decide +kernel
section
variable {l : Launch} {D : va_G} {cA : Nat → ClassId} {ad : Nat → Nat}
theorem s_evaluated {R r ph tf q0 a b : Int} {s : List mo_A} {ht st rg : Nat → Int} {tu : Int} {h : ja_H} {Q : Option ja_V → ja_H → Prop} (g : mo_G h) (p1 : pk_S h (h 0 17).toNat s) (p2 : piB h R r ph tf q0 ((18, a, b) :: s) ht st rg tu) (k1 : ∀ (h' : ja_H), (pi_done h h' R r ph tf q0 (pi_mu h ((18, a, b) :: s))) → mo_G h' → Q (some (0, 1)) h') (k2 : ∀ (h' : ja_H), (0 < (h' 0 8) ∧ (h' 0 1) = (h 0 1) ∧ (h' 0 118) = (h 0 118) ∧ (h' 0 127) = (h 0 127)) → mo_G h' → Q (some (0, 0)) h') : mM_evaluated l D cA ad  h Q := by
  show mJ l D cA ad 3 cX12_evaluated 3 (some .boolean) 0 [(0, (2, ((0 : Nat) : Int)))] [] h Q
  have kn_at := gF_at g
  have kn_wTop := gF_wTop g
  have kn_words := gF_words g
  have kn_nest := gF_nest g
  have kn_form := gF_form g
  have kn_formA := gF_formA g
  have hN := piB_num g p1 p2
  obtain ⟨N1, N2, N3, N4, N5, N6, N7, N8, N9, N10, N11, N12, N13, ⟨NK1, NK2⟩, ND1, ND2, ND3, NU1, NU2⟩ := hN
  have hll := bs_hl p2
  have hn1 : (h 0 18) = 0 + pk_sum pk_c s := p2.1.1
  have hw1 : ((h 0 19) = 1 ∨ (h 0 19) = 2) → 1 ≤ (h 0 113) := bs_w1 p2
  refine ja_aload_n devaluated_0 rfl rfl ?_
  refine ja_bipush 59 devaluated_1 rfl ?_
  refine t_isSign (by decide) (show (0 : Nat) ≤ 8 by decide) devaluated_3 g ⟨by decide, by decide⟩ ?_
  intro w1 k3_0
  refine ja_if_eq 49 devaluated_6 rfl ⟨by omega, by omega⟩ (fun c6 => ?_) (fun c6 => ?_)
  · refine ja_aload_n devaluated_49 rfl rfl ?_
    refine ja_bipush 61 devaluated_50 rfl ?_
    refine t_isSign (by decide) (show (0 : Nat) ≤ 8 by decide) devaluated_52 g ⟨by decide, by decide⟩ ?_
    intro w2 k52_0
    refine ja_if_ne 63 devaluated_55 rfl ⟨by omega, by omega⟩ (fun c55 => ?_) (fun c55 => ?_)
    · refine ja_aload_n devaluated_63 rfl rfl ?_
      refine fg_form (v := h 0 19) rfl devaluated_64 ?_
      have f3 := gF_form g
      refine ja_iconst devaluated_67 ?_
      refine ja_icmp_eq 85 devaluated_68 rfl ⟨by omega, by omega⟩ ⟨by decide, by decide⟩ (fun c68 => ?_) (fun c68 => ?_)
      · refine ja_aload_n devaluated_85 rfl rfl ?_
        refine ja_dup devaluated_86 (by decide) ?_
        refine fg_words (v := h 0 113) rfl devaluated_87 ?_
        have f4 := gF_words g
        refine ja_iconst devaluated_90 ?_
        refine ja_isub devaluated_91 ?_
        have g5 := gP_words g (x := (h 0 113) - 1) ⟨by omega, by omega⟩
        refine fp_words devaluated_92 ?_
        refine ja_aload_n devaluated_95 rfl rfl ?_
        refine fg_form (v := h 0 19) rfl devaluated_96 ?_
        refine ja_iconst devaluated_99 ?_
        refine ja_icmp_ne 107 devaluated_100 rfl ⟨by omega, by omega⟩ ⟨by decide, by decide⟩ (fun c100 => ?_) (fun c100 => ?_)
        · refine ja_aload_n devaluated_107 rfl rfl ?_
          refine fa_op devaluated_108 ?_
          refine ja_aload_n devaluated_111 rfl rfl ?_
          refine fg_words (v := (h 0 113) - 1) rfl devaluated_112 ?_
          refine il_op (v := h 74 ((h 0 113) - 1).toNat) rfl ⟨by omega, by omega⟩ devaluated_115 ?_
          have f6 := gC_op g ((h 0 113) - 1).toNat
          refine ja_bipush 6 devaluated_116 rfl ?_
          refine ja_icmp_ne 125 devaluated_118 rfl ⟨by omega, by omega⟩ ⟨by decide, by decide⟩ (fun c118 => ?_) (fun c118 => ?_)
          · refine ja_iconst devaluated_125 ?_
            refine ja_istore_n devaluated_126 rfl (by decide) (L2 := [(1, (0, 0)), (0, (2, ((0 : Nat) : Int)))]) rfl ?_
            refine ja_aload_n devaluated_127 rfl rfl ?_
            refine fg_form (v := h 0 19) rfl devaluated_128 ?_
            refine ja_iconst devaluated_131 ?_
            refine ja_icmp_ne 142 devaluated_132 rfl ⟨by omega, by omega⟩ ⟨by decide, by decide⟩ (fun c132 => ?_) (fun c132 => ?_)
            · refine ja_aload_n devaluated_142 rfl rfl ?_
              refine fa_opA devaluated_143 ?_
              refine ja_aload_n devaluated_146 rfl rfl ?_
              refine fg_words (v := (h 0 113) - 1) rfl devaluated_147 ?_
              refine il_opA (v := h 75 ((h 0 113) - 1).toNat) rfl ⟨by omega, by omega⟩ devaluated_150 ?_
              have f7 := gC_opA g ((h 0 113) - 1).toNat
              refine ja_istore_n devaluated_151 rfl (by decide) (L2 := [(2, (0, (h 75 ((h 0 113) - 1).toNat))), (1, (0, 0)), (0, (2, ((0 : Nat) : Int)))]) rfl ?_
              refine ja_aload_n devaluated_152 rfl rfl ?_
              refine fg_form (v := h 0 19) rfl devaluated_153 ?_
              refine ja_iconst devaluated_156 ?_
              refine ja_icmp_ne 180 devaluated_157 rfl ⟨by omega, by omega⟩ ⟨by decide, by decide⟩ (fun c157 => ?_) (fun c157 => ?_)
              · refine ja_aload_n devaluated_180 rfl rfl ?_
                refine t_take (by decide) (show (0 : Nat) ≤ 8 by decide) devaluated_181 g5  ?_ ?_
                · intro k181_0 g8
                  replace k181_0 : (h 0 7) < 900 := k181_0
                  replace g8 : mo_G (ja_up (ja_up h 0 113 ((h 0 113) - 1)) 0 7 ((h 0 7) + 1)) := g8
                  show mJ l D cA ad 3 cX12_evaluated 3 (some .boolean) 184 [(2, (0, (h 75 ((h 0 113) - 1).toNat))), (1, (0, 0)), (0, (2, ((0 : Nat) : Int)))] [(0, 1)] (ja_up (ja_up h 0 113 ((h 0 113) - 1)) 0 7 ((h 0 7) + 1)) Q
                  refine ja_if_eq 227 devaluated_184 rfl ⟨by decide, by decide⟩ (fun c184 => absurd c184 (by omega)) (fun c184 => ?_)
                  refine ja_aload_n devaluated_187 rfl rfl ?_
                  refine ja_bipush 19 devaluated_188 rfl ?_
                  refine ja_iload_n devaluated_190 rfl rfl ?_
                  refine ja_iload_n devaluated_191 rfl rfl ?_
                  refine ja_iconst devaluated_192 ?_
                  refine t_later (by decide) (show (0 : Nat) ≤ 8 by decide) devaluated_193 g8 ⟨by decide, by decide⟩ ⟨by decide, by decide⟩ ⟨by omega, by omega⟩ ⟨by decide, by decide⟩ (show 0 ≤ 19 ∧ 19 ≤ 38 by omega) (show (h 0 17) < 2000 by omega) ?_
                  intro g9
                  replace g9 : mo_G (ja_up (ja_up (ja_up (ja_up (ja_up (ja_up (ja_up h 0 113 ((h 0 113) - 1)) 0 7 ((h 0 7) + 1)) 6 ((h 0 17).toNat) 19) 7 ((h 0 17).toNat) 0) 8 ((h 0 17).toNat) (h 75 ((h 0 113) - 1).toNat)) 9 ((h 0 17).toNat) 0) 0 17 ((h 0 17) + 1)) := g9
                  show mJ l D cA ad 3 cX12_evaluated 3 (some .boolean) 196 [(2, (0, (h 75 ((h 0 113) - 1).toNat))), (1, (0, 0)), (0, (2, ((0 : Nat) : Int)))] [(0, 1)] (ja_up (ja_up (ja_up (ja_up (ja_up (ja_up (ja_up h 0 113 ((h 0 113) - 1)) 0 7 ((h 0 7) + 1)) 6 ((h 0 17).toNat) 19) 7 ((h 0 17).toNat) 0) 8 ((h 0 17).toNat) (h 75 ((h 0 113) - 1).toNat)) 9 ((h 0 17).toNat) 0) 0 17 ((h 0 17) + 1)) Q
                  refine ja_if_eq 227 devaluated_196 rfl ⟨by decide, by decide⟩ (fun c196 => absurd c196 (by omega)) (fun c196 => ?_)
                  refine ja_aload_n devaluated_199 rfl rfl ?_
                  refine ja_bipush 37 devaluated_200 rfl ?_
                  refine ja_bipush 59 devaluated_202 rfl ?_
                  refine ja_iconst devaluated_204 ?_
                  refine ja_iconst devaluated_205 ?_
                  refine t_later (by decide) (show (0 : Nat) ≤ 8 by decide) devaluated_206 g9 ⟨by decide, by decide⟩ ⟨by decide, by decide⟩ ⟨by decide, by decide⟩ ⟨by decide, by decide⟩ (show 0 ≤ 37 ∧ 37 ≤ 38 by omega) (show ((h 0 17) + 1) < 2000 by omega) ?_
                  intro g10
                  replace g10 : mo_G (ja_up (ja_up (ja_up (ja_up (ja_up (ja_up (ja_up (ja_up (ja_up (ja_up (ja_up (ja_up h 0 113 ((h 0 113) - 1)) 0 7 ((h 0 7) + 1)) 6 ((h 0 17).toNat) 19) 7 ((h 0 17).toNat) 0) 8 ((h 0 17).toNat) (h 75 ((h 0 113) - 1).toNat)) 9 ((h 0 17).toNat) 0) 0 17 ((h 0 17) + 1)) 6 (((h 0 17) + 1).toNat) 37) 7 (((h 0 17) + 1).toNat) 59) 8 (((h 0 17) + 1).toNat) 0) 9 (((h 0 17) + 1).toNat) 0) 0 17 (((h 0 17) + 1) + 1)) := g10
                  show mJ l D cA ad 3 cX12_evaluated 3 (some .boolean) 209 [(2, (0, (h 75 ((h 0 113) - 1).toNat))), (1, (0, 0)), (0, (2, ((0 : Nat) : Int)))] [(0, 1)] (ja_up (ja_up (ja_up (ja_up (ja_up (ja_up (ja_up (ja_up (ja_up (ja_up (ja_up (ja_up h 0 113 ((h 0 113) - 1)) 0 7 ((h 0 7) + 1)) 6 ((h 0 17).toNat) 19) 7 ((h 0 17).toNat) 0) 8 ((h 0 17).toNat) (h 75 ((h 0 113) - 1).toNat)) 9 ((h 0 17).toNat) 0) 0 17 ((h 0 17) + 1)) 6 (((h 0 17) + 1).toNat) 37) 7 (((h 0 17) + 1).toNat) 59) 8 (((h 0 17) + 1).toNat) 0) 9 (((h 0 17) + 1).toNat) 0) 0 17 (((h 0 17) + 1) + 1)) Q
                  refine ja_if_eq 227 devaluated_209 rfl ⟨by decide, by decide⟩ (fun c209 => absurd c209 (by omega)) (fun c209 => ?_)
                  refine ja_aload_n devaluated_212 rfl rfl ?_
                  refine ja_iconst devaluated_213 ?_
                  refine ja_iconst devaluated_214 ?_
                  refine ja_iconst devaluated_215 ?_
                  refine ja_iconst devaluated_216 ?_
                  refine t_later (by decide) (show (0 : Nat) ≤ 8 by decide) devaluated_217 g10 ⟨by decide, by decide⟩ ⟨by decide, by decide⟩ ⟨by decide, by decide⟩ ⟨by decide, by decide⟩ (show 0 ≤ 1 ∧ 1 ≤ 38 by omega) (show (((h 0 17) + 1) + 1) < 2000 by omega) ?_
                  intro g11
                  replace g11 : mo_G (ja_up (ja_up (ja_up (ja_up (ja_up (ja_up (ja_up (ja_up (ja_up (ja_up (ja_up (ja_up (ja_up (ja_up (ja_up (ja_up (ja_up h 0 113 ((h 0 113) - 1)) 0 7 ((h 0 7) + 1)) 6 ((h 0 17).toNat) 19) 7 ((h 0 17).toNat) 0) 8 ((h 0 17).toNat) (h 75 ((h 0 113) - 1).toNat)) 9 ((h 0 17).toNat) 0) 0 17 ((h 0 17) + 1)) 6 (((h 0 17) + 1).toNat) 37) 7 (((h 0 17) + 1).toNat) 59) 8 (((h 0 17) + 1).toNat) 0) 9 (((h 0 17) + 1).toNat) 0) 0 17 (((h 0 17) + 1) + 1)) 6 ((((h 0 17) + 1) + 1).toNat) 1) 7 ((((h 0 17) + 1) + 1).toNat) 0) 8 ((((h 0 17) + 1) + 1).toNat) 0) 9 ((((h 0 17) + 1) + 1).toNat) 0) 0 17 ((((h 0 17) + 1) + 1) + 1)) := g11
                  show mJ l D cA ad 3 cX12_evaluated 3 (some .boolean) 220 [(2, (0, (h 75 ((h 0 113) - 1).toNat))), (1, (0, 0)), (0, (2, ((0 : Nat) : Int)))] [(0, 1)] (ja_up (ja_up (ja_up (ja_up (ja_up (ja_up (ja_up (ja_up (ja_up (ja_up (ja_up (ja_up (ja_up (ja_up (ja_up (ja_up (ja_up h 0 113 ((h 0 113) - 1)) 0 7 ((h 0 7) + 1)) 6 ((h 0 17).toNat) 19) 7 ((h 0 17).toNat) 0) 8 ((h 0 17).toNat) (h 75 ((h 0 113) - 1).toNat)) 9 ((h 0 17).toNat) 0) 0 17 ((h 0 17) + 1)) 6 (((h 0 17) + 1).toNat) 37) 7 (((h 0 17) + 1).toNat) 59) 8 (((h 0 17) + 1).toNat) 0) 9 (((h 0 17) + 1).toNat) 0) 0 17 (((h 0 17) + 1) + 1)) 6 ((((h 0 17) + 1) + 1).toNat) 1) 7 ((((h 0 17) + 1) + 1).toNat) 0) 8 ((((h 0 17) + 1) + 1).toNat) 0) 9 ((((h 0 17) + 1) + 1).toNat) 0) 0 17 ((((h 0 17) + 1) + 1) + 1)) Q
                  refine ja_if_eq 227 devaluated_220 rfl ⟨by decide, by decide⟩ (fun c220 => absurd c220 (by omega)) (fun c220 => ?_)
                  refine ja_iconst devaluated_223 ?_
                  refine ja_goto 228 devaluated_224 rfl ?_
                  refine ja_zreturn devaluated_228 rfl (by omega) ?_
                  exact mo_fin (by omega) rfl (k1 (ja_up (ja_up (ja_up (ja_up (ja_up (ja_up (ja_up (ja_up (ja_up (ja_up (ja_up (ja_up (ja_up (ja_up (ja_up (ja_up (ja_up h 0 113 ((h 0 113) - 1)) 0 7 ((h 0 7) + 1)) 6 ((h 0 17).toNat) 19) 7 ((h 0 17).toNat) 0) 8 ((h 0 17).toNat) (h 75 ((h 0 113) - 1).toNat)) 9 ((h 0 17).toNat) 0) 0 17 ((h 0 17) + 1)) 6 (((h 0 17) + 1).toNat) 37) 7 (((h 0 17) + 1).toNat) 59) 8 (((h 0 17) + 1).toNat) 0) 9 (((h 0 17) + 1).toNat) 0) 0 17 (((h 0 17) + 1) + 1)) 6 ((((h 0 17) + 1) + 1).toNat) 1) 7 ((((h 0 17) + 1) + 1).toNat) 0) 8 ((((h 0 17) + 1) + 1).toNat) 0) 9 ((((h 0 17) + 1) + 1).toNat) 0) 0 17 ((((h 0 17) + 1) + 1) + 1)) ((by first | exact ab_assign1 (k := 0) g p1 p2 (by omega) (by omega) | (exfalso; omega))) g11)
                · intro h12 k181_1 g13
                  replace k181_1 : 0 < (h12 0 8) ∧ (h12 0 1) = (h 0 1) ∧ (h12 0 118) = (h 0 118) ∧ (h12 0 127) = (h 0 127) := k181_1
                  refine ja_if_eq 227 devaluated_184 rfl ⟨by decide, by decide⟩ (fun c184 => ?_) (fun c184 => absurd c184 (by omega))
                  refine ja_iconst devaluated_227 ?_
                  refine ja_zreturn devaluated_228 rfl (by omega) ?_
                  exact mo_fin (by omega) rfl (k2 h12 (by omega) g13)
              · refine ja_aload_n devaluated_160 rfl rfl ?_
                refine fa_pointKind devaluated_161 ?_
                refine ja_aload_n devaluated_164 rfl rfl ?_
                refine fg_formA (v := h 0 20) rfl devaluated_165 ?_
                have f14 := gF_formA g
                refine ja_iconst devaluated_168 ?_
                have g15 := gW_pointKind g5 (h 0 20).toNat (x := 4) ⟨by decide, by decide⟩
                refine is_pointKind ⟨by omega, by omega⟩ devaluated_169 ?_
                refine ja_aload_n devaluated_170 rfl rfl ?_
                refine fa_pointArgs devaluated_171 ?_
                refine ja_aload_n devaluated_174 rfl rfl ?_
                refine fg_formA (v := h 0 20) rfl devaluated_175 ?_
                refine ja_iconst devaluated_178 ?_
                have g16 := gW_pointArgs g15 (h 0 20).toNat (x := 1) ⟨by decide, by decide⟩
                refine is_pointArgs ⟨by omega, by omega⟩ devaluated_179 ?_
                refine ja_aload_n devaluated_180 rfl rfl ?_
                refine t_take (by decide) (show (0 : Nat) ≤ 8 by decide) devaluated_181 g16  ?_ ?_
                · intro k181_0 g17
                  replace k181_0 : (h 0 7) < 900 := k181_0
                  replace g17 : mo_G (ja_up (ja_up (ja_up (ja_up h 0 113 ((h 0 113) - 1)) 52 ((h 0 20).toNat) 4) 55 ((h 0 20).toNat) 1) 0 7 ((h 0 7) + 1)) := g17
                  show mJ l D cA ad 3 cX12_evaluated 3 (some .boolean) 184 [(2, (0, (h 75 ((h 0 113) - 1).toNat))), (1, (0, 0)), (0, (2, ((0 : Nat) : Int)))] [(0, 1)] (ja_up (ja_up (ja_up (ja_up h 0 113 ((h 0 113) - 1)) 52 ((h 0 20).toNat) 4) 55 ((h 0 20).toNat) 1) 0 7 ((h 0 7) + 1)) Q
                  refine ja_if_eq 227 devaluated_184 rfl ⟨by decide, by decide⟩ (fun c184 => absurd c184 (by omega)) (fun c184 => ?_)
                  refine ja_aload_n devaluated_187 rfl rfl ?_
                  refine ja_bipush 19 devaluated_188 rfl ?_
                  refine ja_iload_n devaluated_190 rfl rfl ?_
                  refine ja_iload_n devaluated_191 rfl rfl ?_
                  refine ja_iconst devaluated_192 ?_
                  refine t_later (by decide) (show (0 : Nat) ≤ 8 by decide) devaluated_193 g17 ⟨by decide, by decide⟩ ⟨by decide, by decide⟩ ⟨by omega, by omega⟩ ⟨by decide, by decide⟩ (show 0 ≤ 19 ∧ 19 ≤ 38 by omega) (show (h 0 17) < 2000 by omega) ?_
                  intro g18
                  replace g18 : mo_G (ja_up (ja_up (ja_up (ja_up (ja_up (ja_up (ja_up (ja_up (ja_up h 0 113 ((h 0 113) - 1)) 52 ((h 0 20).toNat) 4) 55 ((h 0 20).toNat) 1) 0 7 ((h 0 7) + 1)) 6 ((h 0 17).toNat) 19) 7 ((h 0 17).toNat) 0) 8 ((h 0 17).toNat) (h 75 ((h 0 113) - 1).toNat)) 9 ((h 0 17).toNat) 0) 0 17 ((h 0 17) + 1)) := g18
                  show mJ l D cA ad 3 cX12_evaluated 3 (some .boolean) 196 [(2, (0, (h 75 ((h 0 113) - 1).toNat))), (1, (0, 0)), (0, (2, ((0 : Nat) : Int)))] [(0, 1)] (ja_up (ja_up (ja_up (ja_up (ja_up (ja_up (ja_up (ja_up (ja_up h 0 113 ((h 0 113) - 1)) 52 ((h 0 20).toNat) 4) 55 ((h 0 20).toNat) 1) 0 7 ((h 0 7) + 1)) 6 ((h 0 17).toNat) 19) 7 ((h 0 17).toNat) 0) 8 ((h 0 17).toNat) (h 75 ((h 0 113) - 1).toNat)) 9 ((h 0 17).toNat) 0) 0 17 ((h 0 17) + 1)) Q
                  refine ja_if_eq 227 devaluated_196 rfl ⟨by decide, by decide⟩ (fun c196 => absurd c196 (by omega)) (fun c196 => ?_)
                  refine ja_aload_n devaluated_199 rfl rfl ?_
                  refine ja_bipush 37 devaluated_200 rfl ?_
                  refine ja_bipush 59 devaluated_202 rfl ?_
                  refine ja_iconst devaluated_204 ?_
                  refine ja_iconst devaluated_205 ?_
                  refine t_later (by decide) (show (0 : Nat) ≤ 8 by decide) devaluated_206 g18 ⟨by decide, by decide⟩ ⟨by decide, by decide⟩ ⟨by decide, by decide⟩ ⟨by decide, by decide⟩ (show 0 ≤ 37 ∧ 37 ≤ 38 by omega) (show ((h 0 17) + 1) < 2000 by omega) ?_
                  intro g19
                  replace g19 : mo_G (ja_up (ja_up (ja_up (ja_up (ja_up (ja_up (ja_up (ja_up (ja_up (ja_up (ja_up (ja_up (ja_up (ja_up h 0 113 ((h 0 113) - 1)) 52 ((h 0 20).toNat) 4) 55 ((h 0 20).toNat) 1) 0 7 ((h 0 7) + 1)) 6 ((h 0 17).toNat) 19) 7 ((h 0 17).toNat) 0) 8 ((h 0 17).toNat) (h 75 ((h 0 113) - 1).toNat)) 9 ((h 0 17).toNat) 0) 0 17 ((h 0 17) + 1)) 6 (((h 0 17) + 1).toNat) 37) 7 (((h 0 17) + 1).toNat) 59) 8 (((h 0 17) + 1).toNat) 0) 9 (((h 0 17) + 1).toNat) 0) 0 17 (((h 0 17) + 1) + 1)) := g19
                  show mJ l D cA ad 3 cX12_evaluated 3 (some .boolean) 209 [(2, (0, (h 75 ((h 0 113) - 1).toNat))), (1, (0, 0)), (0, (2, ((0 : Nat) : Int)))] [(0, 1)] (ja_up (ja_up (ja_up (ja_up (ja_up (ja_up (ja_up (ja_up (ja_up (ja_up (ja_up (ja_up (ja_up (ja_up h 0 113 ((h 0 113) - 1)) 52 ((h 0 20).toNat) 4) 55 ((h 0 20).toNat) 1) 0 7 ((h 0 7) + 1)) 6 ((h 0 17).toNat) 19) 7 ((h 0 17).toNat) 0) 8 ((h 0 17).toNat) (h 75 ((h 0 113) - 1).toNat)) 9 ((h 0 17).toNat) 0) 0 17 ((h 0 17) + 1)) 6 (((h 0 17) + 1).toNat) 37) 7 (((h 0 17) + 1).toNat) 59) 8 (((h 0 17) + 1).toNat) 0) 9 (((h 0 17) + 1).toNat) 0) 0 17 (((h 0 17) + 1) + 1)) Q
                  refine ja_if_eq 227 devaluated_209 rfl ⟨by decide, by decide⟩ (fun c209 => absurd c209 (by omega)) (fun c209 => ?_)
                  refine ja_aload_n devaluated_212 rfl rfl ?_
                  refine ja_iconst devaluated_213 ?_
                  refine ja_iconst devaluated_214 ?_
                  refine ja_iconst devaluated_215 ?_
                  refine ja_iconst devaluated_216 ?_
                  refine t_later (by decide) (show (0 : Nat) ≤ 8 by decide) devaluated_217 g19 ⟨by decide, by decide⟩ ⟨by decide, by decide⟩ ⟨by decide, by decide⟩ ⟨by decide, by decide⟩ (show 0 ≤ 1 ∧ 1 ≤ 38 by omega) (show (((h 0 17) + 1) + 1) < 2000 by omega) ?_
                  intro g20
                  replace g20 : mo_G (ja_up (ja_up (ja_up (ja_up (ja_up (ja_up (ja_up (ja_up (ja_up (ja_up (ja_up (ja_up (ja_up (ja_up (ja_up (ja_up (ja_up (ja_up (ja_up h 0 113 ((h 0 113) - 1)) 52 ((h 0 20).toNat) 4) 55 ((h 0 20).toNat) 1) 0 7 ((h 0 7) + 1)) 6 ((h 0 17).toNat) 19) 7 ((h 0 17).toNat) 0) 8 ((h 0 17).toNat) (h 75 ((h 0 113) - 1).toNat)) 9 ((h 0 17).toNat) 0) 0 17 ((h 0 17) + 1)) 6 (((h 0 17) + 1).toNat) 37) 7 (((h 0 17) + 1).toNat) 59) 8 (((h 0 17) + 1).toNat) 0) 9 (((h 0 17) + 1).toNat) 0) 0 17 (((h 0 17) + 1) + 1)) 6 ((((h 0 17) + 1) + 1).toNat) 1) 7 ((((h 0 17) + 1) + 1).toNat) 0) 8 ((((h 0 17) + 1) + 1).toNat) 0) 9 ((((h 0 17) + 1) + 1).toNat) 0) 0 17 ((((h 0 17) + 1) + 1) + 1)) := g20
                  show mJ l D cA ad 3 cX12_evaluated 3 (some .boolean) 220 [(2, (0, (h 75 ((h 0 113) - 1).toNat))), (1, (0, 0)), (0, (2, ((0 : Nat) : Int)))] [(0, 1)] (ja_up (ja_up (ja_up (ja_up (ja_up (ja_up (ja_up (ja_up (ja_up (ja_up (ja_up (ja_up (ja_up (ja_up (ja_up (ja_up (ja_up (ja_up (ja_up h 0 113 ((h 0 113) - 1)) 52 ((h 0 20).toNat) 4) 55 ((h 0 20).toNat) 1) 0 7 ((h 0 7) + 1)) 6 ((h 0 17).toNat) 19) 7 ((h 0 17).toNat) 0) 8 ((h 0 17).toNat) (h 75 ((h 0 113) - 1).toNat)) 9 ((h 0 17).toNat) 0) 0 17 ((h 0 17) + 1)) 6 (((h 0 17) + 1).toNat) 37) 7 (((h 0 17) + 1).toNat) 59) 8 (((h 0 17) + 1).toNat) 0) 9 (((h 0 17) + 1).toNat) 0) 0 17 (((h 0 17) + 1) + 1)) 6 ((((h 0 17) + 1) + 1).toNat) 1) 7 ((((h 0 17) + 1) + 1).toNat) 0) 8 ((((h 0 17) + 1) + 1).toNat) 0) 9 ((((h 0 17) + 1) + 1).toNat) 0) 0 17 ((((h 0 17) + 1) + 1) + 1)) Q
                  refine ja_if_eq 227 devaluated_220 rfl ⟨by decide, by decide⟩ (fun c220 => absurd c220 (by omega)) (fun c220 => ?_)
                  refine ja_iconst devaluated_223 ?_
                  refine ja_goto 228 devaluated_224 rfl ?_
                  refine ja_zreturn devaluated_228 rfl (by omega) ?_
                  exact mo_fin (by omega) rfl (k1 (ja_up (ja_up (ja_up (ja_up (ja_up (ja_up (ja_up (ja_up (ja_up (ja_up (ja_up (ja_up (ja_up (ja_up (ja_up (ja_up (ja_up (ja_up (ja_up h 0 113 ((h 0 113) - 1)) 52 ((h 0 20).toNat) 4) 55 ((h 0 20).toNat) 1) 0 7 ((h 0 7) + 1)) 6 ((h 0 17).toNat) 19) 7 ((h 0 17).toNat) 0) 8 ((h 0 17).toNat) (h 75 ((h 0 113) - 1).toNat)) 9 ((h 0 17).toNat) 0) 0 17 ((h 0 17) + 1)) 6 (((h 0 17) + 1).toNat) 37) 7 (((h 0 17) + 1).toNat) 59) 8 (((h 0 17) + 1).toNat) 0) 9 (((h 0 17) + 1).toNat) 0) 0 17 (((h 0 17) + 1) + 1)) 6 ((((h 0 17) + 1) + 1).toNat) 1) 7 ((((h 0 17) + 1) + 1).toNat) 0) 8 ((((h 0 17) + 1) + 1).toNat) 0) 9 ((((h 0 17) + 1) + 1).toNat) 0) 0 17 ((((h 0 17) + 1) + 1) + 1)) ((by first | exact ab_assign2 g p1 p2 (by omega) | (exfalso; omega))) g20)
                · intro h21 k181_1 g22
                  replace k181_1 : 0 < (h21 0 8) ∧ (h21 0 1) = (h 0 1) ∧ (h21 0 118) = (h 0 118) ∧ (h21 0 127) = (h 0 127) := k181_1
                  refine ja_if_eq 227 devaluated_184 rfl ⟨by decide, by decide⟩ (fun c184 => ?_) (fun c184 => absurd c184 (by omega))
                  refine ja_iconst devaluated_227 ?_
                  refine ja_zreturn devaluated_228 rfl (by omega) ?_
                  exact mo_fin (by omega) rfl (k2 h21 (by omega) g22)
            · refine ja_aload_n devaluated_135 rfl rfl ?_
              refine fg_formA (v := h 0 20) rfl devaluated_136 ?_
              have f23 := gF_formA g
              refine ja_goto 151 devaluated_139 rfl ?_
              refine ja_istore_n devaluated_151 rfl (by decide) (L2 := [(2, (0, (h 0 20))), (1, (0, 0)), (0, (2, ((0 : Nat) : Int)))]) rfl ?_
              refine ja_aload_n devaluated_152 rfl rfl ?_
              refine fg_form (v := h 0 19) rfl devaluated_153 ?_
              refine ja_iconst devaluated_156 ?_
              refine ja_icmp_ne 180 devaluated_157 rfl ⟨by omega, by omega⟩ ⟨by decide, by decide⟩ (fun c157 => ?_) (fun c157 => ?_)
              · refine ja_aload_n devaluated_180 rfl rfl ?_
                refine t_take (by decide) (show (0 : Nat) ≤ 8 by decide) devaluated_181 g5  ?_ ?_
                · intro k181_0 g24
                  replace k181_0 : (h 0 7) < 900 := k181_0
                  replace g24 : mo_G (ja_up (ja_up h 0 113 ((h 0 113) - 1)) 0 7 ((h 0 7) + 1)) := g24
                  show mJ l D cA ad 3 cX12_evaluated 3 (some .boolean) 184 [(2, (0, (h 0 20))), (1, (0, 0)), (0, (2, ((0 : Nat) : Int)))] [(0, 1)] (ja_up (ja_up h 0 113 ((h 0 113) - 1)) 0 7 ((h 0 7) + 1)) Q
                  refine ja_if_eq 227 devaluated_184 rfl ⟨by decide, by decide⟩ (fun c184 => absurd c184 (by omega)) (fun c184 => ?_)
                  refine ja_aload_n devaluated_187 rfl rfl ?_
                  refine ja_bipush 19 devaluated_188 rfl ?_
                  refine ja_iload_n devaluated_190 rfl rfl ?_
                  refine ja_iload_n devaluated_191 rfl rfl ?_
                  refine ja_iconst devaluated_192 ?_
                  refine t_later (by decide) (show (0 : Nat) ≤ 8 by decide) devaluated_193 g24 ⟨by decide, by decide⟩ ⟨by decide, by decide⟩ ⟨by omega, by omega⟩ ⟨by decide, by decide⟩ (show 0 ≤ 19 ∧ 19 ≤ 38 by omega) (show (h 0 17) < 2000 by omega) ?_
                  intro g25
                  replace g25 : mo_G (ja_up (ja_up (ja_up (ja_up (ja_up (ja_up (ja_up h 0 113 ((h 0 113) - 1)) 0 7 ((h 0 7) + 1)) 6 ((h 0 17).toNat) 19) 7 ((h 0 17).toNat) 0) 8 ((h 0 17).toNat) (h 0 20)) 9 ((h 0 17).toNat) 0) 0 17 ((h 0 17) + 1)) := g25
                  show mJ l D cA ad 3 cX12_evaluated 3 (some .boolean) 196 [(2, (0, (h 0 20))), (1, (0, 0)), (0, (2, ((0 : Nat) : Int)))] [(0, 1)] (ja_up (ja_up (ja_up (ja_up (ja_up (ja_up (ja_up h 0 113 ((h 0 113) - 1)) 0 7 ((h 0 7) + 1)) 6 ((h 0 17).toNat) 19) 7 ((h 0 17).toNat) 0) 8 ((h 0 17).toNat) (h 0 20)) 9 ((h 0 17).toNat) 0) 0 17 ((h 0 17) + 1)) Q
                  refine ja_if_eq 227 devaluated_196 rfl ⟨by decide, by decide⟩ (fun c196 => absurd c196 (by omega)) (fun c196 => ?_)
                  refine ja_aload_n devaluated_199 rfl rfl ?_
                  refine ja_bipush 37 devaluated_200 rfl ?_
                  refine ja_bipush 59 devaluated_202 rfl ?_
                  refine ja_iconst devaluated_204 ?_
                  refine ja_iconst devaluated_205 ?_
                  refine t_later (by decide) (show (0 : Nat) ≤ 8 by decide) devaluated_206 g25 ⟨by decide, by decide⟩ ⟨by decide, by decide⟩ ⟨by decide, by decide⟩ ⟨by decide, by decide⟩ (show 0 ≤ 37 ∧ 37 ≤ 38 by omega) (show ((h 0 17) + 1) < 2000 by omega) ?_
                  intro g26
                  replace g26 : mo_G (ja_up (ja_up (ja_up (ja_up (ja_up (ja_up (ja_up (ja_up (ja_up (ja_up (ja_up (ja_up h 0 113 ((h 0 113) - 1)) 0 7 ((h 0 7) + 1)) 6 ((h 0 17).toNat) 19) 7 ((h 0 17).toNat) 0) 8 ((h 0 17).toNat) (h 0 20)) 9 ((h 0 17).toNat) 0) 0 17 ((h 0 17) + 1)) 6 (((h 0 17) + 1).toNat) 37) 7 (((h 0 17) + 1).toNat) 59) 8 (((h 0 17) + 1).toNat) 0) 9 (((h 0 17) + 1).toNat) 0) 0 17 (((h 0 17) + 1) + 1)) := g26
                  show mJ l D cA ad 3 cX12_evaluated 3 (some .boolean) 209 [(2, (0, (h 0 20))), (1, (0, 0)), (0, (2, ((0 : Nat) : Int)))] [(0, 1)] (ja_up (ja_up (ja_up (ja_up (ja_up (ja_up (ja_up (ja_up (ja_up (ja_up (ja_up (ja_up h 0 113 ((h 0 113) - 1)) 0 7 ((h 0 7) + 1)) 6 ((h 0 17).toNat) 19) 7 ((h 0 17).toNat) 0) 8 ((h 0 17).toNat) (h 0 20)) 9 ((h 0 17).toNat) 0) 0 17 ((h 0 17) + 1)) 6 (((h 0 17) + 1).toNat) 37) 7 (((h 0 17) + 1).toNat) 59) 8 (((h 0 17) + 1).toNat) 0) 9 (((h 0 17) + 1).toNat) 0) 0 17 (((h 0 17) + 1) + 1)) Q
                  refine ja_if_eq 227 devaluated_209 rfl ⟨by decide, by decide⟩ (fun c209 => absurd c209 (by omega)) (fun c209 => ?_)
                  refine ja_aload_n devaluated_212 rfl rfl ?_
                  refine ja_iconst devaluated_213 ?_
                  refine ja_iconst devaluated_214 ?_
                  refine ja_iconst devaluated_215 ?_
                  refine ja_iconst devaluated_216 ?_
                  refine t_later (by decide) (show (0 : Nat) ≤ 8 by decide) devaluated_217 g26 ⟨by decide, by decide⟩ ⟨by decide, by decide⟩ ⟨by decide, by decide⟩ ⟨by decide, by decide⟩ (show 0 ≤ 1 ∧ 1 ≤ 38 by omega) (show (((h 0 17) + 1) + 1) < 2000 by omega) ?_
                  intro g27
                  replace g27 : mo_G (ja_up (ja_up (ja_up (ja_up (ja_up (ja_up (ja_up (ja_up (ja_up (ja_up (ja_up (ja_up (ja_up (ja_up (ja_up (ja_up (ja_up h 0 113 ((h 0 113) - 1)) 0 7 ((h 0 7) + 1)) 6 ((h 0 17).toNat) 19) 7 ((h 0 17).toNat) 0) 8 ((h 0 17).toNat) (h 0 20)) 9 ((h 0 17).toNat) 0) 0 17 ((h 0 17) + 1)) 6 (((h 0 17) + 1).toNat) 37) 7 (((h 0 17) + 1).toNat) 59) 8 (((h 0 17) + 1).toNat) 0) 9 (((h 0 17) + 1).toNat) 0) 0 17 (((h 0 17) + 1) + 1)) 6 ((((h 0 17) + 1) + 1).toNat) 1) 7 ((((h 0 17) + 1) + 1).toNat) 0) 8 ((((h 0 17) + 1) + 1).toNat) 0) 9 ((((h 0 17) + 1) + 1).toNat) 0) 0 17 ((((h 0 17) + 1) + 1) + 1)) := g27
                  show mJ l D cA ad 3 cX12_evaluated 3 (some .boolean) 220 [(2, (0, (h 0 20))), (1, (0, 0)), (0, (2, ((0 : Nat) : Int)))] [(0, 1)] (ja_up (ja_up (ja_up (ja_up (ja_up (ja_up (ja_up (ja_up (ja_up (ja_up (ja_up (ja_up (ja_up (ja_up (ja_up (ja_up (ja_up h 0 113 ((h 0 113) - 1)) 0 7 ((h 0 7) + 1)) 6 ((h 0 17).toNat) 19) 7 ((h 0 17).toNat) 0) 8 ((h 0 17).toNat) (h 0 20)) 9 ((h 0 17).toNat) 0) 0 17 ((h 0 17) + 1)) 6 (((h 0 17) + 1).toNat) 37) 7 (((h 0 17) + 1).toNat) 59) 8 (((h 0 17) + 1).toNat) 0) 9 (((h 0 17) + 1).toNat) 0) 0 17 (((h 0 17) + 1) + 1)) 6 ((((h 0 17) + 1) + 1).toNat) 1) 7 ((((h 0 17) + 1) + 1).toNat) 0) 8 ((((h 0 17) + 1) + 1).toNat) 0) 9 ((((h 0 17) + 1) + 1).toNat) 0) 0 17 ((((h 0 17) + 1) + 1) + 1)) Q
                  refine ja_if_eq 227 devaluated_220 rfl ⟨by decide, by decide⟩ (fun c220 => absurd c220 (by omega)) (fun c220 => ?_)
                  refine ja_iconst devaluated_223 ?_
                  refine ja_goto 228 devaluated_224 rfl ?_
                  refine ja_zreturn devaluated_228 rfl (by omega) ?_
                  exact mo_fin (by omega) rfl (k1 (ja_up (ja_up (ja_up (ja_up (ja_up (ja_up (ja_up (ja_up (ja_up (ja_up (ja_up (ja_up (ja_up (ja_up (ja_up (ja_up (ja_up h 0 113 ((h 0 113) - 1)) 0 7 ((h 0 7) + 1)) 6 ((h 0 17).toNat) 19) 7 ((h 0 17).toNat) 0) 8 ((h 0 17).toNat) (h 0 20)) 9 ((h 0 17).toNat) 0) 0 17 ((h 0 17) + 1)) 6 (((h 0 17) + 1).toNat) 37) 7 (((h 0 17) + 1).toNat) 59) 8 (((h 0 17) + 1).toNat) 0) 9 (((h 0 17) + 1).toNat) 0) 0 17 (((h 0 17) + 1) + 1)) 6 ((((h 0 17) + 1) + 1).toNat) 1) 7 ((((h 0 17) + 1) + 1).toNat) 0) 8 ((((h 0 17) + 1) + 1).toNat) 0) 9 ((((h 0 17) + 1) + 1).toNat) 0) 0 17 ((((h 0 17) + 1) + 1) + 1)) ((by first | exact ab_assign1 (k := 0) g p1 p2 (by omega) (by omega) | (exfalso; omega))) g27)
                · intro h28 k181_1 g29
                  replace k181_1 : 0 < (h28 0 8) ∧ (h28 0 1) = (h 0 1) ∧ (h28 0 118) = (h 0 118) ∧ (h28 0 127) = (h 0 127) := k181_1
                  refine ja_if_eq 227 devaluated_184 rfl ⟨by decide, by decide⟩ (fun c184 => ?_) (fun c184 => absurd c184 (by omega))
                  refine ja_iconst devaluated_227 ?_
                  refine ja_zreturn devaluated_228 rfl (by omega) ?_
                  exact mo_fin (by omega) rfl (k2 h28 (by omega) g29)
              · refine ja_aload_n devaluated_160 rfl rfl ?_
                refine fa_pointKind devaluated_161 ?_
                refine ja_aload_n devaluated_164 rfl rfl ?_
                refine fg_formA (v := h 0 20) rfl devaluated_165 ?_
                refine ja_iconst devaluated_168 ?_
                have g30 := gW_pointKind g5 (h 0 20).toNat (x := 4) ⟨by decide, by decide⟩
                refine is_pointKind ⟨by omega, by omega⟩ devaluated_169 ?_
                refine ja_aload_n devaluated_170 rfl rfl ?_
                refine fa_pointArgs devaluated_171 ?_
                refine ja_aload_n devaluated_174 rfl rfl ?_
                refine fg_formA (v := h 0 20) rfl devaluated_175 ?_
                refine ja_iconst devaluated_178 ?_
                have g31 := gW_pointArgs g30 (h 0 20).toNat (x := 1) ⟨by decide, by decide⟩
                refine is_pointArgs ⟨by omega, by omega⟩ devaluated_179 ?_
                refine ja_aload_n devaluated_180 rfl rfl ?_
                refine t_take (by decide) (show (0 : Nat) ≤ 8 by decide) devaluated_181 g31  ?_ ?_
                · intro k181_0 g32
                  replace k181_0 : (h 0 7) < 900 := k181_0
                  replace g32 : mo_G (ja_up (ja_up (ja_up (ja_up h 0 113 ((h 0 113) - 1)) 52 ((h 0 20).toNat) 4) 55 ((h 0 20).toNat) 1) 0 7 ((h 0 7) + 1)) := g32
                  show mJ l D cA ad 3 cX12_evaluated 3 (some .boolean) 184 [(2, (0, (h 0 20))), (1, (0, 0)), (0, (2, ((0 : Nat) : Int)))] [(0, 1)] (ja_up (ja_up (ja_up (ja_up h 0 113 ((h 0 113) - 1)) 52 ((h 0 20).toNat) 4) 55 ((h 0 20).toNat) 1) 0 7 ((h 0 7) + 1)) Q
                  refine ja_if_eq 227 devaluated_184 rfl ⟨by decide, by decide⟩ (fun c184 => absurd c184 (by omega)) (fun c184 => ?_)
                  refine ja_aload_n devaluated_187 rfl rfl ?_
                  refine ja_bipush 19 devaluated_188 rfl ?_
                  refine ja_iload_n devaluated_190 rfl rfl ?_
                  refine ja_iload_n devaluated_191 rfl rfl ?_
                  refine ja_iconst devaluated_192 ?_
                  refine t_later (by decide) (show (0 : Nat) ≤ 8 by decide) devaluated_193 g32 ⟨by decide, by decide⟩ ⟨by decide, by decide⟩ ⟨by omega, by omega⟩ ⟨by decide, by decide⟩ (show 0 ≤ 19 ∧ 19 ≤ 38 by omega) (show (h 0 17) < 2000 by omega) ?_
                  intro g33
                  replace g33 : mo_G (ja_up (ja_up (ja_up (ja_up (ja_up (ja_up (ja_up (ja_up (ja_up h 0 113 ((h 0 113) - 1)) 52 ((h 0 20).toNat) 4) 55 ((h 0 20).toNat) 1) 0 7 ((h 0 7) + 1)) 6 ((h 0 17).toNat) 19) 7 ((h 0 17).toNat) 0) 8 ((h 0 17).toNat) (h 0 20)) 9 ((h 0 17).toNat) 0) 0 17 ((h 0 17) + 1)) := g33
                  show mJ l D cA ad 3 cX12_evaluated 3 (some .boolean) 196 [(2, (0, (h 0 20))), (1, (0, 0)), (0, (2, ((0 : Nat) : Int)))] [(0, 1)] (ja_up (ja_up (ja_up (ja_up (ja_up (ja_up (ja_up (ja_up (ja_up h 0 113 ((h 0 113) - 1)) 52 ((h 0 20).toNat) 4) 55 ((h 0 20).toNat) 1) 0 7 ((h 0 7) + 1)) 6 ((h 0 17).toNat) 19) 7 ((h 0 17).toNat) 0) 8 ((h 0 17).toNat) (h 0 20)) 9 ((h 0 17).toNat) 0) 0 17 ((h 0 17) + 1)) Q
                  refine ja_if_eq 227 devaluated_196 rfl ⟨by decide, by decide⟩ (fun c196 => absurd c196 (by omega)) (fun c196 => ?_)
                  refine ja_aload_n devaluated_199 rfl rfl ?_
                  refine ja_bipush 37 devaluated_200 rfl ?_
                  refine ja_bipush 59 devaluated_202 rfl ?_
                  refine ja_iconst devaluated_204 ?_
                  refine ja_iconst devaluated_205 ?_
                  refine t_later (by decide) (show (0 : Nat) ≤ 8 by decide) devaluated_206 g33 ⟨by decide, by decide⟩ ⟨by decide, by decide⟩ ⟨by decide, by decide⟩ ⟨by decide, by decide⟩ (show 0 ≤ 37 ∧ 37 ≤ 38 by omega) (show ((h 0 17) + 1) < 2000 by omega) ?_
                  intro g34
                  replace g34 : mo_G (ja_up (ja_up (ja_up (ja_up (ja_up (ja_up (ja_up (ja_up (ja_up (ja_up (ja_up (ja_up (ja_up (ja_up h 0 113 ((h 0 113) - 1)) 52 ((h 0 20).toNat) 4) 55 ((h 0 20).toNat) 1) 0 7 ((h 0 7) + 1)) 6 ((h 0 17).toNat) 19) 7 ((h 0 17).toNat) 0) 8 ((h 0 17).toNat) (h 0 20)) 9 ((h 0 17).toNat) 0) 0 17 ((h 0 17) + 1)) 6 (((h 0 17) + 1).toNat) 37) 7 (((h 0 17) + 1).toNat) 59) 8 (((h 0 17) + 1).toNat) 0) 9 (((h 0 17) + 1).toNat) 0) 0 17 (((h 0 17) + 1) + 1)) := g34
                  show mJ l D cA ad 3 cX12_evaluated 3 (some .boolean) 209 [(2, (0, (h 0 20))), (1, (0, 0)), (0, (2, ((0 : Nat) : Int)))] [(0, 1)] (ja_up (ja_up (ja_up (ja_up (ja_up (ja_up (ja_up (ja_up (ja_up (ja_up (ja_up (ja_up (ja_up (ja_up h 0 113 ((h 0 113) - 1)) 52 ((h 0 20).toNat) 4) 55 ((h 0 20).toNat) 1) 0 7 ((h 0 7) + 1)) 6 ((h 0 17).toNat) 19) 7 ((h 0 17).toNat) 0) 8 ((h 0 17).toNat) (h 0 20)) 9 ((h 0 17).toNat) 0) 0 17 ((h 0 17) + 1)) 6 (((h 0 17) + 1).toNat) 37) 7 (((h 0 17) + 1).toNat) 59) 8 (((h 0 17) + 1).toNat) 0) 9 (((h 0 17) + 1).toNat) 0) 0 17 (((h 0 17) + 1) + 1)) Q
                  refine ja_if_eq 227 devaluated_209 rfl ⟨by decide, by decide⟩ (fun c209 => absurd c209 (by omega)) (fun c209 => ?_)
                  refine ja_aload_n devaluated_212 rfl rfl ?_
                  refine ja_iconst devaluated_213 ?_
                  refine ja_iconst devaluated_214 ?_
                  refine ja_iconst devaluated_215 ?_
                  refine ja_iconst devaluated_216 ?_
                  refine t_later (by decide) (show (0 : Nat) ≤ 8 by decide) devaluated_217 g34 ⟨by decide, by decide⟩ ⟨by decide, by decide⟩ ⟨by decide, by decide⟩ ⟨by decide, by decide⟩ (show 0 ≤ 1 ∧ 1 ≤ 38 by omega) (show (((h 0 17) + 1) + 1) < 2000 by omega) ?_
                  intro g35
                  replace g35 : mo_G (ja_up (ja_up (ja_up (ja_up (ja_up (ja_up (ja_up (ja_up (ja_up (ja_up (ja_up (ja_up (ja_up (ja_up (ja_up (ja_up (ja_up (ja_up (ja_up h 0 113 ((h 0 113) - 1)) 52 ((h 0 20).toNat) 4) 55 ((h 0 20).toNat) 1) 0 7 ((h 0 7) + 1)) 6 ((h 0 17).toNat) 19) 7 ((h 0 17).toNat) 0) 8 ((h 0 17).toNat) (h 0 20)) 9 ((h 0 17).toNat) 0) 0 17 ((h 0 17) + 1)) 6 (((h 0 17) + 1).toNat) 37) 7 (((h 0 17) + 1).toNat) 59) 8 (((h 0 17) + 1).toNat) 0) 9 (((h 0 17) + 1).toNat) 0) 0 17 (((h 0 17) + 1) + 1)) 6 ((((h 0 17) + 1) + 1).toNat) 1) 7 ((((h 0 17) + 1) + 1).toNat) 0) 8 ((((h 0 17) + 1) + 1).toNat) 0) 9 ((((h 0 17) + 1) + 1).toNat) 0) 0 17 ((((h 0 17) + 1) + 1) + 1)) := g35
                  show mJ l D cA ad 3 cX12_evaluated 3 (some .boolean) 220 [(2, (0, (h 0 20))), (1, (0, 0)), (0, (2, ((0 : Nat) : Int)))] [(0, 1)] (ja_up (ja_up (ja_up (ja_up (ja_up (ja_up (ja_up (ja_up (ja_up (ja_up (ja_up (ja_up (ja_up (ja_up (ja_up (ja_up (ja_up (ja_up (ja_up h 0 113 ((h 0 113) - 1)) 52 ((h 0 20).toNat) 4) 55 ((h 0 20).toNat) 1) 0 7 ((h 0 7) + 1)) 6 ((h 0 17).toNat) 19) 7 ((h 0 17).toNat) 0) 8 ((h 0 17).toNat) (h 0 20)) 9 ((h 0 17).toNat) 0) 0 17 ((h 0 17) + 1)) 6 (((h 0 17) + 1).toNat) 37) 7 (((h 0 17) + 1).toNat) 59) 8 (((h 0 17) + 1).toNat) 0) 9 (((h 0 17) + 1).toNat) 0) 0 17 (((h 0 17) + 1) + 1)) 6 ((((h 0 17) + 1) + 1).toNat) 1) 7 ((((h 0 17) + 1) + 1).toNat) 0) 8 ((((h 0 17) + 1) + 1).toNat) 0) 9 ((((h 0 17) + 1) + 1).toNat) 0) 0 17 ((((h 0 17) + 1) + 1) + 1)) Q
                  refine ja_if_eq 227 devaluated_220 rfl ⟨by decide, by decide⟩ (fun c220 => absurd c220 (by omega)) (fun c220 => ?_)
                  refine ja_iconst devaluated_223 ?_
                  refine ja_goto 228 devaluated_224 rfl ?_
                  refine ja_zreturn devaluated_228 rfl (by omega) ?_
                  exact mo_fin (by omega) rfl (k1 (ja_up (ja_up (ja_up (ja_up (ja_up (ja_up (ja_up (ja_up (ja_up (ja_up (ja_up (ja_up (ja_up (ja_up (ja_up (ja_up (ja_up (ja_up (ja_up h 0 113 ((h 0 113) - 1)) 52 ((h 0 20).toNat) 4) 55 ((h 0 20).toNat) 1) 0 7 ((h 0 7) + 1)) 6 ((h 0 17).toNat) 19) 7 ((h 0 17).toNat) 0) 8 ((h 0 17).toNat) (h 0 20)) 9 ((h 0 17).toNat) 0) 0 17 ((h 0 17) + 1)) 6 (((h 0 17) + 1).toNat) 37) 7 (((h 0 17) + 1).toNat) 59) 8 (((h 0 17) + 1).toNat) 0) 9 (((h 0 17) + 1).toNat) 0) 0 17 (((h 0 17) + 1) + 1)) 6 ((((h 0 17) + 1) + 1).toNat) 1) 7 ((((h 0 17) + 1) + 1).toNat) 0) 8 ((((h 0 17) + 1) + 1).toNat) 0) 9 ((((h 0 17) + 1) + 1).toNat) 0) 0 17 ((((h 0 17) + 1) + 1) + 1)) ((by first | exact ab_assign2 g p1 p2 (by omega) | (exfalso; omega))) g35)
                · intro h36 k181_1 g37
                  replace k181_1 : 0 < (h36 0 8) ∧ (h36 0 1) = (h 0 1) ∧ (h36 0 118) = (h 0 118) ∧ (h36 0 127) = (h 0 127) := k181_1
                  refine ja_if_eq 227 devaluated_184 rfl ⟨by decide, by decide⟩ (fun c184 => ?_) (fun c184 => absurd c184 (by omega))
                  refine ja_iconst devaluated_227 ?_
                  refine ja_zreturn devaluated_228 rfl (by omega) ?_
                  exact mo_fin (by omega) rfl (k2 h36 (by omega) g37)
          · refine ja_iconst devaluated_121 ?_
            refine ja_goto 126 devaluated_122 rfl ?_
            refine ja_istore_n devaluated_126 rfl (by decide) (L2 := [(1, (0, 1)), (0, (2, ((0 : Nat) : Int)))]) rfl ?_
            refine ja_aload_n devaluated_127 rfl rfl ?_
            refine fg_form (v := h 0 19) rfl devaluated_128 ?_
            refine ja_iconst devaluated_131 ?_
            refine ja_icmp_ne 142 devaluated_132 rfl ⟨by omega, by omega⟩ ⟨by decide, by decide⟩ (fun c132 => ?_) (fun c132 => ?_)
            · refine ja_aload_n devaluated_142 rfl rfl ?_
              refine fa_opA devaluated_143 ?_
              refine ja_aload_n devaluated_146 rfl rfl ?_
              refine fg_words (v := (h 0 113) - 1) rfl devaluated_147 ?_
              refine il_opA (v := h 75 ((h 0 113) - 1).toNat) rfl ⟨by omega, by omega⟩ devaluated_150 ?_
              have f38 := gC_opA g ((h 0 113) - 1).toNat
              refine ja_istore_n devaluated_151 rfl (by decide) (L2 := [(2, (0, (h 75 ((h 0 113) - 1).toNat))), (1, (0, 1)), (0, (2, ((0 : Nat) : Int)))]) rfl ?_
              refine ja_aload_n devaluated_152 rfl rfl ?_
              refine fg_form (v := h 0 19) rfl devaluated_153 ?_
              refine ja_iconst devaluated_156 ?_
              refine ja_icmp_ne 180 devaluated_157 rfl ⟨by omega, by omega⟩ ⟨by decide, by decide⟩ (fun c157 => ?_) (fun c157 => ?_)
              · refine ja_aload_n devaluated_180 rfl rfl ?_
                refine t_take (by decide) (show (0 : Nat) ≤ 8 by decide) devaluated_181 g5  ?_ ?_
                · intro k181_0 g39
                  replace k181_0 : (h 0 7) < 900 := k181_0
                  replace g39 : mo_G (ja_up (ja_up h 0 113 ((h 0 113) - 1)) 0 7 ((h 0 7) + 1)) := g39
                  show mJ l D cA ad 3 cX12_evaluated 3 (some .boolean) 184 [(2, (0, (h 75 ((h 0 113) - 1).toNat))), (1, (0, 1)), (0, (2, ((0 : Nat) : Int)))] [(0, 1)] (ja_up (ja_up h 0 113 ((h 0 113) - 1)) 0 7 ((h 0 7) + 1)) Q
                  refine ja_if_eq 227 devaluated_184 rfl ⟨by decide, by decide⟩ (fun c184 => absurd c184 (by omega)) (fun c184 => ?_)
                  refine ja_aload_n devaluated_187 rfl rfl ?_
                  refine ja_bipush 19 devaluated_188 rfl ?_
                  refine ja_iload_n devaluated_190 rfl rfl ?_
                  refine ja_iload_n devaluated_191 rfl rfl ?_
                  refine ja_iconst devaluated_192 ?_
                  refine t_later (by decide) (show (0 : Nat) ≤ 8 by decide) devaluated_193 g39 ⟨by decide, by decide⟩ ⟨by decide, by decide⟩ ⟨by omega, by omega⟩ ⟨by decide, by decide⟩ (show 0 ≤ 19 ∧ 19 ≤ 38 by omega) (show (h 0 17) < 2000 by omega) ?_
                  intro g40
                  replace g40 : mo_G (ja_up (ja_up (ja_up (ja_up (ja_up (ja_up (ja_up h 0 113 ((h 0 113) - 1)) 0 7 ((h 0 7) + 1)) 6 ((h 0 17).toNat) 19) 7 ((h 0 17).toNat) 1) 8 ((h 0 17).toNat) (h 75 ((h 0 113) - 1).toNat)) 9 ((h 0 17).toNat) 0) 0 17 ((h 0 17) + 1)) := g40
                  show mJ l D cA ad 3 cX12_evaluated 3 (some .boolean) 196 [(2, (0, (h 75 ((h 0 113) - 1).toNat))), (1, (0, 1)), (0, (2, ((0 : Nat) : Int)))] [(0, 1)] (ja_up (ja_up (ja_up (ja_up (ja_up (ja_up (ja_up h 0 113 ((h 0 113) - 1)) 0 7 ((h 0 7) + 1)) 6 ((h 0 17).toNat) 19) 7 ((h 0 17).toNat) 1) 8 ((h 0 17).toNat) (h 75 ((h 0 113) - 1).toNat)) 9 ((h 0 17).toNat) 0) 0 17 ((h 0 17) + 1)) Q
                  refine ja_if_eq 227 devaluated_196 rfl ⟨by decide, by decide⟩ (fun c196 => absurd c196 (by omega)) (fun c196 => ?_)
                  refine ja_aload_n devaluated_199 rfl rfl ?_
                  refine ja_bipush 37 devaluated_200 rfl ?_
                  refine ja_bipush 59 devaluated_202 rfl ?_
                  refine ja_iconst devaluated_204 ?_
                  refine ja_iconst devaluated_205 ?_
                  refine t_later (by decide) (show (0 : Nat) ≤ 8 by decide) devaluated_206 g40 ⟨by decide, by decide⟩ ⟨by decide, by decide⟩ ⟨by decide, by decide⟩ ⟨by decide, by decide⟩ (show 0 ≤ 37 ∧ 37 ≤ 38 by omega) (show ((h 0 17) + 1) < 2000 by omega) ?_
                  intro g41
                  replace g41 : mo_G (ja_up (ja_up (ja_up (ja_up (ja_up (ja_up (ja_up (ja_up (ja_up (ja_up (ja_up (ja_up h 0 113 ((h 0 113) - 1)) 0 7 ((h 0 7) + 1)) 6 ((h 0 17).toNat) 19) 7 ((h 0 17).toNat) 1) 8 ((h 0 17).toNat) (h 75 ((h 0 113) - 1).toNat)) 9 ((h 0 17).toNat) 0) 0 17 ((h 0 17) + 1)) 6 (((h 0 17) + 1).toNat) 37) 7 (((h 0 17) + 1).toNat) 59) 8 (((h 0 17) + 1).toNat) 0) 9 (((h 0 17) + 1).toNat) 0) 0 17 (((h 0 17) + 1) + 1)) := g41
                  show mJ l D cA ad 3 cX12_evaluated 3 (some .boolean) 209 [(2, (0, (h 75 ((h 0 113) - 1).toNat))), (1, (0, 1)), (0, (2, ((0 : Nat) : Int)))] [(0, 1)] (ja_up (ja_up (ja_up (ja_up (ja_up (ja_up (ja_up (ja_up (ja_up (ja_up (ja_up (ja_up h 0 113 ((h 0 113) - 1)) 0 7 ((h 0 7) + 1)) 6 ((h 0 17).toNat) 19) 7 ((h 0 17).toNat) 1) 8 ((h 0 17).toNat) (h 75 ((h 0 113) - 1).toNat)) 9 ((h 0 17).toNat) 0) 0 17 ((h 0 17) + 1)) 6 (((h 0 17) + 1).toNat) 37) 7 (((h 0 17) + 1).toNat) 59) 8 (((h 0 17) + 1).toNat) 0) 9 (((h 0 17) + 1).toNat) 0) 0 17 (((h 0 17) + 1) + 1)) Q
                  refine ja_if_eq 227 devaluated_209 rfl ⟨by decide, by decide⟩ (fun c209 => absurd c209 (by omega)) (fun c209 => ?_)
                  refine ja_aload_n devaluated_212 rfl rfl ?_
                  refine ja_iconst devaluated_213 ?_
                  refine ja_iconst devaluated_214 ?_
                  refine ja_iconst devaluated_215 ?_
                  refine ja_iconst devaluated_216 ?_
                  refine t_later (by decide) (show (0 : Nat) ≤ 8 by decide) devaluated_217 g41 ⟨by decide, by decide⟩ ⟨by decide, by decide⟩ ⟨by decide, by decide⟩ ⟨by decide, by decide⟩ (show 0 ≤ 1 ∧ 1 ≤ 38 by omega) (show (((h 0 17) + 1) + 1) < 2000 by omega) ?_
                  intro g42
                  replace g42 : mo_G (ja_up (ja_up (ja_up (ja_up (ja_up (ja_up (ja_up (ja_up (ja_up (ja_up (ja_up (ja_up (ja_up (ja_up (ja_up (ja_up (ja_up h 0 113 ((h 0 113) - 1)) 0 7 ((h 0 7) + 1)) 6 ((h 0 17).toNat) 19) 7 ((h 0 17).toNat) 1) 8 ((h 0 17).toNat) (h 75 ((h 0 113) - 1).toNat)) 9 ((h 0 17).toNat) 0) 0 17 ((h 0 17) + 1)) 6 (((h 0 17) + 1).toNat) 37) 7 (((h 0 17) + 1).toNat) 59) 8 (((h 0 17) + 1).toNat) 0) 9 (((h 0 17) + 1).toNat) 0) 0 17 (((h 0 17) + 1) + 1)) 6 ((((h 0 17) + 1) + 1).toNat) 1) 7 ((((h 0 17) + 1) + 1).toNat) 0) 8 ((((h 0 17) + 1) + 1).toNat) 0) 9 ((((h 0 17) + 1) + 1).toNat) 0) 0 17 ((((h 0 17) + 1) + 1) + 1)) := g42
                  show mJ l D cA ad 3 cX12_evaluated 3 (some .boolean) 220 [(2, (0, (h 75 ((h 0 113) - 1).toNat))), (1, (0, 1)), (0, (2, ((0 : Nat) : Int)))] [(0, 1)] (ja_up (ja_up (ja_up (ja_up (ja_up (ja_up (ja_up (ja_up (ja_up (ja_up (ja_up (ja_up (ja_up (ja_up (ja_up (ja_up (ja_up h 0 113 ((h 0 113) - 1)) 0 7 ((h 0 7) + 1)) 6 ((h 0 17).toNat) 19) 7 ((h 0 17).toNat) 1) 8 ((h 0 17).toNat) (h 75 ((h 0 113) - 1).toNat)) 9 ((h 0 17).toNat) 0) 0 17 ((h 0 17) + 1)) 6 (((h 0 17) + 1).toNat) 37) 7 (((h 0 17) + 1).toNat) 59) 8 (((h 0 17) + 1).toNat) 0) 9 (((h 0 17) + 1).toNat) 0) 0 17 (((h 0 17) + 1) + 1)) 6 ((((h 0 17) + 1) + 1).toNat) 1) 7 ((((h 0 17) + 1) + 1).toNat) 0) 8 ((((h 0 17) + 1) + 1).toNat) 0) 9 ((((h 0 17) + 1) + 1).toNat) 0) 0 17 ((((h 0 17) + 1) + 1) + 1)) Q
                  refine ja_if_eq 227 devaluated_220 rfl ⟨by decide, by decide⟩ (fun c220 => absurd c220 (by omega)) (fun c220 => ?_)
                  refine ja_iconst devaluated_223 ?_
                  refine ja_goto 228 devaluated_224 rfl ?_
                  refine ja_zreturn devaluated_228 rfl (by omega) ?_
                  exact mo_fin (by omega) rfl (k1 (ja_up (ja_up (ja_up (ja_up (ja_up (ja_up (ja_up (ja_up (ja_up (ja_up (ja_up (ja_up (ja_up (ja_up (ja_up (ja_up (ja_up h 0 113 ((h 0 113) - 1)) 0 7 ((h 0 7) + 1)) 6 ((h 0 17).toNat) 19) 7 ((h 0 17).toNat) 1) 8 ((h 0 17).toNat) (h 75 ((h 0 113) - 1).toNat)) 9 ((h 0 17).toNat) 0) 0 17 ((h 0 17) + 1)) 6 (((h 0 17) + 1).toNat) 37) 7 (((h 0 17) + 1).toNat) 59) 8 (((h 0 17) + 1).toNat) 0) 9 (((h 0 17) + 1).toNat) 0) 0 17 (((h 0 17) + 1) + 1)) 6 ((((h 0 17) + 1) + 1).toNat) 1) 7 ((((h 0 17) + 1) + 1).toNat) 0) 8 ((((h 0 17) + 1) + 1).toNat) 0) 9 ((((h 0 17) + 1) + 1).toNat) 0) 0 17 ((((h 0 17) + 1) + 1) + 1)) ((by first | exact ab_assign1 (k := 1) g p1 p2 (by omega) (by omega) | (exfalso; omega))) g42)
                · intro h43 k181_1 g44
                  replace k181_1 : 0 < (h43 0 8) ∧ (h43 0 1) = (h 0 1) ∧ (h43 0 118) = (h 0 118) ∧ (h43 0 127) = (h 0 127) := k181_1
                  refine ja_if_eq 227 devaluated_184 rfl ⟨by decide, by decide⟩ (fun c184 => ?_) (fun c184 => absurd c184 (by omega))
                  refine ja_iconst devaluated_227 ?_
                  refine ja_zreturn devaluated_228 rfl (by omega) ?_
                  exact mo_fin (by omega) rfl (k2 h43 (by omega) g44)
              · refine ja_aload_n devaluated_160 rfl rfl ?_
                refine fa_pointKind devaluated_161 ?_
                refine ja_aload_n devaluated_164 rfl rfl ?_
                refine fg_formA (v := h 0 20) rfl devaluated_165 ?_
                have f45 := gF_formA g
                refine ja_iconst devaluated_168 ?_
                have g46 := gW_pointKind g5 (h 0 20).toNat (x := 4) ⟨by decide, by decide⟩
                refine is_pointKind ⟨by omega, by omega⟩ devaluated_169 ?_
                refine ja_aload_n devaluated_170 rfl rfl ?_
                refine fa_pointArgs devaluated_171 ?_
                refine ja_aload_n devaluated_174 rfl rfl ?_
                refine fg_formA (v := h 0 20) rfl devaluated_175 ?_
                refine ja_iconst devaluated_178 ?_
                have g47 := gW_pointArgs g46 (h 0 20).toNat (x := 1) ⟨by decide, by decide⟩
                refine is_pointArgs ⟨by omega, by omega⟩ devaluated_179 ?_
                refine ja_aload_n devaluated_180 rfl rfl ?_
                refine t_take (by decide) (show (0 : Nat) ≤ 8 by decide) devaluated_181 g47  ?_ ?_
                · intro k181_0 g48
                  replace k181_0 : (h 0 7) < 900 := k181_0
                  replace g48 : mo_G (ja_up (ja_up (ja_up (ja_up h 0 113 ((h 0 113) - 1)) 52 ((h 0 20).toNat) 4) 55 ((h 0 20).toNat) 1) 0 7 ((h 0 7) + 1)) := g48
                  show mJ l D cA ad 3 cX12_evaluated 3 (some .boolean) 184 [(2, (0, (h 75 ((h 0 113) - 1).toNat))), (1, (0, 1)), (0, (2, ((0 : Nat) : Int)))] [(0, 1)] (ja_up (ja_up (ja_up (ja_up h 0 113 ((h 0 113) - 1)) 52 ((h 0 20).toNat) 4) 55 ((h 0 20).toNat) 1) 0 7 ((h 0 7) + 1)) Q
                  refine ja_if_eq 227 devaluated_184 rfl ⟨by decide, by decide⟩ (fun c184 => absurd c184 (by omega)) (fun c184 => ?_)
                  refine ja_aload_n devaluated_187 rfl rfl ?_
                  refine ja_bipush 19 devaluated_188 rfl ?_
                  refine ja_iload_n devaluated_190 rfl rfl ?_
                  refine ja_iload_n devaluated_191 rfl rfl ?_
                  refine ja_iconst devaluated_192 ?_
                  refine t_later (by decide) (show (0 : Nat) ≤ 8 by decide) devaluated_193 g48 ⟨by decide, by decide⟩ ⟨by decide, by decide⟩ ⟨by omega, by omega⟩ ⟨by decide, by decide⟩ (show 0 ≤ 19 ∧ 19 ≤ 38 by omega) (show (h 0 17) < 2000 by omega) ?_
                  intro g49
                  replace g49 : mo_G (ja_up (ja_up (ja_up (ja_up (ja_up (ja_up (ja_up (ja_up (ja_up h 0 113 ((h 0 113) - 1)) 52 ((h 0 20).toNat) 4) 55 ((h 0 20).toNat) 1) 0 7 ((h 0 7) + 1)) 6 ((h 0 17).toNat) 19) 7 ((h 0 17).toNat) 1) 8 ((h 0 17).toNat) (h 75 ((h 0 113) - 1).toNat)) 9 ((h 0 17).toNat) 0) 0 17 ((h 0 17) + 1)) := g49
                  show mJ l D cA ad 3 cX12_evaluated 3 (some .boolean) 196 [(2, (0, (h 75 ((h 0 113) - 1).toNat))), (1, (0, 1)), (0, (2, ((0 : Nat) : Int)))] [(0, 1)] (ja_up (ja_up (ja_up (ja_up (ja_up (ja_up (ja_up (ja_up (ja_up h 0 113 ((h 0 113) - 1)) 52 ((h 0 20).toNat) 4) 55 ((h 0 20).toNat) 1) 0 7 ((h 0 7) + 1)) 6 ((h 0 17).toNat) 19) 7 ((h 0 17).toNat) 1) 8 ((h 0 17).toNat) (h 75 ((h 0 113) - 1).toNat)) 9 ((h 0 17).toNat) 0) 0 17 ((h 0 17) + 1)) Q
                  refine ja_if_eq 227 devaluated_196 rfl ⟨by decide, by decide⟩ (fun c196 => absurd c196 (by omega)) (fun c196 => ?_)
                  refine ja_aload_n devaluated_199 rfl rfl ?_
                  refine ja_bipush 37 devaluated_200 rfl ?_
                  refine ja_bipush 59 devaluated_202 rfl ?_
                  refine ja_iconst devaluated_204 ?_
                  refine ja_iconst devaluated_205 ?_
                  refine t_later (by decide) (show (0 : Nat) ≤ 8 by decide) devaluated_206 g49 ⟨by decide, by decide⟩ ⟨by decide, by decide⟩ ⟨by decide, by decide⟩ ⟨by decide, by decide⟩ (show 0 ≤ 37 ∧ 37 ≤ 38 by omega) (show ((h 0 17) + 1) < 2000 by omega) ?_
                  intro g50
                  replace g50 : mo_G (ja_up (ja_up (ja_up (ja_up (ja_up (ja_up (ja_up (ja_up (ja_up (ja_up (ja_up (ja_up (ja_up (ja_up h 0 113 ((h 0 113) - 1)) 52 ((h 0 20).toNat) 4) 55 ((h 0 20).toNat) 1) 0 7 ((h 0 7) + 1)) 6 ((h 0 17).toNat) 19) 7 ((h 0 17).toNat) 1) 8 ((h 0 17).toNat) (h 75 ((h 0 113) - 1).toNat)) 9 ((h 0 17).toNat) 0) 0 17 ((h 0 17) + 1)) 6 (((h 0 17) + 1).toNat) 37) 7 (((h 0 17) + 1).toNat) 59) 8 (((h 0 17) + 1).toNat) 0) 9 (((h 0 17) + 1).toNat) 0) 0 17 (((h 0 17) + 1) + 1)) := g50
                  show mJ l D cA ad 3 cX12_evaluated 3 (some .boolean) 209 [(2, (0, (h 75 ((h 0 113) - 1).toNat))), (1, (0, 1)), (0, (2, ((0 : Nat) : Int)))] [(0, 1)] (ja_up (ja_up (ja_up (ja_up (ja_up (ja_up (ja_up (ja_up (ja_up (ja_up (ja_up (ja_up (ja_up (ja_up h 0 113 ((h 0 113) - 1)) 52 ((h 0 20).toNat) 4) 55 ((h 0 20).toNat) 1) 0 7 ((h 0 7) + 1)) 6 ((h 0 17).toNat) 19) 7 ((h 0 17).toNat) 1) 8 ((h 0 17).toNat) (h 75 ((h 0 113) - 1).toNat)) 9 ((h 0 17).toNat) 0) 0 17 ((h 0 17) + 1)) 6 (((h 0 17) + 1).toNat) 37) 7 (((h 0 17) + 1).toNat) 59) 8 (((h 0 17) + 1).toNat) 0) 9 (((h 0 17) + 1).toNat) 0) 0 17 (((h 0 17) + 1) + 1)) Q
                  refine ja_if_eq 227 devaluated_209 rfl ⟨by decide, by decide⟩ (fun c209 => absurd c209 (by omega)) (fun c209 => ?_)
                  refine ja_aload_n devaluated_212 rfl rfl ?_
                  refine ja_iconst devaluated_213 ?_
                  refine ja_iconst devaluated_214 ?_
                  refine ja_iconst devaluated_215 ?_
                  refine ja_iconst devaluated_216 ?_
                  refine t_later (by decide) (show (0 : Nat) ≤ 8 by decide) devaluated_217 g50 ⟨by decide, by decide⟩ ⟨by decide, by decide⟩ ⟨by decide, by decide⟩ ⟨by decide, by decide⟩ (show 0 ≤ 1 ∧ 1 ≤ 38 by omega) (show (((h 0 17) + 1) + 1) < 2000 by omega) ?_
                  intro g51
                  replace g51 : mo_G (ja_up (ja_up (ja_up (ja_up (ja_up (ja_up (ja_up (ja_up (ja_up (ja_up (ja_up (ja_up (ja_up (ja_up (ja_up (ja_up (ja_up (ja_up (ja_up h 0 113 ((h 0 113) - 1)) 52 ((h 0 20).toNat) 4) 55 ((h 0 20).toNat) 1) 0 7 ((h 0 7) + 1)) 6 ((h 0 17).toNat) 19) 7 ((h 0 17).toNat) 1) 8 ((h 0 17).toNat) (h 75 ((h 0 113) - 1).toNat)) 9 ((h 0 17).toNat) 0) 0 17 ((h 0 17) + 1)) 6 (((h 0 17) + 1).toNat) 37) 7 (((h 0 17) + 1).toNat) 59) 8 (((h 0 17) + 1).toNat) 0) 9 (((h 0 17) + 1).toNat) 0) 0 17 (((h 0 17) + 1) + 1)) 6 ((((h 0 17) + 1) + 1).toNat) 1) 7 ((((h 0 17) + 1) + 1).toNat) 0) 8 ((((h 0 17) + 1) + 1).toNat) 0) 9 ((((h 0 17) + 1) + 1).toNat) 0) 0 17 ((((h 0 17) + 1) + 1) + 1)) := g51
                  show mJ l D cA ad 3 cX12_evaluated 3 (some .boolean) 220 [(2, (0, (h 75 ((h 0 113) - 1).toNat))), (1, (0, 1)), (0, (2, ((0 : Nat) : Int)))] [(0, 1)] (ja_up (ja_up (ja_up (ja_up (ja_up (ja_up (ja_up (ja_up (ja_up (ja_up (ja_up (ja_up (ja_up (ja_up (ja_up (ja_up (ja_up (ja_up (ja_up h 0 113 ((h 0 113) - 1)) 52 ((h 0 20).toNat) 4) 55 ((h 0 20).toNat) 1) 0 7 ((h 0 7) + 1)) 6 ((h 0 17).toNat) 19) 7 ((h 0 17).toNat) 1) 8 ((h 0 17).toNat) (h 75 ((h 0 113) - 1).toNat)) 9 ((h 0 17).toNat) 0) 0 17 ((h 0 17) + 1)) 6 (((h 0 17) + 1).toNat) 37) 7 (((h 0 17) + 1).toNat) 59) 8 (((h 0 17) + 1).toNat) 0) 9 (((h 0 17) + 1).toNat) 0) 0 17 (((h 0 17) + 1) + 1)) 6 ((((h 0 17) + 1) + 1).toNat) 1) 7 ((((h 0 17) + 1) + 1).toNat) 0) 8 ((((h 0 17) + 1) + 1).toNat) 0) 9 ((((h 0 17) + 1) + 1).toNat) 0) 0 17 ((((h 0 17) + 1) + 1) + 1)) Q
                  refine ja_if_eq 227 devaluated_220 rfl ⟨by decide, by decide⟩ (fun c220 => absurd c220 (by omega)) (fun c220 => ?_)
                  refine ja_iconst devaluated_223 ?_
                  refine ja_goto 228 devaluated_224 rfl ?_
                  refine ja_zreturn devaluated_228 rfl (by omega) ?_
                  exact mo_fin (by omega) rfl (k1 (ja_up (ja_up (ja_up (ja_up (ja_up (ja_up (ja_up (ja_up (ja_up (ja_up (ja_up (ja_up (ja_up (ja_up (ja_up (ja_up (ja_up (ja_up (ja_up h 0 113 ((h 0 113) - 1)) 52 ((h 0 20).toNat) 4) 55 ((h 0 20).toNat) 1) 0 7 ((h 0 7) + 1)) 6 ((h 0 17).toNat) 19) 7 ((h 0 17).toNat) 1) 8 ((h 0 17).toNat) (h 75 ((h 0 113) - 1).toNat)) 9 ((h 0 17).toNat) 0) 0 17 ((h 0 17) + 1)) 6 (((h 0 17) + 1).toNat) 37) 7 (((h 0 17) + 1).toNat) 59) 8 (((h 0 17) + 1).toNat) 0) 9 (((h 0 17) + 1).toNat) 0) 0 17 (((h 0 17) + 1) + 1)) 6 ((((h 0 17) + 1) + 1).toNat) 1) 7 ((((h 0 17) + 1) + 1).toNat) 0) 8 ((((h 0 17) + 1) + 1).toNat) 0) 9 ((((h 0 17) + 1) + 1).toNat) 0) 0 17 ((((h 0 17) + 1) + 1) + 1)) ((by first | exact ab_assign2 g p1 p2 (by omega) | (exfalso; omega))) g51)
                · intro h52 k181_1 g53
                  replace k181_1 : 0 < (h52 0 8) ∧ (h52 0 1) = (h 0 1) ∧ (h52 0 118) = (h 0 118) ∧ (h52 0 127) = (h 0 127) := k181_1
                  refine ja_if_eq 227 devaluated_184 rfl ⟨by decide, by decide⟩ (fun c184 => ?_) (fun c184 => absurd c184 (by omega))
                  refine ja_iconst devaluated_227 ?_
                  refine ja_zreturn devaluated_228 rfl (by omega) ?_
                  exact mo_fin (by omega) rfl (k2 h52 (by omega) g53)
            · refine ja_aload_n devaluated_135 rfl rfl ?_
              refine fg_formA (v := h 0 20) rfl devaluated_136 ?_
              have f54 := gF_formA g
              refine ja_goto 151 devaluated_139 rfl ?_
              refine ja_istore_n devaluated_151 rfl (by decide) (L2 := [(2, (0, (h 0 20))), (1, (0, 1)), (0, (2, ((0 : Nat) : Int)))]) rfl ?_
              refine ja_aload_n devaluated_152 rfl rfl ?_
              refine fg_form (v := h 0 19) rfl devaluated_153 ?_
              refine ja_iconst devaluated_156 ?_
              refine ja_icmp_ne 180 devaluated_157 rfl ⟨by omega, by omega⟩ ⟨by decide, by decide⟩ (fun c157 => ?_) (fun c157 => ?_)
              · refine ja_aload_n devaluated_180 rfl rfl ?_
                refine t_take (by decide) (show (0 : Nat) ≤ 8 by decide) devaluated_181 g5  ?_ ?_
                · intro k181_0 g55
                  replace k181_0 : (h 0 7) < 900 := k181_0
                  replace g55 : mo_G (ja_up (ja_up h 0 113 ((h 0 113) - 1)) 0 7 ((h 0 7) + 1)) := g55
                  show mJ l D cA ad 3 cX12_evaluated 3 (some .boolean) 184 [(2, (0, (h 0 20))), (1, (0, 1)), (0, (2, ((0 : Nat) : Int)))] [(0, 1)] (ja_up (ja_up h 0 113 ((h 0 113) - 1)) 0 7 ((h 0 7) + 1)) Q
                  refine ja_if_eq 227 devaluated_184 rfl ⟨by decide, by decide⟩ (fun c184 => absurd c184 (by omega)) (fun c184 => ?_)
                  refine ja_aload_n devaluated_187 rfl rfl ?_
                  refine ja_bipush 19 devaluated_188 rfl ?_
                  refine ja_iload_n devaluated_190 rfl rfl ?_
                  refine ja_iload_n devaluated_191 rfl rfl ?_
                  refine ja_iconst devaluated_192 ?_
                  refine t_later (by decide) (show (0 : Nat) ≤ 8 by decide) devaluated_193 g55 ⟨by decide, by decide⟩ ⟨by decide, by decide⟩ ⟨by omega, by omega⟩ ⟨by decide, by decide⟩ (show 0 ≤ 19 ∧ 19 ≤ 38 by omega) (show (h 0 17) < 2000 by omega) ?_
                  intro g56
                  replace g56 : mo_G (ja_up (ja_up (ja_up (ja_up (ja_up (ja_up (ja_up h 0 113 ((h 0 113) - 1)) 0 7 ((h 0 7) + 1)) 6 ((h 0 17).toNat) 19) 7 ((h 0 17).toNat) 1) 8 ((h 0 17).toNat) (h 0 20)) 9 ((h 0 17).toNat) 0) 0 17 ((h 0 17) + 1)) := g56
                  show mJ l D cA ad 3 cX12_evaluated 3 (some .boolean) 196 [(2, (0, (h 0 20))), (1, (0, 1)), (0, (2, ((0 : Nat) : Int)))] [(0, 1)] (ja_up (ja_up (ja_up (ja_up (ja_up (ja_up (ja_up h 0 113 ((h 0 113) - 1)) 0 7 ((h 0 7) + 1)) 6 ((h 0 17).toNat) 19) 7 ((h 0 17).toNat) 1) 8 ((h 0 17).toNat) (h 0 20)) 9 ((h 0 17).toNat) 0) 0 17 ((h 0 17) + 1)) Q
                  refine ja_if_eq 227 devaluated_196 rfl ⟨by decide, by decide⟩ (fun c196 => absurd c196 (by omega)) (fun c196 => ?_)
                  refine ja_aload_n devaluated_199 rfl rfl ?_
                  refine ja_bipush 37 devaluated_200 rfl ?_
                  refine ja_bipush 59 devaluated_202 rfl ?_
                  refine ja_iconst devaluated_204 ?_
                  refine ja_iconst devaluated_205 ?_
                  refine t_later (by decide) (show (0 : Nat) ≤ 8 by decide) devaluated_206 g56 ⟨by decide, by decide⟩ ⟨by decide, by decide⟩ ⟨by decide, by decide⟩ ⟨by decide, by decide⟩ (show 0 ≤ 37 ∧ 37 ≤ 38 by omega) (show ((h 0 17) + 1) < 2000 by omega) ?_
                  intro g57
                  replace g57 : mo_G (ja_up (ja_up (ja_up (ja_up (ja_up (ja_up (ja_up (ja_up (ja_up (ja_up (ja_up (ja_up h 0 113 ((h 0 113) - 1)) 0 7 ((h 0 7) + 1)) 6 ((h 0 17).toNat) 19) 7 ((h 0 17).toNat) 1) 8 ((h 0 17).toNat) (h 0 20)) 9 ((h 0 17).toNat) 0) 0 17 ((h 0 17) + 1)) 6 (((h 0 17) + 1).toNat) 37) 7 (((h 0 17) + 1).toNat) 59) 8 (((h 0 17) + 1).toNat) 0) 9 (((h 0 17) + 1).toNat) 0) 0 17 (((h 0 17) + 1) + 1)) := g57
                  show mJ l D cA ad 3 cX12_evaluated 3 (some .boolean) 209 [(2, (0, (h 0 20))), (1, (0, 1)), (0, (2, ((0 : Nat) : Int)))] [(0, 1)] (ja_up (ja_up (ja_up (ja_up (ja_up (ja_up (ja_up (ja_up (ja_up (ja_up (ja_up (ja_up h 0 113 ((h 0 113) - 1)) 0 7 ((h 0 7) + 1)) 6 ((h 0 17).toNat) 19) 7 ((h 0 17).toNat) 1) 8 ((h 0 17).toNat) (h 0 20)) 9 ((h 0 17).toNat) 0) 0 17 ((h 0 17) + 1)) 6 (((h 0 17) + 1).toNat) 37) 7 (((h 0 17) + 1).toNat) 59) 8 (((h 0 17) + 1).toNat) 0) 9 (((h 0 17) + 1).toNat) 0) 0 17 (((h 0 17) + 1) + 1)) Q
                  refine ja_if_eq 227 devaluated_209 rfl ⟨by decide, by decide⟩ (fun c209 => absurd c209 (by omega)) (fun c209 => ?_)
                  refine ja_aload_n devaluated_212 rfl rfl ?_
                  refine ja_iconst devaluated_213 ?_
                  refine ja_iconst devaluated_214 ?_
                  refine ja_iconst devaluated_215 ?_
                  refine ja_iconst devaluated_216 ?_
                  refine t_later (by decide) (show (0 : Nat) ≤ 8 by decide) devaluated_217 g57 ⟨by decide, by decide⟩ ⟨by decide, by decide⟩ ⟨by decide, by decide⟩ ⟨by decide, by decide⟩ (show 0 ≤ 1 ∧ 1 ≤ 38 by omega) (show (((h 0 17) + 1) + 1) < 2000 by omega) ?_
                  intro g58
                  replace g58 : mo_G (ja_up (ja_up (ja_up (ja_up (ja_up (ja_up (ja_up (ja_up (ja_up (ja_up (ja_up (ja_up (ja_up (ja_up (ja_up (ja_up (ja_up h 0 113 ((h 0 113) - 1)) 0 7 ((h 0 7) + 1)) 6 ((h 0 17).toNat) 19) 7 ((h 0 17).toNat) 1) 8 ((h 0 17).toNat) (h 0 20)) 9 ((h 0 17).toNat) 0) 0 17 ((h 0 17) + 1)) 6 (((h 0 17) + 1).toNat) 37) 7 (((h 0 17) + 1).toNat) 59) 8 (((h 0 17) + 1).toNat) 0) 9 (((h 0 17) + 1).toNat) 0) 0 17 (((h 0 17) + 1) + 1)) 6 ((((h 0 17) + 1) + 1).toNat) 1) 7 ((((h 0 17) + 1) + 1).toNat) 0) 8 ((((h 0 17) + 1) + 1).toNat) 0) 9 ((((h 0 17) + 1) + 1).toNat) 0) 0 17 ((((h 0 17) + 1) + 1) + 1)) := g58
                  show mJ l D cA ad 3 cX12_evaluated 3 (some .boolean) 220 [(2, (0, (h 0 20))), (1, (0, 1)), (0, (2, ((0 : Nat) : Int)))] [(0, 1)] (ja_up (ja_up (ja_up (ja_up (ja_up (ja_up (ja_up (ja_up (ja_up (ja_up (ja_up (ja_up (ja_up (ja_up (ja_up (ja_up (ja_up h 0 113 ((h 0 113) - 1)) 0 7 ((h 0 7) + 1)) 6 ((h 0 17).toNat) 19) 7 ((h 0 17).toNat) 1) 8 ((h 0 17).toNat) (h 0 20)) 9 ((h 0 17).toNat) 0) 0 17 ((h 0 17) + 1)) 6 (((h 0 17) + 1).toNat) 37) 7 (((h 0 17) + 1).toNat) 59) 8 (((h 0 17) + 1).toNat) 0) 9 (((h 0 17) + 1).toNat) 0) 0 17 (((h 0 17) + 1) + 1)) 6 ((((h 0 17) + 1) + 1).toNat) 1) 7 ((((h 0 17) + 1) + 1).toNat) 0) 8 ((((h 0 17) + 1) + 1).toNat) 0) 9 ((((h 0 17) + 1) + 1).toNat) 0) 0 17 ((((h 0 17) + 1) + 1) + 1)) Q
                  refine ja_if_eq 227 devaluated_220 rfl ⟨by decide, by decide⟩ (fun c220 => absurd c220 (by omega)) (fun c220 => ?_)
                  refine ja_iconst devaluated_223 ?_
                  refine ja_goto 228 devaluated_224 rfl ?_
                  refine ja_zreturn devaluated_228 rfl (by omega) ?_
                  exact mo_fin (by omega) rfl (k1 (ja_up (ja_up (ja_up (ja_up (ja_up (ja_up (ja_up (ja_up (ja_up (ja_up (ja_up (ja_up (ja_up (ja_up (ja_up (ja_up (ja_up h 0 113 ((h 0 113) - 1)) 0 7 ((h 0 7) + 1)) 6 ((h 0 17).toNat) 19) 7 ((h 0 17).toNat) 1) 8 ((h 0 17).toNat) (h 0 20)) 9 ((h 0 17).toNat) 0) 0 17 ((h 0 17) + 1)) 6 (((h 0 17) + 1).toNat) 37) 7 (((h 0 17) + 1).toNat) 59) 8 (((h 0 17) + 1).toNat) 0) 9 (((h 0 17) + 1).toNat) 0) 0 17 (((h 0 17) + 1) + 1)) 6 ((((h 0 17) + 1) + 1).toNat) 1) 7 ((((h 0 17) + 1) + 1).toNat) 0) 8 ((((h 0 17) + 1) + 1).toNat) 0) 9 ((((h 0 17) + 1) + 1).toNat) 0) 0 17 ((((h 0 17) + 1) + 1) + 1)) ((by first | exact ab_assign1 (k := 1) g p1 p2 (by omega) (by omega) | (exfalso; omega))) g58)
                · intro h59 k181_1 g60
                  replace k181_1 : 0 < (h59 0 8) ∧ (h59 0 1) = (h 0 1) ∧ (h59 0 118) = (h 0 118) ∧ (h59 0 127) = (h 0 127) := k181_1
                  refine ja_if_eq 227 devaluated_184 rfl ⟨by decide, by decide⟩ (fun c184 => ?_) (fun c184 => absurd c184 (by omega))
                  refine ja_iconst devaluated_227 ?_
                  refine ja_zreturn devaluated_228 rfl (by omega) ?_
                  exact mo_fin (by omega) rfl (k2 h59 (by omega) g60)
              · refine ja_aload_n devaluated_160 rfl rfl ?_
                refine fa_pointKind devaluated_161 ?_
                refine ja_aload_n devaluated_164 rfl rfl ?_
                refine fg_formA (v := h 0 20) rfl devaluated_165 ?_
                refine ja_iconst devaluated_168 ?_
                have g61 := gW_pointKind g5 (h 0 20).toNat (x := 4) ⟨by decide, by decide⟩
                refine is_pointKind ⟨by omega, by omega⟩ devaluated_169 ?_
                refine ja_aload_n devaluated_170 rfl rfl ?_
                refine fa_pointArgs devaluated_171 ?_
                refine ja_aload_n devaluated_174 rfl rfl ?_
                refine fg_formA (v := h 0 20) rfl devaluated_175 ?_
                refine ja_iconst devaluated_178 ?_
                have g62 := gW_pointArgs g61 (h 0 20).toNat (x := 1) ⟨by decide, by decide⟩
                refine is_pointArgs ⟨by omega, by omega⟩ devaluated_179 ?_
                refine ja_aload_n devaluated_180 rfl rfl ?_
                refine t_take (by decide) (show (0 : Nat) ≤ 8 by decide) devaluated_181 g62  ?_ ?_
                · intro k181_0 g63
                  replace k181_0 : (h 0 7) < 900 := k181_0
                  replace g63 : mo_G (ja_up (ja_up (ja_up (ja_up h 0 113 ((h 0 113) - 1)) 52 ((h 0 20).toNat) 4) 55 ((h 0 20).toNat) 1) 0 7 ((h 0 7) + 1)) := g63
                  show mJ l D cA ad 3 cX12_evaluated 3 (some .boolean) 184 [(2, (0, (h 0 20))), (1, (0, 1)), (0, (2, ((0 : Nat) : Int)))] [(0, 1)] (ja_up (ja_up (ja_up (ja_up h 0 113 ((h 0 113) - 1)) 52 ((h 0 20).toNat) 4) 55 ((h 0 20).toNat) 1) 0 7 ((h 0 7) + 1)) Q
                  refine ja_if_eq 227 devaluated_184 rfl ⟨by decide, by decide⟩ (fun c184 => absurd c184 (by omega)) (fun c184 => ?_)
                  refine ja_aload_n devaluated_187 rfl rfl ?_
                  refine ja_bipush 19 devaluated_188 rfl ?_
                  refine ja_iload_n devaluated_190 rfl rfl ?_
                  refine ja_iload_n devaluated_191 rfl rfl ?_
                  refine ja_iconst devaluated_192 ?_
                  refine t_later (by decide) (show (0 : Nat) ≤ 8 by decide) devaluated_193 g63 ⟨by decide, by decide⟩ ⟨by decide, by decide⟩ ⟨by omega, by omega⟩ ⟨by decide, by decide⟩ (show 0 ≤ 19 ∧ 19 ≤ 38 by omega) (show (h 0 17) < 2000 by omega) ?_
                  intro g64
                  replace g64 : mo_G (ja_up (ja_up (ja_up (ja_up (ja_up (ja_up (ja_up (ja_up (ja_up h 0 113 ((h 0 113) - 1)) 52 ((h 0 20).toNat) 4) 55 ((h 0 20).toNat) 1) 0 7 ((h 0 7) + 1)) 6 ((h 0 17).toNat) 19) 7 ((h 0 17).toNat) 1) 8 ((h 0 17).toNat) (h 0 20)) 9 ((h 0 17).toNat) 0) 0 17 ((h 0 17) + 1)) := g64
                  show mJ l D cA ad 3 cX12_evaluated 3 (some .boolean) 196 [(2, (0, (h 0 20))), (1, (0, 1)), (0, (2, ((0 : Nat) : Int)))] [(0, 1)] (ja_up (ja_up (ja_up (ja_up (ja_up (ja_up (ja_up (ja_up (ja_up h 0 113 ((h 0 113) - 1)) 52 ((h 0 20).toNat) 4) 55 ((h 0 20).toNat) 1) 0 7 ((h 0 7) + 1)) 6 ((h 0 17).toNat) 19) 7 ((h 0 17).toNat) 1) 8 ((h 0 17).toNat) (h 0 20)) 9 ((h 0 17).toNat) 0) 0 17 ((h 0 17) + 1)) Q
                  refine ja_if_eq 227 devaluated_196 rfl ⟨by decide, by decide⟩ (fun c196 => absurd c196 (by omega)) (fun c196 => ?_)
                  refine ja_aload_n devaluated_199 rfl rfl ?_
                  refine ja_bipush 37 devaluated_200 rfl ?_
                  refine ja_bipush 59 devaluated_202 rfl ?_
                  refine ja_iconst devaluated_204 ?_
                  refine ja_iconst devaluated_205 ?_
                  refine t_later (by decide) (show (0 : Nat) ≤ 8 by decide) devaluated_206 g64 ⟨by decide, by decide⟩ ⟨by decide, by decide⟩ ⟨by decide, by decide⟩ ⟨by decide, by decide⟩ (show 0 ≤ 37 ∧ 37 ≤ 38 by omega) (show ((h 0 17) + 1) < 2000 by omega) ?_
                  intro g65
                  replace g65 : mo_G (ja_up (ja_up (ja_up (ja_up (ja_up (ja_up (ja_up (ja_up (ja_up (ja_up (ja_up (ja_up (ja_up (ja_up h 0 113 ((h 0 113) - 1)) 52 ((h 0 20).toNat) 4) 55 ((h 0 20).toNat) 1) 0 7 ((h 0 7) + 1)) 6 ((h 0 17).toNat) 19) 7 ((h 0 17).toNat) 1) 8 ((h 0 17).toNat) (h 0 20)) 9 ((h 0 17).toNat) 0) 0 17 ((h 0 17) + 1)) 6 (((h 0 17) + 1).toNat) 37) 7 (((h 0 17) + 1).toNat) 59) 8 (((h 0 17) + 1).toNat) 0) 9 (((h 0 17) + 1).toNat) 0) 0 17 (((h 0 17) + 1) + 1)) := g65
                  show mJ l D cA ad 3 cX12_evaluated 3 (some .boolean) 209 [(2, (0, (h 0 20))), (1, (0, 1)), (0, (2, ((0 : Nat) : Int)))] [(0, 1)] (ja_up (ja_up (ja_up (ja_up (ja_up (ja_up (ja_up (ja_up (ja_up (ja_up (ja_up (ja_up (ja_up (ja_up h 0 113 ((h 0 113) - 1)) 52 ((h 0 20).toNat) 4) 55 ((h 0 20).toNat) 1) 0 7 ((h 0 7) + 1)) 6 ((h 0 17).toNat) 19) 7 ((h 0 17).toNat) 1) 8 ((h 0 17).toNat) (h 0 20)) 9 ((h 0 17).toNat) 0) 0 17 ((h 0 17) + 1)) 6 (((h 0 17) + 1).toNat) 37) 7 (((h 0 17) + 1).toNat) 59) 8 (((h 0 17) + 1).toNat) 0) 9 (((h 0 17) + 1).toNat) 0) 0 17 (((h 0 17) + 1) + 1)) Q
                  refine ja_if_eq 227 devaluated_209 rfl ⟨by decide, by decide⟩ (fun c209 => absurd c209 (by omega)) (fun c209 => ?_)
                  refine ja_aload_n devaluated_212 rfl rfl ?_
                  refine ja_iconst devaluated_213 ?_
                  refine ja_iconst devaluated_214 ?_
                  refine ja_iconst devaluated_215 ?_
                  refine ja_iconst devaluated_216 ?_
                  refine t_later (by decide) (show (0 : Nat) ≤ 8 by decide) devaluated_217 g65 ⟨by decide, by decide⟩ ⟨by decide, by decide⟩ ⟨by decide, by decide⟩ ⟨by decide, by decide⟩ (show 0 ≤ 1 ∧ 1 ≤ 38 by omega) (show (((h 0 17) + 1) + 1) < 2000 by omega) ?_
                  intro g66
                  replace g66 : mo_G (ja_up (ja_up (ja_up (ja_up (ja_up (ja_up (ja_up (ja_up (ja_up (ja_up (ja_up (ja_up (ja_up (ja_up (ja_up (ja_up (ja_up (ja_up (ja_up h 0 113 ((h 0 113) - 1)) 52 ((h 0 20).toNat) 4) 55 ((h 0 20).toNat) 1) 0 7 ((h 0 7) + 1)) 6 ((h 0 17).toNat) 19) 7 ((h 0 17).toNat) 1) 8 ((h 0 17).toNat) (h 0 20)) 9 ((h 0 17).toNat) 0) 0 17 ((h 0 17) + 1)) 6 (((h 0 17) + 1).toNat) 37) 7 (((h 0 17) + 1).toNat) 59) 8 (((h 0 17) + 1).toNat) 0) 9 (((h 0 17) + 1).toNat) 0) 0 17 (((h 0 17) + 1) + 1)) 6 ((((h 0 17) + 1) + 1).toNat) 1) 7 ((((h 0 17) + 1) + 1).toNat) 0) 8 ((((h 0 17) + 1) + 1).toNat) 0) 9 ((((h 0 17) + 1) + 1).toNat) 0) 0 17 ((((h 0 17) + 1) + 1) + 1)) := g66
                  show mJ l D cA ad 3 cX12_evaluated 3 (some .boolean) 220 [(2, (0, (h 0 20))), (1, (0, 1)), (0, (2, ((0 : Nat) : Int)))] [(0, 1)] (ja_up (ja_up (ja_up (ja_up (ja_up (ja_up (ja_up (ja_up (ja_up (ja_up (ja_up (ja_up (ja_up (ja_up (ja_up (ja_up (ja_up (ja_up (ja_up h 0 113 ((h 0 113) - 1)) 52 ((h 0 20).toNat) 4) 55 ((h 0 20).toNat) 1) 0 7 ((h 0 7) + 1)) 6 ((h 0 17).toNat) 19) 7 ((h 0 17).toNat) 1) 8 ((h 0 17).toNat) (h 0 20)) 9 ((h 0 17).toNat) 0) 0 17 ((h 0 17) + 1)) 6 (((h 0 17) + 1).toNat) 37) 7 (((h 0 17) + 1).toNat) 59) 8 (((h 0 17) + 1).toNat) 0) 9 (((h 0 17) + 1).toNat) 0) 0 17 (((h 0 17) + 1) + 1)) 6 ((((h 0 17) + 1) + 1).toNat) 1) 7 ((((h 0 17) + 1) + 1).toNat) 0) 8 ((((h 0 17) + 1) + 1).toNat) 0) 9 ((((h 0 17) + 1) + 1).toNat) 0) 0 17 ((((h 0 17) + 1) + 1) + 1)) Q
                  refine ja_if_eq 227 devaluated_220 rfl ⟨by decide, by decide⟩ (fun c220 => absurd c220 (by omega)) (fun c220 => ?_)
                  refine ja_iconst devaluated_223 ?_
                  refine ja_goto 228 devaluated_224 rfl ?_
                  refine ja_zreturn devaluated_228 rfl (by omega) ?_
                  exact mo_fin (by omega) rfl (k1 (ja_up (ja_up (ja_up (ja_up (ja_up (ja_up (ja_up (ja_up (ja_up (ja_up (ja_up (ja_up (ja_up (ja_up (ja_up (ja_up (ja_up (ja_up (ja_up h 0 113 ((h 0 113) - 1)) 52 ((h 0 20).toNat) 4) 55 ((h 0 20).toNat) 1) 0 7 ((h 0 7) + 1)) 6 ((h 0 17).toNat) 19) 7 ((h 0 17).toNat) 1) 8 ((h 0 17).toNat) (h 0 20)) 9 ((h 0 17).toNat) 0) 0 17 ((h 0 17) + 1)) 6 (((h 0 17) + 1).toNat) 37) 7 (((h 0 17) + 1).toNat) 59) 8 (((h 0 17) + 1).toNat) 0) 9 (((h 0 17) + 1).toNat) 0) 0 17 (((h 0 17) + 1) + 1)) 6 ((((h 0 17) + 1) + 1).toNat) 1) 7 ((((h 0 17) + 1) + 1).toNat) 0) 8 ((((h 0 17) + 1) + 1).toNat) 0) 9 ((((h 0 17) + 1) + 1).toNat) 0) 0 17 ((((h 0 17) + 1) + 1) + 1)) ((by first | exact ab_assign2 g p1 p2 (by omega) | (exfalso; omega))) g66)
                · intro h67 k181_1 g68
                  replace k181_1 : 0 < (h67 0 8) ∧ (h67 0 1) = (h 0 1) ∧ (h67 0 118) = (h 0 118) ∧ (h67 0 127) = (h 0 127) := k181_1
                  refine ja_if_eq 227 devaluated_184 rfl ⟨by decide, by decide⟩ (fun c184 => ?_) (fun c184 => absurd c184 (by omega))
                  refine ja_iconst devaluated_227 ?_
                  refine ja_zreturn devaluated_228 rfl (by omega) ?_
                  exact mo_fin (by omega) rfl (k2 h67 (by omega) g68)
        · refine ja_iconst devaluated_103 ?_
          refine ja_goto 126 devaluated_104 rfl ?_
          refine ja_istore_n devaluated_126 rfl (by decide) (L2 := [(1, (0, 2)), (0, (2, ((0 : Nat) : Int)))]) rfl ?_
          refine ja_aload_n devaluated_127 rfl rfl ?_
          refine fg_form (v := h 0 19) rfl devaluated_128 ?_
          refine ja_iconst devaluated_131 ?_
          refine ja_icmp_ne 142 devaluated_132 rfl ⟨by omega, by omega⟩ ⟨by decide, by decide⟩ (fun c132 => ?_) (fun c132 => ?_)
          · refine ja_aload_n devaluated_142 rfl rfl ?_
            refine fa_opA devaluated_143 ?_
            refine ja_aload_n devaluated_146 rfl rfl ?_
            refine fg_words (v := (h 0 113) - 1) rfl devaluated_147 ?_
            refine il_opA (v := h 75 ((h 0 113) - 1).toNat) rfl ⟨by omega, by omega⟩ devaluated_150 ?_
            have f69 := gC_opA g ((h 0 113) - 1).toNat
            refine ja_istore_n devaluated_151 rfl (by decide) (L2 := [(2, (0, (h 75 ((h 0 113) - 1).toNat))), (1, (0, 2)), (0, (2, ((0 : Nat) : Int)))]) rfl ?_
            refine ja_aload_n devaluated_152 rfl rfl ?_
            refine fg_form (v := h 0 19) rfl devaluated_153 ?_
            refine ja_iconst devaluated_156 ?_
            refine ja_icmp_ne 180 devaluated_157 rfl ⟨by omega, by omega⟩ ⟨by decide, by decide⟩ (fun c157 => ?_) (fun c157 => ?_)
            · refine ja_aload_n devaluated_180 rfl rfl ?_
              refine t_take (by decide) (show (0 : Nat) ≤ 8 by decide) devaluated_181 g5  ?_ ?_
              · intro k181_0 g70
                replace k181_0 : (h 0 7) < 900 := k181_0
                replace g70 : mo_G (ja_up (ja_up h 0 113 ((h 0 113) - 1)) 0 7 ((h 0 7) + 1)) := g70
                show mJ l D cA ad 3 cX12_evaluated 3 (some .boolean) 184 [(2, (0, (h 75 ((h 0 113) - 1).toNat))), (1, (0, 2)), (0, (2, ((0 : Nat) : Int)))] [(0, 1)] (ja_up (ja_up h 0 113 ((h 0 113) - 1)) 0 7 ((h 0 7) + 1)) Q
                refine ja_if_eq 227 devaluated_184 rfl ⟨by decide, by decide⟩ (fun c184 => absurd c184 (by omega)) (fun c184 => ?_)
                refine ja_aload_n devaluated_187 rfl rfl ?_
                refine ja_bipush 19 devaluated_188 rfl ?_
                refine ja_iload_n devaluated_190 rfl rfl ?_
                refine ja_iload_n devaluated_191 rfl rfl ?_
                refine ja_iconst devaluated_192 ?_
                refine t_later (by decide) (show (0 : Nat) ≤ 8 by decide) devaluated_193 g70 ⟨by decide, by decide⟩ ⟨by decide, by decide⟩ ⟨by omega, by omega⟩ ⟨by decide, by decide⟩ (show 0 ≤ 19 ∧ 19 ≤ 38 by omega) (show (h 0 17) < 2000 by omega) ?_
                intro g71
                replace g71 : mo_G (ja_up (ja_up (ja_up (ja_up (ja_up (ja_up (ja_up h 0 113 ((h 0 113) - 1)) 0 7 ((h 0 7) + 1)) 6 ((h 0 17).toNat) 19) 7 ((h 0 17).toNat) 2) 8 ((h 0 17).toNat) (h 75 ((h 0 113) - 1).toNat)) 9 ((h 0 17).toNat) 0) 0 17 ((h 0 17) + 1)) := g71
                show mJ l D cA ad 3 cX12_evaluated 3 (some .boolean) 196 [(2, (0, (h 75 ((h 0 113) - 1).toNat))), (1, (0, 2)), (0, (2, ((0 : Nat) : Int)))] [(0, 1)] (ja_up (ja_up (ja_up (ja_up (ja_up (ja_up (ja_up h 0 113 ((h 0 113) - 1)) 0 7 ((h 0 7) + 1)) 6 ((h 0 17).toNat) 19) 7 ((h 0 17).toNat) 2) 8 ((h 0 17).toNat) (h 75 ((h 0 113) - 1).toNat)) 9 ((h 0 17).toNat) 0) 0 17 ((h 0 17) + 1)) Q
                refine ja_if_eq 227 devaluated_196 rfl ⟨by decide, by decide⟩ (fun c196 => absurd c196 (by omega)) (fun c196 => ?_)
                refine ja_aload_n devaluated_199 rfl rfl ?_
                refine ja_bipush 37 devaluated_200 rfl ?_
                refine ja_bipush 59 devaluated_202 rfl ?_
                refine ja_iconst devaluated_204 ?_
                refine ja_iconst devaluated_205 ?_
                refine t_later (by decide) (show (0 : Nat) ≤ 8 by decide) devaluated_206 g71 ⟨by decide, by decide⟩ ⟨by decide, by decide⟩ ⟨by decide, by decide⟩ ⟨by decide, by decide⟩ (show 0 ≤ 37 ∧ 37 ≤ 38 by omega) (show ((h 0 17) + 1) < 2000 by omega) ?_
                intro g72
                replace g72 : mo_G (ja_up (ja_up (ja_up (ja_up (ja_up (ja_up (ja_up (ja_up (ja_up (ja_up (ja_up (ja_up h 0 113 ((h 0 113) - 1)) 0 7 ((h 0 7) + 1)) 6 ((h 0 17).toNat) 19) 7 ((h 0 17).toNat) 2) 8 ((h 0 17).toNat) (h 75 ((h 0 113) - 1).toNat)) 9 ((h 0 17).toNat) 0) 0 17 ((h 0 17) + 1)) 6 (((h 0 17) + 1).toNat) 37) 7 (((h 0 17) + 1).toNat) 59) 8 (((h 0 17) + 1).toNat) 0) 9 (((h 0 17) + 1).toNat) 0) 0 17 (((h 0 17) + 1) + 1)) := g72
                show mJ l D cA ad 3 cX12_evaluated 3 (some .boolean) 209 [(2, (0, (h 75 ((h 0 113) - 1).toNat))), (1, (0, 2)), (0, (2, ((0 : Nat) : Int)))] [(0, 1)] (ja_up (ja_up (ja_up (ja_up (ja_up (ja_up (ja_up (ja_up (ja_up (ja_up (ja_up (ja_up h 0 113 ((h 0 113) - 1)) 0 7 ((h 0 7) + 1)) 6 ((h 0 17).toNat) 19) 7 ((h 0 17).toNat) 2) 8 ((h 0 17).toNat) (h 75 ((h 0 113) - 1).toNat)) 9 ((h 0 17).toNat) 0) 0 17 ((h 0 17) + 1)) 6 (((h 0 17) + 1).toNat) 37) 7 (((h 0 17) + 1).toNat) 59) 8 (((h 0 17) + 1).toNat) 0) 9 (((h 0 17) + 1).toNat) 0) 0 17 (((h 0 17) + 1) + 1)) Q
                refine ja_if_eq 227 devaluated_209 rfl ⟨by decide, by decide⟩ (fun c209 => absurd c209 (by omega)) (fun c209 => ?_)
                refine ja_aload_n devaluated_212 rfl rfl ?_
                refine ja_iconst devaluated_213 ?_
                refine ja_iconst devaluated_214 ?_
                refine ja_iconst devaluated_215 ?_
                refine ja_iconst devaluated_216 ?_
                refine t_later (by decide) (show (0 : Nat) ≤ 8 by decide) devaluated_217 g72 ⟨by decide, by decide⟩ ⟨by decide, by decide⟩ ⟨by decide, by decide⟩ ⟨by decide, by decide⟩ (show 0 ≤ 1 ∧ 1 ≤ 38 by omega) (show (((h 0 17) + 1) + 1) < 2000 by omega) ?_
                intro g73
                replace g73 : mo_G (ja_up (ja_up (ja_up (ja_up (ja_up (ja_up (ja_up (ja_up (ja_up (ja_up (ja_up (ja_up (ja_up (ja_up (ja_up (ja_up (ja_up h 0 113 ((h 0 113) - 1)) 0 7 ((h 0 7) + 1)) 6 ((h 0 17).toNat) 19) 7 ((h 0 17).toNat) 2) 8 ((h 0 17).toNat) (h 75 ((h 0 113) - 1).toNat)) 9 ((h 0 17).toNat) 0) 0 17 ((h 0 17) + 1)) 6 (((h 0 17) + 1).toNat) 37) 7 (((h 0 17) + 1).toNat) 59) 8 (((h 0 17) + 1).toNat) 0) 9 (((h 0 17) + 1).toNat) 0) 0 17 (((h 0 17) + 1) + 1)) 6 ((((h 0 17) + 1) + 1).toNat) 1) 7 ((((h 0 17) + 1) + 1).toNat) 0) 8 ((((h 0 17) + 1) + 1).toNat) 0) 9 ((((h 0 17) + 1) + 1).toNat) 0) 0 17 ((((h 0 17) + 1) + 1) + 1)) := g73
                show mJ l D cA ad 3 cX12_evaluated 3 (some .boolean) 220 [(2, (0, (h 75 ((h 0 113) - 1).toNat))), (1, (0, 2)), (0, (2, ((0 : Nat) : Int)))] [(0, 1)] (ja_up (ja_up (ja_up (ja_up (ja_up (ja_up (ja_up (ja_up (ja_up (ja_up (ja_up (ja_up (ja_up (ja_up (ja_up (ja_up (ja_up h 0 113 ((h 0 113) - 1)) 0 7 ((h 0 7) + 1)) 6 ((h 0 17).toNat) 19) 7 ((h 0 17).toNat) 2) 8 ((h 0 17).toNat) (h 75 ((h 0 113) - 1).toNat)) 9 ((h 0 17).toNat) 0) 0 17 ((h 0 17) + 1)) 6 (((h 0 17) + 1).toNat) 37) 7 (((h 0 17) + 1).toNat) 59) 8 (((h 0 17) + 1).toNat) 0) 9 (((h 0 17) + 1).toNat) 0) 0 17 (((h 0 17) + 1) + 1)) 6 ((((h 0 17) + 1) + 1).toNat) 1) 7 ((((h 0 17) + 1) + 1).toNat) 0) 8 ((((h 0 17) + 1) + 1).toNat) 0) 9 ((((h 0 17) + 1) + 1).toNat) 0) 0 17 ((((h 0 17) + 1) + 1) + 1)) Q
                refine ja_if_eq 227 devaluated_220 rfl ⟨by decide, by decide⟩ (fun c220 => absurd c220 (by omega)) (fun c220 => ?_)
                refine ja_iconst devaluated_223 ?_
                refine ja_goto 228 devaluated_224 rfl ?_
                refine ja_zreturn devaluated_228 rfl (by omega) ?_
                exact mo_fin (by omega) rfl (k1 (ja_up (ja_up (ja_up (ja_up (ja_up (ja_up (ja_up (ja_up (ja_up (ja_up (ja_up (ja_up (ja_up (ja_up (ja_up (ja_up (ja_up h 0 113 ((h 0 113) - 1)) 0 7 ((h 0 7) + 1)) 6 ((h 0 17).toNat) 19) 7 ((h 0 17).toNat) 2) 8 ((h 0 17).toNat) (h 75 ((h 0 113) - 1).toNat)) 9 ((h 0 17).toNat) 0) 0 17 ((h 0 17) + 1)) 6 (((h 0 17) + 1).toNat) 37) 7 (((h 0 17) + 1).toNat) 59) 8 (((h 0 17) + 1).toNat) 0) 9 (((h 0 17) + 1).toNat) 0) 0 17 (((h 0 17) + 1) + 1)) 6 ((((h 0 17) + 1) + 1).toNat) 1) 7 ((((h 0 17) + 1) + 1).toNat) 0) 8 ((((h 0 17) + 1) + 1).toNat) 0) 9 ((((h 0 17) + 1) + 1).toNat) 0) 0 17 ((((h 0 17) + 1) + 1) + 1)) ((by first | exact ab_assign1 (k := 2) g p1 p2 (by omega) (by omega) | (exfalso; omega))) g73)
              · intro h74 k181_1 g75
                replace k181_1 : 0 < (h74 0 8) ∧ (h74 0 1) = (h 0 1) ∧ (h74 0 118) = (h 0 118) ∧ (h74 0 127) = (h 0 127) := k181_1
                refine ja_if_eq 227 devaluated_184 rfl ⟨by decide, by decide⟩ (fun c184 => ?_) (fun c184 => absurd c184 (by omega))
                refine ja_iconst devaluated_227 ?_
                refine ja_zreturn devaluated_228 rfl (by omega) ?_
                exact mo_fin (by omega) rfl (k2 h74 (by omega) g75)
            · refine ja_aload_n devaluated_160 rfl rfl ?_
              refine fa_pointKind devaluated_161 ?_
              refine ja_aload_n devaluated_164 rfl rfl ?_
              refine fg_formA (v := h 0 20) rfl devaluated_165 ?_
              have f76 := gF_formA g
              refine ja_iconst devaluated_168 ?_
              have g77 := gW_pointKind g5 (h 0 20).toNat (x := 4) ⟨by decide, by decide⟩
              refine is_pointKind ⟨by omega, by omega⟩ devaluated_169 ?_
              refine ja_aload_n devaluated_170 rfl rfl ?_
              refine fa_pointArgs devaluated_171 ?_
              refine ja_aload_n devaluated_174 rfl rfl ?_
              refine fg_formA (v := h 0 20) rfl devaluated_175 ?_
              refine ja_iconst devaluated_178 ?_
              have g78 := gW_pointArgs g77 (h 0 20).toNat (x := 1) ⟨by decide, by decide⟩
              refine is_pointArgs ⟨by omega, by omega⟩ devaluated_179 ?_
              refine ja_aload_n devaluated_180 rfl rfl ?_
              refine t_take (by decide) (show (0 : Nat) ≤ 8 by decide) devaluated_181 g78  ?_ ?_
              · intro k181_0 g79
                replace k181_0 : (h 0 7) < 900 := k181_0
                replace g79 : mo_G (ja_up (ja_up (ja_up (ja_up h 0 113 ((h 0 113) - 1)) 52 ((h 0 20).toNat) 4) 55 ((h 0 20).toNat) 1) 0 7 ((h 0 7) + 1)) := g79
                show mJ l D cA ad 3 cX12_evaluated 3 (some .boolean) 184 [(2, (0, (h 75 ((h 0 113) - 1).toNat))), (1, (0, 2)), (0, (2, ((0 : Nat) : Int)))] [(0, 1)] (ja_up (ja_up (ja_up (ja_up h 0 113 ((h 0 113) - 1)) 52 ((h 0 20).toNat) 4) 55 ((h 0 20).toNat) 1) 0 7 ((h 0 7) + 1)) Q
                refine ja_if_eq 227 devaluated_184 rfl ⟨by decide, by decide⟩ (fun c184 => absurd c184 (by omega)) (fun c184 => ?_)
                refine ja_aload_n devaluated_187 rfl rfl ?_
                refine ja_bipush 19 devaluated_188 rfl ?_
                refine ja_iload_n devaluated_190 rfl rfl ?_
                refine ja_iload_n devaluated_191 rfl rfl ?_
                refine ja_iconst devaluated_192 ?_
                refine t_later (by decide) (show (0 : Nat) ≤ 8 by decide) devaluated_193 g79 ⟨by decide, by decide⟩ ⟨by decide, by decide⟩ ⟨by omega, by omega⟩ ⟨by decide, by decide⟩ (show 0 ≤ 19 ∧ 19 ≤ 38 by omega) (show (h 0 17) < 2000 by omega) ?_
                intro g80
                replace g80 : mo_G (ja_up (ja_up (ja_up (ja_up (ja_up (ja_up (ja_up (ja_up (ja_up h 0 113 ((h 0 113) - 1)) 52 ((h 0 20).toNat) 4) 55 ((h 0 20).toNat) 1) 0 7 ((h 0 7) + 1)) 6 ((h 0 17).toNat) 19) 7 ((h 0 17).toNat) 2) 8 ((h 0 17).toNat) (h 75 ((h 0 113) - 1).toNat)) 9 ((h 0 17).toNat) 0) 0 17 ((h 0 17) + 1)) := g80
                show mJ l D cA ad 3 cX12_evaluated 3 (some .boolean) 196 [(2, (0, (h 75 ((h 0 113) - 1).toNat))), (1, (0, 2)), (0, (2, ((0 : Nat) : Int)))] [(0, 1)] (ja_up (ja_up (ja_up (ja_up (ja_up (ja_up (ja_up (ja_up (ja_up h 0 113 ((h 0 113) - 1)) 52 ((h 0 20).toNat) 4) 55 ((h 0 20).toNat) 1) 0 7 ((h 0 7) + 1)) 6 ((h 0 17).toNat) 19) 7 ((h 0 17).toNat) 2) 8 ((h 0 17).toNat) (h 75 ((h 0 113) - 1).toNat)) 9 ((h 0 17).toNat) 0) 0 17 ((h 0 17) + 1)) Q
                refine ja_if_eq 227 devaluated_196 rfl ⟨by decide, by decide⟩ (fun c196 => absurd c196 (by omega)) (fun c196 => ?_)
                refine ja_aload_n devaluated_199 rfl rfl ?_
                refine ja_bipush 37 devaluated_200 rfl ?_
                refine ja_bipush 59 devaluated_202 rfl ?_
                refine ja_iconst devaluated_204 ?_
                refine ja_iconst devaluated_205 ?_
                refine t_later (by decide) (show (0 : Nat) ≤ 8 by decide) devaluated_206 g80 ⟨by decide, by decide⟩ ⟨by decide, by decide⟩ ⟨by decide, by decide⟩ ⟨by decide, by decide⟩ (show 0 ≤ 37 ∧ 37 ≤ 38 by omega) (show ((h 0 17) + 1) < 2000 by omega) ?_
                intro g81
                replace g81 : mo_G (ja_up (ja_up (ja_up (ja_up (ja_up (ja_up (ja_up (ja_up (ja_up (ja_up (ja_up (ja_up (ja_up (ja_up h 0 113 ((h 0 113) - 1)) 52 ((h 0 20).toNat) 4) 55 ((h 0 20).toNat) 1) 0 7 ((h 0 7) + 1)) 6 ((h 0 17).toNat) 19) 7 ((h 0 17).toNat) 2) 8 ((h 0 17).toNat) (h 75 ((h 0 113) - 1).toNat)) 9 ((h 0 17).toNat) 0) 0 17 ((h 0 17) + 1)) 6 (((h 0 17) + 1).toNat) 37) 7 (((h 0 17) + 1).toNat) 59) 8 (((h 0 17) + 1).toNat) 0) 9 (((h 0 17) + 1).toNat) 0) 0 17 (((h 0 17) + 1) + 1)) := g81
                show mJ l D cA ad 3 cX12_evaluated 3 (some .boolean) 209 [(2, (0, (h 75 ((h 0 113) - 1).toNat))), (1, (0, 2)), (0, (2, ((0 : Nat) : Int)))] [(0, 1)] (ja_up (ja_up (ja_up (ja_up (ja_up (ja_up (ja_up (ja_up (ja_up (ja_up (ja_up (ja_up (ja_up (ja_up h 0 113 ((h 0 113) - 1)) 52 ((h 0 20).toNat) 4) 55 ((h 0 20).toNat) 1) 0 7 ((h 0 7) + 1)) 6 ((h 0 17).toNat) 19) 7 ((h 0 17).toNat) 2) 8 ((h 0 17).toNat) (h 75 ((h 0 113) - 1).toNat)) 9 ((h 0 17).toNat) 0) 0 17 ((h 0 17) + 1)) 6 (((h 0 17) + 1).toNat) 37) 7 (((h 0 17) + 1).toNat) 59) 8 (((h 0 17) + 1).toNat) 0) 9 (((h 0 17) + 1).toNat) 0) 0 17 (((h 0 17) + 1) + 1)) Q
                refine ja_if_eq 227 devaluated_209 rfl ⟨by decide, by decide⟩ (fun c209 => absurd c209 (by omega)) (fun c209 => ?_)
                refine ja_aload_n devaluated_212 rfl rfl ?_
                refine ja_iconst devaluated_213 ?_
                refine ja_iconst devaluated_214 ?_
                refine ja_iconst devaluated_215 ?_
                refine ja_iconst devaluated_216 ?_
                refine t_later (by decide) (show (0 : Nat) ≤ 8 by decide) devaluated_217 g81 ⟨by decide, by decide⟩ ⟨by decide, by decide⟩ ⟨by decide, by decide⟩ ⟨by decide, by decide⟩ (show 0 ≤ 1 ∧ 1 ≤ 38 by omega) (show (((h 0 17) + 1) + 1) < 2000 by omega) ?_
                intro g82
                replace g82 : mo_G (ja_up (ja_up (ja_up (ja_up (ja_up (ja_up (ja_up (ja_up (ja_up (ja_up (ja_up (ja_up (ja_up (ja_up (ja_up (ja_up (ja_up (ja_up (ja_up h 0 113 ((h 0 113) - 1)) 52 ((h 0 20).toNat) 4) 55 ((h 0 20).toNat) 1) 0 7 ((h 0 7) + 1)) 6 ((h 0 17).toNat) 19) 7 ((h 0 17).toNat) 2) 8 ((h 0 17).toNat) (h 75 ((h 0 113) - 1).toNat)) 9 ((h 0 17).toNat) 0) 0 17 ((h 0 17) + 1)) 6 (((h 0 17) + 1).toNat) 37) 7 (((h 0 17) + 1).toNat) 59) 8 (((h 0 17) + 1).toNat) 0) 9 (((h 0 17) + 1).toNat) 0) 0 17 (((h 0 17) + 1) + 1)) 6 ((((h 0 17) + 1) + 1).toNat) 1) 7 ((((h 0 17) + 1) + 1).toNat) 0) 8 ((((h 0 17) + 1) + 1).toNat) 0) 9 ((((h 0 17) + 1) + 1).toNat) 0) 0 17 ((((h 0 17) + 1) + 1) + 1)) := g82
                show mJ l D cA ad 3 cX12_evaluated 3 (some .boolean) 220 [(2, (0, (h 75 ((h 0 113) - 1).toNat))), (1, (0, 2)), (0, (2, ((0 : Nat) : Int)))] [(0, 1)] (ja_up (ja_up (ja_up (ja_up (ja_up (ja_up (ja_up (ja_up (ja_up (ja_up (ja_up (ja_up (ja_up (ja_up (ja_up (ja_up (ja_up (ja_up (ja_up h 0 113 ((h 0 113) - 1)) 52 ((h 0 20).toNat) 4) 55 ((h 0 20).toNat) 1) 0 7 ((h 0 7) + 1)) 6 ((h 0 17).toNat) 19) 7 ((h 0 17).toNat) 2) 8 ((h 0 17).toNat) (h 75 ((h 0 113) - 1).toNat)) 9 ((h 0 17).toNat) 0) 0 17 ((h 0 17) + 1)) 6 (((h 0 17) + 1).toNat) 37) 7 (((h 0 17) + 1).toNat) 59) 8 (((h 0 17) + 1).toNat) 0) 9 (((h 0 17) + 1).toNat) 0) 0 17 (((h 0 17) + 1) + 1)) 6 ((((h 0 17) + 1) + 1).toNat) 1) 7 ((((h 0 17) + 1) + 1).toNat) 0) 8 ((((h 0 17) + 1) + 1).toNat) 0) 9 ((((h 0 17) + 1) + 1).toNat) 0) 0 17 ((((h 0 17) + 1) + 1) + 1)) Q
                refine ja_if_eq 227 devaluated_220 rfl ⟨by decide, by decide⟩ (fun c220 => absurd c220 (by omega)) (fun c220 => ?_)
                refine ja_iconst devaluated_223 ?_
                refine ja_goto 228 devaluated_224 rfl ?_
                refine ja_zreturn devaluated_228 rfl (by omega) ?_
                exact mo_fin (by omega) rfl (k1 (ja_up (ja_up (ja_up (ja_up (ja_up (ja_up (ja_up (ja_up (ja_up (ja_up (ja_up (ja_up (ja_up (ja_up (ja_up (ja_up (ja_up (ja_up (ja_up h 0 113 ((h 0 113) - 1)) 52 ((h 0 20).toNat) 4) 55 ((h 0 20).toNat) 1) 0 7 ((h 0 7) + 1)) 6 ((h 0 17).toNat) 19) 7 ((h 0 17).toNat) 2) 8 ((h 0 17).toNat) (h 75 ((h 0 113) - 1).toNat)) 9 ((h 0 17).toNat) 0) 0 17 ((h 0 17) + 1)) 6 (((h 0 17) + 1).toNat) 37) 7 (((h 0 17) + 1).toNat) 59) 8 (((h 0 17) + 1).toNat) 0) 9 (((h 0 17) + 1).toNat) 0) 0 17 (((h 0 17) + 1) + 1)) 6 ((((h 0 17) + 1) + 1).toNat) 1) 7 ((((h 0 17) + 1) + 1).toNat) 0) 8 ((((h 0 17) + 1) + 1).toNat) 0) 9 ((((h 0 17) + 1) + 1).toNat) 0) 0 17 ((((h 0 17) + 1) + 1) + 1)) ((by first | exact ab_assign2 g p1 p2 (by omega) | (exfalso; omega))) g82)
              · intro h83 k181_1 g84
                replace k181_1 : 0 < (h83 0 8) ∧ (h83 0 1) = (h 0 1) ∧ (h83 0 118) = (h 0 118) ∧ (h83 0 127) = (h 0 127) := k181_1
                refine ja_if_eq 227 devaluated_184 rfl ⟨by decide, by decide⟩ (fun c184 => ?_) (fun c184 => absurd c184 (by omega))
                refine ja_iconst devaluated_227 ?_
                refine ja_zreturn devaluated_228 rfl (by omega) ?_
                exact mo_fin (by omega) rfl (k2 h83 (by omega) g84)
          · refine ja_aload_n devaluated_135 rfl rfl ?_
            refine fg_formA (v := h 0 20) rfl devaluated_136 ?_
            have f85 := gF_formA g
            refine ja_goto 151 devaluated_139 rfl ?_
            refine ja_istore_n devaluated_151 rfl (by decide) (L2 := [(2, (0, (h 0 20))), (1, (0, 2)), (0, (2, ((0 : Nat) : Int)))]) rfl ?_
            refine ja_aload_n devaluated_152 rfl rfl ?_
            refine fg_form (v := h 0 19) rfl devaluated_153 ?_
            refine ja_iconst devaluated_156 ?_
            refine ja_icmp_ne 180 devaluated_157 rfl ⟨by omega, by omega⟩ ⟨by decide, by decide⟩ (fun c157 => ?_) (fun c157 => ?_)
            · refine ja_aload_n devaluated_180 rfl rfl ?_
              refine t_take (by decide) (show (0 : Nat) ≤ 8 by decide) devaluated_181 g5  ?_ ?_
              · intro k181_0 g86
                replace k181_0 : (h 0 7) < 900 := k181_0
                replace g86 : mo_G (ja_up (ja_up h 0 113 ((h 0 113) - 1)) 0 7 ((h 0 7) + 1)) := g86
                show mJ l D cA ad 3 cX12_evaluated 3 (some .boolean) 184 [(2, (0, (h 0 20))), (1, (0, 2)), (0, (2, ((0 : Nat) : Int)))] [(0, 1)] (ja_up (ja_up h 0 113 ((h 0 113) - 1)) 0 7 ((h 0 7) + 1)) Q
                refine ja_if_eq 227 devaluated_184 rfl ⟨by decide, by decide⟩ (fun c184 => absurd c184 (by omega)) (fun c184 => ?_)
                refine ja_aload_n devaluated_187 rfl rfl ?_
                refine ja_bipush 19 devaluated_188 rfl ?_
                refine ja_iload_n devaluated_190 rfl rfl ?_
                refine ja_iload_n devaluated_191 rfl rfl ?_
                refine ja_iconst devaluated_192 ?_
                refine t_later (by decide) (show (0 : Nat) ≤ 8 by decide) devaluated_193 g86 ⟨by decide, by decide⟩ ⟨by decide, by decide⟩ ⟨by omega, by omega⟩ ⟨by decide, by decide⟩ (show 0 ≤ 19 ∧ 19 ≤ 38 by omega) (show (h 0 17) < 2000 by omega) ?_
                intro g87
                replace g87 : mo_G (ja_up (ja_up (ja_up (ja_up (ja_up (ja_up (ja_up h 0 113 ((h 0 113) - 1)) 0 7 ((h 0 7) + 1)) 6 ((h 0 17).toNat) 19) 7 ((h 0 17).toNat) 2) 8 ((h 0 17).toNat) (h 0 20)) 9 ((h 0 17).toNat) 0) 0 17 ((h 0 17) + 1)) := g87
                show mJ l D cA ad 3 cX12_evaluated 3 (some .boolean) 196 [(2, (0, (h 0 20))), (1, (0, 2)), (0, (2, ((0 : Nat) : Int)))] [(0, 1)] (ja_up (ja_up (ja_up (ja_up (ja_up (ja_up (ja_up h 0 113 ((h 0 113) - 1)) 0 7 ((h 0 7) + 1)) 6 ((h 0 17).toNat) 19) 7 ((h 0 17).toNat) 2) 8 ((h 0 17).toNat) (h 0 20)) 9 ((h 0 17).toNat) 0) 0 17 ((h 0 17) + 1)) Q
                refine ja_if_eq 227 devaluated_196 rfl ⟨by decide, by decide⟩ (fun c196 => absurd c196 (by omega)) (fun c196 => ?_)
                refine ja_aload_n devaluated_199 rfl rfl ?_
                refine ja_bipush 37 devaluated_200 rfl ?_
                refine ja_bipush 59 devaluated_202 rfl ?_
                refine ja_iconst devaluated_204 ?_
                refine ja_iconst devaluated_205 ?_
                refine t_later (by decide) (show (0 : Nat) ≤ 8 by decide) devaluated_206 g87 ⟨by decide, by decide⟩ ⟨by decide, by decide⟩ ⟨by decide, by decide⟩ ⟨by decide, by decide⟩ (show 0 ≤ 37 ∧ 37 ≤ 38 by omega) (show ((h 0 17) + 1) < 2000 by omega) ?_
                intro g88
                replace g88 : mo_G (ja_up (ja_up (ja_up (ja_up (ja_up (ja_up (ja_up (ja_up (ja_up (ja_up (ja_up (ja_up h 0 113 ((h 0 113) - 1)) 0 7 ((h 0 7) + 1)) 6 ((h 0 17).toNat) 19) 7 ((h 0 17).toNat) 2) 8 ((h 0 17).toNat) (h 0 20)) 9 ((h 0 17).toNat) 0) 0 17 ((h 0 17) + 1)) 6 (((h 0 17) + 1).toNat) 37) 7 (((h 0 17) + 1).toNat) 59) 8 (((h 0 17) + 1).toNat) 0) 9 (((h 0 17) + 1).toNat) 0) 0 17 (((h 0 17) + 1) + 1)) := g88
                show mJ l D cA ad 3 cX12_evaluated 3 (some .boolean) 209 [(2, (0, (h 0 20))), (1, (0, 2)), (0, (2, ((0 : Nat) : Int)))] [(0, 1)] (ja_up (ja_up (ja_up (ja_up (ja_up (ja_up (ja_up (ja_up (ja_up (ja_up (ja_up (ja_up h 0 113 ((h 0 113) - 1)) 0 7 ((h 0 7) + 1)) 6 ((h 0 17).toNat) 19) 7 ((h 0 17).toNat) 2) 8 ((h 0 17).toNat) (h 0 20)) 9 ((h 0 17).toNat) 0) 0 17 ((h 0 17) + 1)) 6 (((h 0 17) + 1).toNat) 37) 7 (((h 0 17) + 1).toNat) 59) 8 (((h 0 17) + 1).toNat) 0) 9 (((h 0 17) + 1).toNat) 0) 0 17 (((h 0 17) + 1) + 1)) Q
                refine ja_if_eq 227 devaluated_209 rfl ⟨by decide, by decide⟩ (fun c209 => absurd c209 (by omega)) (fun c209 => ?_)
                refine ja_aload_n devaluated_212 rfl rfl ?_
                refine ja_iconst devaluated_213 ?_
                refine ja_iconst devaluated_214 ?_
                refine ja_iconst devaluated_215 ?_
                refine ja_iconst devaluated_216 ?_
                refine t_later (by decide) (show (0 : Nat) ≤ 8 by decide) devaluated_217 g88 ⟨by decide, by decide⟩ ⟨by decide, by decide⟩ ⟨by decide, by decide⟩ ⟨by decide, by decide⟩ (show 0 ≤ 1 ∧ 1 ≤ 38 by omega) (show (((h 0 17) + 1) + 1) < 2000 by omega) ?_
                intro g89
                replace g89 : mo_G (ja_up (ja_up (ja_up (ja_up (ja_up (ja_up (ja_up (ja_up (ja_up (ja_up (ja_up (ja_up (ja_up (ja_up (ja_up (ja_up (ja_up h 0 113 ((h 0 113) - 1)) 0 7 ((h 0 7) + 1)) 6 ((h 0 17).toNat) 19) 7 ((h 0 17).toNat) 2) 8 ((h 0 17).toNat) (h 0 20)) 9 ((h 0 17).toNat) 0) 0 17 ((h 0 17) + 1)) 6 (((h 0 17) + 1).toNat) 37) 7 (((h 0 17) + 1).toNat) 59) 8 (((h 0 17) + 1).toNat) 0) 9 (((h 0 17) + 1).toNat) 0) 0 17 (((h 0 17) + 1) + 1)) 6 ((((h 0 17) + 1) + 1).toNat) 1) 7 ((((h 0 17) + 1) + 1).toNat) 0) 8 ((((h 0 17) + 1) + 1).toNat) 0) 9 ((((h 0 17) + 1) + 1).toNat) 0) 0 17 ((((h 0 17) + 1) + 1) + 1)) := g89
                show mJ l D cA ad 3 cX12_evaluated 3 (some .boolean) 220 [(2, (0, (h 0 20))), (1, (0, 2)), (0, (2, ((0 : Nat) : Int)))] [(0, 1)] (ja_up (ja_up (ja_up (ja_up (ja_up (ja_up (ja_up (ja_up (ja_up (ja_up (ja_up (ja_up (ja_up (ja_up (ja_up (ja_up (ja_up h 0 113 ((h 0 113) - 1)) 0 7 ((h 0 7) + 1)) 6 ((h 0 17).toNat) 19) 7 ((h 0 17).toNat) 2) 8 ((h 0 17).toNat) (h 0 20)) 9 ((h 0 17).toNat) 0) 0 17 ((h 0 17) + 1)) 6 (((h 0 17) + 1).toNat) 37) 7 (((h 0 17) + 1).toNat) 59) 8 (((h 0 17) + 1).toNat) 0) 9 (((h 0 17) + 1).toNat) 0) 0 17 (((h 0 17) + 1) + 1)) 6 ((((h 0 17) + 1) + 1).toNat) 1) 7 ((((h 0 17) + 1) + 1).toNat) 0) 8 ((((h 0 17) + 1) + 1).toNat) 0) 9 ((((h 0 17) + 1) + 1).toNat) 0) 0 17 ((((h 0 17) + 1) + 1) + 1)) Q
                refine ja_if_eq 227 devaluated_220 rfl ⟨by decide, by decide⟩ (fun c220 => absurd c220 (by omega)) (fun c220 => ?_)
                refine ja_iconst devaluated_223 ?_
                refine ja_goto 228 devaluated_224 rfl ?_
                refine ja_zreturn devaluated_228 rfl (by omega) ?_
                exact mo_fin (by omega) rfl (k1 (ja_up (ja_up (ja_up (ja_up (ja_up (ja_up (ja_up (ja_up (ja_up (ja_up (ja_up (ja_up (ja_up (ja_up (ja_up (ja_up (ja_up h 0 113 ((h 0 113) - 1)) 0 7 ((h 0 7) + 1)) 6 ((h 0 17).toNat) 19) 7 ((h 0 17).toNat) 2) 8 ((h 0 17).toNat) (h 0 20)) 9 ((h 0 17).toNat) 0) 0 17 ((h 0 17) + 1)) 6 (((h 0 17) + 1).toNat) 37) 7 (((h 0 17) + 1).toNat) 59) 8 (((h 0 17) + 1).toNat) 0) 9 (((h 0 17) + 1).toNat) 0) 0 17 (((h 0 17) + 1) + 1)) 6 ((((h 0 17) + 1) + 1).toNat) 1) 7 ((((h 0 17) + 1) + 1).toNat) 0) 8 ((((h 0 17) + 1) + 1).toNat) 0) 9 ((((h 0 17) + 1) + 1).toNat) 0) 0 17 ((((h 0 17) + 1) + 1) + 1)) ((by first | exact ab_assign1 (k := 2) g p1 p2 (by omega) (by omega) | (exfalso; omega))) g89)
              · intro h90 k181_1 g91
                replace k181_1 : 0 < (h90 0 8) ∧ (h90 0 1) = (h 0 1) ∧ (h90 0 118) = (h 0 118) ∧ (h90 0 127) = (h 0 127) := k181_1
                refine ja_if_eq 227 devaluated_184 rfl ⟨by decide, by decide⟩ (fun c184 => ?_) (fun c184 => absurd c184 (by omega))
                refine ja_iconst devaluated_227 ?_
                refine ja_zreturn devaluated_228 rfl (by omega) ?_
                exact mo_fin (by omega) rfl (k2 h90 (by omega) g91)
            · refine ja_aload_n devaluated_160 rfl rfl ?_
              refine fa_pointKind devaluated_161 ?_
              refine ja_aload_n devaluated_164 rfl rfl ?_
              refine fg_formA (v := h 0 20) rfl devaluated_165 ?_
              refine ja_iconst devaluated_168 ?_
              have g92 := gW_pointKind g5 (h 0 20).toNat (x := 4) ⟨by decide, by decide⟩
              refine is_pointKind ⟨by omega, by omega⟩ devaluated_169 ?_
              refine ja_aload_n devaluated_170 rfl rfl ?_
              refine fa_pointArgs devaluated_171 ?_
              refine ja_aload_n devaluated_174 rfl rfl ?_
              refine fg_formA (v := h 0 20) rfl devaluated_175 ?_
              refine ja_iconst devaluated_178 ?_
              have g93 := gW_pointArgs g92 (h 0 20).toNat (x := 1) ⟨by decide, by decide⟩
              refine is_pointArgs ⟨by omega, by omega⟩ devaluated_179 ?_
              refine ja_aload_n devaluated_180 rfl rfl ?_
              refine t_take (by decide) (show (0 : Nat) ≤ 8 by decide) devaluated_181 g93  ?_ ?_
              · intro k181_0 g94
                replace k181_0 : (h 0 7) < 900 := k181_0
                replace g94 : mo_G (ja_up (ja_up (ja_up (ja_up h 0 113 ((h 0 113) - 1)) 52 ((h 0 20).toNat) 4) 55 ((h 0 20).toNat) 1) 0 7 ((h 0 7) + 1)) := g94
                show mJ l D cA ad 3 cX12_evaluated 3 (some .boolean) 184 [(2, (0, (h 0 20))), (1, (0, 2)), (0, (2, ((0 : Nat) : Int)))] [(0, 1)] (ja_up (ja_up (ja_up (ja_up h 0 113 ((h 0 113) - 1)) 52 ((h 0 20).toNat) 4) 55 ((h 0 20).toNat) 1) 0 7 ((h 0 7) + 1)) Q
                refine ja_if_eq 227 devaluated_184 rfl ⟨by decide, by decide⟩ (fun c184 => absurd c184 (by omega)) (fun c184 => ?_)
                refine ja_aload_n devaluated_187 rfl rfl ?_
                refine ja_bipush 19 devaluated_188 rfl ?_
                refine ja_iload_n devaluated_190 rfl rfl ?_
                refine ja_iload_n devaluated_191 rfl rfl ?_
                refine ja_iconst devaluated_192 ?_
                refine t_later (by decide) (show (0 : Nat) ≤ 8 by decide) devaluated_193 g94 ⟨by decide, by decide⟩ ⟨by decide, by decide⟩ ⟨by omega, by omega⟩ ⟨by decide, by decide⟩ (show 0 ≤ 19 ∧ 19 ≤ 38 by omega) (show (h 0 17) < 2000 by omega) ?_
                intro g95
                replace g95 : mo_G (ja_up (ja_up (ja_up (ja_up (ja_up (ja_up (ja_up (ja_up (ja_up h 0 113 ((h 0 113) - 1)) 52 ((h 0 20).toNat) 4) 55 ((h 0 20).toNat) 1) 0 7 ((h 0 7) + 1)) 6 ((h 0 17).toNat) 19) 7 ((h 0 17).toNat) 2) 8 ((h 0 17).toNat) (h 0 20)) 9 ((h 0 17).toNat) 0) 0 17 ((h 0 17) + 1)) := g95
                show mJ l D cA ad 3 cX12_evaluated 3 (some .boolean) 196 [(2, (0, (h 0 20))), (1, (0, 2)), (0, (2, ((0 : Nat) : Int)))] [(0, 1)] (ja_up (ja_up (ja_up (ja_up (ja_up (ja_up (ja_up (ja_up (ja_up h 0 113 ((h 0 113) - 1)) 52 ((h 0 20).toNat) 4) 55 ((h 0 20).toNat) 1) 0 7 ((h 0 7) + 1)) 6 ((h 0 17).toNat) 19) 7 ((h 0 17).toNat) 2) 8 ((h 0 17).toNat) (h 0 20)) 9 ((h 0 17).toNat) 0) 0 17 ((h 0 17) + 1)) Q
                refine ja_if_eq 227 devaluated_196 rfl ⟨by decide, by decide⟩ (fun c196 => absurd c196 (by omega)) (fun c196 => ?_)
                refine ja_aload_n devaluated_199 rfl rfl ?_
                refine ja_bipush 37 devaluated_200 rfl ?_
                refine ja_bipush 59 devaluated_202 rfl ?_
                refine ja_iconst devaluated_204 ?_
                refine ja_iconst devaluated_205 ?_
                refine t_later (by decide) (show (0 : Nat) ≤ 8 by decide) devaluated_206 g95 ⟨by decide, by decide⟩ ⟨by decide, by decide⟩ ⟨by decide, by decide⟩ ⟨by decide, by decide⟩ (show 0 ≤ 37 ∧ 37 ≤ 38 by omega) (show ((h 0 17) + 1) < 2000 by omega) ?_
                intro g96
                replace g96 : mo_G (ja_up (ja_up (ja_up (ja_up (ja_up (ja_up (ja_up (ja_up (ja_up (ja_up (ja_up (ja_up (ja_up (ja_up h 0 113 ((h 0 113) - 1)) 52 ((h 0 20).toNat) 4) 55 ((h 0 20).toNat) 1) 0 7 ((h 0 7) + 1)) 6 ((h 0 17).toNat) 19) 7 ((h 0 17).toNat) 2) 8 ((h 0 17).toNat) (h 0 20)) 9 ((h 0 17).toNat) 0) 0 17 ((h 0 17) + 1)) 6 (((h 0 17) + 1).toNat) 37) 7 (((h 0 17) + 1).toNat) 59) 8 (((h 0 17) + 1).toNat) 0) 9 (((h 0 17) + 1).toNat) 0) 0 17 (((h 0 17) + 1) + 1)) := g96
                show mJ l D cA ad 3 cX12_evaluated 3 (some .boolean) 209 [(2, (0, (h 0 20))), (1, (0, 2)), (0, (2, ((0 : Nat) : Int)))] [(0, 1)] (ja_up (ja_up (ja_up (ja_up (ja_up (ja_up (ja_up (ja_up (ja_up (ja_up (ja_up (ja_up (ja_up (ja_up h 0 113 ((h 0 113) - 1)) 52 ((h 0 20).toNat) 4) 55 ((h 0 20).toNat) 1) 0 7 ((h 0 7) + 1)) 6 ((h 0 17).toNat) 19) 7 ((h 0 17).toNat) 2) 8 ((h 0 17).toNat) (h 0 20)) 9 ((h 0 17).toNat) 0) 0 17 ((h 0 17) + 1)) 6 (((h 0 17) + 1).toNat) 37) 7 (((h 0 17) + 1).toNat) 59) 8 (((h 0 17) + 1).toNat) 0) 9 (((h 0 17) + 1).toNat) 0) 0 17 (((h 0 17) + 1) + 1)) Q
                refine ja_if_eq 227 devaluated_209 rfl ⟨by decide, by decide⟩ (fun c209 => absurd c209 (by omega)) (fun c209 => ?_)
                refine ja_aload_n devaluated_212 rfl rfl ?_
                refine ja_iconst devaluated_213 ?_
                refine ja_iconst devaluated_214 ?_
                refine ja_iconst devaluated_215 ?_
                refine ja_iconst devaluated_216 ?_
                refine t_later (by decide) (show (0 : Nat) ≤ 8 by decide) devaluated_217 g96 ⟨by decide, by decide⟩ ⟨by decide, by decide⟩ ⟨by decide, by decide⟩ ⟨by decide, by decide⟩ (show 0 ≤ 1 ∧ 1 ≤ 38 by omega) (show (((h 0 17) + 1) + 1) < 2000 by omega) ?_
                intro g97
                replace g97 : mo_G (ja_up (ja_up (ja_up (ja_up (ja_up (ja_up (ja_up (ja_up (ja_up (ja_up (ja_up (ja_up (ja_up (ja_up (ja_up (ja_up (ja_up (ja_up (ja_up h 0 113 ((h 0 113) - 1)) 52 ((h 0 20).toNat) 4) 55 ((h 0 20).toNat) 1) 0 7 ((h 0 7) + 1)) 6 ((h 0 17).toNat) 19) 7 ((h 0 17).toNat) 2) 8 ((h 0 17).toNat) (h 0 20)) 9 ((h 0 17).toNat) 0) 0 17 ((h 0 17) + 1)) 6 (((h 0 17) + 1).toNat) 37) 7 (((h 0 17) + 1).toNat) 59) 8 (((h 0 17) + 1).toNat) 0) 9 (((h 0 17) + 1).toNat) 0) 0 17 (((h 0 17) + 1) + 1)) 6 ((((h 0 17) + 1) + 1).toNat) 1) 7 ((((h 0 17) + 1) + 1).toNat) 0) 8 ((((h 0 17) + 1) + 1).toNat) 0) 9 ((((h 0 17) + 1) + 1).toNat) 0) 0 17 ((((h 0 17) + 1) + 1) + 1)) := g97
                show mJ l D cA ad 3 cX12_evaluated 3 (some .boolean) 220 [(2, (0, (h 0 20))), (1, (0, 2)), (0, (2, ((0 : Nat) : Int)))] [(0, 1)] (ja_up (ja_up (ja_up (ja_up (ja_up (ja_up (ja_up (ja_up (ja_up (ja_up (ja_up (ja_up (ja_up (ja_up (ja_up (ja_up (ja_up (ja_up (ja_up h 0 113 ((h 0 113) - 1)) 52 ((h 0 20).toNat) 4) 55 ((h 0 20).toNat) 1) 0 7 ((h 0 7) + 1)) 6 ((h 0 17).toNat) 19) 7 ((h 0 17).toNat) 2) 8 ((h 0 17).toNat) (h 0 20)) 9 ((h 0 17).toNat) 0) 0 17 ((h 0 17) + 1)) 6 (((h 0 17) + 1).toNat) 37) 7 (((h 0 17) + 1).toNat) 59) 8 (((h 0 17) + 1).toNat) 0) 9 (((h 0 17) + 1).toNat) 0) 0 17 (((h 0 17) + 1) + 1)) 6 ((((h 0 17) + 1) + 1).toNat) 1) 7 ((((h 0 17) + 1) + 1).toNat) 0) 8 ((((h 0 17) + 1) + 1).toNat) 0) 9 ((((h 0 17) + 1) + 1).toNat) 0) 0 17 ((((h 0 17) + 1) + 1) + 1)) Q
                refine ja_if_eq 227 devaluated_220 rfl ⟨by decide, by decide⟩ (fun c220 => absurd c220 (by omega)) (fun c220 => ?_)
                refine ja_iconst devaluated_223 ?_
                refine ja_goto 228 devaluated_224 rfl ?_
                refine ja_zreturn devaluated_228 rfl (by omega) ?_
                exact mo_fin (by omega) rfl (k1 (ja_up (ja_up (ja_up (ja_up (ja_up (ja_up (ja_up (ja_up (ja_up (ja_up (ja_up (ja_up (ja_up (ja_up (ja_up (ja_up (ja_up (ja_up (ja_up h 0 113 ((h 0 113) - 1)) 52 ((h 0 20).toNat) 4) 55 ((h 0 20).toNat) 1) 0 7 ((h 0 7) + 1)) 6 ((h 0 17).toNat) 19) 7 ((h 0 17).toNat) 2) 8 ((h 0 17).toNat) (h 0 20)) 9 ((h 0 17).toNat) 0) 0 17 ((h 0 17) + 1)) 6 (((h 0 17) + 1).toNat) 37) 7 (((h 0 17) + 1).toNat) 59) 8 (((h 0 17) + 1).toNat) 0) 9 (((h 0 17) + 1).toNat) 0) 0 17 (((h 0 17) + 1) + 1)) 6 ((((h 0 17) + 1) + 1).toNat) 1) 7 ((((h 0 17) + 1) + 1).toNat) 0) 8 ((((h 0 17) + 1) + 1).toNat) 0) 9 ((((h 0 17) + 1) + 1).toNat) 0) 0 17 ((((h 0 17) + 1) + 1) + 1)) ((by first | exact ab_assign2 g p1 p2 (by omega) | (exfalso; omega))) g97)
              · intro h98 k181_1 g99
                replace k181_1 : 0 < (h98 0 8) ∧ (h98 0 1) = (h 0 1) ∧ (h98 0 118) = (h 0 118) ∧ (h98 0 127) = (h 0 127) := k181_1
                refine ja_if_eq 227 devaluated_184 rfl ⟨by decide, by decide⟩ (fun c184 => ?_) (fun c184 => absurd c184 (by omega))
                refine ja_iconst devaluated_227 ?_
                refine ja_zreturn devaluated_228 rfl (by omega) ?_
                exact mo_fin (by omega) rfl (k2 h98 (by omega) g99)
      · refine ja_aload_n devaluated_71 rfl rfl ?_
        refine fg_form (v := h 0 19) rfl devaluated_72 ?_
        refine ja_iconst devaluated_75 ?_
        refine ja_icmp_eq 85 devaluated_76 rfl ⟨by omega, by omega⟩ ⟨by decide, by decide⟩ (fun c76 => ?_) (fun c76 => ?_)
        · refine ja_aload_n devaluated_85 rfl rfl ?_
          refine ja_dup devaluated_86 (by decide) ?_
          refine fg_words (v := h 0 113) rfl devaluated_87 ?_
          have f100 := gF_words g
          refine ja_iconst devaluated_90 ?_
          refine ja_isub devaluated_91 ?_
          have g101 := gP_words g (x := (h 0 113) - 1) ⟨by omega, by omega⟩
          refine fp_words devaluated_92 ?_
          refine ja_aload_n devaluated_95 rfl rfl ?_
          refine fg_form (v := h 0 19) rfl devaluated_96 ?_
          refine ja_iconst devaluated_99 ?_
          refine ja_icmp_ne 107 devaluated_100 rfl ⟨by omega, by omega⟩ ⟨by decide, by decide⟩ (fun c100 => ?_) (fun c100 => ?_)
          · refine ja_aload_n devaluated_107 rfl rfl ?_
            refine fa_op devaluated_108 ?_
            refine ja_aload_n devaluated_111 rfl rfl ?_
            refine fg_words (v := (h 0 113) - 1) rfl devaluated_112 ?_
            refine il_op (v := h 74 ((h 0 113) - 1).toNat) rfl ⟨by omega, by omega⟩ devaluated_115 ?_
            have f102 := gC_op g ((h 0 113) - 1).toNat
            refine ja_bipush 6 devaluated_116 rfl ?_
            refine ja_icmp_ne 125 devaluated_118 rfl ⟨by omega, by omega⟩ ⟨by decide, by decide⟩ (fun c118 => ?_) (fun c118 => ?_)
            · refine ja_iconst devaluated_125 ?_
              refine ja_istore_n devaluated_126 rfl (by decide) (L2 := [(1, (0, 0)), (0, (2, ((0 : Nat) : Int)))]) rfl ?_
              refine ja_aload_n devaluated_127 rfl rfl ?_
              refine fg_form (v := h 0 19) rfl devaluated_128 ?_
              refine ja_iconst devaluated_131 ?_
              refine ja_icmp_ne 142 devaluated_132 rfl ⟨by omega, by omega⟩ ⟨by decide, by decide⟩ (fun c132 => ?_) (fun c132 => ?_)
              · refine ja_aload_n devaluated_142 rfl rfl ?_
                refine fa_opA devaluated_143 ?_
                refine ja_aload_n devaluated_146 rfl rfl ?_
                refine fg_words (v := (h 0 113) - 1) rfl devaluated_147 ?_
                refine il_opA (v := h 75 ((h 0 113) - 1).toNat) rfl ⟨by omega, by omega⟩ devaluated_150 ?_
                have f103 := gC_opA g ((h 0 113) - 1).toNat
                refine ja_istore_n devaluated_151 rfl (by decide) (L2 := [(2, (0, (h 75 ((h 0 113) - 1).toNat))), (1, (0, 0)), (0, (2, ((0 : Nat) : Int)))]) rfl ?_
                refine ja_aload_n devaluated_152 rfl rfl ?_
                refine fg_form (v := h 0 19) rfl devaluated_153 ?_
                refine ja_iconst devaluated_156 ?_
                refine ja_icmp_ne 180 devaluated_157 rfl ⟨by omega, by omega⟩ ⟨by decide, by decide⟩ (fun c157 => ?_) (fun c157 => ?_)
                · refine ja_aload_n devaluated_180 rfl rfl ?_
                  refine t_take (by decide) (show (0 : Nat) ≤ 8 by decide) devaluated_181 g101  ?_ ?_
                  · intro k181_0 g104
                    replace k181_0 : (h 0 7) < 900 := k181_0
                    replace g104 : mo_G (ja_up (ja_up h 0 113 ((h 0 113) - 1)) 0 7 ((h 0 7) + 1)) := g104
                    show mJ l D cA ad 3 cX12_evaluated 3 (some .boolean) 184 [(2, (0, (h 75 ((h 0 113) - 1).toNat))), (1, (0, 0)), (0, (2, ((0 : Nat) : Int)))] [(0, 1)] (ja_up (ja_up h 0 113 ((h 0 113) - 1)) 0 7 ((h 0 7) + 1)) Q
                    refine ja_if_eq 227 devaluated_184 rfl ⟨by decide, by decide⟩ (fun c184 => absurd c184 (by omega)) (fun c184 => ?_)
                    refine ja_aload_n devaluated_187 rfl rfl ?_
                    refine ja_bipush 19 devaluated_188 rfl ?_
                    refine ja_iload_n devaluated_190 rfl rfl ?_
                    refine ja_iload_n devaluated_191 rfl rfl ?_
                    refine ja_iconst devaluated_192 ?_
                    refine t_later (by decide) (show (0 : Nat) ≤ 8 by decide) devaluated_193 g104 ⟨by decide, by decide⟩ ⟨by decide, by decide⟩ ⟨by omega, by omega⟩ ⟨by decide, by decide⟩ (show 0 ≤ 19 ∧ 19 ≤ 38 by omega) (show (h 0 17) < 2000 by omega) ?_
                    intro g105
                    replace g105 : mo_G (ja_up (ja_up (ja_up (ja_up (ja_up (ja_up (ja_up h 0 113 ((h 0 113) - 1)) 0 7 ((h 0 7) + 1)) 6 ((h 0 17).toNat) 19) 7 ((h 0 17).toNat) 0) 8 ((h 0 17).toNat) (h 75 ((h 0 113) - 1).toNat)) 9 ((h 0 17).toNat) 0) 0 17 ((h 0 17) + 1)) := g105
                    show mJ l D cA ad 3 cX12_evaluated 3 (some .boolean) 196 [(2, (0, (h 75 ((h 0 113) - 1).toNat))), (1, (0, 0)), (0, (2, ((0 : Nat) : Int)))] [(0, 1)] (ja_up (ja_up (ja_up (ja_up (ja_up (ja_up (ja_up h 0 113 ((h 0 113) - 1)) 0 7 ((h 0 7) + 1)) 6 ((h 0 17).toNat) 19) 7 ((h 0 17).toNat) 0) 8 ((h 0 17).toNat) (h 75 ((h 0 113) - 1).toNat)) 9 ((h 0 17).toNat) 0) 0 17 ((h 0 17) + 1)) Q
                    refine ja_if_eq 227 devaluated_196 rfl ⟨by decide, by decide⟩ (fun c196 => absurd c196 (by omega)) (fun c196 => ?_)
                    refine ja_aload_n devaluated_199 rfl rfl ?_
                    refine ja_bipush 37 devaluated_200 rfl ?_
                    refine ja_bipush 59 devaluated_202 rfl ?_
                    refine ja_iconst devaluated_204 ?_
                    refine ja_iconst devaluated_205 ?_
                    refine t_later (by decide) (show (0 : Nat) ≤ 8 by decide) devaluated_206 g105 ⟨by decide, by decide⟩ ⟨by decide, by decide⟩ ⟨by decide, by decide⟩ ⟨by decide, by decide⟩ (show 0 ≤ 37 ∧ 37 ≤ 38 by omega) (show ((h 0 17) + 1) < 2000 by omega) ?_
                    intro g106
                    replace g106 : mo_G (ja_up (ja_up (ja_up (ja_up (ja_up (ja_up (ja_up (ja_up (ja_up (ja_up (ja_up (ja_up h 0 113 ((h 0 113) - 1)) 0 7 ((h 0 7) + 1)) 6 ((h 0 17).toNat) 19) 7 ((h 0 17).toNat) 0) 8 ((h 0 17).toNat) (h 75 ((h 0 113) - 1).toNat)) 9 ((h 0 17).toNat) 0) 0 17 ((h 0 17) + 1)) 6 (((h 0 17) + 1).toNat) 37) 7 (((h 0 17) + 1).toNat) 59) 8 (((h 0 17) + 1).toNat) 0) 9 (((h 0 17) + 1).toNat) 0) 0 17 (((h 0 17) + 1) + 1)) := g106
                    show mJ l D cA ad 3 cX12_evaluated 3 (some .boolean) 209 [(2, (0, (h 75 ((h 0 113) - 1).toNat))), (1, (0, 0)), (0, (2, ((0 : Nat) : Int)))] [(0, 1)] (ja_up (ja_up (ja_up (ja_up (ja_up (ja_up (ja_up (ja_up (ja_up (ja_up (ja_up (ja_up h 0 113 ((h 0 113) - 1)) 0 7 ((h 0 7) + 1)) 6 ((h 0 17).toNat) 19) 7 ((h 0 17).toNat) 0) 8 ((h 0 17).toNat) (h 75 ((h 0 113) - 1).toNat)) 9 ((h 0 17).toNat) 0) 0 17 ((h 0 17) + 1)) 6 (((h 0 17) + 1).toNat) 37) 7 (((h 0 17) + 1).toNat) 59) 8 (((h 0 17) + 1).toNat) 0) 9 (((h 0 17) + 1).toNat) 0) 0 17 (((h 0 17) + 1) + 1)) Q
                    refine ja_if_eq 227 devaluated_209 rfl ⟨by decide, by decide⟩ (fun c209 => absurd c209 (by omega)) (fun c209 => ?_)
                    refine ja_aload_n devaluated_212 rfl rfl ?_
                    refine ja_iconst devaluated_213 ?_
                    refine ja_iconst devaluated_214 ?_
                    refine ja_iconst devaluated_215 ?_
                    refine ja_iconst devaluated_216 ?_
                    refine t_later (by decide) (show (0 : Nat) ≤ 8 by decide) devaluated_217 g106 ⟨by decide, by decide⟩ ⟨by decide, by decide⟩ ⟨by decide, by decide⟩ ⟨by decide, by decide⟩ (show 0 ≤ 1 ∧ 1 ≤ 38 by omega) (show (((h 0 17) + 1) + 1) < 2000 by omega) ?_
                    intro g107
                    replace g107 : mo_G (ja_up (ja_up (ja_up (ja_up (ja_up (ja_up (ja_up (ja_up (ja_up (ja_up (ja_up (ja_up (ja_up (ja_up (ja_up (ja_up (ja_up h 0 113 ((h 0 113) - 1)) 0 7 ((h 0 7) + 1)) 6 ((h 0 17).toNat) 19) 7 ((h 0 17).toNat) 0) 8 ((h 0 17).toNat) (h 75 ((h 0 113) - 1).toNat)) 9 ((h 0 17).toNat) 0) 0 17 ((h 0 17) + 1)) 6 (((h 0 17) + 1).toNat) 37) 7 (((h 0 17) + 1).toNat) 59) 8 (((h 0 17) + 1).toNat) 0) 9 (((h 0 17) + 1).toNat) 0) 0 17 (((h 0 17) + 1) + 1)) 6 ((((h 0 17) + 1) + 1).toNat) 1) 7 ((((h 0 17) + 1) + 1).toNat) 0) 8 ((((h 0 17) + 1) + 1).toNat) 0) 9 ((((h 0 17) + 1) + 1).toNat) 0) 0 17 ((((h 0 17) + 1) + 1) + 1)) := g107
                    show mJ l D cA ad 3 cX12_evaluated 3 (some .boolean) 220 [(2, (0, (h 75 ((h 0 113) - 1).toNat))), (1, (0, 0)), (0, (2, ((0 : Nat) : Int)))] [(0, 1)] (ja_up (ja_up (ja_up (ja_up (ja_up (ja_up (ja_up (ja_up (ja_up (ja_up (ja_up (ja_up (ja_up (ja_up (ja_up (ja_up (ja_up h 0 113 ((h 0 113) - 1)) 0 7 ((h 0 7) + 1)) 6 ((h 0 17).toNat) 19) 7 ((h 0 17).toNat) 0) 8 ((h 0 17).toNat) (h 75 ((h 0 113) - 1).toNat)) 9 ((h 0 17).toNat) 0) 0 17 ((h 0 17) + 1)) 6 (((h 0 17) + 1).toNat) 37) 7 (((h 0 17) + 1).toNat) 59) 8 (((h 0 17) + 1).toNat) 0) 9 (((h 0 17) + 1).toNat) 0) 0 17 (((h 0 17) + 1) + 1)) 6 ((((h 0 17) + 1) + 1).toNat) 1) 7 ((((h 0 17) + 1) + 1).toNat) 0) 8 ((((h 0 17) + 1) + 1).toNat) 0) 9 ((((h 0 17) + 1) + 1).toNat) 0) 0 17 ((((h 0 17) + 1) + 1) + 1)) Q
                    refine ja_if_eq 227 devaluated_220 rfl ⟨by decide, by decide⟩ (fun c220 => absurd c220 (by omega)) (fun c220 => ?_)
                    refine ja_iconst devaluated_223 ?_
                    refine ja_goto 228 devaluated_224 rfl ?_
                    refine ja_zreturn devaluated_228 rfl (by omega) ?_
                    exact mo_fin (by omega) rfl (k1 (ja_up (ja_up (ja_up (ja_up (ja_up (ja_up (ja_up (ja_up (ja_up (ja_up (ja_up (ja_up (ja_up (ja_up (ja_up (ja_up (ja_up h 0 113 ((h 0 113) - 1)) 0 7 ((h 0 7) + 1)) 6 ((h 0 17).toNat) 19) 7 ((h 0 17).toNat) 0) 8 ((h 0 17).toNat) (h 75 ((h 0 113) - 1).toNat)) 9 ((h 0 17).toNat) 0) 0 17 ((h 0 17) + 1)) 6 (((h 0 17) + 1).toNat) 37) 7 (((h 0 17) + 1).toNat) 59) 8 (((h 0 17) + 1).toNat) 0) 9 (((h 0 17) + 1).toNat) 0) 0 17 (((h 0 17) + 1) + 1)) 6 ((((h 0 17) + 1) + 1).toNat) 1) 7 ((((h 0 17) + 1) + 1).toNat) 0) 8 ((((h 0 17) + 1) + 1).toNat) 0) 9 ((((h 0 17) + 1) + 1).toNat) 0) 0 17 ((((h 0 17) + 1) + 1) + 1)) ((by first | exact ab_assign1 (k := 0) g p1 p2 (by omega) (by omega) | (exfalso; omega))) g107)
                  · intro h108 k181_1 g109
                    replace k181_1 : 0 < (h108 0 8) ∧ (h108 0 1) = (h 0 1) ∧ (h108 0 118) = (h 0 118) ∧ (h108 0 127) = (h 0 127) := k181_1
                    refine ja_if_eq 227 devaluated_184 rfl ⟨by decide, by decide⟩ (fun c184 => ?_) (fun c184 => absurd c184 (by omega))
                    refine ja_iconst devaluated_227 ?_
                    refine ja_zreturn devaluated_228 rfl (by omega) ?_
                    exact mo_fin (by omega) rfl (k2 h108 (by omega) g109)
                · refine ja_aload_n devaluated_160 rfl rfl ?_
                  refine fa_pointKind devaluated_161 ?_
                  refine ja_aload_n devaluated_164 rfl rfl ?_
                  refine fg_formA (v := h 0 20) rfl devaluated_165 ?_
                  have f110 := gF_formA g
                  refine ja_iconst devaluated_168 ?_
                  have g111 := gW_pointKind g101 (h 0 20).toNat (x := 4) ⟨by decide, by decide⟩
                  refine is_pointKind ⟨by omega, by omega⟩ devaluated_169 ?_
                  refine ja_aload_n devaluated_170 rfl rfl ?_
                  refine fa_pointArgs devaluated_171 ?_
                  refine ja_aload_n devaluated_174 rfl rfl ?_
                  refine fg_formA (v := h 0 20) rfl devaluated_175 ?_
                  refine ja_iconst devaluated_178 ?_
                  have g112 := gW_pointArgs g111 (h 0 20).toNat (x := 1) ⟨by decide, by decide⟩
                  refine is_pointArgs ⟨by omega, by omega⟩ devaluated_179 ?_
                  refine ja_aload_n devaluated_180 rfl rfl ?_
                  refine t_take (by decide) (show (0 : Nat) ≤ 8 by decide) devaluated_181 g112  ?_ ?_
                  · intro k181_0 g113
                    replace k181_0 : (h 0 7) < 900 := k181_0
                    replace g113 : mo_G (ja_up (ja_up (ja_up (ja_up h 0 113 ((h 0 113) - 1)) 52 ((h 0 20).toNat) 4) 55 ((h 0 20).toNat) 1) 0 7 ((h 0 7) + 1)) := g113
                    show mJ l D cA ad 3 cX12_evaluated 3 (some .boolean) 184 [(2, (0, (h 75 ((h 0 113) - 1).toNat))), (1, (0, 0)), (0, (2, ((0 : Nat) : Int)))] [(0, 1)] (ja_up (ja_up (ja_up (ja_up h 0 113 ((h 0 113) - 1)) 52 ((h 0 20).toNat) 4) 55 ((h 0 20).toNat) 1) 0 7 ((h 0 7) + 1)) Q
                    refine ja_if_eq 227 devaluated_184 rfl ⟨by decide, by decide⟩ (fun c184 => absurd c184 (by omega)) (fun c184 => ?_)
                    refine ja_aload_n devaluated_187 rfl rfl ?_
                    refine ja_bipush 19 devaluated_188 rfl ?_
                    refine ja_iload_n devaluated_190 rfl rfl ?_
                    refine ja_iload_n devaluated_191 rfl rfl ?_
                    refine ja_iconst devaluated_192 ?_
                    refine t_later (by decide) (show (0 : Nat) ≤ 8 by decide) devaluated_193 g113 ⟨by decide, by decide⟩ ⟨by decide, by decide⟩ ⟨by omega, by omega⟩ ⟨by decide, by decide⟩ (show 0 ≤ 19 ∧ 19 ≤ 38 by omega) (show (h 0 17) < 2000 by omega) ?_
                    intro g114
                    replace g114 : mo_G (ja_up (ja_up (ja_up (ja_up (ja_up (ja_up (ja_up (ja_up (ja_up h 0 113 ((h 0 113) - 1)) 52 ((h 0 20).toNat) 4) 55 ((h 0 20).toNat) 1) 0 7 ((h 0 7) + 1)) 6 ((h 0 17).toNat) 19) 7 ((h 0 17).toNat) 0) 8 ((h 0 17).toNat) (h 75 ((h 0 113) - 1).toNat)) 9 ((h 0 17).toNat) 0) 0 17 ((h 0 17) + 1)) := g114
                    show mJ l D cA ad 3 cX12_evaluated 3 (some .boolean) 196 [(2, (0, (h 75 ((h 0 113) - 1).toNat))), (1, (0, 0)), (0, (2, ((0 : Nat) : Int)))] [(0, 1)] (ja_up (ja_up (ja_up (ja_up (ja_up (ja_up (ja_up (ja_up (ja_up h 0 113 ((h 0 113) - 1)) 52 ((h 0 20).toNat) 4) 55 ((h 0 20).toNat) 1) 0 7 ((h 0 7) + 1)) 6 ((h 0 17).toNat) 19) 7 ((h 0 17).toNat) 0) 8 ((h 0 17).toNat) (h 75 ((h 0 113) - 1).toNat)) 9 ((h 0 17).toNat) 0) 0 17 ((h 0 17) + 1)) Q
                    refine ja_if_eq 227 devaluated_196 rfl ⟨by decide, by decide⟩ (fun c196 => absurd c196 (by omega)) (fun c196 => ?_)
                    refine ja_aload_n devaluated_199 rfl rfl ?_
                    refine ja_bipush 37 devaluated_200 rfl ?_
                    refine ja_bipush 59 devaluated_202 rfl ?_
                    refine ja_iconst devaluated_204 ?_
                    refine ja_iconst devaluated_205 ?_
                    refine t_later (by decide) (show (0 : Nat) ≤ 8 by decide) devaluated_206 g114 ⟨by decide, by decide⟩ ⟨by decide, by decide⟩ ⟨by decide, by decide⟩ ⟨by decide, by decide⟩ (show 0 ≤ 37 ∧ 37 ≤ 38 by omega) (show ((h 0 17) + 1) < 2000 by omega) ?_
                    intro g115
                    replace g115 : mo_G (ja_up (ja_up (ja_up (ja_up (ja_up (ja_up (ja_up (ja_up (ja_up (ja_up (ja_up (ja_up (ja_up (ja_up h 0 113 ((h 0 113) - 1)) 52 ((h 0 20).toNat) 4) 55 ((h 0 20).toNat) 1) 0 7 ((h 0 7) + 1)) 6 ((h 0 17).toNat) 19) 7 ((h 0 17).toNat) 0) 8 ((h 0 17).toNat) (h 75 ((h 0 113) - 1).toNat)) 9 ((h 0 17).toNat) 0) 0 17 ((h 0 17) + 1)) 6 (((h 0 17) + 1).toNat) 37) 7 (((h 0 17) + 1).toNat) 59) 8 (((h 0 17) + 1).toNat) 0) 9 (((h 0 17) + 1).toNat) 0) 0 17 (((h 0 17) + 1) + 1)) := g115
                    show mJ l D cA ad 3 cX12_evaluated 3 (some .boolean) 209 [(2, (0, (h 75 ((h 0 113) - 1).toNat))), (1, (0, 0)), (0, (2, ((0 : Nat) : Int)))] [(0, 1)] (ja_up (ja_up (ja_up (ja_up (ja_up (ja_up (ja_up (ja_up (ja_up (ja_up (ja_up (ja_up (ja_up (ja_up h 0 113 ((h 0 113) - 1)) 52 ((h 0 20).toNat) 4) 55 ((h 0 20).toNat) 1) 0 7 ((h 0 7) + 1)) 6 ((h 0 17).toNat) 19) 7 ((h 0 17).toNat) 0) 8 ((h 0 17).toNat) (h 75 ((h 0 113) - 1).toNat)) 9 ((h 0 17).toNat) 0) 0 17 ((h 0 17) + 1)) 6 (((h 0 17) + 1).toNat) 37) 7 (((h 0 17) + 1).toNat) 59) 8 (((h 0 17) + 1).toNat) 0) 9 (((h 0 17) + 1).toNat) 0) 0 17 (((h 0 17) + 1) + 1)) Q
                    refine ja_if_eq 227 devaluated_209 rfl ⟨by decide, by decide⟩ (fun c209 => absurd c209 (by omega)) (fun c209 => ?_)
                    refine ja_aload_n devaluated_212 rfl rfl ?_
                    refine ja_iconst devaluated_213 ?_
                    refine ja_iconst devaluated_214 ?_
                    refine ja_iconst devaluated_215 ?_
                    refine ja_iconst devaluated_216 ?_
                    refine t_later (by decide) (show (0 : Nat) ≤ 8 by decide) devaluated_217 g115 ⟨by decide, by decide⟩ ⟨by decide, by decide⟩ ⟨by decide, by decide⟩ ⟨by decide, by decide⟩ (show 0 ≤ 1 ∧ 1 ≤ 38 by omega) (show (((h 0 17) + 1) + 1) < 2000 by omega) ?_
                    intro g116
                    replace g116 : mo_G (ja_up (ja_up (ja_up (ja_up (ja_up (ja_up (ja_up (ja_up (ja_up (ja_up (ja_up (ja_up (ja_up (ja_up (ja_up (ja_up (ja_up (ja_up (ja_up h 0 113 ((h 0 113) - 1)) 52 ((h 0 20).toNat) 4) 55 ((h 0 20).toNat) 1) 0 7 ((h 0 7) + 1)) 6 ((h 0 17).toNat) 19) 7 ((h 0 17).toNat) 0) 8 ((h 0 17).toNat) (h 75 ((h 0 113) - 1).toNat)) 9 ((h 0 17).toNat) 0) 0 17 ((h 0 17) + 1)) 6 (((h 0 17) + 1).toNat) 37) 7 (((h 0 17) + 1).toNat) 59) 8 (((h 0 17) + 1).toNat) 0) 9 (((h 0 17) + 1).toNat) 0) 0 17 (((h 0 17) + 1) + 1)) 6 ((((h 0 17) + 1) + 1).toNat) 1) 7 ((((h 0 17) + 1) + 1).toNat) 0) 8 ((((h 0 17) + 1) + 1).toNat) 0) 9 ((((h 0 17) + 1) + 1).toNat) 0) 0 17 ((((h 0 17) + 1) + 1) + 1)) := g116
                    show mJ l D cA ad 3 cX12_evaluated 3 (some .boolean) 220 [(2, (0, (h 75 ((h 0 113) - 1).toNat))), (1, (0, 0)), (0, (2, ((0 : Nat) : Int)))] [(0, 1)] (ja_up (ja_up (ja_up (ja_up (ja_up (ja_up (ja_up (ja_up (ja_up (ja_up (ja_up (ja_up (ja_up (ja_up (ja_up (ja_up (ja_up (ja_up (ja_up h 0 113 ((h 0 113) - 1)) 52 ((h 0 20).toNat) 4) 55 ((h 0 20).toNat) 1) 0 7 ((h 0 7) + 1)) 6 ((h 0 17).toNat) 19) 7 ((h 0 17).toNat) 0) 8 ((h 0 17).toNat) (h 75 ((h 0 113) - 1).toNat)) 9 ((h 0 17).toNat) 0) 0 17 ((h 0 17) + 1)) 6 (((h 0 17) + 1).toNat) 37) 7 (((h 0 17) + 1).toNat) 59) 8 (((h 0 17) + 1).toNat) 0) 9 (((h 0 17) + 1).toNat) 0) 0 17 (((h 0 17) + 1) + 1)) 6 ((((h 0 17) + 1) + 1).toNat) 1) 7 ((((h 0 17) + 1) + 1).toNat) 0) 8 ((((h 0 17) + 1) + 1).toNat) 0) 9 ((((h 0 17) + 1) + 1).toNat) 0) 0 17 ((((h 0 17) + 1) + 1) + 1)) Q
                    refine ja_if_eq 227 devaluated_220 rfl ⟨by decide, by decide⟩ (fun c220 => absurd c220 (by omega)) (fun c220 => ?_)
                    refine ja_iconst devaluated_223 ?_
                    refine ja_goto 228 devaluated_224 rfl ?_
                    refine ja_zreturn devaluated_228 rfl (by omega) ?_
                    exact mo_fin (by omega) rfl (k1 (ja_up (ja_up (ja_up (ja_up (ja_up (ja_up (ja_up (ja_up (ja_up (ja_up (ja_up (ja_up (ja_up (ja_up (ja_up (ja_up (ja_up (ja_up (ja_up h 0 113 ((h 0 113) - 1)) 52 ((h 0 20).toNat) 4) 55 ((h 0 20).toNat) 1) 0 7 ((h 0 7) + 1)) 6 ((h 0 17).toNat) 19) 7 ((h 0 17).toNat) 0) 8 ((h 0 17).toNat) (h 75 ((h 0 113) - 1).toNat)) 9 ((h 0 17).toNat) 0) 0 17 ((h 0 17) + 1)) 6 (((h 0 17) + 1).toNat) 37) 7 (((h 0 17) + 1).toNat) 59) 8 (((h 0 17) + 1).toNat) 0) 9 (((h 0 17) + 1).toNat) 0) 0 17 (((h 0 17) + 1) + 1)) 6 ((((h 0 17) + 1) + 1).toNat) 1) 7 ((((h 0 17) + 1) + 1).toNat) 0) 8 ((((h 0 17) + 1) + 1).toNat) 0) 9 ((((h 0 17) + 1) + 1).toNat) 0) 0 17 ((((h 0 17) + 1) + 1) + 1)) ((by first | exact ab_assign2 g p1 p2 (by omega) | (exfalso; omega))) g116)
                  · intro h117 k181_1 g118
                    replace k181_1 : 0 < (h117 0 8) ∧ (h117 0 1) = (h 0 1) ∧ (h117 0 118) = (h 0 118) ∧ (h117 0 127) = (h 0 127) := k181_1
                    refine ja_if_eq 227 devaluated_184 rfl ⟨by decide, by decide⟩ (fun c184 => ?_) (fun c184 => absurd c184 (by omega))
                    refine ja_iconst devaluated_227 ?_
                    refine ja_zreturn devaluated_228 rfl (by omega) ?_
                    exact mo_fin (by omega) rfl (k2 h117 (by omega) g118)
              · refine ja_aload_n devaluated_135 rfl rfl ?_
                refine fg_formA (v := h 0 20) rfl devaluated_136 ?_
                have f119 := gF_formA g
                refine ja_goto 151 devaluated_139 rfl ?_
                refine ja_istore_n devaluated_151 rfl (by decide) (L2 := [(2, (0, (h 0 20))), (1, (0, 0)), (0, (2, ((0 : Nat) : Int)))]) rfl ?_
                refine ja_aload_n devaluated_152 rfl rfl ?_
                refine fg_form (v := h 0 19) rfl devaluated_153 ?_
                refine ja_iconst devaluated_156 ?_
                refine ja_icmp_ne 180 devaluated_157 rfl ⟨by omega, by omega⟩ ⟨by decide, by decide⟩ (fun c157 => ?_) (fun c157 => ?_)
                · refine ja_aload_n devaluated_180 rfl rfl ?_
                  refine t_take (by decide) (show (0 : Nat) ≤ 8 by decide) devaluated_181 g101  ?_ ?_
                  · intro k181_0 g120
                    replace k181_0 : (h 0 7) < 900 := k181_0
                    replace g120 : mo_G (ja_up (ja_up h 0 113 ((h 0 113) - 1)) 0 7 ((h 0 7) + 1)) := g120
                    show mJ l D cA ad 3 cX12_evaluated 3 (some .boolean) 184 [(2, (0, (h 0 20))), (1, (0, 0)), (0, (2, ((0 : Nat) : Int)))] [(0, 1)] (ja_up (ja_up h 0 113 ((h 0 113) - 1)) 0 7 ((h 0 7) + 1)) Q
                    refine ja_if_eq 227 devaluated_184 rfl ⟨by decide, by decide⟩ (fun c184 => absurd c184 (by omega)) (fun c184 => ?_)
                    refine ja_aload_n devaluated_187 rfl rfl ?_
                    refine ja_bipush 19 devaluated_188 rfl ?_
                    refine ja_iload_n devaluated_190 rfl rfl ?_
                    refine ja_iload_n devaluated_191 rfl rfl ?_
                    refine ja_iconst devaluated_192 ?_
                    refine t_later (by decide) (show (0 : Nat) ≤ 8 by decide) devaluated_193 g120 ⟨by decide, by decide⟩ ⟨by decide, by decide⟩ ⟨by omega, by omega⟩ ⟨by decide, by decide⟩ (show 0 ≤ 19 ∧ 19 ≤ 38 by omega) (show (h 0 17) < 2000 by omega) ?_
                    intro g121
                    replace g121 : mo_G (ja_up (ja_up (ja_up (ja_up (ja_up (ja_up (ja_up h 0 113 ((h 0 113) - 1)) 0 7 ((h 0 7) + 1)) 6 ((h 0 17).toNat) 19) 7 ((h 0 17).toNat) 0) 8 ((h 0 17).toNat) (h 0 20)) 9 ((h 0 17).toNat) 0) 0 17 ((h 0 17) + 1)) := g121
                    show mJ l D cA ad 3 cX12_evaluated 3 (some .boolean) 196 [(2, (0, (h 0 20))), (1, (0, 0)), (0, (2, ((0 : Nat) : Int)))] [(0, 1)] (ja_up (ja_up (ja_up (ja_up (ja_up (ja_up (ja_up h 0 113 ((h 0 113) - 1)) 0 7 ((h 0 7) + 1)) 6 ((h 0 17).toNat) 19) 7 ((h 0 17).toNat) 0) 8 ((h 0 17).toNat) (h 0 20)) 9 ((h 0 17).toNat) 0) 0 17 ((h 0 17) + 1)) Q
                    refine ja_if_eq 227 devaluated_196 rfl ⟨by decide, by decide⟩ (fun c196 => absurd c196 (by omega)) (fun c196 => ?_)
                    refine ja_aload_n devaluated_199 rfl rfl ?_
                    refine ja_bipush 37 devaluated_200 rfl ?_
                    refine ja_bipush 59 devaluated_202 rfl ?_
                    refine ja_iconst devaluated_204 ?_
                    refine ja_iconst devaluated_205 ?_
                    refine t_later (by decide) (show (0 : Nat) ≤ 8 by decide) devaluated_206 g121 ⟨by decide, by decide⟩ ⟨by decide, by decide⟩ ⟨by decide, by decide⟩ ⟨by decide, by decide⟩ (show 0 ≤ 37 ∧ 37 ≤ 38 by omega) (show ((h 0 17) + 1) < 2000 by omega) ?_
                    intro g122
                    replace g122 : mo_G (ja_up (ja_up (ja_up (ja_up (ja_up (ja_up (ja_up (ja_up (ja_up (ja_up (ja_up (ja_up h 0 113 ((h 0 113) - 1)) 0 7 ((h 0 7) + 1)) 6 ((h 0 17).toNat) 19) 7 ((h 0 17).toNat) 0) 8 ((h 0 17).toNat) (h 0 20)) 9 ((h 0 17).toNat) 0) 0 17 ((h 0 17) + 1)) 6 (((h 0 17) + 1).toNat) 37) 7 (((h 0 17) + 1).toNat) 59) 8 (((h 0 17) + 1).toNat) 0) 9 (((h 0 17) + 1).toNat) 0) 0 17 (((h 0 17) + 1) + 1)) := g122
                    show mJ l D cA ad 3 cX12_evaluated 3 (some .boolean) 209 [(2, (0, (h 0 20))), (1, (0, 0)), (0, (2, ((0 : Nat) : Int)))] [(0, 1)] (ja_up (ja_up (ja_up (ja_up (ja_up (ja_up (ja_up (ja_up (ja_up (ja_up (ja_up (ja_up h 0 113 ((h 0 113) - 1)) 0 7 ((h 0 7) + 1)) 6 ((h 0 17).toNat) 19) 7 ((h 0 17).toNat) 0) 8 ((h 0 17).toNat) (h 0 20)) 9 ((h 0 17).toNat) 0) 0 17 ((h 0 17) + 1)) 6 (((h 0 17) + 1).toNat) 37) 7 (((h 0 17) + 1).toNat) 59) 8 (((h 0 17) + 1).toNat) 0) 9 (((h 0 17) + 1).toNat) 0) 0 17 (((h 0 17) + 1) + 1)) Q
                    refine ja_if_eq 227 devaluated_209 rfl ⟨by decide, by decide⟩ (fun c209 => absurd c209 (by omega)) (fun c209 => ?_)
                    refine ja_aload_n devaluated_212 rfl rfl ?_
                    refine ja_iconst devaluated_213 ?_
                    refine ja_iconst devaluated_214 ?_
                    refine ja_iconst devaluated_215 ?_
                    refine ja_iconst devaluated_216 ?_
                    refine t_later (by decide) (show (0 : Nat) ≤ 8 by decide) devaluated_217 g122 ⟨by decide, by decide⟩ ⟨by decide, by decide⟩ ⟨by decide, by decide⟩ ⟨by decide, by decide⟩ (show 0 ≤ 1 ∧ 1 ≤ 38 by omega) (show (((h 0 17) + 1) + 1) < 2000 by omega) ?_
                    intro g123
                    replace g123 : mo_G (ja_up (ja_up (ja_up (ja_up (ja_up (ja_up (ja_up (ja_up (ja_up (ja_up (ja_up (ja_up (ja_up (ja_up (ja_up (ja_up (ja_up h 0 113 ((h 0 113) - 1)) 0 7 ((h 0 7) + 1)) 6 ((h 0 17).toNat) 19) 7 ((h 0 17).toNat) 0) 8 ((h 0 17).toNat) (h 0 20)) 9 ((h 0 17).toNat) 0) 0 17 ((h 0 17) + 1)) 6 (((h 0 17) + 1).toNat) 37) 7 (((h 0 17) + 1).toNat) 59) 8 (((h 0 17) + 1).toNat) 0) 9 (((h 0 17) + 1).toNat) 0) 0 17 (((h 0 17) + 1) + 1)) 6 ((((h 0 17) + 1) + 1).toNat) 1) 7 ((((h 0 17) + 1) + 1).toNat) 0) 8 ((((h 0 17) + 1) + 1).toNat) 0) 9 ((((h 0 17) + 1) + 1).toNat) 0) 0 17 ((((h 0 17) + 1) + 1) + 1)) := g123
                    show mJ l D cA ad 3 cX12_evaluated 3 (some .boolean) 220 [(2, (0, (h 0 20))), (1, (0, 0)), (0, (2, ((0 : Nat) : Int)))] [(0, 1)] (ja_up (ja_up (ja_up (ja_up (ja_up (ja_up (ja_up (ja_up (ja_up (ja_up (ja_up (ja_up (ja_up (ja_up (ja_up (ja_up (ja_up h 0 113 ((h 0 113) - 1)) 0 7 ((h 0 7) + 1)) 6 ((h 0 17).toNat) 19) 7 ((h 0 17).toNat) 0) 8 ((h 0 17).toNat) (h 0 20)) 9 ((h 0 17).toNat) 0) 0 17 ((h 0 17) + 1)) 6 (((h 0 17) + 1).toNat) 37) 7 (((h 0 17) + 1).toNat) 59) 8 (((h 0 17) + 1).toNat) 0) 9 (((h 0 17) + 1).toNat) 0) 0 17 (((h 0 17) + 1) + 1)) 6 ((((h 0 17) + 1) + 1).toNat) 1) 7 ((((h 0 17) + 1) + 1).toNat) 0) 8 ((((h 0 17) + 1) + 1).toNat) 0) 9 ((((h 0 17) + 1) + 1).toNat) 0) 0 17 ((((h 0 17) + 1) + 1) + 1)) Q
                    refine ja_if_eq 227 devaluated_220 rfl ⟨by decide, by decide⟩ (fun c220 => absurd c220 (by omega)) (fun c220 => ?_)
                    refine ja_iconst devaluated_223 ?_
                    refine ja_goto 228 devaluated_224 rfl ?_
                    refine ja_zreturn devaluated_228 rfl (by omega) ?_
                    exact mo_fin (by omega) rfl (k1 (ja_up (ja_up (ja_up (ja_up (ja_up (ja_up (ja_up (ja_up (ja_up (ja_up (ja_up (ja_up (ja_up (ja_up (ja_up (ja_up (ja_up h 0 113 ((h 0 113) - 1)) 0 7 ((h 0 7) + 1)) 6 ((h 0 17).toNat) 19) 7 ((h 0 17).toNat) 0) 8 ((h 0 17).toNat) (h 0 20)) 9 ((h 0 17).toNat) 0) 0 17 ((h 0 17) + 1)) 6 (((h 0 17) + 1).toNat) 37) 7 (((h 0 17) + 1).toNat) 59) 8 (((h 0 17) + 1).toNat) 0) 9 (((h 0 17) + 1).toNat) 0) 0 17 (((h 0 17) + 1) + 1)) 6 ((((h 0 17) + 1) + 1).toNat) 1) 7 ((((h 0 17) + 1) + 1).toNat) 0) 8 ((((h 0 17) + 1) + 1).toNat) 0) 9 ((((h 0 17) + 1) + 1).toNat) 0) 0 17 ((((h 0 17) + 1) + 1) + 1)) ((by first | exact ab_assign1 (k := 0) g p1 p2 (by omega) (by omega) | (exfalso; omega))) g123)
                  · intro h124 k181_1 g125
                    replace k181_1 : 0 < (h124 0 8) ∧ (h124 0 1) = (h 0 1) ∧ (h124 0 118) = (h 0 118) ∧ (h124 0 127) = (h 0 127) := k181_1
                    refine ja_if_eq 227 devaluated_184 rfl ⟨by decide, by decide⟩ (fun c184 => ?_) (fun c184 => absurd c184 (by omega))
                    refine ja_iconst devaluated_227 ?_
                    refine ja_zreturn devaluated_228 rfl (by omega) ?_
                    exact mo_fin (by omega) rfl (k2 h124 (by omega) g125)
                · refine ja_aload_n devaluated_160 rfl rfl ?_
                  refine fa_pointKind devaluated_161 ?_
                  refine ja_aload_n devaluated_164 rfl rfl ?_
                  refine fg_formA (v := h 0 20) rfl devaluated_165 ?_
                  refine ja_iconst devaluated_168 ?_
                  have g126 := gW_pointKind g101 (h 0 20).toNat (x := 4) ⟨by decide, by decide⟩
                  refine is_pointKind ⟨by omega, by omega⟩ devaluated_169 ?_
                  refine ja_aload_n devaluated_170 rfl rfl ?_
                  refine fa_pointArgs devaluated_171 ?_
                  refine ja_aload_n devaluated_174 rfl rfl ?_
                  refine fg_formA (v := h 0 20) rfl devaluated_175 ?_
                  refine ja_iconst devaluated_178 ?_
                  have g127 := gW_pointArgs g126 (h 0 20).toNat (x := 1) ⟨by decide, by decide⟩
                  refine is_pointArgs ⟨by omega, by omega⟩ devaluated_179 ?_
                  refine ja_aload_n devaluated_180 rfl rfl ?_
                  refine t_take (by decide) (show (0 : Nat) ≤ 8 by decide) devaluated_181 g127  ?_ ?_
                  · intro k181_0 g128
                    replace k181_0 : (h 0 7) < 900 := k181_0
                    replace g128 : mo_G (ja_up (ja_up (ja_up (ja_up h 0 113 ((h 0 113) - 1)) 52 ((h 0 20).toNat) 4) 55 ((h 0 20).toNat) 1) 0 7 ((h 0 7) + 1)) := g128
                    show mJ l D cA ad 3 cX12_evaluated 3 (some .boolean) 184 [(2, (0, (h 0 20))), (1, (0, 0)), (0, (2, ((0 : Nat) : Int)))] [(0, 1)] (ja_up (ja_up (ja_up (ja_up h 0 113 ((h 0 113) - 1)) 52 ((h 0 20).toNat) 4) 55 ((h 0 20).toNat) 1) 0 7 ((h 0 7) + 1)) Q
                    refine ja_if_eq 227 devaluated_184 rfl ⟨by decide, by decide⟩ (fun c184 => absurd c184 (by omega)) (fun c184 => ?_)
                    refine ja_aload_n devaluated_187 rfl rfl ?_
                    refine ja_bipush 19 devaluated_188 rfl ?_
                    refine ja_iload_n devaluated_190 rfl rfl ?_
                    refine ja_iload_n devaluated_191 rfl rfl ?_
                    refine ja_iconst devaluated_192 ?_
                    refine t_later (by decide) (show (0 : Nat) ≤ 8 by decide) devaluated_193 g128 ⟨by decide, by decide⟩ ⟨by decide, by decide⟩ ⟨by omega, by omega⟩ ⟨by decide, by decide⟩ (show 0 ≤ 19 ∧ 19 ≤ 38 by omega) (show (h 0 17) < 2000 by omega) ?_
                    intro g129
                    replace g129 : mo_G (ja_up (ja_up (ja_up (ja_up (ja_up (ja_up (ja_up (ja_up (ja_up h 0 113 ((h 0 113) - 1)) 52 ((h 0 20).toNat) 4) 55 ((h 0 20).toNat) 1) 0 7 ((h 0 7) + 1)) 6 ((h 0 17).toNat) 19) 7 ((h 0 17).toNat) 0) 8 ((h 0 17).toNat) (h 0 20)) 9 ((h 0 17).toNat) 0) 0 17 ((h 0 17) + 1)) := g129
                    show mJ l D cA ad 3 cX12_evaluated 3 (some .boolean) 196 [(2, (0, (h 0 20))), (1, (0, 0)), (0, (2, ((0 : Nat) : Int)))] [(0, 1)] (ja_up (ja_up (ja_up (ja_up (ja_up (ja_up (ja_up (ja_up (ja_up h 0 113 ((h 0 113) - 1)) 52 ((h 0 20).toNat) 4) 55 ((h 0 20).toNat) 1) 0 7 ((h 0 7) + 1)) 6 ((h 0 17).toNat) 19) 7 ((h 0 17).toNat) 0) 8 ((h 0 17).toNat) (h 0 20)) 9 ((h 0 17).toNat) 0) 0 17 ((h 0 17) + 1)) Q
                    refine ja_if_eq 227 devaluated_196 rfl ⟨by decide, by decide⟩ (fun c196 => absurd c196 (by omega)) (fun c196 => ?_)
                    refine ja_aload_n devaluated_199 rfl rfl ?_
                    refine ja_bipush 37 devaluated_200 rfl ?_
                    refine ja_bipush 59 devaluated_202 rfl ?_
                    refine ja_iconst devaluated_204 ?_
                    refine ja_iconst devaluated_205 ?_
                    refine t_later (by decide) (show (0 : Nat) ≤ 8 by decide) devaluated_206 g129 ⟨by decide, by decide⟩ ⟨by decide, by decide⟩ ⟨by decide, by decide⟩ ⟨by decide, by decide⟩ (show 0 ≤ 37 ∧ 37 ≤ 38 by omega) (show ((h 0 17) + 1) < 2000 by omega) ?_
                    intro g130
                    replace g130 : mo_G (ja_up (ja_up (ja_up (ja_up (ja_up (ja_up (ja_up (ja_up (ja_up (ja_up (ja_up (ja_up (ja_up (ja_up h 0 113 ((h 0 113) - 1)) 52 ((h 0 20).toNat) 4) 55 ((h 0 20).toNat) 1) 0 7 ((h 0 7) + 1)) 6 ((h 0 17).toNat) 19) 7 ((h 0 17).toNat) 0) 8 ((h 0 17).toNat) (h 0 20)) 9 ((h 0 17).toNat) 0) 0 17 ((h 0 17) + 1)) 6 (((h 0 17) + 1).toNat) 37) 7 (((h 0 17) + 1).toNat) 59) 8 (((h 0 17) + 1).toNat) 0) 9 (((h 0 17) + 1).toNat) 0) 0 17 (((h 0 17) + 1) + 1)) := g130
                    show mJ l D cA ad 3 cX12_evaluated 3 (some .boolean) 209 [(2, (0, (h 0 20))), (1, (0, 0)), (0, (2, ((0 : Nat) : Int)))] [(0, 1)] (ja_up (ja_up (ja_up (ja_up (ja_up (ja_up (ja_up (ja_up (ja_up (ja_up (ja_up (ja_up (ja_up (ja_up h 0 113 ((h 0 113) - 1)) 52 ((h 0 20).toNat) 4) 55 ((h 0 20).toNat) 1) 0 7 ((h 0 7) + 1)) 6 ((h 0 17).toNat) 19) 7 ((h 0 17).toNat) 0) 8 ((h 0 17).toNat) (h 0 20)) 9 ((h 0 17).toNat) 0) 0 17 ((h 0 17) + 1)) 6 (((h 0 17) + 1).toNat) 37) 7 (((h 0 17) + 1).toNat) 59) 8 (((h 0 17) + 1).toNat) 0) 9 (((h 0 17) + 1).toNat) 0) 0 17 (((h 0 17) + 1) + 1)) Q
                    refine ja_if_eq 227 devaluated_209 rfl ⟨by decide, by decide⟩ (fun c209 => absurd c209 (by omega)) (fun c209 => ?_)
                    refine ja_aload_n devaluated_212 rfl rfl ?_
                    refine ja_iconst devaluated_213 ?_
                    refine ja_iconst devaluated_214 ?_
                    refine ja_iconst devaluated_215 ?_
                    refine ja_iconst devaluated_216 ?_
                    refine t_later (by decide) (show (0 : Nat) ≤ 8 by decide) devaluated_217 g130 ⟨by decide, by decide⟩ ⟨by decide, by decide⟩ ⟨by decide, by decide⟩ ⟨by decide, by decide⟩ (show 0 ≤ 1 ∧ 1 ≤ 38 by omega) (show (((h 0 17) + 1) + 1) < 2000 by omega) ?_
                    intro g131
                    replace g131 : mo_G (ja_up (ja_up (ja_up (ja_up (ja_up (ja_up (ja_up (ja_up (ja_up (ja_up (ja_up (ja_up (ja_up (ja_up (ja_up (ja_up (ja_up (ja_up (ja_up h 0 113 ((h 0 113) - 1)) 52 ((h 0 20).toNat) 4) 55 ((h 0 20).toNat) 1) 0 7 ((h 0 7) + 1)) 6 ((h 0 17).toNat) 19) 7 ((h 0 17).toNat) 0) 8 ((h 0 17).toNat) (h 0 20)) 9 ((h 0 17).toNat) 0) 0 17 ((h 0 17) + 1)) 6 (((h 0 17) + 1).toNat) 37) 7 (((h 0 17) + 1).toNat) 59) 8 (((h 0 17) + 1).toNat) 0) 9 (((h 0 17) + 1).toNat) 0) 0 17 (((h 0 17) + 1) + 1)) 6 ((((h 0 17) + 1) + 1).toNat) 1) 7 ((((h 0 17) + 1) + 1).toNat) 0) 8 ((((h 0 17) + 1) + 1).toNat) 0) 9 ((((h 0 17) + 1) + 1).toNat) 0) 0 17 ((((h 0 17) + 1) + 1) + 1)) := g131
                    show mJ l D cA ad 3 cX12_evaluated 3 (some .boolean) 220 [(2, (0, (h 0 20))), (1, (0, 0)), (0, (2, ((0 : Nat) : Int)))] [(0, 1)] (ja_up (ja_up (ja_up (ja_up (ja_up (ja_up (ja_up (ja_up (ja_up (ja_up (ja_up (ja_up (ja_up (ja_up (ja_up (ja_up (ja_up (ja_up (ja_up h 0 113 ((h 0 113) - 1)) 52 ((h 0 20).toNat) 4) 55 ((h 0 20).toNat) 1) 0 7 ((h 0 7) + 1)) 6 ((h 0 17).toNat) 19) 7 ((h 0 17).toNat) 0) 8 ((h 0 17).toNat) (h 0 20)) 9 ((h 0 17).toNat) 0) 0 17 ((h 0 17) + 1)) 6 (((h 0 17) + 1).toNat) 37) 7 (((h 0 17) + 1).toNat) 59) 8 (((h 0 17) + 1).toNat) 0) 9 (((h 0 17) + 1).toNat) 0) 0 17 (((h 0 17) + 1) + 1)) 6 ((((h 0 17) + 1) + 1).toNat) 1) 7 ((((h 0 17) + 1) + 1).toNat) 0) 8 ((((h 0 17) + 1) + 1).toNat) 0) 9 ((((h 0 17) + 1) + 1).toNat) 0) 0 17 ((((h 0 17) + 1) + 1) + 1)) Q
                    refine ja_if_eq 227 devaluated_220 rfl ⟨by decide, by decide⟩ (fun c220 => absurd c220 (by omega)) (fun c220 => ?_)
                    refine ja_iconst devaluated_223 ?_
                    refine ja_goto 228 devaluated_224 rfl ?_
                    refine ja_zreturn devaluated_228 rfl (by omega) ?_
                    exact mo_fin (by omega) rfl (k1 (ja_up (ja_up (ja_up (ja_up (ja_up (ja_up (ja_up (ja_up (ja_up (ja_up (ja_up (ja_up (ja_up (ja_up (ja_up (ja_up (ja_up (ja_up (ja_up h 0 113 ((h 0 113) - 1)) 52 ((h 0 20).toNat) 4) 55 ((h 0 20).toNat) 1) 0 7 ((h 0 7) + 1)) 6 ((h 0 17).toNat) 19) 7 ((h 0 17).toNat) 0) 8 ((h 0 17).toNat) (h 0 20)) 9 ((h 0 17).toNat) 0) 0 17 ((h 0 17) + 1)) 6 (((h 0 17) + 1).toNat) 37) 7 (((h 0 17) + 1).toNat) 59) 8 (((h 0 17) + 1).toNat) 0) 9 (((h 0 17) + 1).toNat) 0) 0 17 (((h 0 17) + 1) + 1)) 6 ((((h 0 17) + 1) + 1).toNat) 1) 7 ((((h 0 17) + 1) + 1).toNat) 0) 8 ((((h 0 17) + 1) + 1).toNat) 0) 9 ((((h 0 17) + 1) + 1).toNat) 0) 0 17 ((((h 0 17) + 1) + 1) + 1)) ((by first | exact ab_assign2 g p1 p2 (by omega) | (exfalso; omega))) g131)
                  · intro h132 k181_1 g133
                    replace k181_1 : 0 < (h132 0 8) ∧ (h132 0 1) = (h 0 1) ∧ (h132 0 118) = (h 0 118) ∧ (h132 0 127) = (h 0 127) := k181_1
                    refine ja_if_eq 227 devaluated_184 rfl ⟨by decide, by decide⟩ (fun c184 => ?_) (fun c184 => absurd c184 (by omega))
                    refine ja_iconst devaluated_227 ?_
                    refine ja_zreturn devaluated_228 rfl (by omega) ?_
                    exact mo_fin (by omega) rfl (k2 h132 (by omega) g133)
            · refine ja_iconst devaluated_121 ?_
              refine ja_goto 126 devaluated_122 rfl ?_
              refine ja_istore_n devaluated_126 rfl (by decide) (L2 := [(1, (0, 1)), (0, (2, ((0 : Nat) : Int)))]) rfl ?_
              refine ja_aload_n devaluated_127 rfl rfl ?_
              refine fg_form (v := h 0 19) rfl devaluated_128 ?_
              refine ja_iconst devaluated_131 ?_
              refine ja_icmp_ne 142 devaluated_132 rfl ⟨by omega, by omega⟩ ⟨by decide, by decide⟩ (fun c132 => ?_) (fun c132 => ?_)
              · refine ja_aload_n devaluated_142 rfl rfl ?_
                refine fa_opA devaluated_143 ?_
                refine ja_aload_n devaluated_146 rfl rfl ?_
                refine fg_words (v := (h 0 113) - 1) rfl devaluated_147 ?_
                refine il_opA (v := h 75 ((h 0 113) - 1).toNat) rfl ⟨by omega, by omega⟩ devaluated_150 ?_
                have f134 := gC_opA g ((h 0 113) - 1).toNat
                refine ja_istore_n devaluated_151 rfl (by decide) (L2 := [(2, (0, (h 75 ((h 0 113) - 1).toNat))), (1, (0, 1)), (0, (2, ((0 : Nat) : Int)))]) rfl ?_
                refine ja_aload_n devaluated_152 rfl rfl ?_
                refine fg_form (v := h 0 19) rfl devaluated_153 ?_
                refine ja_iconst devaluated_156 ?_
                refine ja_icmp_ne 180 devaluated_157 rfl ⟨by omega, by omega⟩ ⟨by decide, by decide⟩ (fun c157 => ?_) (fun c157 => ?_)
                · refine ja_aload_n devaluated_180 rfl rfl ?_
                  refine t_take (by decide) (show (0 : Nat) ≤ 8 by decide) devaluated_181 g101  ?_ ?_
                  · intro k181_0 g135
                    replace k181_0 : (h 0 7) < 900 := k181_0
                    replace g135 : mo_G (ja_up (ja_up h 0 113 ((h 0 113) - 1)) 0 7 ((h 0 7) + 1)) := g135
                    show mJ l D cA ad 3 cX12_evaluated 3 (some .boolean) 184 [(2, (0, (h 75 ((h 0 113) - 1).toNat))), (1, (0, 1)), (0, (2, ((0 : Nat) : Int)))] [(0, 1)] (ja_up (ja_up h 0 113 ((h 0 113) - 1)) 0 7 ((h 0 7) + 1)) Q
                    refine ja_if_eq 227 devaluated_184 rfl ⟨by decide, by decide⟩ (fun c184 => absurd c184 (by omega)) (fun c184 => ?_)
                    refine ja_aload_n devaluated_187 rfl rfl ?_
                    refine ja_bipush 19 devaluated_188 rfl ?_
                    refine ja_iload_n devaluated_190 rfl rfl ?_
                    refine ja_iload_n devaluated_191 rfl rfl ?_
                    refine ja_iconst devaluated_192 ?_
                    refine t_later (by decide) (show (0 : Nat) ≤ 8 by decide) devaluated_193 g135 ⟨by decide, by decide⟩ ⟨by decide, by decide⟩ ⟨by omega, by omega⟩ ⟨by decide, by decide⟩ (show 0 ≤ 19 ∧ 19 ≤ 38 by omega) (show (h 0 17) < 2000 by omega) ?_
                    intro g136
                    replace g136 : mo_G (ja_up (ja_up (ja_up (ja_up (ja_up (ja_up (ja_up h 0 113 ((h 0 113) - 1)) 0 7 ((h 0 7) + 1)) 6 ((h 0 17).toNat) 19) 7 ((h 0 17).toNat) 1) 8 ((h 0 17).toNat) (h 75 ((h 0 113) - 1).toNat)) 9 ((h 0 17).toNat) 0) 0 17 ((h 0 17) + 1)) := g136
                    show mJ l D cA ad 3 cX12_evaluated 3 (some .boolean) 196 [(2, (0, (h 75 ((h 0 113) - 1).toNat))), (1, (0, 1)), (0, (2, ((0 : Nat) : Int)))] [(0, 1)] (ja_up (ja_up (ja_up (ja_up (ja_up (ja_up (ja_up h 0 113 ((h 0 113) - 1)) 0 7 ((h 0 7) + 1)) 6 ((h 0 17).toNat) 19) 7 ((h 0 17).toNat) 1) 8 ((h 0 17).toNat) (h 75 ((h 0 113) - 1).toNat)) 9 ((h 0 17).toNat) 0) 0 17 ((h 0 17) + 1)) Q
                    refine ja_if_eq 227 devaluated_196 rfl ⟨by decide, by decide⟩ (fun c196 => absurd c196 (by omega)) (fun c196 => ?_)
                    refine ja_aload_n devaluated_199 rfl rfl ?_
                    refine ja_bipush 37 devaluated_200 rfl ?_
                    refine ja_bipush 59 devaluated_202 rfl ?_
                    refine ja_iconst devaluated_204 ?_
                    refine ja_iconst devaluated_205 ?_
                    refine t_later (by decide) (show (0 : Nat) ≤ 8 by decide) devaluated_206 g136 ⟨by decide, by decide⟩ ⟨by decide, by decide⟩ ⟨by decide, by decide⟩ ⟨by decide, by decide⟩ (show 0 ≤ 37 ∧ 37 ≤ 38 by omega) (show ((h 0 17) + 1) < 2000 by omega) ?_
                    intro g137
                    replace g137 : mo_G (ja_up (ja_up (ja_up (ja_up (ja_up (ja_up (ja_up (ja_up (ja_up (ja_up (ja_up (ja_up h 0 113 ((h 0 113) - 1)) 0 7 ((h 0 7) + 1)) 6 ((h 0 17).toNat) 19) 7 ((h 0 17).toNat) 1) 8 ((h 0 17).toNat) (h 75 ((h 0 113) - 1).toNat)) 9 ((h 0 17).toNat) 0) 0 17 ((h 0 17) + 1)) 6 (((h 0 17) + 1).toNat) 37) 7 (((h 0 17) + 1).toNat) 59) 8 (((h 0 17) + 1).toNat) 0) 9 (((h 0 17) + 1).toNat) 0) 0 17 (((h 0 17) + 1) + 1)) := g137
                    show mJ l D cA ad 3 cX12_evaluated 3 (some .boolean) 209 [(2, (0, (h 75 ((h 0 113) - 1).toNat))), (1, (0, 1)), (0, (2, ((0 : Nat) : Int)))] [(0, 1)] (ja_up (ja_up (ja_up (ja_up (ja_up (ja_up (ja_up (ja_up (ja_up (ja_up (ja_up (ja_up h 0 113 ((h 0 113) - 1)) 0 7 ((h 0 7) + 1)) 6 ((h 0 17).toNat) 19) 7 ((h 0 17).toNat) 1) 8 ((h 0 17).toNat) (h 75 ((h 0 113) - 1).toNat)) 9 ((h 0 17).toNat) 0) 0 17 ((h 0 17) + 1)) 6 (((h 0 17) + 1).toNat) 37) 7 (((h 0 17) + 1).toNat) 59) 8 (((h 0 17) + 1).toNat) 0) 9 (((h 0 17) + 1).toNat) 0) 0 17 (((h 0 17) + 1) + 1)) Q
                    refine ja_if_eq 227 devaluated_209 rfl ⟨by decide, by decide⟩ (fun c209 => absurd c209 (by omega)) (fun c209 => ?_)
                    refine ja_aload_n devaluated_212 rfl rfl ?_
                    refine ja_iconst devaluated_213 ?_
                    refine ja_iconst devaluated_214 ?_
                    refine ja_iconst devaluated_215 ?_
                    refine ja_iconst devaluated_216 ?_
                    refine t_later (by decide) (show (0 : Nat) ≤ 8 by decide) devaluated_217 g137 ⟨by decide, by decide⟩ ⟨by decide, by decide⟩ ⟨by decide, by decide⟩ ⟨by decide, by decide⟩ (show 0 ≤ 1 ∧ 1 ≤ 38 by omega) (show (((h 0 17) + 1) + 1) < 2000 by omega) ?_
                    intro g138
                    replace g138 : mo_G (ja_up (ja_up (ja_up (ja_up (ja_up (ja_up (ja_up (ja_up (ja_up (ja_up (ja_up (ja_up (ja_up (ja_up (ja_up (ja_up (ja_up h 0 113 ((h 0 113) - 1)) 0 7 ((h 0 7) + 1)) 6 ((h 0 17).toNat) 19) 7 ((h 0 17).toNat) 1) 8 ((h 0 17).toNat) (h 75 ((h 0 113) - 1).toNat)) 9 ((h 0 17).toNat) 0) 0 17 ((h 0 17) + 1)) 6 (((h 0 17) + 1).toNat) 37) 7 (((h 0 17) + 1).toNat) 59) 8 (((h 0 17) + 1).toNat) 0) 9 (((h 0 17) + 1).toNat) 0) 0 17 (((h 0 17) + 1) + 1)) 6 ((((h 0 17) + 1) + 1).toNat) 1) 7 ((((h 0 17) + 1) + 1).toNat) 0) 8 ((((h 0 17) + 1) + 1).toNat) 0) 9 ((((h 0 17) + 1) + 1).toNat) 0) 0 17 ((((h 0 17) + 1) + 1) + 1)) := g138
                    show mJ l D cA ad 3 cX12_evaluated 3 (some .boolean) 220 [(2, (0, (h 75 ((h 0 113) - 1).toNat))), (1, (0, 1)), (0, (2, ((0 : Nat) : Int)))] [(0, 1)] (ja_up (ja_up (ja_up (ja_up (ja_up (ja_up (ja_up (ja_up (ja_up (ja_up (ja_up (ja_up (ja_up (ja_up (ja_up (ja_up (ja_up h 0 113 ((h 0 113) - 1)) 0 7 ((h 0 7) + 1)) 6 ((h 0 17).toNat) 19) 7 ((h 0 17).toNat) 1) 8 ((h 0 17).toNat) (h 75 ((h 0 113) - 1).toNat)) 9 ((h 0 17).toNat) 0) 0 17 ((h 0 17) + 1)) 6 (((h 0 17) + 1).toNat) 37) 7 (((h 0 17) + 1).toNat) 59) 8 (((h 0 17) + 1).toNat) 0) 9 (((h 0 17) + 1).toNat) 0) 0 17 (((h 0 17) + 1) + 1)) 6 ((((h 0 17) + 1) + 1).toNat) 1) 7 ((((h 0 17) + 1) + 1).toNat) 0) 8 ((((h 0 17) + 1) + 1).toNat) 0) 9 ((((h 0 17) + 1) + 1).toNat) 0) 0 17 ((((h 0 17) + 1) + 1) + 1)) Q
                    refine ja_if_eq 227 devaluated_220 rfl ⟨by decide, by decide⟩ (fun c220 => absurd c220 (by omega)) (fun c220 => ?_)
                    refine ja_iconst devaluated_223 ?_
                    refine ja_goto 228 devaluated_224 rfl ?_
                    refine ja_zreturn devaluated_228 rfl (by omega) ?_
                    exact mo_fin (by omega) rfl (k1 (ja_up (ja_up (ja_up (ja_up (ja_up (ja_up (ja_up (ja_up (ja_up (ja_up (ja_up (ja_up (ja_up (ja_up (ja_up (ja_up (ja_up h 0 113 ((h 0 113) - 1)) 0 7 ((h 0 7) + 1)) 6 ((h 0 17).toNat) 19) 7 ((h 0 17).toNat) 1) 8 ((h 0 17).toNat) (h 75 ((h 0 113) - 1).toNat)) 9 ((h 0 17).toNat) 0) 0 17 ((h 0 17) + 1)) 6 (((h 0 17) + 1).toNat) 37) 7 (((h 0 17) + 1).toNat) 59) 8 (((h 0 17) + 1).toNat) 0) 9 (((h 0 17) + 1).toNat) 0) 0 17 (((h 0 17) + 1) + 1)) 6 ((((h 0 17) + 1) + 1).toNat) 1) 7 ((((h 0 17) + 1) + 1).toNat) 0) 8 ((((h 0 17) + 1) + 1).toNat) 0) 9 ((((h 0 17) + 1) + 1).toNat) 0) 0 17 ((((h 0 17) + 1) + 1) + 1)) ((by first | exact ab_assign1 (k := 1) g p1 p2 (by omega) (by omega) | (exfalso; omega))) g138)
                  · intro h139 k181_1 g140
                    replace k181_1 : 0 < (h139 0 8) ∧ (h139 0 1) = (h 0 1) ∧ (h139 0 118) = (h 0 118) ∧ (h139 0 127) = (h 0 127) := k181_1
                    refine ja_if_eq 227 devaluated_184 rfl ⟨by decide, by decide⟩ (fun c184 => ?_) (fun c184 => absurd c184 (by omega))
                    refine ja_iconst devaluated_227 ?_
                    refine ja_zreturn devaluated_228 rfl (by omega) ?_
                    exact mo_fin (by omega) rfl (k2 h139 (by omega) g140)
                · refine ja_aload_n devaluated_160 rfl rfl ?_
                  refine fa_pointKind devaluated_161 ?_
                  refine ja_aload_n devaluated_164 rfl rfl ?_
                  refine fg_formA (v := h 0 20) rfl devaluated_165 ?_
                  have f141 := gF_formA g
                  refine ja_iconst devaluated_168 ?_
                  have g142 := gW_pointKind g101 (h 0 20).toNat (x := 4) ⟨by decide, by decide⟩
                  refine is_pointKind ⟨by omega, by omega⟩ devaluated_169 ?_
                  refine ja_aload_n devaluated_170 rfl rfl ?_
                  refine fa_pointArgs devaluated_171 ?_
                  refine ja_aload_n devaluated_174 rfl rfl ?_
                  refine fg_formA (v := h 0 20) rfl devaluated_175 ?_
                  refine ja_iconst devaluated_178 ?_
                  have g143 := gW_pointArgs g142 (h 0 20).toNat (x := 1) ⟨by decide, by decide⟩
                  refine is_pointArgs ⟨by omega, by omega⟩ devaluated_179 ?_
                  refine ja_aload_n devaluated_180 rfl rfl ?_
                  refine t_take (by decide) (show (0 : Nat) ≤ 8 by decide) devaluated_181 g143  ?_ ?_
                  · intro k181_0 g144
                    replace k181_0 : (h 0 7) < 900 := k181_0
                    replace g144 : mo_G (ja_up (ja_up (ja_up (ja_up h 0 113 ((h 0 113) - 1)) 52 ((h 0 20).toNat) 4) 55 ((h 0 20).toNat) 1) 0 7 ((h 0 7) + 1)) := g144
                    show mJ l D cA ad 3 cX12_evaluated 3 (some .boolean) 184 [(2, (0, (h 75 ((h 0 113) - 1).toNat))), (1, (0, 1)), (0, (2, ((0 : Nat) : Int)))] [(0, 1)] (ja_up (ja_up (ja_up (ja_up h 0 113 ((h 0 113) - 1)) 52 ((h 0 20).toNat) 4) 55 ((h 0 20).toNat) 1) 0 7 ((h 0 7) + 1)) Q
                    refine ja_if_eq 227 devaluated_184 rfl ⟨by decide, by decide⟩ (fun c184 => absurd c184 (by omega)) (fun c184 => ?_)
                    refine ja_aload_n devaluated_187 rfl rfl ?_
                    refine ja_bipush 19 devaluated_188 rfl ?_
                    refine ja_iload_n devaluated_190 rfl rfl ?_
                    refine ja_iload_n devaluated_191 rfl rfl ?_
                    refine ja_iconst devaluated_192 ?_
                    refine t_later (by decide) (show (0 : Nat) ≤ 8 by decide) devaluated_193 g144 ⟨by decide, by decide⟩ ⟨by decide, by decide⟩ ⟨by omega, by omega⟩ ⟨by decide, by decide⟩ (show 0 ≤ 19 ∧ 19 ≤ 38 by omega) (show (h 0 17) < 2000 by omega) ?_
                    intro g145
                    replace g145 : mo_G (ja_up (ja_up (ja_up (ja_up (ja_up (ja_up (ja_up (ja_up (ja_up h 0 113 ((h 0 113) - 1)) 52 ((h 0 20).toNat) 4) 55 ((h 0 20).toNat) 1) 0 7 ((h 0 7) + 1)) 6 ((h 0 17).toNat) 19) 7 ((h 0 17).toNat) 1) 8 ((h 0 17).toNat) (h 75 ((h 0 113) - 1).toNat)) 9 ((h 0 17).toNat) 0) 0 17 ((h 0 17) + 1)) := g145
                    show mJ l D cA ad 3 cX12_evaluated 3 (some .boolean) 196 [(2, (0, (h 75 ((h 0 113) - 1).toNat))), (1, (0, 1)), (0, (2, ((0 : Nat) : Int)))] [(0, 1)] (ja_up (ja_up (ja_up (ja_up (ja_up (ja_up (ja_up (ja_up (ja_up h 0 113 ((h 0 113) - 1)) 52 ((h 0 20).toNat) 4) 55 ((h 0 20).toNat) 1) 0 7 ((h 0 7) + 1)) 6 ((h 0 17).toNat) 19) 7 ((h 0 17).toNat) 1) 8 ((h 0 17).toNat) (h 75 ((h 0 113) - 1).toNat)) 9 ((h 0 17).toNat) 0) 0 17 ((h 0 17) + 1)) Q
                    refine ja_if_eq 227 devaluated_196 rfl ⟨by decide, by decide⟩ (fun c196 => absurd c196 (by omega)) (fun c196 => ?_)
                    refine ja_aload_n devaluated_199 rfl rfl ?_
                    refine ja_bipush 37 devaluated_200 rfl ?_
                    refine ja_bipush 59 devaluated_202 rfl ?_
                    refine ja_iconst devaluated_204 ?_
                    refine ja_iconst devaluated_205 ?_
                    refine t_later (by decide) (show (0 : Nat) ≤ 8 by decide) devaluated_206 g145 ⟨by decide, by decide⟩ ⟨by decide, by decide⟩ ⟨by decide, by decide⟩ ⟨by decide, by decide⟩ (show 0 ≤ 37 ∧ 37 ≤ 38 by omega) (show ((h 0 17) + 1) < 2000 by omega) ?_
                    intro g146
                    replace g146 : mo_G (ja_up (ja_up (ja_up (ja_up (ja_up (ja_up (ja_up (ja_up (ja_up (ja_up (ja_up (ja_up (ja_up (ja_up h 0 113 ((h 0 113) - 1)) 52 ((h 0 20).toNat) 4) 55 ((h 0 20).toNat) 1) 0 7 ((h 0 7) + 1)) 6 ((h 0 17).toNat) 19) 7 ((h 0 17).toNat) 1) 8 ((h 0 17).toNat) (h 75 ((h 0 113) - 1).toNat)) 9 ((h 0 17).toNat) 0) 0 17 ((h 0 17) + 1)) 6 (((h 0 17) + 1).toNat) 37) 7 (((h 0 17) + 1).toNat) 59) 8 (((h 0 17) + 1).toNat) 0) 9 (((h 0 17) + 1).toNat) 0) 0 17 (((h 0 17) + 1) + 1)) := g146
                    show mJ l D cA ad 3 cX12_evaluated 3 (some .boolean) 209 [(2, (0, (h 75 ((h 0 113) - 1).toNat))), (1, (0, 1)), (0, (2, ((0 : Nat) : Int)))] [(0, 1)] (ja_up (ja_up (ja_up (ja_up (ja_up (ja_up (ja_up (ja_up (ja_up (ja_up (ja_up (ja_up (ja_up (ja_up h 0 113 ((h 0 113) - 1)) 52 ((h 0 20).toNat) 4) 55 ((h 0 20).toNat) 1) 0 7 ((h 0 7) + 1)) 6 ((h 0 17).toNat) 19) 7 ((h 0 17).toNat) 1) 8 ((h 0 17).toNat) (h 75 ((h 0 113) - 1).toNat)) 9 ((h 0 17).toNat) 0) 0 17 ((h 0 17) + 1)) 6 (((h 0 17) + 1).toNat) 37) 7 (((h 0 17) + 1).toNat) 59) 8 (((h 0 17) + 1).toNat) 0) 9 (((h 0 17) + 1).toNat) 0) 0 17 (((h 0 17) + 1) + 1)) Q
                    refine ja_if_eq 227 devaluated_209 rfl ⟨by decide, by decide⟩ (fun c209 => absurd c209 (by omega)) (fun c209 => ?_)
                    refine ja_aload_n devaluated_212 rfl rfl ?_
                    refine ja_iconst devaluated_213 ?_
                    refine ja_iconst devaluated_214 ?_
                    refine ja_iconst devaluated_215 ?_
                    refine ja_iconst devaluated_216 ?_
                    refine t_later (by decide) (show (0 : Nat) ≤ 8 by decide) devaluated_217 g146 ⟨by decide, by decide⟩ ⟨by decide, by decide⟩ ⟨by decide, by decide⟩ ⟨by decide, by decide⟩ (show 0 ≤ 1 ∧ 1 ≤ 38 by omega) (show (((h 0 17) + 1) + 1) < 2000 by omega) ?_
                    intro g147
                    replace g147 : mo_G (ja_up (ja_up (ja_up (ja_up (ja_up (ja_up (ja_up (ja_up (ja_up (ja_up (ja_up (ja_up (ja_up (ja_up (ja_up (ja_up (ja_up (ja_up (ja_up h 0 113 ((h 0 113) - 1)) 52 ((h 0 20).toNat) 4) 55 ((h 0 20).toNat) 1) 0 7 ((h 0 7) + 1)) 6 ((h 0 17).toNat) 19) 7 ((h 0 17).toNat) 1) 8 ((h 0 17).toNat) (h 75 ((h 0 113) - 1).toNat)) 9 ((h 0 17).toNat) 0) 0 17 ((h 0 17) + 1)) 6 (((h 0 17) + 1).toNat) 37) 7 (((h 0 17) + 1).toNat) 59) 8 (((h 0 17) + 1).toNat) 0) 9 (((h 0 17) + 1).toNat) 0) 0 17 (((h 0 17) + 1) + 1)) 6 ((((h 0 17) + 1) + 1).toNat) 1) 7 ((((h 0 17) + 1) + 1).toNat) 0) 8 ((((h 0 17) + 1) + 1).toNat) 0) 9 ((((h 0 17) + 1) + 1).toNat) 0) 0 17 ((((h 0 17) + 1) + 1) + 1)) := g147
                    show mJ l D cA ad 3 cX12_evaluated 3 (some .boolean) 220 [(2, (0, (h 75 ((h 0 113) - 1).toNat))), (1, (0, 1)), (0, (2, ((0 : Nat) : Int)))] [(0, 1)] (ja_up (ja_up (ja_up (ja_up (ja_up (ja_up (ja_up (ja_up (ja_up (ja_up (ja_up (ja_up (ja_up (ja_up (ja_up (ja_up (ja_up (ja_up (ja_up h 0 113 ((h 0 113) - 1)) 52 ((h 0 20).toNat) 4) 55 ((h 0 20).toNat) 1) 0 7 ((h 0 7) + 1)) 6 ((h 0 17).toNat) 19) 7 ((h 0 17).toNat) 1) 8 ((h 0 17).toNat) (h 75 ((h 0 113) - 1).toNat)) 9 ((h 0 17).toNat) 0) 0 17 ((h 0 17) + 1)) 6 (((h 0 17) + 1).toNat) 37) 7 (((h 0 17) + 1).toNat) 59) 8 (((h 0 17) + 1).toNat) 0) 9 (((h 0 17) + 1).toNat) 0) 0 17 (((h 0 17) + 1) + 1)) 6 ((((h 0 17) + 1) + 1).toNat) 1) 7 ((((h 0 17) + 1) + 1).toNat) 0) 8 ((((h 0 17) + 1) + 1).toNat) 0) 9 ((((h 0 17) + 1) + 1).toNat) 0) 0 17 ((((h 0 17) + 1) + 1) + 1)) Q
                    refine ja_if_eq 227 devaluated_220 rfl ⟨by decide, by decide⟩ (fun c220 => absurd c220 (by omega)) (fun c220 => ?_)
                    refine ja_iconst devaluated_223 ?_
                    refine ja_goto 228 devaluated_224 rfl ?_
                    refine ja_zreturn devaluated_228 rfl (by omega) ?_
                    exact mo_fin (by omega) rfl (k1 (ja_up (ja_up (ja_up (ja_up (ja_up (ja_up (ja_up (ja_up (ja_up (ja_up (ja_up (ja_up (ja_up (ja_up (ja_up (ja_up (ja_up (ja_up (ja_up h 0 113 ((h 0 113) - 1)) 52 ((h 0 20).toNat) 4) 55 ((h 0 20).toNat) 1) 0 7 ((h 0 7) + 1)) 6 ((h 0 17).toNat) 19) 7 ((h 0 17).toNat) 1) 8 ((h 0 17).toNat) (h 75 ((h 0 113) - 1).toNat)) 9 ((h 0 17).toNat) 0) 0 17 ((h 0 17) + 1)) 6 (((h 0 17) + 1).toNat) 37) 7 (((h 0 17) + 1).toNat) 59) 8 (((h 0 17) + 1).toNat) 0) 9 (((h 0 17) + 1).toNat) 0) 0 17 (((h 0 17) + 1) + 1)) 6 ((((h 0 17) + 1) + 1).toNat) 1) 7 ((((h 0 17) + 1) + 1).toNat) 0) 8 ((((h 0 17) + 1) + 1).toNat) 0) 9 ((((h 0 17) + 1) + 1).toNat) 0) 0 17 ((((h 0 17) + 1) + 1) + 1)) ((by first | exact ab_assign2 g p1 p2 (by omega) | (exfalso; omega))) g147)
                  · intro h148 k181_1 g149
                    replace k181_1 : 0 < (h148 0 8) ∧ (h148 0 1) = (h 0 1) ∧ (h148 0 118) = (h 0 118) ∧ (h148 0 127) = (h 0 127) := k181_1
                    refine ja_if_eq 227 devaluated_184 rfl ⟨by decide, by decide⟩ (fun c184 => ?_) (fun c184 => absurd c184 (by omega))
                    refine ja_iconst devaluated_227 ?_
                    refine ja_zreturn devaluated_228 rfl (by omega) ?_
                    exact mo_fin (by omega) rfl (k2 h148 (by omega) g149)
              · refine ja_aload_n devaluated_135 rfl rfl ?_
                refine fg_formA (v := h 0 20) rfl devaluated_136 ?_
                have f150 := gF_formA g
                refine ja_goto 151 devaluated_139 rfl ?_
                refine ja_istore_n devaluated_151 rfl (by decide) (L2 := [(2, (0, (h 0 20))), (1, (0, 1)), (0, (2, ((0 : Nat) : Int)))]) rfl ?_
                refine ja_aload_n devaluated_152 rfl rfl ?_
                refine fg_form (v := h 0 19) rfl devaluated_153 ?_
                refine ja_iconst devaluated_156 ?_
                refine ja_icmp_ne 180 devaluated_157 rfl ⟨by omega, by omega⟩ ⟨by decide, by decide⟩ (fun c157 => ?_) (fun c157 => ?_)
                · refine ja_aload_n devaluated_180 rfl rfl ?_
                  refine t_take (by decide) (show (0 : Nat) ≤ 8 by decide) devaluated_181 g101  ?_ ?_
                  · intro k181_0 g151
                    replace k181_0 : (h 0 7) < 900 := k181_0
                    replace g151 : mo_G (ja_up (ja_up h 0 113 ((h 0 113) - 1)) 0 7 ((h 0 7) + 1)) := g151
                    show mJ l D cA ad 3 cX12_evaluated 3 (some .boolean) 184 [(2, (0, (h 0 20))), (1, (0, 1)), (0, (2, ((0 : Nat) : Int)))] [(0, 1)] (ja_up (ja_up h 0 113 ((h 0 113) - 1)) 0 7 ((h 0 7) + 1)) Q
                    refine ja_if_eq 227 devaluated_184 rfl ⟨by decide, by decide⟩ (fun c184 => absurd c184 (by omega)) (fun c184 => ?_)
                    refine ja_aload_n devaluated_187 rfl rfl ?_
                    refine ja_bipush 19 devaluated_188 rfl ?_
                    refine ja_iload_n devaluated_190 rfl rfl ?_
                    refine ja_iload_n devaluated_191 rfl rfl ?_
                    refine ja_iconst devaluated_192 ?_
                    refine t_later (by decide) (show (0 : Nat) ≤ 8 by decide) devaluated_193 g151 ⟨by decide, by decide⟩ ⟨by decide, by decide⟩ ⟨by omega, by omega⟩ ⟨by decide, by decide⟩ (show 0 ≤ 19 ∧ 19 ≤ 38 by omega) (show (h 0 17) < 2000 by omega) ?_
                    intro g152
                    replace g152 : mo_G (ja_up (ja_up (ja_up (ja_up (ja_up (ja_up (ja_up h 0 113 ((h 0 113) - 1)) 0 7 ((h 0 7) + 1)) 6 ((h 0 17).toNat) 19) 7 ((h 0 17).toNat) 1) 8 ((h 0 17).toNat) (h 0 20)) 9 ((h 0 17).toNat) 0) 0 17 ((h 0 17) + 1)) := g152
                    show mJ l D cA ad 3 cX12_evaluated 3 (some .boolean) 196 [(2, (0, (h 0 20))), (1, (0, 1)), (0, (2, ((0 : Nat) : Int)))] [(0, 1)] (ja_up (ja_up (ja_up (ja_up (ja_up (ja_up (ja_up h 0 113 ((h 0 113) - 1)) 0 7 ((h 0 7) + 1)) 6 ((h 0 17).toNat) 19) 7 ((h 0 17).toNat) 1) 8 ((h 0 17).toNat) (h 0 20)) 9 ((h 0 17).toNat) 0) 0 17 ((h 0 17) + 1)) Q
                    refine ja_if_eq 227 devaluated_196 rfl ⟨by decide, by decide⟩ (fun c196 => absurd c196 (by omega)) (fun c196 => ?_)
                    refine ja_aload_n devaluated_199 rfl rfl ?_
                    refine ja_bipush 37 devaluated_200 rfl ?_
                    refine ja_bipush 59 devaluated_202 rfl ?_
                    refine ja_iconst devaluated_204 ?_
                    refine ja_iconst devaluated_205 ?_
                    refine t_later (by decide) (show (0 : Nat) ≤ 8 by decide) devaluated_206 g152 ⟨by decide, by decide⟩ ⟨by decide, by decide⟩ ⟨by decide, by decide⟩ ⟨by decide, by decide⟩ (show 0 ≤ 37 ∧ 37 ≤ 38 by omega) (show ((h 0 17) + 1) < 2000 by omega) ?_
                    intro g153
                    replace g153 : mo_G (ja_up (ja_up (ja_up (ja_up (ja_up (ja_up (ja_up (ja_up (ja_up (ja_up (ja_up (ja_up h 0 113 ((h 0 113) - 1)) 0 7 ((h 0 7) + 1)) 6 ((h 0 17).toNat) 19) 7 ((h 0 17).toNat) 1) 8 ((h 0 17).toNat) (h 0 20)) 9 ((h 0 17).toNat) 0) 0 17 ((h 0 17) + 1)) 6 (((h 0 17) + 1).toNat) 37) 7 (((h 0 17) + 1).toNat) 59) 8 (((h 0 17) + 1).toNat) 0) 9 (((h 0 17) + 1).toNat) 0) 0 17 (((h 0 17) + 1) + 1)) := g153
                    show mJ l D cA ad 3 cX12_evaluated 3 (some .boolean) 209 [(2, (0, (h 0 20))), (1, (0, 1)), (0, (2, ((0 : Nat) : Int)))] [(0, 1)] (ja_up (ja_up (ja_up (ja_up (ja_up (ja_up (ja_up (ja_up (ja_up (ja_up (ja_up (ja_up h 0 113 ((h 0 113) - 1)) 0 7 ((h 0 7) + 1)) 6 ((h 0 17).toNat) 19) 7 ((h 0 17).toNat) 1) 8 ((h 0 17).toNat) (h 0 20)) 9 ((h 0 17).toNat) 0) 0 17 ((h 0 17) + 1)) 6 (((h 0 17) + 1).toNat) 37) 7 (((h 0 17) + 1).toNat) 59) 8 (((h 0 17) + 1).toNat) 0) 9 (((h 0 17) + 1).toNat) 0) 0 17 (((h 0 17) + 1) + 1)) Q
                    refine ja_if_eq 227 devaluated_209 rfl ⟨by decide, by decide⟩ (fun c209 => absurd c209 (by omega)) (fun c209 => ?_)
                    refine ja_aload_n devaluated_212 rfl rfl ?_
                    refine ja_iconst devaluated_213 ?_
                    refine ja_iconst devaluated_214 ?_
                    refine ja_iconst devaluated_215 ?_
                    refine ja_iconst devaluated_216 ?_
                    refine t_later (by decide) (show (0 : Nat) ≤ 8 by decide) devaluated_217 g153 ⟨by decide, by decide⟩ ⟨by decide, by decide⟩ ⟨by decide, by decide⟩ ⟨by decide, by decide⟩ (show 0 ≤ 1 ∧ 1 ≤ 38 by omega) (show (((h 0 17) + 1) + 1) < 2000 by omega) ?_
                    intro g154
                    replace g154 : mo_G (ja_up (ja_up (ja_up (ja_up (ja_up (ja_up (ja_up (ja_up (ja_up (ja_up (ja_up (ja_up (ja_up (ja_up (ja_up (ja_up (ja_up h 0 113 ((h 0 113) - 1)) 0 7 ((h 0 7) + 1)) 6 ((h 0 17).toNat) 19) 7 ((h 0 17).toNat) 1) 8 ((h 0 17).toNat) (h 0 20)) 9 ((h 0 17).toNat) 0) 0 17 ((h 0 17) + 1)) 6 (((h 0 17) + 1).toNat) 37) 7 (((h 0 17) + 1).toNat) 59) 8 (((h 0 17) + 1).toNat) 0) 9 (((h 0 17) + 1).toNat) 0) 0 17 (((h 0 17) + 1) + 1)) 6 ((((h 0 17) + 1) + 1).toNat) 1) 7 ((((h 0 17) + 1) + 1).toNat) 0) 8 ((((h 0 17) + 1) + 1).toNat) 0) 9 ((((h 0 17) + 1) + 1).toNat) 0) 0 17 ((((h 0 17) + 1) + 1) + 1)) := g154
                    show mJ l D cA ad 3 cX12_evaluated 3 (some .boolean) 220 [(2, (0, (h 0 20))), (1, (0, 1)), (0, (2, ((0 : Nat) : Int)))] [(0, 1)] (ja_up (ja_up (ja_up (ja_up (ja_up (ja_up (ja_up (ja_up (ja_up (ja_up (ja_up (ja_up (ja_up (ja_up (ja_up (ja_up (ja_up h 0 113 ((h 0 113) - 1)) 0 7 ((h 0 7) + 1)) 6 ((h 0 17).toNat) 19) 7 ((h 0 17).toNat) 1) 8 ((h 0 17).toNat) (h 0 20)) 9 ((h 0 17).toNat) 0) 0 17 ((h 0 17) + 1)) 6 (((h 0 17) + 1).toNat) 37) 7 (((h 0 17) + 1).toNat) 59) 8 (((h 0 17) + 1).toNat) 0) 9 (((h 0 17) + 1).toNat) 0) 0 17 (((h 0 17) + 1) + 1)) 6 ((((h 0 17) + 1) + 1).toNat) 1) 7 ((((h 0 17) + 1) + 1).toNat) 0) 8 ((((h 0 17) + 1) + 1).toNat) 0) 9 ((((h 0 17) + 1) + 1).toNat) 0) 0 17 ((((h 0 17) + 1) + 1) + 1)) Q
                    refine ja_if_eq 227 devaluated_220 rfl ⟨by decide, by decide⟩ (fun c220 => absurd c220 (by omega)) (fun c220 => ?_)
                    refine ja_iconst devaluated_223 ?_
                    refine ja_goto 228 devaluated_224 rfl ?_
                    refine ja_zreturn devaluated_228 rfl (by omega) ?_
                    exact mo_fin (by omega) rfl (k1 (ja_up (ja_up (ja_up (ja_up (ja_up (ja_up (ja_up (ja_up (ja_up (ja_up (ja_up (ja_up (ja_up (ja_up (ja_up (ja_up (ja_up h 0 113 ((h 0 113) - 1)) 0 7 ((h 0 7) + 1)) 6 ((h 0 17).toNat) 19) 7 ((h 0 17).toNat) 1) 8 ((h 0 17).toNat) (h 0 20)) 9 ((h 0 17).toNat) 0) 0 17 ((h 0 17) + 1)) 6 (((h 0 17) + 1).toNat) 37) 7 (((h 0 17) + 1).toNat) 59) 8 (((h 0 17) + 1).toNat) 0) 9 (((h 0 17) + 1).toNat) 0) 0 17 (((h 0 17) + 1) + 1)) 6 ((((h 0 17) + 1) + 1).toNat) 1) 7 ((((h 0 17) + 1) + 1).toNat) 0) 8 ((((h 0 17) + 1) + 1).toNat) 0) 9 ((((h 0 17) + 1) + 1).toNat) 0) 0 17 ((((h 0 17) + 1) + 1) + 1)) ((by first | exact ab_assign1 (k := 1) g p1 p2 (by omega) (by omega) | (exfalso; omega))) g154)
                  · intro h155 k181_1 g156
                    replace k181_1 : 0 < (h155 0 8) ∧ (h155 0 1) = (h 0 1) ∧ (h155 0 118) = (h 0 118) ∧ (h155 0 127) = (h 0 127) := k181_1
                    refine ja_if_eq 227 devaluated_184 rfl ⟨by decide, by decide⟩ (fun c184 => ?_) (fun c184 => absurd c184 (by omega))
                    refine ja_iconst devaluated_227 ?_
                    refine ja_zreturn devaluated_228 rfl (by omega) ?_
                    exact mo_fin (by omega) rfl (k2 h155 (by omega) g156)
                · refine ja_aload_n devaluated_160 rfl rfl ?_
                  refine fa_pointKind devaluated_161 ?_
                  refine ja_aload_n devaluated_164 rfl rfl ?_
                  refine fg_formA (v := h 0 20) rfl devaluated_165 ?_
                  refine ja_iconst devaluated_168 ?_
                  have g157 := gW_pointKind g101 (h 0 20).toNat (x := 4) ⟨by decide, by decide⟩
                  refine is_pointKind ⟨by omega, by omega⟩ devaluated_169 ?_
                  refine ja_aload_n devaluated_170 rfl rfl ?_
                  refine fa_pointArgs devaluated_171 ?_
                  refine ja_aload_n devaluated_174 rfl rfl ?_
                  refine fg_formA (v := h 0 20) rfl devaluated_175 ?_
                  refine ja_iconst devaluated_178 ?_
                  have g158 := gW_pointArgs g157 (h 0 20).toNat (x := 1) ⟨by decide, by decide⟩
                  refine is_pointArgs ⟨by omega, by omega⟩ devaluated_179 ?_
                  refine ja_aload_n devaluated_180 rfl rfl ?_
                  refine t_take (by decide) (show (0 : Nat) ≤ 8 by decide) devaluated_181 g158  ?_ ?_
                  · intro k181_0 g159
                    replace k181_0 : (h 0 7) < 900 := k181_0
                    replace g159 : mo_G (ja_up (ja_up (ja_up (ja_up h 0 113 ((h 0 113) - 1)) 52 ((h 0 20).toNat) 4) 55 ((h 0 20).toNat) 1) 0 7 ((h 0 7) + 1)) := g159
                    show mJ l D cA ad 3 cX12_evaluated 3 (some .boolean) 184 [(2, (0, (h 0 20))), (1, (0, 1)), (0, (2, ((0 : Nat) : Int)))] [(0, 1)] (ja_up (ja_up (ja_up (ja_up h 0 113 ((h 0 113) - 1)) 52 ((h 0 20).toNat) 4) 55 ((h 0 20).toNat) 1) 0 7 ((h 0 7) + 1)) Q
                    refine ja_if_eq 227 devaluated_184 rfl ⟨by decide, by decide⟩ (fun c184 => absurd c184 (by omega)) (fun c184 => ?_)
                    refine ja_aload_n devaluated_187 rfl rfl ?_
                    refine ja_bipush 19 devaluated_188 rfl ?_
                    refine ja_iload_n devaluated_190 rfl rfl ?_
                    refine ja_iload_n devaluated_191 rfl rfl ?_
                    refine ja_iconst devaluated_192 ?_
                    refine t_later (by decide) (show (0 : Nat) ≤ 8 by decide) devaluated_193 g159 ⟨by decide, by decide⟩ ⟨by decide, by decide⟩ ⟨by omega, by omega⟩ ⟨by decide, by decide⟩ (show 0 ≤ 19 ∧ 19 ≤ 38 by omega) (show (h 0 17) < 2000 by omega) ?_
                    intro g160
                    replace g160 : mo_G (ja_up (ja_up (ja_up (ja_up (ja_up (ja_up (ja_up (ja_up (ja_up h 0 113 ((h 0 113) - 1)) 52 ((h 0 20).toNat) 4) 55 ((h 0 20).toNat) 1) 0 7 ((h 0 7) + 1)) 6 ((h 0 17).toNat) 19) 7 ((h 0 17).toNat) 1) 8 ((h 0 17).toNat) (h 0 20)) 9 ((h 0 17).toNat) 0) 0 17 ((h 0 17) + 1)) := g160
                    show mJ l D cA ad 3 cX12_evaluated 3 (some .boolean) 196 [(2, (0, (h 0 20))), (1, (0, 1)), (0, (2, ((0 : Nat) : Int)))] [(0, 1)] (ja_up (ja_up (ja_up (ja_up (ja_up (ja_up (ja_up (ja_up (ja_up h 0 113 ((h 0 113) - 1)) 52 ((h 0 20).toNat) 4) 55 ((h 0 20).toNat) 1) 0 7 ((h 0 7) + 1)) 6 ((h 0 17).toNat) 19) 7 ((h 0 17).toNat) 1) 8 ((h 0 17).toNat) (h 0 20)) 9 ((h 0 17).toNat) 0) 0 17 ((h 0 17) + 1)) Q
                    refine ja_if_eq 227 devaluated_196 rfl ⟨by decide, by decide⟩ (fun c196 => absurd c196 (by omega)) (fun c196 => ?_)
                    refine ja_aload_n devaluated_199 rfl rfl ?_
                    refine ja_bipush 37 devaluated_200 rfl ?_
                    refine ja_bipush 59 devaluated_202 rfl ?_
                    refine ja_iconst devaluated_204 ?_
                    refine ja_iconst devaluated_205 ?_
                    refine t_later (by decide) (show (0 : Nat) ≤ 8 by decide) devaluated_206 g160 ⟨by decide, by decide⟩ ⟨by decide, by decide⟩ ⟨by decide, by decide⟩ ⟨by decide, by decide⟩ (show 0 ≤ 37 ∧ 37 ≤ 38 by omega) (show ((h 0 17) + 1) < 2000 by omega) ?_
                    intro g161
                    replace g161 : mo_G (ja_up (ja_up (ja_up (ja_up (ja_up (ja_up (ja_up (ja_up (ja_up (ja_up (ja_up (ja_up (ja_up (ja_up h 0 113 ((h 0 113) - 1)) 52 ((h 0 20).toNat) 4) 55 ((h 0 20).toNat) 1) 0 7 ((h 0 7) + 1)) 6 ((h 0 17).toNat) 19) 7 ((h 0 17).toNat) 1) 8 ((h 0 17).toNat) (h 0 20)) 9 ((h 0 17).toNat) 0) 0 17 ((h 0 17) + 1)) 6 (((h 0 17) + 1).toNat) 37) 7 (((h 0 17) + 1).toNat) 59) 8 (((h 0 17) + 1).toNat) 0) 9 (((h 0 17) + 1).toNat) 0) 0 17 (((h 0 17) + 1) + 1)) := g161
                    show mJ l D cA ad 3 cX12_evaluated 3 (some .boolean) 209 [(2, (0, (h 0 20))), (1, (0, 1)), (0, (2, ((0 : Nat) : Int)))] [(0, 1)] (ja_up (ja_up (ja_up (ja_up (ja_up (ja_up (ja_up (ja_up (ja_up (ja_up (ja_up (ja_up (ja_up (ja_up h 0 113 ((h 0 113) - 1)) 52 ((h 0 20).toNat) 4) 55 ((h 0 20).toNat) 1) 0 7 ((h 0 7) + 1)) 6 ((h 0 17).toNat) 19) 7 ((h 0 17).toNat) 1) 8 ((h 0 17).toNat) (h 0 20)) 9 ((h 0 17).toNat) 0) 0 17 ((h 0 17) + 1)) 6 (((h 0 17) + 1).toNat) 37) 7 (((h 0 17) + 1).toNat) 59) 8 (((h 0 17) + 1).toNat) 0) 9 (((h 0 17) + 1).toNat) 0) 0 17 (((h 0 17) + 1) + 1)) Q
                    refine ja_if_eq 227 devaluated_209 rfl ⟨by decide, by decide⟩ (fun c209 => absurd c209 (by omega)) (fun c209 => ?_)
                    refine ja_aload_n devaluated_212 rfl rfl ?_
                    refine ja_iconst devaluated_213 ?_
                    refine ja_iconst devaluated_214 ?_
                    refine ja_iconst devaluated_215 ?_
                    refine ja_iconst devaluated_216 ?_
                    refine t_later (by decide) (show (0 : Nat) ≤ 8 by decide) devaluated_217 g161 ⟨by decide, by decide⟩ ⟨by decide, by decide⟩ ⟨by decide, by decide⟩ ⟨by decide, by decide⟩ (show 0 ≤ 1 ∧ 1 ≤ 38 by omega) (show (((h 0 17) + 1) + 1) < 2000 by omega) ?_
                    intro g162
                    replace g162 : mo_G (ja_up (ja_up (ja_up (ja_up (ja_up (ja_up (ja_up (ja_up (ja_up (ja_up (ja_up (ja_up (ja_up (ja_up (ja_up (ja_up (ja_up (ja_up (ja_up h 0 113 ((h 0 113) - 1)) 52 ((h 0 20).toNat) 4) 55 ((h 0 20).toNat) 1) 0 7 ((h 0 7) + 1)) 6 ((h 0 17).toNat) 19) 7 ((h 0 17).toNat) 1) 8 ((h 0 17).toNat) (h 0 20)) 9 ((h 0 17).toNat) 0) 0 17 ((h 0 17) + 1)) 6 (((h 0 17) + 1).toNat) 37) 7 (((h 0 17) + 1).toNat) 59) 8 (((h 0 17) + 1).toNat) 0) 9 (((h 0 17) + 1).toNat) 0) 0 17 (((h 0 17) + 1) + 1)) 6 ((((h 0 17) + 1) + 1).toNat) 1) 7 ((((h 0 17) + 1) + 1).toNat) 0) 8 ((((h 0 17) + 1) + 1).toNat) 0) 9 ((((h 0 17) + 1) + 1).toNat) 0) 0 17 ((((h 0 17) + 1) + 1) + 1)) := g162
                    show mJ l D cA ad 3 cX12_evaluated 3 (some .boolean) 220 [(2, (0, (h 0 20))), (1, (0, 1)), (0, (2, ((0 : Nat) : Int)))] [(0, 1)] (ja_up (ja_up (ja_up (ja_up (ja_up (ja_up (ja_up (ja_up (ja_up (ja_up (ja_up (ja_up (ja_up (ja_up (ja_up (ja_up (ja_up (ja_up (ja_up h 0 113 ((h 0 113) - 1)) 52 ((h 0 20).toNat) 4) 55 ((h 0 20).toNat) 1) 0 7 ((h 0 7) + 1)) 6 ((h 0 17).toNat) 19) 7 ((h 0 17).toNat) 1) 8 ((h 0 17).toNat) (h 0 20)) 9 ((h 0 17).toNat) 0) 0 17 ((h 0 17) + 1)) 6 (((h 0 17) + 1).toNat) 37) 7 (((h 0 17) + 1).toNat) 59) 8 (((h 0 17) + 1).toNat) 0) 9 (((h 0 17) + 1).toNat) 0) 0 17 (((h 0 17) + 1) + 1)) 6 ((((h 0 17) + 1) + 1).toNat) 1) 7 ((((h 0 17) + 1) + 1).toNat) 0) 8 ((((h 0 17) + 1) + 1).toNat) 0) 9 ((((h 0 17) + 1) + 1).toNat) 0) 0 17 ((((h 0 17) + 1) + 1) + 1)) Q
                    refine ja_if_eq 227 devaluated_220 rfl ⟨by decide, by decide⟩ (fun c220 => absurd c220 (by omega)) (fun c220 => ?_)
                    refine ja_iconst devaluated_223 ?_
                    refine ja_goto 228 devaluated_224 rfl ?_
                    refine ja_zreturn devaluated_228 rfl (by omega) ?_
                    exact mo_fin (by omega) rfl (k1 (ja_up (ja_up (ja_up (ja_up (ja_up (ja_up (ja_up (ja_up (ja_up (ja_up (ja_up (ja_up (ja_up (ja_up (ja_up (ja_up (ja_up (ja_up (ja_up h 0 113 ((h 0 113) - 1)) 52 ((h 0 20).toNat) 4) 55 ((h 0 20).toNat) 1) 0 7 ((h 0 7) + 1)) 6 ((h 0 17).toNat) 19) 7 ((h 0 17).toNat) 1) 8 ((h 0 17).toNat) (h 0 20)) 9 ((h 0 17).toNat) 0) 0 17 ((h 0 17) + 1)) 6 (((h 0 17) + 1).toNat) 37) 7 (((h 0 17) + 1).toNat) 59) 8 (((h 0 17) + 1).toNat) 0) 9 (((h 0 17) + 1).toNat) 0) 0 17 (((h 0 17) + 1) + 1)) 6 ((((h 0 17) + 1) + 1).toNat) 1) 7 ((((h 0 17) + 1) + 1).toNat) 0) 8 ((((h 0 17) + 1) + 1).toNat) 0) 9 ((((h 0 17) + 1) + 1).toNat) 0) 0 17 ((((h 0 17) + 1) + 1) + 1)) ((by first | exact ab_assign2 g p1 p2 (by omega) | (exfalso; omega))) g162)
                  · intro h163 k181_1 g164
                    replace k181_1 : 0 < (h163 0 8) ∧ (h163 0 1) = (h 0 1) ∧ (h163 0 118) = (h 0 118) ∧ (h163 0 127) = (h 0 127) := k181_1
                    refine ja_if_eq 227 devaluated_184 rfl ⟨by decide, by decide⟩ (fun c184 => ?_) (fun c184 => absurd c184 (by omega))
                    refine ja_iconst devaluated_227 ?_
                    refine ja_zreturn devaluated_228 rfl (by omega) ?_
                    exact mo_fin (by omega) rfl (k2 h163 (by omega) g164)
          · refine ja_iconst devaluated_103 ?_
            refine ja_goto 126 devaluated_104 rfl ?_
            refine ja_istore_n devaluated_126 rfl (by decide) (L2 := [(1, (0, 2)), (0, (2, ((0 : Nat) : Int)))]) rfl ?_
            refine ja_aload_n devaluated_127 rfl rfl ?_
            refine fg_form (v := h 0 19) rfl devaluated_128 ?_
            refine ja_iconst devaluated_131 ?_
            refine ja_icmp_ne 142 devaluated_132 rfl ⟨by omega, by omega⟩ ⟨by decide, by decide⟩ (fun c132 => ?_) (fun c132 => ?_)
            · refine ja_aload_n devaluated_142 rfl rfl ?_
              refine fa_opA devaluated_143 ?_
              refine ja_aload_n devaluated_146 rfl rfl ?_
              refine fg_words (v := (h 0 113) - 1) rfl devaluated_147 ?_
              refine il_opA (v := h 75 ((h 0 113) - 1).toNat) rfl ⟨by omega, by omega⟩ devaluated_150 ?_
              have f165 := gC_opA g ((h 0 113) - 1).toNat
              refine ja_istore_n devaluated_151 rfl (by decide) (L2 := [(2, (0, (h 75 ((h 0 113) - 1).toNat))), (1, (0, 2)), (0, (2, ((0 : Nat) : Int)))]) rfl ?_
              refine ja_aload_n devaluated_152 rfl rfl ?_
              refine fg_form (v := h 0 19) rfl devaluated_153 ?_
              refine ja_iconst devaluated_156 ?_
              refine ja_icmp_ne 180 devaluated_157 rfl ⟨by omega, by omega⟩ ⟨by decide, by decide⟩ (fun c157 => ?_) (fun c157 => ?_)
              · refine ja_aload_n devaluated_180 rfl rfl ?_
                refine t_take (by decide) (show (0 : Nat) ≤ 8 by decide) devaluated_181 g101  ?_ ?_
                · intro k181_0 g166
                  replace k181_0 : (h 0 7) < 900 := k181_0
                  replace g166 : mo_G (ja_up (ja_up h 0 113 ((h 0 113) - 1)) 0 7 ((h 0 7) + 1)) := g166
                  show mJ l D cA ad 3 cX12_evaluated 3 (some .boolean) 184 [(2, (0, (h 75 ((h 0 113) - 1).toNat))), (1, (0, 2)), (0, (2, ((0 : Nat) : Int)))] [(0, 1)] (ja_up (ja_up h 0 113 ((h 0 113) - 1)) 0 7 ((h 0 7) + 1)) Q
                  refine ja_if_eq 227 devaluated_184 rfl ⟨by decide, by decide⟩ (fun c184 => absurd c184 (by omega)) (fun c184 => ?_)
                  refine ja_aload_n devaluated_187 rfl rfl ?_
                  refine ja_bipush 19 devaluated_188 rfl ?_
                  refine ja_iload_n devaluated_190 rfl rfl ?_
                  refine ja_iload_n devaluated_191 rfl rfl ?_
                  refine ja_iconst devaluated_192 ?_
                  refine t_later (by decide) (show (0 : Nat) ≤ 8 by decide) devaluated_193 g166 ⟨by decide, by decide⟩ ⟨by decide, by decide⟩ ⟨by omega, by omega⟩ ⟨by decide, by decide⟩ (show 0 ≤ 19 ∧ 19 ≤ 38 by omega) (show (h 0 17) < 2000 by omega) ?_
                  intro g167
                  replace g167 : mo_G (ja_up (ja_up (ja_up (ja_up (ja_up (ja_up (ja_up h 0 113 ((h 0 113) - 1)) 0 7 ((h 0 7) + 1)) 6 ((h 0 17).toNat) 19) 7 ((h 0 17).toNat) 2) 8 ((h 0 17).toNat) (h 75 ((h 0 113) - 1).toNat)) 9 ((h 0 17).toNat) 0) 0 17 ((h 0 17) + 1)) := g167
                  show mJ l D cA ad 3 cX12_evaluated 3 (some .boolean) 196 [(2, (0, (h 75 ((h 0 113) - 1).toNat))), (1, (0, 2)), (0, (2, ((0 : Nat) : Int)))] [(0, 1)] (ja_up (ja_up (ja_up (ja_up (ja_up (ja_up (ja_up h 0 113 ((h 0 113) - 1)) 0 7 ((h 0 7) + 1)) 6 ((h 0 17).toNat) 19) 7 ((h 0 17).toNat) 2) 8 ((h 0 17).toNat) (h 75 ((h 0 113) - 1).toNat)) 9 ((h 0 17).toNat) 0) 0 17 ((h 0 17) + 1)) Q
                  refine ja_if_eq 227 devaluated_196 rfl ⟨by decide, by decide⟩ (fun c196 => absurd c196 (by omega)) (fun c196 => ?_)
                  refine ja_aload_n devaluated_199 rfl rfl ?_
                  refine ja_bipush 37 devaluated_200 rfl ?_
                  refine ja_bipush 59 devaluated_202 rfl ?_
                  refine ja_iconst devaluated_204 ?_
                  refine ja_iconst devaluated_205 ?_
                  refine t_later (by decide) (show (0 : Nat) ≤ 8 by decide) devaluated_206 g167 ⟨by decide, by decide⟩ ⟨by decide, by decide⟩ ⟨by decide, by decide⟩ ⟨by decide, by decide⟩ (show 0 ≤ 37 ∧ 37 ≤ 38 by omega) (show ((h 0 17) + 1) < 2000 by omega) ?_
                  intro g168
                  replace g168 : mo_G (ja_up (ja_up (ja_up (ja_up (ja_up (ja_up (ja_up (ja_up (ja_up (ja_up (ja_up (ja_up h 0 113 ((h 0 113) - 1)) 0 7 ((h 0 7) + 1)) 6 ((h 0 17).toNat) 19) 7 ((h 0 17).toNat) 2) 8 ((h 0 17).toNat) (h 75 ((h 0 113) - 1).toNat)) 9 ((h 0 17).toNat) 0) 0 17 ((h 0 17) + 1)) 6 (((h 0 17) + 1).toNat) 37) 7 (((h 0 17) + 1).toNat) 59) 8 (((h 0 17) + 1).toNat) 0) 9 (((h 0 17) + 1).toNat) 0) 0 17 (((h 0 17) + 1) + 1)) := g168
                  show mJ l D cA ad 3 cX12_evaluated 3 (some .boolean) 209 [(2, (0, (h 75 ((h 0 113) - 1).toNat))), (1, (0, 2)), (0, (2, ((0 : Nat) : Int)))] [(0, 1)] (ja_up (ja_up (ja_up (ja_up (ja_up (ja_up (ja_up (ja_up (ja_up (ja_up (ja_up (ja_up h 0 113 ((h 0 113) - 1)) 0 7 ((h 0 7) + 1)) 6 ((h 0 17).toNat) 19) 7 ((h 0 17).toNat) 2) 8 ((h 0 17).toNat) (h 75 ((h 0 113) - 1).toNat)) 9 ((h 0 17).toNat) 0) 0 17 ((h 0 17) + 1)) 6 (((h 0 17) + 1).toNat) 37) 7 (((h 0 17) + 1).toNat) 59) 8 (((h 0 17) + 1).toNat) 0) 9 (((h 0 17) + 1).toNat) 0) 0 17 (((h 0 17) + 1) + 1)) Q
                  refine ja_if_eq 227 devaluated_209 rfl ⟨by decide, by decide⟩ (fun c209 => absurd c209 (by omega)) (fun c209 => ?_)
                  refine ja_aload_n devaluated_212 rfl rfl ?_
                  refine ja_iconst devaluated_213 ?_
                  refine ja_iconst devaluated_214 ?_
                  refine ja_iconst devaluated_215 ?_
                  refine ja_iconst devaluated_216 ?_
                  refine t_later (by decide) (show (0 : Nat) ≤ 8 by decide) devaluated_217 g168 ⟨by decide, by decide⟩ ⟨by decide, by decide⟩ ⟨by decide, by decide⟩ ⟨by decide, by decide⟩ (show 0 ≤ 1 ∧ 1 ≤ 38 by omega) (show (((h 0 17) + 1) + 1) < 2000 by omega) ?_
                  intro g169
                  replace g169 : mo_G (ja_up (ja_up (ja_up (ja_up (ja_up (ja_up (ja_up (ja_up (ja_up (ja_up (ja_up (ja_up (ja_up (ja_up (ja_up (ja_up (ja_up h 0 113 ((h 0 113) - 1)) 0 7 ((h 0 7) + 1)) 6 ((h 0 17).toNat) 19) 7 ((h 0 17).toNat) 2) 8 ((h 0 17).toNat) (h 75 ((h 0 113) - 1).toNat)) 9 ((h 0 17).toNat) 0) 0 17 ((h 0 17) + 1)) 6 (((h 0 17) + 1).toNat) 37) 7 (((h 0 17) + 1).toNat) 59) 8 (((h 0 17) + 1).toNat) 0) 9 (((h 0 17) + 1).toNat) 0) 0 17 (((h 0 17) + 1) + 1)) 6 ((((h 0 17) + 1) + 1).toNat) 1) 7 ((((h 0 17) + 1) + 1).toNat) 0) 8 ((((h 0 17) + 1) + 1).toNat) 0) 9 ((((h 0 17) + 1) + 1).toNat) 0) 0 17 ((((h 0 17) + 1) + 1) + 1)) := g169
                  show mJ l D cA ad 3 cX12_evaluated 3 (some .boolean) 220 [(2, (0, (h 75 ((h 0 113) - 1).toNat))), (1, (0, 2)), (0, (2, ((0 : Nat) : Int)))] [(0, 1)] (ja_up (ja_up (ja_up (ja_up (ja_up (ja_up (ja_up (ja_up (ja_up (ja_up (ja_up (ja_up (ja_up (ja_up (ja_up (ja_up (ja_up h 0 113 ((h 0 113) - 1)) 0 7 ((h 0 7) + 1)) 6 ((h 0 17).toNat) 19) 7 ((h 0 17).toNat) 2) 8 ((h 0 17).toNat) (h 75 ((h 0 113) - 1).toNat)) 9 ((h 0 17).toNat) 0) 0 17 ((h 0 17) + 1)) 6 (((h 0 17) + 1).toNat) 37) 7 (((h 0 17) + 1).toNat) 59) 8 (((h 0 17) + 1).toNat) 0) 9 (((h 0 17) + 1).toNat) 0) 0 17 (((h 0 17) + 1) + 1)) 6 ((((h 0 17) + 1) + 1).toNat) 1) 7 ((((h 0 17) + 1) + 1).toNat) 0) 8 ((((h 0 17) + 1) + 1).toNat) 0) 9 ((((h 0 17) + 1) + 1).toNat) 0) 0 17 ((((h 0 17) + 1) + 1) + 1)) Q
                  refine ja_if_eq 227 devaluated_220 rfl ⟨by decide, by decide⟩ (fun c220 => absurd c220 (by omega)) (fun c220 => ?_)
                  refine ja_iconst devaluated_223 ?_
                  refine ja_goto 228 devaluated_224 rfl ?_
                  refine ja_zreturn devaluated_228 rfl (by omega) ?_
                  exact mo_fin (by omega) rfl (k1 (ja_up (ja_up (ja_up (ja_up (ja_up (ja_up (ja_up (ja_up (ja_up (ja_up (ja_up (ja_up (ja_up (ja_up (ja_up (ja_up (ja_up h 0 113 ((h 0 113) - 1)) 0 7 ((h 0 7) + 1)) 6 ((h 0 17).toNat) 19) 7 ((h 0 17).toNat) 2) 8 ((h 0 17).toNat) (h 75 ((h 0 113) - 1).toNat)) 9 ((h 0 17).toNat) 0) 0 17 ((h 0 17) + 1)) 6 (((h 0 17) + 1).toNat) 37) 7 (((h 0 17) + 1).toNat) 59) 8 (((h 0 17) + 1).toNat) 0) 9 (((h 0 17) + 1).toNat) 0) 0 17 (((h 0 17) + 1) + 1)) 6 ((((h 0 17) + 1) + 1).toNat) 1) 7 ((((h 0 17) + 1) + 1).toNat) 0) 8 ((((h 0 17) + 1) + 1).toNat) 0) 9 ((((h 0 17) + 1) + 1).toNat) 0) 0 17 ((((h 0 17) + 1) + 1) + 1)) ((by first | exact ab_assign1 (k := 2) g p1 p2 (by omega) (by omega) | (exfalso; omega))) g169)
                · intro h170 k181_1 g171
                  replace k181_1 : 0 < (h170 0 8) ∧ (h170 0 1) = (h 0 1) ∧ (h170 0 118) = (h 0 118) ∧ (h170 0 127) = (h 0 127) := k181_1
                  refine ja_if_eq 227 devaluated_184 rfl ⟨by decide, by decide⟩ (fun c184 => ?_) (fun c184 => absurd c184 (by omega))
                  refine ja_iconst devaluated_227 ?_
                  refine ja_zreturn devaluated_228 rfl (by omega) ?_
                  exact mo_fin (by omega) rfl (k2 h170 (by omega) g171)
              · refine ja_aload_n devaluated_160 rfl rfl ?_
                refine fa_pointKind devaluated_161 ?_
                refine ja_aload_n devaluated_164 rfl rfl ?_
                refine fg_formA (v := h 0 20) rfl devaluated_165 ?_
                have f172 := gF_formA g
                refine ja_iconst devaluated_168 ?_
                have g173 := gW_pointKind g101 (h 0 20).toNat (x := 4) ⟨by decide, by decide⟩
                refine is_pointKind ⟨by omega, by omega⟩ devaluated_169 ?_
                refine ja_aload_n devaluated_170 rfl rfl ?_
                refine fa_pointArgs devaluated_171 ?_
                refine ja_aload_n devaluated_174 rfl rfl ?_
                refine fg_formA (v := h 0 20) rfl devaluated_175 ?_
                refine ja_iconst devaluated_178 ?_
                have g174 := gW_pointArgs g173 (h 0 20).toNat (x := 1) ⟨by decide, by decide⟩
                refine is_pointArgs ⟨by omega, by omega⟩ devaluated_179 ?_
                refine ja_aload_n devaluated_180 rfl rfl ?_
                refine t_take (by decide) (show (0 : Nat) ≤ 8 by decide) devaluated_181 g174  ?_ ?_
                · intro k181_0 g175
                  replace k181_0 : (h 0 7) < 900 := k181_0
                  replace g175 : mo_G (ja_up (ja_up (ja_up (ja_up h 0 113 ((h 0 113) - 1)) 52 ((h 0 20).toNat) 4) 55 ((h 0 20).toNat) 1) 0 7 ((h 0 7) + 1)) := g175
                  show mJ l D cA ad 3 cX12_evaluated 3 (some .boolean) 184 [(2, (0, (h 75 ((h 0 113) - 1).toNat))), (1, (0, 2)), (0, (2, ((0 : Nat) : Int)))] [(0, 1)] (ja_up (ja_up (ja_up (ja_up h 0 113 ((h 0 113) - 1)) 52 ((h 0 20).toNat) 4) 55 ((h 0 20).toNat) 1) 0 7 ((h 0 7) + 1)) Q
                  refine ja_if_eq 227 devaluated_184 rfl ⟨by decide, by decide⟩ (fun c184 => absurd c184 (by omega)) (fun c184 => ?_)
                  refine ja_aload_n devaluated_187 rfl rfl ?_
                  refine ja_bipush 19 devaluated_188 rfl ?_
                  refine ja_iload_n devaluated_190 rfl rfl ?_
                  refine ja_iload_n devaluated_191 rfl rfl ?_
                  refine ja_iconst devaluated_192 ?_
                  refine t_later (by decide) (show (0 : Nat) ≤ 8 by decide) devaluated_193 g175 ⟨by decide, by decide⟩ ⟨by decide, by decide⟩ ⟨by omega, by omega⟩ ⟨by decide, by decide⟩ (show 0 ≤ 19 ∧ 19 ≤ 38 by omega) (show (h 0 17) < 2000 by omega) ?_
                  intro g176
                  replace g176 : mo_G (ja_up (ja_up (ja_up (ja_up (ja_up (ja_up (ja_up (ja_up (ja_up h 0 113 ((h 0 113) - 1)) 52 ((h 0 20).toNat) 4) 55 ((h 0 20).toNat) 1) 0 7 ((h 0 7) + 1)) 6 ((h 0 17).toNat) 19) 7 ((h 0 17).toNat) 2) 8 ((h 0 17).toNat) (h 75 ((h 0 113) - 1).toNat)) 9 ((h 0 17).toNat) 0) 0 17 ((h 0 17) + 1)) := g176
                  show mJ l D cA ad 3 cX12_evaluated 3 (some .boolean) 196 [(2, (0, (h 75 ((h 0 113) - 1).toNat))), (1, (0, 2)), (0, (2, ((0 : Nat) : Int)))] [(0, 1)] (ja_up (ja_up (ja_up (ja_up (ja_up (ja_up (ja_up (ja_up (ja_up h 0 113 ((h 0 113) - 1)) 52 ((h 0 20).toNat) 4) 55 ((h 0 20).toNat) 1) 0 7 ((h 0 7) + 1)) 6 ((h 0 17).toNat) 19) 7 ((h 0 17).toNat) 2) 8 ((h 0 17).toNat) (h 75 ((h 0 113) - 1).toNat)) 9 ((h 0 17).toNat) 0) 0 17 ((h 0 17) + 1)) Q
                  refine ja_if_eq 227 devaluated_196 rfl ⟨by decide, by decide⟩ (fun c196 => absurd c196 (by omega)) (fun c196 => ?_)
                  refine ja_aload_n devaluated_199 rfl rfl ?_
                  refine ja_bipush 37 devaluated_200 rfl ?_
                  refine ja_bipush 59 devaluated_202 rfl ?_
                  refine ja_iconst devaluated_204 ?_
                  refine ja_iconst devaluated_205 ?_
                  refine t_later (by decide) (show (0 : Nat) ≤ 8 by decide) devaluated_206 g176 ⟨by decide, by decide⟩ ⟨by decide, by decide⟩ ⟨by decide, by decide⟩ ⟨by decide, by decide⟩ (show 0 ≤ 37 ∧ 37 ≤ 38 by omega) (show ((h 0 17) + 1) < 2000 by omega) ?_
                  intro g177
                  replace g177 : mo_G (ja_up (ja_up (ja_up (ja_up (ja_up (ja_up (ja_up (ja_up (ja_up (ja_up (ja_up (ja_up (ja_up (ja_up h 0 113 ((h 0 113) - 1)) 52 ((h 0 20).toNat) 4) 55 ((h 0 20).toNat) 1) 0 7 ((h 0 7) + 1)) 6 ((h 0 17).toNat) 19) 7 ((h 0 17).toNat) 2) 8 ((h 0 17).toNat) (h 75 ((h 0 113) - 1).toNat)) 9 ((h 0 17).toNat) 0) 0 17 ((h 0 17) + 1)) 6 (((h 0 17) + 1).toNat) 37) 7 (((h 0 17) + 1).toNat) 59) 8 (((h 0 17) + 1).toNat) 0) 9 (((h 0 17) + 1).toNat) 0) 0 17 (((h 0 17) + 1) + 1)) := g177
                  show mJ l D cA ad 3 cX12_evaluated 3 (some .boolean) 209 [(2, (0, (h 75 ((h 0 113) - 1).toNat))), (1, (0, 2)), (0, (2, ((0 : Nat) : Int)))] [(0, 1)] (ja_up (ja_up (ja_up (ja_up (ja_up (ja_up (ja_up (ja_up (ja_up (ja_up (ja_up (ja_up (ja_up (ja_up h 0 113 ((h 0 113) - 1)) 52 ((h 0 20).toNat) 4) 55 ((h 0 20).toNat) 1) 0 7 ((h 0 7) + 1)) 6 ((h 0 17).toNat) 19) 7 ((h 0 17).toNat) 2) 8 ((h 0 17).toNat) (h 75 ((h 0 113) - 1).toNat)) 9 ((h 0 17).toNat) 0) 0 17 ((h 0 17) + 1)) 6 (((h 0 17) + 1).toNat) 37) 7 (((h 0 17) + 1).toNat) 59) 8 (((h 0 17) + 1).toNat) 0) 9 (((h 0 17) + 1).toNat) 0) 0 17 (((h 0 17) + 1) + 1)) Q
                  refine ja_if_eq 227 devaluated_209 rfl ⟨by decide, by decide⟩ (fun c209 => absurd c209 (by omega)) (fun c209 => ?_)
                  refine ja_aload_n devaluated_212 rfl rfl ?_
                  refine ja_iconst devaluated_213 ?_
                  refine ja_iconst devaluated_214 ?_
                  refine ja_iconst devaluated_215 ?_
                  refine ja_iconst devaluated_216 ?_
                  refine t_later (by decide) (show (0 : Nat) ≤ 8 by decide) devaluated_217 g177 ⟨by decide, by decide⟩ ⟨by decide, by decide⟩ ⟨by decide, by decide⟩ ⟨by decide, by decide⟩ (show 0 ≤ 1 ∧ 1 ≤ 38 by omega) (show (((h 0 17) + 1) + 1) < 2000 by omega) ?_
                  intro g178
                  replace g178 : mo_G (ja_up (ja_up (ja_up (ja_up (ja_up (ja_up (ja_up (ja_up (ja_up (ja_up (ja_up (ja_up (ja_up (ja_up (ja_up (ja_up (ja_up (ja_up (ja_up h 0 113 ((h 0 113) - 1)) 52 ((h 0 20).toNat) 4) 55 ((h 0 20).toNat) 1) 0 7 ((h 0 7) + 1)) 6 ((h 0 17).toNat) 19) 7 ((h 0 17).toNat) 2) 8 ((h 0 17).toNat) (h 75 ((h 0 113) - 1).toNat)) 9 ((h 0 17).toNat) 0) 0 17 ((h 0 17) + 1)) 6 (((h 0 17) + 1).toNat) 37) 7 (((h 0 17) + 1).toNat) 59) 8 (((h 0 17) + 1).toNat) 0) 9 (((h 0 17) + 1).toNat) 0) 0 17 (((h 0 17) + 1) + 1)) 6 ((((h 0 17) + 1) + 1).toNat) 1) 7 ((((h 0 17) + 1) + 1).toNat) 0) 8 ((((h 0 17) + 1) + 1).toNat) 0) 9 ((((h 0 17) + 1) + 1).toNat) 0) 0 17 ((((h 0 17) + 1) + 1) + 1)) := g178
                  show mJ l D cA ad 3 cX12_evaluated 3 (some .boolean) 220 [(2, (0, (h 75 ((h 0 113) - 1).toNat))), (1, (0, 2)), (0, (2, ((0 : Nat) : Int)))] [(0, 1)] (ja_up (ja_up (ja_up (ja_up (ja_up (ja_up (ja_up (ja_up (ja_up (ja_up (ja_up (ja_up (ja_up (ja_up (ja_up (ja_up (ja_up (ja_up (ja_up h 0 113 ((h 0 113) - 1)) 52 ((h 0 20).toNat) 4) 55 ((h 0 20).toNat) 1) 0 7 ((h 0 7) + 1)) 6 ((h 0 17).toNat) 19) 7 ((h 0 17).toNat) 2) 8 ((h 0 17).toNat) (h 75 ((h 0 113) - 1).toNat)) 9 ((h 0 17).toNat) 0) 0 17 ((h 0 17) + 1)) 6 (((h 0 17) + 1).toNat) 37) 7 (((h 0 17) + 1).toNat) 59) 8 (((h 0 17) + 1).toNat) 0) 9 (((h 0 17) + 1).toNat) 0) 0 17 (((h 0 17) + 1) + 1)) 6 ((((h 0 17) + 1) + 1).toNat) 1) 7 ((((h 0 17) + 1) + 1).toNat) 0) 8 ((((h 0 17) + 1) + 1).toNat) 0) 9 ((((h 0 17) + 1) + 1).toNat) 0) 0 17 ((((h 0 17) + 1) + 1) + 1)) Q
                  refine ja_if_eq 227 devaluated_220 rfl ⟨by decide, by decide⟩ (fun c220 => absurd c220 (by omega)) (fun c220 => ?_)
                  refine ja_iconst devaluated_223 ?_
                  refine ja_goto 228 devaluated_224 rfl ?_
                  refine ja_zreturn devaluated_228 rfl (by omega) ?_
                  exact mo_fin (by omega) rfl (k1 (ja_up (ja_up (ja_up (ja_up (ja_up (ja_up (ja_up (ja_up (ja_up (ja_up (ja_up (ja_up (ja_up (ja_up (ja_up (ja_up (ja_up (ja_up (ja_up h 0 113 ((h 0 113) - 1)) 52 ((h 0 20).toNat) 4) 55 ((h 0 20).toNat) 1) 0 7 ((h 0 7) + 1)) 6 ((h 0 17).toNat) 19) 7 ((h 0 17).toNat) 2) 8 ((h 0 17).toNat) (h 75 ((h 0 113) - 1).toNat)) 9 ((h 0 17).toNat) 0) 0 17 ((h 0 17) + 1)) 6 (((h 0 17) + 1).toNat) 37) 7 (((h 0 17) + 1).toNat) 59) 8 (((h 0 17) + 1).toNat) 0) 9 (((h 0 17) + 1).toNat) 0) 0 17 (((h 0 17) + 1) + 1)) 6 ((((h 0 17) + 1) + 1).toNat) 1) 7 ((((h 0 17) + 1) + 1).toNat) 0) 8 ((((h 0 17) + 1) + 1).toNat) 0) 9 ((((h 0 17) + 1) + 1).toNat) 0) 0 17 ((((h 0 17) + 1) + 1) + 1)) ((by first | exact ab_assign2 g p1 p2 (by omega) | (exfalso; omega))) g178)
                · intro h179 k181_1 g180
                  replace k181_1 : 0 < (h179 0 8) ∧ (h179 0 1) = (h 0 1) ∧ (h179 0 118) = (h 0 118) ∧ (h179 0 127) = (h 0 127) := k181_1
                  refine ja_if_eq 227 devaluated_184 rfl ⟨by decide, by decide⟩ (fun c184 => ?_) (fun c184 => absurd c184 (by omega))
                  refine ja_iconst devaluated_227 ?_
                  refine ja_zreturn devaluated_228 rfl (by omega) ?_
                  exact mo_fin (by omega) rfl (k2 h179 (by omega) g180)
            · refine ja_aload_n devaluated_135 rfl rfl ?_
              refine fg_formA (v := h 0 20) rfl devaluated_136 ?_
              have f181 := gF_formA g
              refine ja_goto 151 devaluated_139 rfl ?_
              refine ja_istore_n devaluated_151 rfl (by decide) (L2 := [(2, (0, (h 0 20))), (1, (0, 2)), (0, (2, ((0 : Nat) : Int)))]) rfl ?_
              refine ja_aload_n devaluated_152 rfl rfl ?_
              refine fg_form (v := h 0 19) rfl devaluated_153 ?_
              refine ja_iconst devaluated_156 ?_
              refine ja_icmp_ne 180 devaluated_157 rfl ⟨by omega, by omega⟩ ⟨by decide, by decide⟩ (fun c157 => ?_) (fun c157 => ?_)
              · refine ja_aload_n devaluated_180 rfl rfl ?_
                refine t_take (by decide) (show (0 : Nat) ≤ 8 by decide) devaluated_181 g101  ?_ ?_
                · intro k181_0 g182
                  replace k181_0 : (h 0 7) < 900 := k181_0
                  replace g182 : mo_G (ja_up (ja_up h 0 113 ((h 0 113) - 1)) 0 7 ((h 0 7) + 1)) := g182
                  show mJ l D cA ad 3 cX12_evaluated 3 (some .boolean) 184 [(2, (0, (h 0 20))), (1, (0, 2)), (0, (2, ((0 : Nat) : Int)))] [(0, 1)] (ja_up (ja_up h 0 113 ((h 0 113) - 1)) 0 7 ((h 0 7) + 1)) Q
                  refine ja_if_eq 227 devaluated_184 rfl ⟨by decide, by decide⟩ (fun c184 => absurd c184 (by omega)) (fun c184 => ?_)
                  refine ja_aload_n devaluated_187 rfl rfl ?_
                  refine ja_bipush 19 devaluated_188 rfl ?_
                  refine ja_iload_n devaluated_190 rfl rfl ?_
                  refine ja_iload_n devaluated_191 rfl rfl ?_
                  refine ja_iconst devaluated_192 ?_
                  refine t_later (by decide) (show (0 : Nat) ≤ 8 by decide) devaluated_193 g182 ⟨by decide, by decide⟩ ⟨by decide, by decide⟩ ⟨by omega, by omega⟩ ⟨by decide, by decide⟩ (show 0 ≤ 19 ∧ 19 ≤ 38 by omega) (show (h 0 17) < 2000 by omega) ?_
                  intro g183
                  replace g183 : mo_G (ja_up (ja_up (ja_up (ja_up (ja_up (ja_up (ja_up h 0 113 ((h 0 113) - 1)) 0 7 ((h 0 7) + 1)) 6 ((h 0 17).toNat) 19) 7 ((h 0 17).toNat) 2) 8 ((h 0 17).toNat) (h 0 20)) 9 ((h 0 17).toNat) 0) 0 17 ((h 0 17) + 1)) := g183
                  show mJ l D cA ad 3 cX12_evaluated 3 (some .boolean) 196 [(2, (0, (h 0 20))), (1, (0, 2)), (0, (2, ((0 : Nat) : Int)))] [(0, 1)] (ja_up (ja_up (ja_up (ja_up (ja_up (ja_up (ja_up h 0 113 ((h 0 113) - 1)) 0 7 ((h 0 7) + 1)) 6 ((h 0 17).toNat) 19) 7 ((h 0 17).toNat) 2) 8 ((h 0 17).toNat) (h 0 20)) 9 ((h 0 17).toNat) 0) 0 17 ((h 0 17) + 1)) Q
                  refine ja_if_eq 227 devaluated_196 rfl ⟨by decide, by decide⟩ (fun c196 => absurd c196 (by omega)) (fun c196 => ?_)
                  refine ja_aload_n devaluated_199 rfl rfl ?_
                  refine ja_bipush 37 devaluated_200 rfl ?_
                  refine ja_bipush 59 devaluated_202 rfl ?_
                  refine ja_iconst devaluated_204 ?_
                  refine ja_iconst devaluated_205 ?_
                  refine t_later (by decide) (show (0 : Nat) ≤ 8 by decide) devaluated_206 g183 ⟨by decide, by decide⟩ ⟨by decide, by decide⟩ ⟨by decide, by decide⟩ ⟨by decide, by decide⟩ (show 0 ≤ 37 ∧ 37 ≤ 38 by omega) (show ((h 0 17) + 1) < 2000 by omega) ?_
                  intro g184
                  replace g184 : mo_G (ja_up (ja_up (ja_up (ja_up (ja_up (ja_up (ja_up (ja_up (ja_up (ja_up (ja_up (ja_up h 0 113 ((h 0 113) - 1)) 0 7 ((h 0 7) + 1)) 6 ((h 0 17).toNat) 19) 7 ((h 0 17).toNat) 2) 8 ((h 0 17).toNat) (h 0 20)) 9 ((h 0 17).toNat) 0) 0 17 ((h 0 17) + 1)) 6 (((h 0 17) + 1).toNat) 37) 7 (((h 0 17) + 1).toNat) 59) 8 (((h 0 17) + 1).toNat) 0) 9 (((h 0 17) + 1).toNat) 0) 0 17 (((h 0 17) + 1) + 1)) := g184
                  show mJ l D cA ad 3 cX12_evaluated 3 (some .boolean) 209 [(2, (0, (h 0 20))), (1, (0, 2)), (0, (2, ((0 : Nat) : Int)))] [(0, 1)] (ja_up (ja_up (ja_up (ja_up (ja_up (ja_up (ja_up (ja_up (ja_up (ja_up (ja_up (ja_up h 0 113 ((h 0 113) - 1)) 0 7 ((h 0 7) + 1)) 6 ((h 0 17).toNat) 19) 7 ((h 0 17).toNat) 2) 8 ((h 0 17).toNat) (h 0 20)) 9 ((h 0 17).toNat) 0) 0 17 ((h 0 17) + 1)) 6 (((h 0 17) + 1).toNat) 37) 7 (((h 0 17) + 1).toNat) 59) 8 (((h 0 17) + 1).toNat) 0) 9 (((h 0 17) + 1).toNat) 0) 0 17 (((h 0 17) + 1) + 1)) Q
                  refine ja_if_eq 227 devaluated_209 rfl ⟨by decide, by decide⟩ (fun c209 => absurd c209 (by omega)) (fun c209 => ?_)
                  refine ja_aload_n devaluated_212 rfl rfl ?_
                  refine ja_iconst devaluated_213 ?_
                  refine ja_iconst devaluated_214 ?_
                  refine ja_iconst devaluated_215 ?_
                  refine ja_iconst devaluated_216 ?_
                  refine t_later (by decide) (show (0 : Nat) ≤ 8 by decide) devaluated_217 g184 ⟨by decide, by decide⟩ ⟨by decide, by decide⟩ ⟨by decide, by decide⟩ ⟨by decide, by decide⟩ (show 0 ≤ 1 ∧ 1 ≤ 38 by omega) (show (((h 0 17) + 1) + 1) < 2000 by omega) ?_
                  intro g185
                  replace g185 : mo_G (ja_up (ja_up (ja_up (ja_up (ja_up (ja_up (ja_up (ja_up (ja_up (ja_up (ja_up (ja_up (ja_up (ja_up (ja_up (ja_up (ja_up h 0 113 ((h 0 113) - 1)) 0 7 ((h 0 7) + 1)) 6 ((h 0 17).toNat) 19) 7 ((h 0 17).toNat) 2) 8 ((h 0 17).toNat) (h 0 20)) 9 ((h 0 17).toNat) 0) 0 17 ((h 0 17) + 1)) 6 (((h 0 17) + 1).toNat) 37) 7 (((h 0 17) + 1).toNat) 59) 8 (((h 0 17) + 1).toNat) 0) 9 (((h 0 17) + 1).toNat) 0) 0 17 (((h 0 17) + 1) + 1)) 6 ((((h 0 17) + 1) + 1).toNat) 1) 7 ((((h 0 17) + 1) + 1).toNat) 0) 8 ((((h 0 17) + 1) + 1).toNat) 0) 9 ((((h 0 17) + 1) + 1).toNat) 0) 0 17 ((((h 0 17) + 1) + 1) + 1)) := g185
                  show mJ l D cA ad 3 cX12_evaluated 3 (some .boolean) 220 [(2, (0, (h 0 20))), (1, (0, 2)), (0, (2, ((0 : Nat) : Int)))] [(0, 1)] (ja_up (ja_up (ja_up (ja_up (ja_up (ja_up (ja_up (ja_up (ja_up (ja_up (ja_up (ja_up (ja_up (ja_up (ja_up (ja_up (ja_up h 0 113 ((h 0 113) - 1)) 0 7 ((h 0 7) + 1)) 6 ((h 0 17).toNat) 19) 7 ((h 0 17).toNat) 2) 8 ((h 0 17).toNat) (h 0 20)) 9 ((h 0 17).toNat) 0) 0 17 ((h 0 17) + 1)) 6 (((h 0 17) + 1).toNat) 37) 7 (((h 0 17) + 1).toNat) 59) 8 (((h 0 17) + 1).toNat) 0) 9 (((h 0 17) + 1).toNat) 0) 0 17 (((h 0 17) + 1) + 1)) 6 ((((h 0 17) + 1) + 1).toNat) 1) 7 ((((h 0 17) + 1) + 1).toNat) 0) 8 ((((h 0 17) + 1) + 1).toNat) 0) 9 ((((h 0 17) + 1) + 1).toNat) 0) 0 17 ((((h 0 17) + 1) + 1) + 1)) Q
                  refine ja_if_eq 227 devaluated_220 rfl ⟨by decide, by decide⟩ (fun c220 => absurd c220 (by omega)) (fun c220 => ?_)
                  refine ja_iconst devaluated_223 ?_
                  refine ja_goto 228 devaluated_224 rfl ?_
                  refine ja_zreturn devaluated_228 rfl (by omega) ?_
                  exact mo_fin (by omega) rfl (k1 (ja_up (ja_up (ja_up (ja_up (ja_up (ja_up (ja_up (ja_up (ja_up (ja_up (ja_up (ja_up (ja_up (ja_up (ja_up (ja_up (ja_up h 0 113 ((h 0 113) - 1)) 0 7 ((h 0 7) + 1)) 6 ((h 0 17).toNat) 19) 7 ((h 0 17).toNat) 2) 8 ((h 0 17).toNat) (h 0 20)) 9 ((h 0 17).toNat) 0) 0 17 ((h 0 17) + 1)) 6 (((h 0 17) + 1).toNat) 37) 7 (((h 0 17) + 1).toNat) 59) 8 (((h 0 17) + 1).toNat) 0) 9 (((h 0 17) + 1).toNat) 0) 0 17 (((h 0 17) + 1) + 1)) 6 ((((h 0 17) + 1) + 1).toNat) 1) 7 ((((h 0 17) + 1) + 1).toNat) 0) 8 ((((h 0 17) + 1) + 1).toNat) 0) 9 ((((h 0 17) + 1) + 1).toNat) 0) 0 17 ((((h 0 17) + 1) + 1) + 1)) ((by first | exact ab_assign1 (k := 2) g p1 p2 (by omega) (by omega) | (exfalso; omega))) g185)
                · intro h186 k181_1 g187
                  replace k181_1 : 0 < (h186 0 8) ∧ (h186 0 1) = (h 0 1) ∧ (h186 0 118) = (h 0 118) ∧ (h186 0 127) = (h 0 127) := k181_1
                  refine ja_if_eq 227 devaluated_184 rfl ⟨by decide, by decide⟩ (fun c184 => ?_) (fun c184 => absurd c184 (by omega))
                  refine ja_iconst devaluated_227 ?_
                  refine ja_zreturn devaluated_228 rfl (by omega) ?_
                  exact mo_fin (by omega) rfl (k2 h186 (by omega) g187)
              · refine ja_aload_n devaluated_160 rfl rfl ?_
                refine fa_pointKind devaluated_161 ?_
                refine ja_aload_n devaluated_164 rfl rfl ?_
                refine fg_formA (v := h 0 20) rfl devaluated_165 ?_
                refine ja_iconst devaluated_168 ?_
                have g188 := gW_pointKind g101 (h 0 20).toNat (x := 4) ⟨by decide, by decide⟩
                refine is_pointKind ⟨by omega, by omega⟩ devaluated_169 ?_
                refine ja_aload_n devaluated_170 rfl rfl ?_
                refine fa_pointArgs devaluated_171 ?_
                refine ja_aload_n devaluated_174 rfl rfl ?_
                refine fg_formA (v := h 0 20) rfl devaluated_175 ?_
                refine ja_iconst devaluated_178 ?_
                have g189 := gW_pointArgs g188 (h 0 20).toNat (x := 1) ⟨by decide, by decide⟩
                refine is_pointArgs ⟨by omega, by omega⟩ devaluated_179 ?_
                refine ja_aload_n devaluated_180 rfl rfl ?_
                refine t_take (by decide) (show (0 : Nat) ≤ 8 by decide) devaluated_181 g189  ?_ ?_
                · intro k181_0 g190
                  replace k181_0 : (h 0 7) < 900 := k181_0
                  replace g190 : mo_G (ja_up (ja_up (ja_up (ja_up h 0 113 ((h 0 113) - 1)) 52 ((h 0 20).toNat) 4) 55 ((h 0 20).toNat) 1) 0 7 ((h 0 7) + 1)) := g190
                  show mJ l D cA ad 3 cX12_evaluated 3 (some .boolean) 184 [(2, (0, (h 0 20))), (1, (0, 2)), (0, (2, ((0 : Nat) : Int)))] [(0, 1)] (ja_up (ja_up (ja_up (ja_up h 0 113 ((h 0 113) - 1)) 52 ((h 0 20).toNat) 4) 55 ((h 0 20).toNat) 1) 0 7 ((h 0 7) + 1)) Q
                  refine ja_if_eq 227 devaluated_184 rfl ⟨by decide, by decide⟩ (fun c184 => absurd c184 (by omega)) (fun c184 => ?_)
                  refine ja_aload_n devaluated_187 rfl rfl ?_
                  refine ja_bipush 19 devaluated_188 rfl ?_
                  refine ja_iload_n devaluated_190 rfl rfl ?_
                  refine ja_iload_n devaluated_191 rfl rfl ?_
                  refine ja_iconst devaluated_192 ?_
                  refine t_later (by decide) (show (0 : Nat) ≤ 8 by decide) devaluated_193 g190 ⟨by decide, by decide⟩ ⟨by decide, by decide⟩ ⟨by omega, by omega⟩ ⟨by decide, by decide⟩ (show 0 ≤ 19 ∧ 19 ≤ 38 by omega) (show (h 0 17) < 2000 by omega) ?_
                  intro g191
                  replace g191 : mo_G (ja_up (ja_up (ja_up (ja_up (ja_up (ja_up (ja_up (ja_up (ja_up h 0 113 ((h 0 113) - 1)) 52 ((h 0 20).toNat) 4) 55 ((h 0 20).toNat) 1) 0 7 ((h 0 7) + 1)) 6 ((h 0 17).toNat) 19) 7 ((h 0 17).toNat) 2) 8 ((h 0 17).toNat) (h 0 20)) 9 ((h 0 17).toNat) 0) 0 17 ((h 0 17) + 1)) := g191
                  show mJ l D cA ad 3 cX12_evaluated 3 (some .boolean) 196 [(2, (0, (h 0 20))), (1, (0, 2)), (0, (2, ((0 : Nat) : Int)))] [(0, 1)] (ja_up (ja_up (ja_up (ja_up (ja_up (ja_up (ja_up (ja_up (ja_up h 0 113 ((h 0 113) - 1)) 52 ((h 0 20).toNat) 4) 55 ((h 0 20).toNat) 1) 0 7 ((h 0 7) + 1)) 6 ((h 0 17).toNat) 19) 7 ((h 0 17).toNat) 2) 8 ((h 0 17).toNat) (h 0 20)) 9 ((h 0 17).toNat) 0) 0 17 ((h 0 17) + 1)) Q
                  refine ja_if_eq 227 devaluated_196 rfl ⟨by decide, by decide⟩ (fun c196 => absurd c196 (by omega)) (fun c196 => ?_)
                  refine ja_aload_n devaluated_199 rfl rfl ?_
                  refine ja_bipush 37 devaluated_200 rfl ?_
                  refine ja_bipush 59 devaluated_202 rfl ?_
                  refine ja_iconst devaluated_204 ?_
                  refine ja_iconst devaluated_205 ?_
                  refine t_later (by decide) (show (0 : Nat) ≤ 8 by decide) devaluated_206 g191 ⟨by decide, by decide⟩ ⟨by decide, by decide⟩ ⟨by decide, by decide⟩ ⟨by decide, by decide⟩ (show 0 ≤ 37 ∧ 37 ≤ 38 by omega) (show ((h 0 17) + 1) < 2000 by omega) ?_
                  intro g192
                  replace g192 : mo_G (ja_up (ja_up (ja_up (ja_up (ja_up (ja_up (ja_up (ja_up (ja_up (ja_up (ja_up (ja_up (ja_up (ja_up h 0 113 ((h 0 113) - 1)) 52 ((h 0 20).toNat) 4) 55 ((h 0 20).toNat) 1) 0 7 ((h 0 7) + 1)) 6 ((h 0 17).toNat) 19) 7 ((h 0 17).toNat) 2) 8 ((h 0 17).toNat) (h 0 20)) 9 ((h 0 17).toNat) 0) 0 17 ((h 0 17) + 1)) 6 (((h 0 17) + 1).toNat) 37) 7 (((h 0 17) + 1).toNat) 59) 8 (((h 0 17) + 1).toNat) 0) 9 (((h 0 17) + 1).toNat) 0) 0 17 (((h 0 17) + 1) + 1)) := g192
                  show mJ l D cA ad 3 cX12_evaluated 3 (some .boolean) 209 [(2, (0, (h 0 20))), (1, (0, 2)), (0, (2, ((0 : Nat) : Int)))] [(0, 1)] (ja_up (ja_up (ja_up (ja_up (ja_up (ja_up (ja_up (ja_up (ja_up (ja_up (ja_up (ja_up (ja_up (ja_up h 0 113 ((h 0 113) - 1)) 52 ((h 0 20).toNat) 4) 55 ((h 0 20).toNat) 1) 0 7 ((h 0 7) + 1)) 6 ((h 0 17).toNat) 19) 7 ((h 0 17).toNat) 2) 8 ((h 0 17).toNat) (h 0 20)) 9 ((h 0 17).toNat) 0) 0 17 ((h 0 17) + 1)) 6 (((h 0 17) + 1).toNat) 37) 7 (((h 0 17) + 1).toNat) 59) 8 (((h 0 17) + 1).toNat) 0) 9 (((h 0 17) + 1).toNat) 0) 0 17 (((h 0 17) + 1) + 1)) Q
                  refine ja_if_eq 227 devaluated_209 rfl ⟨by decide, by decide⟩ (fun c209 => absurd c209 (by omega)) (fun c209 => ?_)
                  refine ja_aload_n devaluated_212 rfl rfl ?_
                  refine ja_iconst devaluated_213 ?_
                  refine ja_iconst devaluated_214 ?_
                  refine ja_iconst devaluated_215 ?_
                  refine ja_iconst devaluated_216 ?_
                  refine t_later (by decide) (show (0 : Nat) ≤ 8 by decide) devaluated_217 g192 ⟨by decide, by decide⟩ ⟨by decide, by decide⟩ ⟨by decide, by decide⟩ ⟨by decide, by decide⟩ (show 0 ≤ 1 ∧ 1 ≤ 38 by omega) (show (((h 0 17) + 1) + 1) < 2000 by omega) ?_
                  intro g193
                  replace g193 : mo_G (ja_up (ja_up (ja_up (ja_up (ja_up (ja_up (ja_up (ja_up (ja_up (ja_up (ja_up (ja_up (ja_up (ja_up (ja_up (ja_up (ja_up (ja_up (ja_up h 0 113 ((h 0 113) - 1)) 52 ((h 0 20).toNat) 4) 55 ((h 0 20).toNat) 1) 0 7 ((h 0 7) + 1)) 6 ((h 0 17).toNat) 19) 7 ((h 0 17).toNat) 2) 8 ((h 0 17).toNat) (h 0 20)) 9 ((h 0 17).toNat) 0) 0 17 ((h 0 17) + 1)) 6 (((h 0 17) + 1).toNat) 37) 7 (((h 0 17) + 1).toNat) 59) 8 (((h 0 17) + 1).toNat) 0) 9 (((h 0 17) + 1).toNat) 0) 0 17 (((h 0 17) + 1) + 1)) 6 ((((h 0 17) + 1) + 1).toNat) 1) 7 ((((h 0 17) + 1) + 1).toNat) 0) 8 ((((h 0 17) + 1) + 1).toNat) 0) 9 ((((h 0 17) + 1) + 1).toNat) 0) 0 17 ((((h 0 17) + 1) + 1) + 1)) := g193
                  show mJ l D cA ad 3 cX12_evaluated 3 (some .boolean) 220 [(2, (0, (h 0 20))), (1, (0, 2)), (0, (2, ((0 : Nat) : Int)))] [(0, 1)] (ja_up (ja_up (ja_up (ja_up (ja_up (ja_up (ja_up (ja_up (ja_up (ja_up (ja_up (ja_up (ja_up (ja_up (ja_up (ja_up (ja_up (ja_up (ja_up h 0 113 ((h 0 113) - 1)) 52 ((h 0 20).toNat) 4) 55 ((h 0 20).toNat) 1) 0 7 ((h 0 7) + 1)) 6 ((h 0 17).toNat) 19) 7 ((h 0 17).toNat) 2) 8 ((h 0 17).toNat) (h 0 20)) 9 ((h 0 17).toNat) 0) 0 17 ((h 0 17) + 1)) 6 (((h 0 17) + 1).toNat) 37) 7 (((h 0 17) + 1).toNat) 59) 8 (((h 0 17) + 1).toNat) 0) 9 (((h 0 17) + 1).toNat) 0) 0 17 (((h 0 17) + 1) + 1)) 6 ((((h 0 17) + 1) + 1).toNat) 1) 7 ((((h 0 17) + 1) + 1).toNat) 0) 8 ((((h 0 17) + 1) + 1).toNat) 0) 9 ((((h 0 17) + 1) + 1).toNat) 0) 0 17 ((((h 0 17) + 1) + 1) + 1)) Q
                  refine ja_if_eq 227 devaluated_220 rfl ⟨by decide, by decide⟩ (fun c220 => absurd c220 (by omega)) (fun c220 => ?_)
                  refine ja_iconst devaluated_223 ?_
                  refine ja_goto 228 devaluated_224 rfl ?_
                  refine ja_zreturn devaluated_228 rfl (by omega) ?_
                  exact mo_fin (by omega) rfl (k1 (ja_up (ja_up (ja_up (ja_up (ja_up (ja_up (ja_up (ja_up (ja_up (ja_up (ja_up (ja_up (ja_up (ja_up (ja_up (ja_up (ja_up (ja_up (ja_up h 0 113 ((h 0 113) - 1)) 52 ((h 0 20).toNat) 4) 55 ((h 0 20).toNat) 1) 0 7 ((h 0 7) + 1)) 6 ((h 0 17).toNat) 19) 7 ((h 0 17).toNat) 2) 8 ((h 0 17).toNat) (h 0 20)) 9 ((h 0 17).toNat) 0) 0 17 ((h 0 17) + 1)) 6 (((h 0 17) + 1).toNat) 37) 7 (((h 0 17) + 1).toNat) 59) 8 (((h 0 17) + 1).toNat) 0) 9 (((h 0 17) + 1).toNat) 0) 0 17 (((h 0 17) + 1) + 1)) 6 ((((h 0 17) + 1) + 1).toNat) 1) 7 ((((h 0 17) + 1) + 1).toNat) 0) 8 ((((h 0 17) + 1) + 1).toNat) 0) 9 ((((h 0 17) + 1) + 1).toNat) 0) 0 17 ((((h 0 17) + 1) + 1) + 1)) ((by first | exact ab_assign2 g p1 p2 (by omega) | (exfalso; omega))) g193)
                · intro h194 k181_1 g195
                  replace k181_1 : 0 < (h194 0 8) ∧ (h194 0 1) = (h 0 1) ∧ (h194 0 118) = (h 0 118) ∧ (h194 0 127) = (h 0 127) := k181_1
                  refine ja_if_eq 227 devaluated_184 rfl ⟨by decide, by decide⟩ (fun c184 => ?_) (fun c184 => absurd c184 (by omega))
                  refine ja_iconst devaluated_227 ?_
                  refine ja_zreturn devaluated_228 rfl (by omega) ?_
                  exact mo_fin (by omega) rfl (k2 h194 (by omega) g195)
        · refine ja_aload_n devaluated_79 rfl rfl ?_
          refine ja_iconst devaluated_80 ?_
          refine t_halt (by decide) (show (0 : Nat) ≤ 8 by decide) devaluated_81 g ⟨by decide, by decide⟩ (show 1 ≤ 2 ∧ 2 ≤ 8 by omega) ?_
          intro h196 k81_0 g197
          refine ja_zreturn devaluated_84 rfl (by omega) ?_
          exact mo_fin (by omega) rfl (k2 h196 (by omega) g197)
    · refine ja_aload_n devaluated_58 rfl rfl ?_
      refine t_wrong (by decide) (show (0 : Nat) ≤ 8 by decide) devaluated_59 g  ?_
      intro h198 k59_0 g199
      refine ja_zreturn devaluated_62 rfl (by omega) ?_
      exact mo_fin (by omega) rfl (k2 h198 (by omega) g199)
  · refine ja_aload_n devaluated_9 rfl rfl ?_
    refine fg_form (v := h 0 19) rfl devaluated_10 ?_
    have f200 := gF_form g
    refine ja_iconst devaluated_13 ?_
    refine ja_icmp_lt 43 devaluated_14 rfl ⟨by omega, by omega⟩ ⟨by decide, by decide⟩ (fun c14 => ?_) (fun c14 => ?_)
    · refine ja_aload_n devaluated_43 rfl rfl ?_
      refine ja_iconst devaluated_44 ?_
      refine t_halt (by decide) (show (0 : Nat) ≤ 8 by decide) devaluated_45 g ⟨by decide, by decide⟩ (show 1 ≤ 2 ∧ 2 ≤ 8 by omega) ?_
      intro h201 k45_0 g202
      refine ja_zreturn devaluated_48 rfl (by omega) ?_
      exact mo_fin (by omega) rfl (k2 h201 (by omega) g202)
    · refine ja_aload_n devaluated_17 rfl rfl ?_
      refine t_take (by decide) (show (0 : Nat) ≤ 8 by decide) devaluated_18 g  ?_ ?_
      · intro k18_0 g203
        replace k18_0 : (h 0 7) < 900 := k18_0
        replace g203 : mo_G (ja_up h 0 7 ((h 0 7) + 1)) := g203
        show mJ l D cA ad 3 cX12_evaluated 3 (some .boolean) 21 [(0, (2, ((0 : Nat) : Int)))] [(0, 1)] (ja_up h 0 7 ((h 0 7) + 1)) Q
        refine ja_if_eq 39 devaluated_21 rfl ⟨by decide, by decide⟩ (fun c21 => absurd c21 (by omega)) (fun c21 => ?_)
        refine ja_aload_n devaluated_24 rfl rfl ?_
        refine ja_bipush 17 devaluated_25 rfl ?_
        refine ja_iconst devaluated_27 ?_
        refine ja_iconst devaluated_28 ?_
        refine t_emit (by decide) (show (0 : Nat) ≤ 8 by decide) devaluated_29 g203 ⟨by decide, by decide⟩ ⟨by decide, by decide⟩ ⟨by decide, by decide⟩ (show 0 ≤ 17 ∧ 17 ≤ 26 by omega) (show (h 0 113) < 5000 by omega) ?_
        intro g204
        replace g204 : mo_G (ja_up (ja_up (ja_up (ja_up (ja_up h 0 7 ((h 0 7) + 1)) 74 ((h 0 113).toNat) 17) 75 ((h 0 113).toNat) 0) 76 ((h 0 113).toNat) 0) 0 113 ((h 0 113) + 1)) := g204
        show mJ l D cA ad 3 cX12_evaluated 3 (some .boolean) 32 [(0, (2, ((0 : Nat) : Int)))] [(0, (h 0 113))] (ja_up (ja_up (ja_up (ja_up (ja_up h 0 7 ((h 0 7) + 1)) 74 ((h 0 113).toNat) 17) 75 ((h 0 113).toNat) 0) 76 ((h 0 113).toNat) 0) 0 113 ((h 0 113) + 1)) Q
        refine ja_if_lt 39 devaluated_32 rfl ⟨by omega, by omega⟩ (fun c32 => ?_) (fun c32 => ?_)
        · refine ja_iconst devaluated_39 ?_
          refine ja_goto 48 devaluated_40 rfl ?_
          refine ja_zreturn devaluated_48 rfl (by omega) ?_
          exact mo_fin (by omega) rfl (k2 (ja_up (ja_up (ja_up (ja_up (ja_up h 0 7 ((h 0 7) + 1)) 74 ((h 0 113).toNat) 17) 75 ((h 0 113).toNat) 0) 76 ((h 0 113).toNat) 0) 0 113 ((h 0 113) + 1)) (by omega) g204)
        · refine ja_iconst devaluated_35 ?_
          refine ja_goto 48 devaluated_36 rfl ?_
          refine ja_zreturn devaluated_48 rfl (by omega) ?_
          exact mo_fin (by omega) rfl (k1 (ja_up (ja_up (ja_up (ja_up (ja_up h 0 7 ((h 0 7) + 1)) 74 ((h 0 113).toNat) 17) 75 ((h 0 113).toNat) 0) 76 ((h 0 113).toNat) 0) 0 113 ((h 0 113) + 1)) (ab_ev_pop g p1 p2) g204)
      · intro h205 k18_1 g206
        refine ja_if_eq 39 devaluated_21 rfl ⟨by decide, by decide⟩ (fun c21 => ?_) (fun c21 => absurd c21 (by omega))
        refine ja_iconst devaluated_39 ?_
        refine ja_goto 48 devaluated_40 rfl ?_
        refine ja_zreturn devaluated_48 rfl (by omega) ?_
        exact mo_fin (by omega) rfl (k2 h205 (by omega) g206)
theorem t_evaluated {R r ph tf q0 a b : Int} {s : List mo_A} {ht st rg : Nat → Int} {tu : Int} {d nL pc : Nat} {cc : ByteArray} {rt : Option FieldType} {L : List (Nat × ja_V)} {S : List ja_V} {h : ja_H} {Q : Option ja_V → ja_H → Prop} (hdd : 3 < d) (hwd : ja_wd S ≤ 8) (hd : decode cc pc = .ok (.invokevirtual 823, 3)) (g : mo_G h) (p1 : pk_S h (h 0 17).toNat s) (p2 : piB h R r ph tf q0 ((18, a, b) :: s) ht st rg tu) (k1 : ∀ (h' : ja_H), (pi_done h h' R r ph tf q0 (pi_mu h ((18, a, b) :: s))) → mo_G h' → mJ l D cA ad d cc nL rt (pc + 3) L ((0, 1) :: S) h' Q) (k2 : ∀ (h' : ja_H), (0 < (h' 0 8) ∧ (h' 0 1) = (h 0 1) ∧ (h' 0 118) = (h 0 118) ∧ (h' 0 127) = (h 0 127)) → mo_G h' → mJ l D cA ad d cc nL rt (pc + 3) L ((0, 0) :: S) h' Q) : mJ l D cA ad d cc nL rt pc L ((2, ((0 : Nat) : Int)) :: S) h Q :=
  mc_evaluated hdd hwd hd (s_evaluated g p1 p2 k1 k2)
end
theorem doperand_0 : decode cX12_operand 0 = .ok (.aload_n 0, 1) := by decide +kernel
theorem doperand_1 : decode cX12_operand 1 = .ok (.getfield 574, 3) := by decide +kernel
theorem doperand_4 : decode cX12_operand 4 = .ok (.istore_n 1, 1) := by decide +kernel
theorem doperand_5 : decode cX12_operand 5 = .ok (.aload_n 0, 1) := by decide +kernel
theorem doperand_6 : decode cX12_operand 6 = .ok (.getfield 13, 3) := by decide +kernel
theorem doperand_9 : decode cX12_operand 9 = .ok (.aload_n 0, 1) := by decide +kernel
theorem doperand_10 : decode cX12_operand 10 = .ok (.getfield 574, 3) := by decide +kernel
theorem doperand_13 : decode cX12_operand 13 = .ok (.iaload, 1) := by decide +kernel
theorem doperand_14 : decode cX12_operand 14 = .ok (.iconst 3, 1) := by decide +kernel
theorem doperand_15 : decode cX12_operand 15 = .ok (.if_icmp .ne 49, 3) := by decide +kernel
theorem doperand_18 : decode cX12_operand 18 = .ok (.aload_n 0, 1) := by decide +kernel
theorem doperand_19 : decode cX12_operand 19 = .ok (.iconst 0, 1) := by decide +kernel
theorem doperand_20 : decode cX12_operand 20 = .ok (.putfield 838, 3) := by decide +kernel
theorem doperand_23 : decode cX12_operand 23 = .ok (.aload_n 0, 1) := by decide +kernel
theorem doperand_24 : decode cX12_operand 24 = .ok (.iconst 1, 1) := by decide +kernel
theorem doperand_25 : decode cX12_operand 25 = .ok (.aload_n 0, 1) := by decide +kernel
theorem doperand_26 : decode cX12_operand 26 = .ok (.getfield 22, 3) := by decide +kernel
theorem doperand_29 : decode cX12_operand 29 = .ok (.aload_n 0, 1) := by decide +kernel
theorem doperand_30 : decode cX12_operand 30 = .ok (.getfield 574, 3) := by decide +kernel
theorem doperand_33 : decode cX12_operand 33 = .ok (.iaload, 1) := by decide +kernel
theorem doperand_34 : decode cX12_operand 34 = .ok (.iconst 0, 1) := by decide +kernel
theorem doperand_35 : decode cX12_operand 35 = .ok (.invokevirtual 732, 3) := by decide +kernel
theorem doperand_38 : decode cX12_operand 38 = .ok (.istore_n 2, 1) := by decide +kernel
theorem doperand_39 : decode cX12_operand 39 = .ok (.aload_n 0, 1) := by decide +kernel
theorem doperand_40 : decode cX12_operand 40 = .ok (.invokevirtual 589, 3) := by decide +kernel
theorem doperand_43 : decode cX12_operand 43 = .ok (.ifCond .eq 19, 3) := by decide +kernel
theorem doperand_46 : decode cX12_operand 46 = .ok (.aload_n 0, 1) := by decide +kernel
theorem doperand_47 : decode cX12_operand 47 = .ok (.bipush 7, 2) := by decide +kernel
theorem doperand_49 : decode cX12_operand 49 = .ok (.iconst 0, 1) := by decide +kernel
theorem doperand_50 : decode cX12_operand 50 = .ok (.iconst 0, 1) := by decide +kernel
theorem doperand_51 : decode cX12_operand 51 = .ok (.iconst 0, 1) := by decide +kernel
theorem doperand_52 : decode cX12_operand 52 = .ok (.invokevirtual 790, 3) := by decide +kernel
theorem doperand_55 : decode cX12_operand 55 = .ok (.ifCond .eq 7, 3) := by decide +kernel
theorem doperand_58 : decode cX12_operand 58 = .ok (.iconst 1, 1) := by decide +kernel
theorem doperand_59 : decode cX12_operand 59 = .ok (.goto 4, 3) := by decide +kernel
theorem doperand_62 : decode cX12_operand 62 = .ok (.iconst 0, 1) := by decide +kernel
theorem doperand_63 : decode cX12_operand 63 = .ok (.ireturn, 1) := by decide +kernel
theorem doperand_64 : decode cX12_operand 64 = .ok (.aload_n 0, 1) := by decide +kernel
theorem doperand_65 : decode cX12_operand 65 = .ok (.invokevirtual 599, 3) := by decide +kernel
theorem doperand_68 : decode cX12_operand 68 = .ok (.ifCond .eq 36, 3) := by decide +kernel
theorem doperand_71 : decode cX12_operand 71 = .ok (.aload_n 0, 1) := by decide +kernel
theorem doperand_72 : decode cX12_operand 72 = .ok (.aload_n 0, 1) := by decide +kernel
theorem doperand_73 : decode cX12_operand 73 = .ok (.getfield 574, 3) := by decide +kernel
theorem doperand_76 : decode cX12_operand 76 = .ok (.invokevirtual 866, 3) := by decide +kernel
theorem doperand_79 : decode cX12_operand 79 = .ok (.aload_n 0, 1) := by decide +kernel
theorem doperand_80 : decode cX12_operand 80 = .ok (.invokevirtual 589, 3) := by decide +kernel
theorem doperand_83 : decode cX12_operand 83 = .ok (.ifCond .eq 19, 3) := by decide +kernel
theorem doperand_86 : decode cX12_operand 86 = .ok (.aload_n 0, 1) := by decide +kernel
theorem doperand_87 : decode cX12_operand 87 = .ok (.bipush 7, 2) := by decide +kernel
theorem doperand_89 : decode cX12_operand 89 = .ok (.iconst 0, 1) := by decide +kernel
theorem doperand_90 : decode cX12_operand 90 = .ok (.iconst 0, 1) := by decide +kernel
theorem doperand_91 : decode cX12_operand 91 = .ok (.iconst 0, 1) := by decide +kernel
theorem doperand_92 : decode cX12_operand 92 = .ok (.invokevirtual 790, 3) := by decide +kernel
theorem doperand_95 : decode cX12_operand 95 = .ok (.ifCond .eq 7, 3) := by decide +kernel
theorem doperand_98 : decode cX12_operand 98 = .ok (.iconst 1, 1) := by decide +kernel
theorem doperand_99 : decode cX12_operand 99 = .ok (.goto 4, 3) := by decide +kernel
theorem doperand_102 : decode cX12_operand 102 = .ok (.iconst 0, 1) := by decide +kernel
theorem doperand_103 : decode cX12_operand 103 = .ok (.ireturn, 1) := by decide +kernel
theorem doperand_104 : decode cX12_operand 104 = .ok (.aload_n 0, 1) := by decide +kernel
theorem doperand_105 : decode cX12_operand 105 = .ok (.bipush 40, 2) := by decide +kernel
theorem doperand_107 : decode cX12_operand 107 = .ok (.invokevirtual 586, 3) := by decide +kernel
theorem doperand_110 : decode cX12_operand 110 = .ok (.ifCond .eq 51, 3) := by decide +kernel
theorem doperand_113 : decode cX12_operand 113 = .ok (.aload_n 0, 1) := by decide +kernel
theorem doperand_114 : decode cX12_operand 114 = .ok (.invokevirtual 589, 3) := by decide +kernel
theorem doperand_117 : decode cX12_operand 117 = .ok (.ifCond .eq 42, 3) := by decide +kernel
theorem doperand_120 : decode cX12_operand 120 = .ok (.aload_n 0, 1) := by decide +kernel
theorem doperand_121 : decode cX12_operand 121 = .ok (.bipush 7, 2) := by decide +kernel
theorem doperand_123 : decode cX12_operand 123 = .ok (.iconst 0, 1) := by decide +kernel
theorem doperand_124 : decode cX12_operand 124 = .ok (.iconst 0, 1) := by decide +kernel
theorem doperand_125 : decode cX12_operand 125 = .ok (.iconst 0, 1) := by decide +kernel
theorem doperand_126 : decode cX12_operand 126 = .ok (.invokevirtual 790, 3) := by decide +kernel
theorem doperand_129 : decode cX12_operand 129 = .ok (.ifCond .eq 30, 3) := by decide +kernel
theorem doperand_132 : decode cX12_operand 132 = .ok (.aload_n 0, 1) := by decide +kernel
theorem doperand_133 : decode cX12_operand 133 = .ok (.bipush 38, 2) := by decide +kernel
theorem doperand_135 : decode cX12_operand 135 = .ok (.iconst 0, 1) := by decide +kernel
theorem doperand_136 : decode cX12_operand 136 = .ok (.iconst 0, 1) := by decide +kernel
theorem doperand_137 : decode cX12_operand 137 = .ok (.iconst 0, 1) := by decide +kernel
theorem doperand_138 : decode cX12_operand 138 = .ok (.invokevirtual 790, 3) := by decide +kernel
theorem doperand_141 : decode cX12_operand 141 = .ok (.ifCond .eq 18, 3) := by decide +kernel
theorem doperand_144 : decode cX12_operand 144 = .ok (.aload_n 0, 1) := by decide +kernel
theorem doperand_145 : decode cX12_operand 145 = .ok (.iconst 1, 1) := by decide +kernel
theorem doperand_146 : decode cX12_operand 146 = .ok (.iconst 0, 1) := by decide +kernel
theorem doperand_147 : decode cX12_operand 147 = .ok (.iconst 0, 1) := by decide +kernel
theorem doperand_148 : decode cX12_operand 148 = .ok (.iconst 0, 1) := by decide +kernel
theorem doperand_149 : decode cX12_operand 149 = .ok (.invokevirtual 790, 3) := by decide +kernel
theorem doperand_152 : decode cX12_operand 152 = .ok (.ifCond .eq 7, 3) := by decide +kernel
theorem doperand_155 : decode cX12_operand 155 = .ok (.iconst 1, 1) := by decide +kernel
theorem doperand_156 : decode cX12_operand 156 = .ok (.goto 4, 3) := by decide +kernel
theorem doperand_159 : decode cX12_operand 159 = .ok (.iconst 0, 1) := by decide +kernel
theorem doperand_160 : decode cX12_operand 160 = .ok (.ireturn, 1) := by decide +kernel
theorem doperand_161 : decode cX12_operand 161 = .ok (.aload_n 0, 1) := by decide +kernel
theorem doperand_162 : decode cX12_operand 162 = .ok (.bipush 27, 2) := by decide +kernel
theorem doperand_164 : decode cX12_operand 164 = .ok (.invokevirtual 596, 3) := by decide +kernel
theorem doperand_167 : decode cX12_operand 167 = .ok (.ifCond .ne 12, 3) := by decide +kernel
theorem doperand_170 : decode cX12_operand 170 = .ok (.aload_n 0, 1) := by decide +kernel
theorem doperand_171 : decode cX12_operand 171 = .ok (.bipush 36, 2) := by decide +kernel
theorem doperand_173 : decode cX12_operand 173 = .ok (.invokevirtual 596, 3) := by decide +kernel
theorem doperand_176 : decode cX12_operand 176 = .ok (.ifCond .eq 80, 3) := by decide +kernel
theorem doperand_179 : decode cX12_operand 179 = .ok (.aload_n 0, 1) := by decide +kernel
theorem doperand_180 : decode cX12_operand 180 = .ok (.iconst 0, 1) := by decide +kernel
theorem doperand_181 : decode cX12_operand 181 = .ok (.putfield 838, 3) := by decide +kernel
theorem doperand_184 : decode cX12_operand 184 = .ok (.aload_n 0, 1) := by decide +kernel
theorem doperand_185 : decode cX12_operand 185 = .ok (.bipush 36, 2) := by decide +kernel
theorem doperand_187 : decode cX12_operand 187 = .ok (.invokevirtual 596, 3) := by decide +kernel
theorem doperand_190 : decode cX12_operand 190 = .ok (.ifCond .eq 20, 3) := by decide +kernel
theorem doperand_193 : decode cX12_operand 193 = .ok (.aload_n 0, 1) := by decide +kernel
theorem doperand_194 : decode cX12_operand 194 = .ok (.getfield 620, 3) := by decide +kernel
theorem doperand_197 : decode cX12_operand 197 = .ok (.iconst 1, 1) := by decide +kernel
theorem doperand_198 : decode cX12_operand 198 = .ok (.if_icmp .eq 12, 3) := by decide +kernel
theorem doperand_201 : decode cX12_operand 201 = .ok (.aload_n 0, 1) := by decide +kernel
theorem doperand_202 : decode cX12_operand 202 = .ok (.iconst 5, 1) := by decide +kernel
theorem doperand_203 : decode cX12_operand 203 = .ok (.aload_n 0, 1) := by decide +kernel
theorem doperand_204 : decode cX12_operand 204 = .ok (.getfield 574, 3) := by decide +kernel
theorem doperand_207 : decode cX12_operand 207 = .ok (.invokevirtual 719, 3) := by decide +kernel
theorem doperand_210 : decode cX12_operand 210 = .ok (.aload_n 0, 1) := by decide +kernel
theorem doperand_211 : decode cX12_operand 211 = .ok (.aload_n 0, 1) := by decide +kernel
theorem doperand_212 : decode cX12_operand 212 = .ok (.bipush 36, 2) := by decide +kernel
theorem doperand_214 : decode cX12_operand 214 = .ok (.invokevirtual 596, 3) := by decide +kernel
theorem doperand_217 : decode cX12_operand 217 = .ok (.ifCond .eq 7, 3) := by decide +kernel
theorem doperand_220 : decode cX12_operand 220 = .ok (.iconst 3, 1) := by decide +kernel
theorem doperand_221 : decode cX12_operand 221 = .ok (.goto 4, 3) := by decide +kernel
theorem doperand_224 : decode cX12_operand 224 = .ok (.iconst 2, 1) := by decide +kernel
theorem doperand_225 : decode cX12_operand 225 = .ok (.iconst 0, 1) := by decide +kernel
theorem doperand_226 : decode cX12_operand 226 = .ok (.iconst 0, 1) := by decide +kernel
theorem doperand_227 : decode cX12_operand 227 = .ok (.invokevirtual 732, 3) := by decide +kernel
theorem doperand_230 : decode cX12_operand 230 = .ok (.istore_n 2, 1) := by decide +kernel
theorem doperand_231 : decode cX12_operand 231 = .ok (.aload_n 0, 1) := by decide +kernel
theorem doperand_232 : decode cX12_operand 232 = .ok (.invokevirtual 589, 3) := by decide +kernel
theorem doperand_235 : decode cX12_operand 235 = .ok (.ifCond .eq 19, 3) := by decide +kernel
theorem doperand_238 : decode cX12_operand 238 = .ok (.aload_n 0, 1) := by decide +kernel
theorem doperand_239 : decode cX12_operand 239 = .ok (.bipush 7, 2) := by decide +kernel
theorem doperand_241 : decode cX12_operand 241 = .ok (.iconst 0, 1) := by decide +kernel
theorem doperand_242 : decode cX12_operand 242 = .ok (.iconst 0, 1) := by decide +kernel
theorem doperand_243 : decode cX12_operand 243 = .ok (.iconst 0, 1) := by decide +kernel
theorem doperand_244 : decode cX12_operand 244 = .ok (.invokevirtual 790, 3) := by decide +kernel
theorem doperand_247 : decode cX12_operand 247 = .ok (.ifCond .eq 7, 3) := by decide +kernel
theorem doperand_250 : decode cX12_operand 250 = .ok (.iconst 1, 1) := by decide +kernel
theorem doperand_251 : decode cX12_operand 251 = .ok (.goto 4, 3) := by decide +kernel
theorem doperand_254 : decode cX12_operand 254 = .ok (.iconst 0, 1) := by decide +kernel
theorem doperand_255 : decode cX12_operand 255 = .ok (.ireturn, 1) := by decide +kernel
theorem doperand_256 : decode cX12_operand 256 = .ok (.aload_n 0, 1) := by decide +kernel
theorem doperand_257 : decode cX12_operand 257 = .ok (.bipush 18, 2) := by decide +kernel
theorem doperand_259 : decode cX12_operand 259 = .ok (.invokevirtual 596, 3) := by decide +kernel
theorem doperand_262 : decode cX12_operand 262 = .ok (.ifCond .eq 104, 3) := by decide +kernel
theorem doperand_265 : decode cX12_operand 265 = .ok (.aload_n 0, 1) := by decide +kernel
theorem doperand_266 : decode cX12_operand 266 = .ok (.getfield 620, 3) := by decide +kernel
theorem doperand_269 : decode cX12_operand 269 = .ok (.iconst 3, 1) := by decide +kernel
theorem doperand_270 : decode cX12_operand 270 = .ok (.if_icmp .eq 12, 3) := by decide +kernel
theorem doperand_273 : decode cX12_operand 273 = .ok (.aload_n 0, 1) := by decide +kernel
theorem doperand_274 : decode cX12_operand 274 = .ok (.iconst 5, 1) := by decide +kernel
theorem doperand_275 : decode cX12_operand 275 = .ok (.aload_n 0, 1) := by decide +kernel
theorem doperand_276 : decode cX12_operand 276 = .ok (.getfield 574, 3) := by decide +kernel
theorem doperand_279 : decode cX12_operand 279 = .ok (.invokevirtual 719, 3) := by decide +kernel
theorem doperand_282 : decode cX12_operand 282 = .ok (.aload_n 0, 1) := by decide +kernel
theorem doperand_283 : decode cX12_operand 283 = .ok (.invokevirtual 589, 3) := by decide +kernel
theorem doperand_286 : decode cX12_operand 286 = .ok (.ifCond .ne 5, 3) := by decide +kernel
theorem doperand_289 : decode cX12_operand 289 = .ok (.iconst 0, 1) := by decide +kernel
theorem doperand_290 : decode cX12_operand 290 = .ok (.ireturn, 1) := by decide +kernel
theorem doperand_291 : decode cX12_operand 291 = .ok (.aload_n 0, 1) := by decide +kernel
theorem doperand_292 : decode cX12_operand 292 = .ok (.bipush 40, 2) := by decide +kernel
theorem doperand_294 : decode cX12_operand 294 = .ok (.invokevirtual 586, 3) := by decide +kernel
theorem doperand_297 : decode cX12_operand 297 = .ok (.ifCond .eq 45, 3) := by decide +kernel
theorem doperand_300 : decode cX12_operand 300 = .ok (.aload_n 0, 1) := by decide +kernel
theorem doperand_301 : decode cX12_operand 301 = .ok (.bipush 7, 2) := by decide +kernel
theorem doperand_303 : decode cX12_operand 303 = .ok (.iconst 0, 1) := by decide +kernel
theorem doperand_304 : decode cX12_operand 304 = .ok (.iconst 0, 1) := by decide +kernel
theorem doperand_305 : decode cX12_operand 305 = .ok (.iconst 0, 1) := by decide +kernel
theorem doperand_306 : decode cX12_operand 306 = .ok (.invokevirtual 790, 3) := by decide +kernel
theorem doperand_309 : decode cX12_operand 309 = .ok (.ifCond .eq 31, 3) := by decide +kernel
theorem doperand_312 : decode cX12_operand 312 = .ok (.aload_n 0, 1) := by decide +kernel
theorem doperand_313 : decode cX12_operand 313 = .ok (.bipush 12, 2) := by decide +kernel
theorem doperand_315 : decode cX12_operand 315 = .ok (.iconst 0, 1) := by decide +kernel
theorem doperand_316 : decode cX12_operand 316 = .ok (.iconst 0, 1) := by decide +kernel
theorem doperand_317 : decode cX12_operand 317 = .ok (.iconst 0, 1) := by decide +kernel
theorem doperand_318 : decode cX12_operand 318 = .ok (.invokevirtual 790, 3) := by decide +kernel
theorem doperand_321 : decode cX12_operand 321 = .ok (.ifCond .eq 19, 3) := by decide +kernel
theorem doperand_324 : decode cX12_operand 324 = .ok (.aload_n 0, 1) := by decide +kernel
theorem doperand_325 : decode cX12_operand 325 = .ok (.bipush 8, 2) := by decide +kernel
theorem doperand_327 : decode cX12_operand 327 = .ok (.iconst 0, 1) := by decide +kernel
theorem doperand_328 : decode cX12_operand 328 = .ok (.iconst 0, 1) := by decide +kernel
theorem doperand_329 : decode cX12_operand 329 = .ok (.iconst 0, 1) := by decide +kernel
theorem doperand_330 : decode cX12_operand 330 = .ok (.invokevirtual 790, 3) := by decide +kernel
theorem doperand_333 : decode cX12_operand 333 = .ok (.ifCond .eq 7, 3) := by decide +kernel
theorem doperand_336 : decode cX12_operand 336 = .ok (.iconst 1, 1) := by decide +kernel
theorem doperand_337 : decode cX12_operand 337 = .ok (.goto 4, 3) := by decide +kernel
theorem doperand_340 : decode cX12_operand 340 = .ok (.iconst 0, 1) := by decide +kernel
theorem doperand_341 : decode cX12_operand 341 = .ok (.ireturn, 1) := by decide +kernel
theorem doperand_342 : decode cX12_operand 342 = .ok (.aload_n 0, 1) := by decide +kernel
theorem doperand_343 : decode cX12_operand 343 = .ok (.iconst 5, 1) := by decide +kernel
theorem doperand_344 : decode cX12_operand 344 = .ok (.putfield 838, 3) := by decide +kernel
theorem doperand_347 : decode cX12_operand 347 = .ok (.aload_n 0, 1) := by decide +kernel
theorem doperand_348 : decode cX12_operand 348 = .ok (.bipush 16, 2) := by decide +kernel
theorem doperand_350 : decode cX12_operand 350 = .ok (.iconst 0, 1) := by decide +kernel
theorem doperand_351 : decode cX12_operand 351 = .ok (.iconst 0, 1) := by decide +kernel
theorem doperand_352 : decode cX12_operand 352 = .ok (.invokevirtual 732, 3) := by decide +kernel
theorem doperand_355 : decode cX12_operand 355 = .ok (.istore_n 2, 1) := by decide +kernel
theorem doperand_356 : decode cX12_operand 356 = .ok (.aload_n 0, 1) := by decide +kernel
theorem doperand_357 : decode cX12_operand 357 = .ok (.bipush 7, 2) := by decide +kernel
theorem doperand_359 : decode cX12_operand 359 = .ok (.iconst 0, 1) := by decide +kernel
theorem doperand_360 : decode cX12_operand 360 = .ok (.iconst 0, 1) := by decide +kernel
theorem doperand_361 : decode cX12_operand 361 = .ok (.iconst 0, 1) := by decide +kernel
theorem doperand_362 : decode cX12_operand 362 = .ok (.invokevirtual 790, 3) := by decide +kernel
theorem doperand_365 : decode cX12_operand 365 = .ok (.ireturn, 1) := by decide +kernel
theorem doperand_366 : decode cX12_operand 366 = .ok (.aload_n 0, 1) := by decide +kernel
theorem doperand_367 : decode cX12_operand 367 = .ok (.iconst 2, 1) := by decide +kernel
theorem doperand_368 : decode cX12_operand 368 = .ok (.invokevirtual 751, 3) := by decide +kernel
theorem doperand_371 : decode cX12_operand 371 = .ok (.istore_n 2, 1) := by decide +kernel
theorem doperand_372 : decode cX12_operand 372 = .ok (.iload_n 2, 1) := by decide +kernel
theorem doperand_373 : decode cX12_operand 373 = .ok (.ifCond .lt 10, 3) := by decide +kernel
theorem doperand_376 : decode cX12_operand 376 = .ok (.aload_n 0, 1) := by decide +kernel
theorem doperand_377 : decode cX12_operand 377 = .ok (.invokevirtual 589, 3) := by decide +kernel
theorem doperand_380 : decode cX12_operand 380 = .ok (.ifCond .ne 5, 3) := by decide +kernel
theorem doperand_383 : decode cX12_operand 383 = .ok (.iconst 0, 1) := by decide +kernel
theorem doperand_384 : decode cX12_operand 384 = .ok (.ireturn, 1) := by decide +kernel
theorem doperand_385 : decode cX12_operand 385 = .ok (.aload_n 0, 1) := by decide +kernel
theorem doperand_386 : decode cX12_operand 386 = .ok (.getfield 170, 3) := by decide +kernel
theorem doperand_389 : decode cX12_operand 389 = .ok (.iload_n 2, 1) := by decide +kernel
theorem doperand_390 : decode cX12_operand 390 = .ok (.aload_n 0, 1) := by decide +kernel
theorem doperand_391 : decode cX12_operand 391 = .ok (.getfield 574, 3) := by decide +kernel
theorem doperand_394 : decode cX12_operand 394 = .ok (.iastore, 1) := by decide +kernel
theorem doperand_395 : decode cX12_operand 395 = .ok (.aload_n 0, 1) := by decide +kernel
theorem doperand_396 : decode cX12_operand 396 = .ok (.getfield 574, 3) := by decide +kernel
theorem doperand_399 : decode cX12_operand 399 = .ok (.istore_n 3, 1) := by decide +kernel
theorem doperand_400 : decode cX12_operand 400 = .ok (.aload_n 0, 1) := by decide +kernel
theorem doperand_401 : decode cX12_operand 401 = .ok (.invokevirtual 739, 3) := by decide +kernel
theorem doperand_404 : decode cX12_operand 404 = .ok (.ifCond .ne 5, 3) := by decide +kernel
theorem doperand_407 : decode cX12_operand 407 = .ok (.iconst 0, 1) := by decide +kernel
theorem doperand_408 : decode cX12_operand 408 = .ok (.ireturn, 1) := by decide +kernel
theorem doperand_409 : decode cX12_operand 409 = .ok (.aload_n 0, 1) := by decide +kernel
theorem doperand_410 : decode cX12_operand 410 = .ok (.iconst 0, 1) := by decide +kernel
theorem doperand_411 : decode cX12_operand 411 = .ok (.iload_n 3, 1) := by decide +kernel
theorem doperand_412 : decode cX12_operand 412 = .ok (.iconst 0, 1) := by decide +kernel
theorem doperand_413 : decode cX12_operand 413 = .ok (.invokevirtual 783, 3) := by decide +kernel
theorem doperand_416 : decode cX12_operand 416 = .ok (.aload_n 0, 1) := by decide +kernel
theorem doperand_417 : decode cX12_operand 417 = .ok (.bipush 7, 2) := by decide +kernel
theorem doperand_419 : decode cX12_operand 419 = .ok (.iconst 0, 1) := by decide +kernel
theorem doperand_420 : decode cX12_operand 420 = .ok (.iconst 0, 1) := by decide +kernel
theorem doperand_421 : decode cX12_operand 421 = .ok (.iconst 0, 1) := by decide +kernel
theorem doperand_422 : decode cX12_operand 422 = .ok (.invokevirtual 790, 3) := by decide +kernel
theorem doperand_425 : decode cX12_operand 425 = .ok (.ifCond .eq 31, 3) := by decide +kernel
theorem doperand_428 : decode cX12_operand 428 = .ok (.aload_n 0, 1) := by decide +kernel
theorem doperand_429 : decode cX12_operand 429 = .ok (.bipush 11, 2) := by decide +kernel
theorem doperand_431 : decode cX12_operand 431 = .ok (.iload_n 2, 1) := by decide +kernel
theorem doperand_432 : decode cX12_operand 432 = .ok (.iconst 0, 1) := by decide +kernel
theorem doperand_433 : decode cX12_operand 433 = .ok (.iconst 0, 1) := by decide +kernel
theorem doperand_434 : decode cX12_operand 434 = .ok (.invokevirtual 790, 3) := by decide +kernel
theorem doperand_437 : decode cX12_operand 437 = .ok (.ifCond .eq 19, 3) := by decide +kernel
theorem doperand_440 : decode cX12_operand 440 = .ok (.aload_n 0, 1) := by decide +kernel
theorem doperand_441 : decode cX12_operand 441 = .ok (.bipush 8, 2) := by decide +kernel
theorem doperand_443 : decode cX12_operand 443 = .ok (.iconst 0, 1) := by decide +kernel
theorem doperand_444 : decode cX12_operand 444 = .ok (.iconst 0, 1) := by decide +kernel
theorem doperand_445 : decode cX12_operand 445 = .ok (.iconst 0, 1) := by decide +kernel
theorem doperand_446 : decode cX12_operand 446 = .ok (.invokevirtual 790, 3) := by decide +kernel
theorem doperand_449 : decode cX12_operand 449 = .ok (.ifCond .eq 7, 3) := by decide +kernel
theorem doperand_452 : decode cX12_operand 452 = .ok (.iconst 1, 1) := by decide +kernel
theorem doperand_453 : decode cX12_operand 453 = .ok (.goto 4, 3) := by decide +kernel
theorem doperand_456 : decode cX12_operand 456 = .ok (.iconst 0, 1) := by decide +kernel
theorem doperand_457 : decode cX12_operand 457 = .ok (.ireturn, 1) := by decide +kernel
section
variable {l : Launch} {D : va_G} {cA : Nat → ClassId} {ad : Nat → Nat}
theorem s_operand {R r ph tf q0 a b : Int} {s : List mo_A} {ht st rg : Nat → Int} {tu : Int} {h : ja_H} {Q : Option ja_V → ja_H → Prop} (g : mo_G h) (p1 : pk_S h (h 0 17).toNat s) (p2 : piB h R r ph tf q0 ((6, a, b) :: s) ht st rg tu) (p3 : (h 0 74) ≤ 1 ∨ (h 0 75) ≤ 24) (k1 : ∀ (h' : ja_H), (pi_done h h' R r ph tf q0 (pi_mu h ((6, a, b) :: s))) → mo_G h' → Q (some (0, 1)) h') (k2 : ∀ (h' : ja_H), (0 < (h' 0 8) ∧ (h' 0 1) = (h 0 1) ∧ (h' 0 118) = (h 0 118) ∧ (h' 0 127) = (h 0 127)) → mo_G h' → Q (some (0, 0)) h') : mM_operand l D cA ad  h Q := by
  show mJ l D cA ad 4 cX12_operand 4 (some .boolean) 0 [(0, (2, ((0 : Nat) : Int)))] [] h Q
  have kn_at := gF_at g
  have kn_wTop := gF_wTop g
  have kn_words := gF_words g
  have kn_nest := gF_nest g
  have kn_inIf := gF_inIf g
  have kn_body := gF_body g
  have kn_bodyNumber := gF_bodyNumber g
  have kn_wants := gF_wants g
  have kn_points := gF_points g
  have hN := piB_num g p1 p2
  obtain ⟨N1, N2, N3, N4, N5, N6, N7, N8, N9, N10, N11, N12, N13, ⟨NK1, NK2⟩, ND1, ND2, ND3, NU1, NU2⟩ := hN
  have hll := bs_hl p2
  have hn1 : (h 0 18) = 0 + pk_sum pk_c s := p2.1.1
  have hbe := bs_be p2
  have hr3 : (h 0 86) = 0 → r ≤ 3 := fun q => (reg_3 g p2 (by dsimp only; omega) q).1
  have hrb : (h 0 86) = 0 ∧ (h 0 74) = 3 → r = 3 := fun q => by rw [(reg_3 g p2 (by dsimp only; omega) q.1).2]; exact q.2
  refine ja_aload_n doperand_0 rfl rfl ?_
  refine fg_at (v := h 0 7) rfl doperand_1 ?_
  have f1 := gF_at g
  refine ja_istore_n doperand_4 rfl (by decide) (L2 := [(1, (0, (h 0 7))), (0, (2, ((0 : Nat) : Int)))]) rfl ?_
  refine ja_aload_n doperand_5 rfl rfl ?_
  refine fa_kinds doperand_6 ?_
  refine ja_aload_n doperand_9 rfl rfl ?_
  refine fg_at (v := h 0 7) rfl doperand_10 ?_
  refine il_kinds (v := h 2 (h 0 7).toNat) rfl ⟨by omega, by omega⟩ doperand_13 ?_
  have f2 := gC_kinds g (h 0 7).toNat
  refine ja_iconst doperand_14 ?_
  refine ja_icmp_ne 64 doperand_15 rfl ⟨by omega, by omega⟩ ⟨by decide, by decide⟩ (fun c15 => ?_) (fun c15 => ?_)
  · refine ja_aload_n doperand_64 rfl rfl ?_
    refine t_isName (by decide) (show (0 : Nat) ≤ 8 by decide) doperand_65 g  ?_
    intro w3 k65_0
    refine ja_if_eq 104 doperand_68 rfl ⟨by omega, by omega⟩ (fun c68 => ?_) (fun c68 => ?_)
    · refine ja_aload_n doperand_104 rfl rfl ?_
      refine ja_bipush 40 doperand_105 rfl ?_
      refine t_isSign (by decide) (show (0 : Nat) ≤ 8 by decide) doperand_107 g ⟨by decide, by decide⟩ ?_
      intro w4 k107_0
      refine ja_if_eq 161 doperand_110 rfl ⟨by omega, by omega⟩ (fun c110 => ?_) (fun c110 => ?_)
      · refine ja_aload_n doperand_161 rfl rfl ?_
        refine ja_bipush 27 doperand_162 rfl ?_
        refine t_isWord (by decide) (show (0 : Nat) ≤ 8 by decide) doperand_164 g ⟨by decide, by decide⟩ ?_
        intro w5 k164_0
        refine ja_if_ne 179 doperand_167 rfl ⟨by omega, by omega⟩ (fun c167 => ?_) (fun c167 => ?_)
        · refine ja_aload_n doperand_179 rfl rfl ?_
          refine ja_iconst doperand_180 ?_
          have g6 := gP_form g (x := 0) ⟨by decide, by decide⟩
          refine fp_form doperand_181 ?_
          refine ja_aload_n doperand_184 rfl rfl ?_
          refine ja_bipush 36 doperand_185 rfl ?_
          refine t_isWord (by decide) (show (0 : Nat) ≤ 8 by decide) doperand_187 g6 ⟨by decide, by decide⟩ ?_
          intro w7 k187_0
          replace k187_0 : (w7 = 1 ∧ (h 2 (h 0 7).toNat) = 1 ∧ (h 5 (h 0 7).toNat) = 36) ∨ (w7 = 0 ∧ ¬ ((h 2 (h 0 7).toNat) = 1 ∧ (h 5 (h 0 7).toNat) = 36)) := k187_0
          refine ja_if_eq 210 doperand_190 rfl ⟨by omega, by omega⟩ (fun c190 => ?_) (fun c190 => ?_)
          · refine ja_aload_n doperand_210 rfl rfl ?_
            refine ja_aload_n doperand_211 rfl rfl ?_
            refine ja_bipush 36 doperand_212 rfl ?_
            refine t_isWord (by decide) (show (1 : Nat) ≤ 8 by decide) doperand_214 g6 ⟨by decide, by decide⟩ ?_
            intro w8 k214_0
            replace k214_0 : (w8 = 1 ∧ (h 2 (h 0 7).toNat) = 1 ∧ (h 5 (h 0 7).toNat) = 36) ∨ (w8 = 0 ∧ ¬ ((h 2 (h 0 7).toNat) = 1 ∧ (h 5 (h 0 7).toNat) = 36)) := k214_0
            refine ja_if_eq 224 doperand_217 rfl ⟨by omega, by omega⟩ (fun c217 => ?_) (fun c217 => ?_)
            · refine ja_iconst doperand_224 ?_
              refine ja_iconst doperand_225 ?_
              refine ja_iconst doperand_226 ?_
              refine t_emit (by decide) (show (0 : Nat) ≤ 8 by decide) doperand_227 g6 ⟨by decide, by decide⟩ ⟨by decide, by decide⟩ ⟨by decide, by decide⟩ (show 0 ≤ 2 ∧ 2 ≤ 26 by omega) (show (h 0 113) < 5000 by omega) ?_
              intro g9
              replace g9 : mo_G (ja_up (ja_up (ja_up (ja_up (ja_up h 0 19 0) 74 ((h 0 113).toNat) 2) 75 ((h 0 113).toNat) 0) 76 ((h 0 113).toNat) 0) 0 113 ((h 0 113) + 1)) := g9
              show mJ l D cA ad 4 cX12_operand 4 (some .boolean) 230 [(1, (0, (h 0 7))), (0, (2, ((0 : Nat) : Int)))] [(0, (h 0 113))] (ja_up (ja_up (ja_up (ja_up (ja_up h 0 19 0) 74 ((h 0 113).toNat) 2) 75 ((h 0 113).toNat) 0) 76 ((h 0 113).toNat) 0) 0 113 ((h 0 113) + 1)) Q
              refine ja_istore_n doperand_230 rfl (by decide) (L2 := [(2, (0, (h 0 113))), (1, (0, (h 0 7))), (0, (2, ((0 : Nat) : Int)))]) rfl ?_
              refine ja_aload_n doperand_231 rfl rfl ?_
              refine t_take (by decide) (show (0 : Nat) ≤ 8 by decide) doperand_232 g9  ?_ ?_
              · intro k232_0 g10
                replace k232_0 : (h 0 7) < 900 := k232_0
                replace g10 : mo_G (ja_up (ja_up (ja_up (ja_up (ja_up (ja_up h 0 19 0) 74 ((h 0 113).toNat) 2) 75 ((h 0 113).toNat) 0) 76 ((h 0 113).toNat) 0) 0 113 ((h 0 113) + 1)) 0 7 ((h 0 7) + 1)) := g10
                show mJ l D cA ad 4 cX12_operand 4 (some .boolean) 235 [(2, (0, (h 0 113))), (1, (0, (h 0 7))), (0, (2, ((0 : Nat) : Int)))] [(0, 1)] (ja_up (ja_up (ja_up (ja_up (ja_up (ja_up h 0 19 0) 74 ((h 0 113).toNat) 2) 75 ((h 0 113).toNat) 0) 76 ((h 0 113).toNat) 0) 0 113 ((h 0 113) + 1)) 0 7 ((h 0 7) + 1)) Q
                refine ja_if_eq 254 doperand_235 rfl ⟨by decide, by decide⟩ (fun c235 => absurd c235 (by omega)) (fun c235 => ?_)
                refine ja_aload_n doperand_238 rfl rfl ?_
                refine ja_bipush 7 doperand_239 rfl ?_
                refine ja_iconst doperand_241 ?_
                refine ja_iconst doperand_242 ?_
                refine ja_iconst doperand_243 ?_
                refine t_later (by decide) (show (0 : Nat) ≤ 8 by decide) doperand_244 g10 ⟨by decide, by decide⟩ ⟨by decide, by decide⟩ ⟨by decide, by decide⟩ ⟨by decide, by decide⟩ (show 0 ≤ 7 ∧ 7 ≤ 38 by omega) (show (h 0 17) < 2000 by omega) ?_
                intro g11
                replace g11 : mo_G (ja_up (ja_up (ja_up (ja_up (ja_up (ja_up (ja_up (ja_up (ja_up (ja_up (ja_up h 0 19 0) 74 ((h 0 113).toNat) 2) 75 ((h 0 113).toNat) 0) 76 ((h 0 113).toNat) 0) 0 113 ((h 0 113) + 1)) 0 7 ((h 0 7) + 1)) 6 ((h 0 17).toNat) 7) 7 ((h 0 17).toNat) 0) 8 ((h 0 17).toNat) 0) 9 ((h 0 17).toNat) 0) 0 17 ((h 0 17) + 1)) := g11
                show mJ l D cA ad 4 cX12_operand 4 (some .boolean) 247 [(2, (0, (h 0 113))), (1, (0, (h 0 7))), (0, (2, ((0 : Nat) : Int)))] [(0, 1)] (ja_up (ja_up (ja_up (ja_up (ja_up (ja_up (ja_up (ja_up (ja_up (ja_up (ja_up h 0 19 0) 74 ((h 0 113).toNat) 2) 75 ((h 0 113).toNat) 0) 76 ((h 0 113).toNat) 0) 0 113 ((h 0 113) + 1)) 0 7 ((h 0 7) + 1)) 6 ((h 0 17).toNat) 7) 7 ((h 0 17).toNat) 0) 8 ((h 0 17).toNat) 0) 9 ((h 0 17).toNat) 0) 0 17 ((h 0 17) + 1)) Q
                refine ja_if_eq 254 doperand_247 rfl ⟨by decide, by decide⟩ (fun c247 => absurd c247 (by omega)) (fun c247 => ?_)
                refine ja_iconst doperand_250 ?_
                refine ja_goto 255 doperand_251 rfl ?_
                refine ja_zreturn doperand_255 rfl (by omega) ?_
                exact mo_fin (by omega) rfl (k1 (ja_up (ja_up (ja_up (ja_up (ja_up (ja_up (ja_up (ja_up (ja_up (ja_up (ja_up h 0 19 0) 74 ((h 0 113).toNat) 2) 75 ((h 0 113).toNat) 0) 76 ((h 0 113).toNat) 0) 0 113 ((h 0 113) + 1)) 0 7 ((h 0 7) + 1)) 6 ((h 0 17).toNat) 7) 7 ((h 0 17).toNat) 0) 8 ((h 0 17).toNat) 0) 9 ((h 0 17).toNat) 0) 0 17 ((h 0 17) + 1)) ((by first | exact ab_od_none g p1 p2 | (exfalso; omega))) g11)
              · intro h12 k232_1 g13
                replace k232_1 : 0 < (h12 0 8) ∧ (h12 0 1) = (h 0 1) ∧ (h12 0 118) = (h 0 118) ∧ (h12 0 127) = (h 0 127) := k232_1
                refine ja_if_eq 254 doperand_235 rfl ⟨by decide, by decide⟩ (fun c235 => ?_) (fun c235 => absurd c235 (by omega))
                refine ja_iconst doperand_254 ?_
                refine ja_zreturn doperand_255 rfl (by omega) ?_
                exact mo_fin (by omega) rfl (k2 h12 (by omega) g13)
            · refine ja_iconst doperand_220 ?_
              refine ja_goto 225 doperand_221 rfl ?_
              refine ja_iconst doperand_225 ?_
              refine ja_iconst doperand_226 ?_
              refine t_emit (by decide) (show (0 : Nat) ≤ 8 by decide) doperand_227 g6 ⟨by decide, by decide⟩ ⟨by decide, by decide⟩ ⟨by decide, by decide⟩ (show 0 ≤ 3 ∧ 3 ≤ 26 by omega) (show (h 0 113) < 5000 by omega) ?_
              intro g14
              replace g14 : mo_G (ja_up (ja_up (ja_up (ja_up (ja_up h 0 19 0) 74 ((h 0 113).toNat) 3) 75 ((h 0 113).toNat) 0) 76 ((h 0 113).toNat) 0) 0 113 ((h 0 113) + 1)) := g14
              show mJ l D cA ad 4 cX12_operand 4 (some .boolean) 230 [(1, (0, (h 0 7))), (0, (2, ((0 : Nat) : Int)))] [(0, (h 0 113))] (ja_up (ja_up (ja_up (ja_up (ja_up h 0 19 0) 74 ((h 0 113).toNat) 3) 75 ((h 0 113).toNat) 0) 76 ((h 0 113).toNat) 0) 0 113 ((h 0 113) + 1)) Q
              refine ja_istore_n doperand_230 rfl (by decide) (L2 := [(2, (0, (h 0 113))), (1, (0, (h 0 7))), (0, (2, ((0 : Nat) : Int)))]) rfl ?_
              refine ja_aload_n doperand_231 rfl rfl ?_
              refine t_take (by decide) (show (0 : Nat) ≤ 8 by decide) doperand_232 g14  ?_ ?_
              · intro k232_0 g15
                replace k232_0 : (h 0 7) < 900 := k232_0
                replace g15 : mo_G (ja_up (ja_up (ja_up (ja_up (ja_up (ja_up h 0 19 0) 74 ((h 0 113).toNat) 3) 75 ((h 0 113).toNat) 0) 76 ((h 0 113).toNat) 0) 0 113 ((h 0 113) + 1)) 0 7 ((h 0 7) + 1)) := g15
                show mJ l D cA ad 4 cX12_operand 4 (some .boolean) 235 [(2, (0, (h 0 113))), (1, (0, (h 0 7))), (0, (2, ((0 : Nat) : Int)))] [(0, 1)] (ja_up (ja_up (ja_up (ja_up (ja_up (ja_up h 0 19 0) 74 ((h 0 113).toNat) 3) 75 ((h 0 113).toNat) 0) 76 ((h 0 113).toNat) 0) 0 113 ((h 0 113) + 1)) 0 7 ((h 0 7) + 1)) Q
                refine ja_if_eq 254 doperand_235 rfl ⟨by decide, by decide⟩ (fun c235 => absurd c235 (by omega)) (fun c235 => ?_)
                refine ja_aload_n doperand_238 rfl rfl ?_
                refine ja_bipush 7 doperand_239 rfl ?_
                refine ja_iconst doperand_241 ?_
                refine ja_iconst doperand_242 ?_
                refine ja_iconst doperand_243 ?_
                refine t_later (by decide) (show (0 : Nat) ≤ 8 by decide) doperand_244 g15 ⟨by decide, by decide⟩ ⟨by decide, by decide⟩ ⟨by decide, by decide⟩ ⟨by decide, by decide⟩ (show 0 ≤ 7 ∧ 7 ≤ 38 by omega) (show (h 0 17) < 2000 by omega) ?_
                intro g16
                replace g16 : mo_G (ja_up (ja_up (ja_up (ja_up (ja_up (ja_up (ja_up (ja_up (ja_up (ja_up (ja_up h 0 19 0) 74 ((h 0 113).toNat) 3) 75 ((h 0 113).toNat) 0) 76 ((h 0 113).toNat) 0) 0 113 ((h 0 113) + 1)) 0 7 ((h 0 7) + 1)) 6 ((h 0 17).toNat) 7) 7 ((h 0 17).toNat) 0) 8 ((h 0 17).toNat) 0) 9 ((h 0 17).toNat) 0) 0 17 ((h 0 17) + 1)) := g16
                show mJ l D cA ad 4 cX12_operand 4 (some .boolean) 247 [(2, (0, (h 0 113))), (1, (0, (h 0 7))), (0, (2, ((0 : Nat) : Int)))] [(0, 1)] (ja_up (ja_up (ja_up (ja_up (ja_up (ja_up (ja_up (ja_up (ja_up (ja_up (ja_up h 0 19 0) 74 ((h 0 113).toNat) 3) 75 ((h 0 113).toNat) 0) 76 ((h 0 113).toNat) 0) 0 113 ((h 0 113) + 1)) 0 7 ((h 0 7) + 1)) 6 ((h 0 17).toNat) 7) 7 ((h 0 17).toNat) 0) 8 ((h 0 17).toNat) 0) 9 ((h 0 17).toNat) 0) 0 17 ((h 0 17) + 1)) Q
                refine ja_if_eq 254 doperand_247 rfl ⟨by decide, by decide⟩ (fun c247 => absurd c247 (by omega)) (fun c247 => ?_)
                refine ja_iconst doperand_250 ?_
                refine ja_goto 255 doperand_251 rfl ?_
                refine ja_zreturn doperand_255 rfl (by omega) ?_
                exact mo_fin (by omega) rfl (k1 (ja_up (ja_up (ja_up (ja_up (ja_up (ja_up (ja_up (ja_up (ja_up (ja_up (ja_up h 0 19 0) 74 ((h 0 113).toNat) 3) 75 ((h 0 113).toNat) 0) 76 ((h 0 113).toNat) 0) 0 113 ((h 0 113) + 1)) 0 7 ((h 0 7) + 1)) 6 ((h 0 17).toNat) 7) 7 ((h 0 17).toNat) 0) 8 ((h 0 17).toNat) 0) 9 ((h 0 17).toNat) 0) 0 17 ((h 0 17) + 1)) ((by first | exact ab_od_self g p1 p2 (hr3 (by omega)) | (exfalso; omega))) g16)
              · intro h17 k232_1 g18
                replace k232_1 : 0 < (h17 0 8) ∧ (h17 0 1) = (h 0 1) ∧ (h17 0 118) = (h 0 118) ∧ (h17 0 127) = (h 0 127) := k232_1
                refine ja_if_eq 254 doperand_235 rfl ⟨by decide, by decide⟩ (fun c235 => ?_) (fun c235 => absurd c235 (by omega))
                refine ja_iconst doperand_254 ?_
                refine ja_zreturn doperand_255 rfl (by omega) ?_
                exact mo_fin (by omega) rfl (k2 h17 (by omega) g18)
          · refine ja_aload_n doperand_193 rfl rfl ?_
            refine fg_body (v := h 0 74) rfl doperand_194 ?_
            have f19 := gF_body g
            refine ja_iconst doperand_197 ?_
            refine ja_icmp_eq 210 doperand_198 rfl ⟨by omega, by omega⟩ ⟨by decide, by decide⟩ (fun c198 => ?_) (fun c198 => ?_)
            · refine ja_aload_n doperand_210 rfl rfl ?_
              refine ja_aload_n doperand_211 rfl rfl ?_
              refine ja_bipush 36 doperand_212 rfl ?_
              refine t_isWord (by decide) (show (1 : Nat) ≤ 8 by decide) doperand_214 g6 ⟨by decide, by decide⟩ ?_
              intro w20 k214_0
              replace k214_0 : (w20 = 1 ∧ (h 2 (h 0 7).toNat) = 1 ∧ (h 5 (h 0 7).toNat) = 36) ∨ (w20 = 0 ∧ ¬ ((h 2 (h 0 7).toNat) = 1 ∧ (h 5 (h 0 7).toNat) = 36)) := k214_0
              refine ja_if_eq 224 doperand_217 rfl ⟨by omega, by omega⟩ (fun c217 => ?_) (fun c217 => ?_)
              · refine ja_iconst doperand_224 ?_
                refine ja_iconst doperand_225 ?_
                refine ja_iconst doperand_226 ?_
                refine t_emit (by decide) (show (0 : Nat) ≤ 8 by decide) doperand_227 g6 ⟨by decide, by decide⟩ ⟨by decide, by decide⟩ ⟨by decide, by decide⟩ (show 0 ≤ 2 ∧ 2 ≤ 26 by omega) (show (h 0 113) < 5000 by omega) ?_
                intro g21
                replace g21 : mo_G (ja_up (ja_up (ja_up (ja_up (ja_up h 0 19 0) 74 ((h 0 113).toNat) 2) 75 ((h 0 113).toNat) 0) 76 ((h 0 113).toNat) 0) 0 113 ((h 0 113) + 1)) := g21
                show mJ l D cA ad 4 cX12_operand 4 (some .boolean) 230 [(1, (0, (h 0 7))), (0, (2, ((0 : Nat) : Int)))] [(0, (h 0 113))] (ja_up (ja_up (ja_up (ja_up (ja_up h 0 19 0) 74 ((h 0 113).toNat) 2) 75 ((h 0 113).toNat) 0) 76 ((h 0 113).toNat) 0) 0 113 ((h 0 113) + 1)) Q
                refine ja_istore_n doperand_230 rfl (by decide) (L2 := [(2, (0, (h 0 113))), (1, (0, (h 0 7))), (0, (2, ((0 : Nat) : Int)))]) rfl ?_
                refine ja_aload_n doperand_231 rfl rfl ?_
                refine t_take (by decide) (show (0 : Nat) ≤ 8 by decide) doperand_232 g21  ?_ ?_
                · intro k232_0 g22
                  replace k232_0 : (h 0 7) < 900 := k232_0
                  replace g22 : mo_G (ja_up (ja_up (ja_up (ja_up (ja_up (ja_up h 0 19 0) 74 ((h 0 113).toNat) 2) 75 ((h 0 113).toNat) 0) 76 ((h 0 113).toNat) 0) 0 113 ((h 0 113) + 1)) 0 7 ((h 0 7) + 1)) := g22
                  show mJ l D cA ad 4 cX12_operand 4 (some .boolean) 235 [(2, (0, (h 0 113))), (1, (0, (h 0 7))), (0, (2, ((0 : Nat) : Int)))] [(0, 1)] (ja_up (ja_up (ja_up (ja_up (ja_up (ja_up h 0 19 0) 74 ((h 0 113).toNat) 2) 75 ((h 0 113).toNat) 0) 76 ((h 0 113).toNat) 0) 0 113 ((h 0 113) + 1)) 0 7 ((h 0 7) + 1)) Q
                  refine ja_if_eq 254 doperand_235 rfl ⟨by decide, by decide⟩ (fun c235 => absurd c235 (by omega)) (fun c235 => ?_)
                  refine ja_aload_n doperand_238 rfl rfl ?_
                  refine ja_bipush 7 doperand_239 rfl ?_
                  refine ja_iconst doperand_241 ?_
                  refine ja_iconst doperand_242 ?_
                  refine ja_iconst doperand_243 ?_
                  refine t_later (by decide) (show (0 : Nat) ≤ 8 by decide) doperand_244 g22 ⟨by decide, by decide⟩ ⟨by decide, by decide⟩ ⟨by decide, by decide⟩ ⟨by decide, by decide⟩ (show 0 ≤ 7 ∧ 7 ≤ 38 by omega) (show (h 0 17) < 2000 by omega) ?_
                  intro g23
                  replace g23 : mo_G (ja_up (ja_up (ja_up (ja_up (ja_up (ja_up (ja_up (ja_up (ja_up (ja_up (ja_up h 0 19 0) 74 ((h 0 113).toNat) 2) 75 ((h 0 113).toNat) 0) 76 ((h 0 113).toNat) 0) 0 113 ((h 0 113) + 1)) 0 7 ((h 0 7) + 1)) 6 ((h 0 17).toNat) 7) 7 ((h 0 17).toNat) 0) 8 ((h 0 17).toNat) 0) 9 ((h 0 17).toNat) 0) 0 17 ((h 0 17) + 1)) := g23
                  show mJ l D cA ad 4 cX12_operand 4 (some .boolean) 247 [(2, (0, (h 0 113))), (1, (0, (h 0 7))), (0, (2, ((0 : Nat) : Int)))] [(0, 1)] (ja_up (ja_up (ja_up (ja_up (ja_up (ja_up (ja_up (ja_up (ja_up (ja_up (ja_up h 0 19 0) 74 ((h 0 113).toNat) 2) 75 ((h 0 113).toNat) 0) 76 ((h 0 113).toNat) 0) 0 113 ((h 0 113) + 1)) 0 7 ((h 0 7) + 1)) 6 ((h 0 17).toNat) 7) 7 ((h 0 17).toNat) 0) 8 ((h 0 17).toNat) 0) 9 ((h 0 17).toNat) 0) 0 17 ((h 0 17) + 1)) Q
                  refine ja_if_eq 254 doperand_247 rfl ⟨by decide, by decide⟩ (fun c247 => absurd c247 (by omega)) (fun c247 => ?_)
                  refine ja_iconst doperand_250 ?_
                  refine ja_goto 255 doperand_251 rfl ?_
                  refine ja_zreturn doperand_255 rfl (by omega) ?_
                  exact mo_fin (by omega) rfl (k1 (ja_up (ja_up (ja_up (ja_up (ja_up (ja_up (ja_up (ja_up (ja_up (ja_up (ja_up h 0 19 0) 74 ((h 0 113).toNat) 2) 75 ((h 0 113).toNat) 0) 76 ((h 0 113).toNat) 0) 0 113 ((h 0 113) + 1)) 0 7 ((h 0 7) + 1)) 6 ((h 0 17).toNat) 7) 7 ((h 0 17).toNat) 0) 8 ((h 0 17).toNat) 0) 9 ((h 0 17).toNat) 0) 0 17 ((h 0 17) + 1)) ((by first | exact ab_od_none g p1 p2 | (exfalso; omega))) g23)
                · intro h24 k232_1 g25
                  replace k232_1 : 0 < (h24 0 8) ∧ (h24 0 1) = (h 0 1) ∧ (h24 0 118) = (h 0 118) ∧ (h24 0 127) = (h 0 127) := k232_1
                  refine ja_if_eq 254 doperand_235 rfl ⟨by decide, by decide⟩ (fun c235 => ?_) (fun c235 => absurd c235 (by omega))
                  refine ja_iconst doperand_254 ?_
                  refine ja_zreturn doperand_255 rfl (by omega) ?_
                  exact mo_fin (by omega) rfl (k2 h24 (by omega) g25)
              · refine ja_iconst doperand_220 ?_
                refine ja_goto 225 doperand_221 rfl ?_
                refine ja_iconst doperand_225 ?_
                refine ja_iconst doperand_226 ?_
                refine t_emit (by decide) (show (0 : Nat) ≤ 8 by decide) doperand_227 g6 ⟨by decide, by decide⟩ ⟨by decide, by decide⟩ ⟨by decide, by decide⟩ (show 0 ≤ 3 ∧ 3 ≤ 26 by omega) (show (h 0 113) < 5000 by omega) ?_
                intro g26
                replace g26 : mo_G (ja_up (ja_up (ja_up (ja_up (ja_up h 0 19 0) 74 ((h 0 113).toNat) 3) 75 ((h 0 113).toNat) 0) 76 ((h 0 113).toNat) 0) 0 113 ((h 0 113) + 1)) := g26
                show mJ l D cA ad 4 cX12_operand 4 (some .boolean) 230 [(1, (0, (h 0 7))), (0, (2, ((0 : Nat) : Int)))] [(0, (h 0 113))] (ja_up (ja_up (ja_up (ja_up (ja_up h 0 19 0) 74 ((h 0 113).toNat) 3) 75 ((h 0 113).toNat) 0) 76 ((h 0 113).toNat) 0) 0 113 ((h 0 113) + 1)) Q
                refine ja_istore_n doperand_230 rfl (by decide) (L2 := [(2, (0, (h 0 113))), (1, (0, (h 0 7))), (0, (2, ((0 : Nat) : Int)))]) rfl ?_
                refine ja_aload_n doperand_231 rfl rfl ?_
                refine t_take (by decide) (show (0 : Nat) ≤ 8 by decide) doperand_232 g26  ?_ ?_
                · intro k232_0 g27
                  replace k232_0 : (h 0 7) < 900 := k232_0
                  replace g27 : mo_G (ja_up (ja_up (ja_up (ja_up (ja_up (ja_up h 0 19 0) 74 ((h 0 113).toNat) 3) 75 ((h 0 113).toNat) 0) 76 ((h 0 113).toNat) 0) 0 113 ((h 0 113) + 1)) 0 7 ((h 0 7) + 1)) := g27
                  show mJ l D cA ad 4 cX12_operand 4 (some .boolean) 235 [(2, (0, (h 0 113))), (1, (0, (h 0 7))), (0, (2, ((0 : Nat) : Int)))] [(0, 1)] (ja_up (ja_up (ja_up (ja_up (ja_up (ja_up h 0 19 0) 74 ((h 0 113).toNat) 3) 75 ((h 0 113).toNat) 0) 76 ((h 0 113).toNat) 0) 0 113 ((h 0 113) + 1)) 0 7 ((h 0 7) + 1)) Q
                  refine ja_if_eq 254 doperand_235 rfl ⟨by decide, by decide⟩ (fun c235 => absurd c235 (by omega)) (fun c235 => ?_)
                  refine ja_aload_n doperand_238 rfl rfl ?_
                  refine ja_bipush 7 doperand_239 rfl ?_
                  refine ja_iconst doperand_241 ?_
                  refine ja_iconst doperand_242 ?_
                  refine ja_iconst doperand_243 ?_
                  refine t_later (by decide) (show (0 : Nat) ≤ 8 by decide) doperand_244 g27 ⟨by decide, by decide⟩ ⟨by decide, by decide⟩ ⟨by decide, by decide⟩ ⟨by decide, by decide⟩ (show 0 ≤ 7 ∧ 7 ≤ 38 by omega) (show (h 0 17) < 2000 by omega) ?_
                  intro g28
                  replace g28 : mo_G (ja_up (ja_up (ja_up (ja_up (ja_up (ja_up (ja_up (ja_up (ja_up (ja_up (ja_up h 0 19 0) 74 ((h 0 113).toNat) 3) 75 ((h 0 113).toNat) 0) 76 ((h 0 113).toNat) 0) 0 113 ((h 0 113) + 1)) 0 7 ((h 0 7) + 1)) 6 ((h 0 17).toNat) 7) 7 ((h 0 17).toNat) 0) 8 ((h 0 17).toNat) 0) 9 ((h 0 17).toNat) 0) 0 17 ((h 0 17) + 1)) := g28
                  show mJ l D cA ad 4 cX12_operand 4 (some .boolean) 247 [(2, (0, (h 0 113))), (1, (0, (h 0 7))), (0, (2, ((0 : Nat) : Int)))] [(0, 1)] (ja_up (ja_up (ja_up (ja_up (ja_up (ja_up (ja_up (ja_up (ja_up (ja_up (ja_up h 0 19 0) 74 ((h 0 113).toNat) 3) 75 ((h 0 113).toNat) 0) 76 ((h 0 113).toNat) 0) 0 113 ((h 0 113) + 1)) 0 7 ((h 0 7) + 1)) 6 ((h 0 17).toNat) 7) 7 ((h 0 17).toNat) 0) 8 ((h 0 17).toNat) 0) 9 ((h 0 17).toNat) 0) 0 17 ((h 0 17) + 1)) Q
                  refine ja_if_eq 254 doperand_247 rfl ⟨by decide, by decide⟩ (fun c247 => absurd c247 (by omega)) (fun c247 => ?_)
                  refine ja_iconst doperand_250 ?_
                  refine ja_goto 255 doperand_251 rfl ?_
                  refine ja_zreturn doperand_255 rfl (by omega) ?_
                  exact mo_fin (by omega) rfl (k1 (ja_up (ja_up (ja_up (ja_up (ja_up (ja_up (ja_up (ja_up (ja_up (ja_up (ja_up h 0 19 0) 74 ((h 0 113).toNat) 3) 75 ((h 0 113).toNat) 0) 76 ((h 0 113).toNat) 0) 0 113 ((h 0 113) + 1)) 0 7 ((h 0 7) + 1)) 6 ((h 0 17).toNat) 7) 7 ((h 0 17).toNat) 0) 8 ((h 0 17).toNat) 0) 9 ((h 0 17).toNat) 0) 0 17 ((h 0 17) + 1)) ((by first | exact ab_od_self g p1 p2 (hr3 (by omega)) | (exfalso; omega))) g28)
                · intro h29 k232_1 g30
                  replace k232_1 : 0 < (h29 0 8) ∧ (h29 0 1) = (h 0 1) ∧ (h29 0 118) = (h 0 118) ∧ (h29 0 127) = (h 0 127) := k232_1
                  refine ja_if_eq 254 doperand_235 rfl ⟨by decide, by decide⟩ (fun c235 => ?_) (fun c235 => absurd c235 (by omega))
                  refine ja_iconst doperand_254 ?_
                  refine ja_zreturn doperand_255 rfl (by omega) ?_
                  exact mo_fin (by omega) rfl (k2 h29 (by omega) g30)
            · refine ja_aload_n doperand_201 rfl rfl ?_
              refine ja_iconst doperand_202 ?_
              refine ja_aload_n doperand_203 rfl rfl ?_
              refine fg_at (v := h 0 7) rfl doperand_204 ?_
              refine t_judge (by decide) (show (0 : Nat) ≤ 8 by decide) doperand_207 g6 ⟨by decide, by decide⟩ ⟨by omega, by omega⟩ (show 1 ≤ 5 ∧ 5 ≤ 8 by omega) (show 0 ≤ (h 0 7) ∧ (h 0 7) ≤ 900 by omega) ?_
              intro w31 w32 k207_0 g33
              replace k207_0 : 1 ≤ w31 ∧ w31 ≤ 8 ∧ -2147483648 ≤ w32 ∧ w32 ≤ 2147483647 := k207_0
              replace g33 : mo_G (ja_up (ja_up (ja_up h 0 19 0) 0 11 w31) 0 12 w32) := g33
              show mJ l D cA ad 4 cX12_operand 4 (some .boolean) 210 [(1, (0, (h 0 7))), (0, (2, ((0 : Nat) : Int)))] [] (ja_up (ja_up (ja_up h 0 19 0) 0 11 w31) 0 12 w32) Q
              refine ja_aload_n doperand_210 rfl rfl ?_
              refine ja_aload_n doperand_211 rfl rfl ?_
              refine ja_bipush 36 doperand_212 rfl ?_
              refine t_isWord (by decide) (show (1 : Nat) ≤ 8 by decide) doperand_214 g33 ⟨by decide, by decide⟩ ?_
              intro w34 k214_0
              replace k214_0 : (w34 = 1 ∧ (h 2 (h 0 7).toNat) = 1 ∧ (h 5 (h 0 7).toNat) = 36) ∨ (w34 = 0 ∧ ¬ ((h 2 (h 0 7).toNat) = 1 ∧ (h 5 (h 0 7).toNat) = 36)) := k214_0
              refine ja_if_eq 224 doperand_217 rfl ⟨by omega, by omega⟩ (fun c217 => ?_) (fun c217 => ?_)
              · refine ja_iconst doperand_224 ?_
                refine ja_iconst doperand_225 ?_
                refine ja_iconst doperand_226 ?_
                refine t_emit (by decide) (show (0 : Nat) ≤ 8 by decide) doperand_227 g33 ⟨by decide, by decide⟩ ⟨by decide, by decide⟩ ⟨by decide, by decide⟩ (show 0 ≤ 2 ∧ 2 ≤ 26 by omega) (show (h 0 113) < 5000 by omega) ?_
                intro g35
                replace g35 : mo_G (ja_up (ja_up (ja_up (ja_up (ja_up (ja_up (ja_up h 0 19 0) 0 11 w31) 0 12 w32) 74 ((h 0 113).toNat) 2) 75 ((h 0 113).toNat) 0) 76 ((h 0 113).toNat) 0) 0 113 ((h 0 113) + 1)) := g35
                show mJ l D cA ad 4 cX12_operand 4 (some .boolean) 230 [(1, (0, (h 0 7))), (0, (2, ((0 : Nat) : Int)))] [(0, (h 0 113))] (ja_up (ja_up (ja_up (ja_up (ja_up (ja_up (ja_up h 0 19 0) 0 11 w31) 0 12 w32) 74 ((h 0 113).toNat) 2) 75 ((h 0 113).toNat) 0) 76 ((h 0 113).toNat) 0) 0 113 ((h 0 113) + 1)) Q
                refine ja_istore_n doperand_230 rfl (by decide) (L2 := [(2, (0, (h 0 113))), (1, (0, (h 0 7))), (0, (2, ((0 : Nat) : Int)))]) rfl ?_
                refine ja_aload_n doperand_231 rfl rfl ?_
                refine t_take (by decide) (show (0 : Nat) ≤ 8 by decide) doperand_232 g35  ?_ ?_
                · intro k232_0 g36
                  replace k232_0 : (h 0 7) < 900 := k232_0
                  replace g36 : mo_G (ja_up (ja_up (ja_up (ja_up (ja_up (ja_up (ja_up (ja_up h 0 19 0) 0 11 w31) 0 12 w32) 74 ((h 0 113).toNat) 2) 75 ((h 0 113).toNat) 0) 76 ((h 0 113).toNat) 0) 0 113 ((h 0 113) + 1)) 0 7 ((h 0 7) + 1)) := g36
                  show mJ l D cA ad 4 cX12_operand 4 (some .boolean) 235 [(2, (0, (h 0 113))), (1, (0, (h 0 7))), (0, (2, ((0 : Nat) : Int)))] [(0, 1)] (ja_up (ja_up (ja_up (ja_up (ja_up (ja_up (ja_up (ja_up h 0 19 0) 0 11 w31) 0 12 w32) 74 ((h 0 113).toNat) 2) 75 ((h 0 113).toNat) 0) 76 ((h 0 113).toNat) 0) 0 113 ((h 0 113) + 1)) 0 7 ((h 0 7) + 1)) Q
                  refine ja_if_eq 254 doperand_235 rfl ⟨by decide, by decide⟩ (fun c235 => absurd c235 (by omega)) (fun c235 => ?_)
                  refine ja_aload_n doperand_238 rfl rfl ?_
                  refine ja_bipush 7 doperand_239 rfl ?_
                  refine ja_iconst doperand_241 ?_
                  refine ja_iconst doperand_242 ?_
                  refine ja_iconst doperand_243 ?_
                  refine t_later (by decide) (show (0 : Nat) ≤ 8 by decide) doperand_244 g36 ⟨by decide, by decide⟩ ⟨by decide, by decide⟩ ⟨by decide, by decide⟩ ⟨by decide, by decide⟩ (show 0 ≤ 7 ∧ 7 ≤ 38 by omega) (show (h 0 17) < 2000 by omega) ?_
                  intro g37
                  replace g37 : mo_G (ja_up (ja_up (ja_up (ja_up (ja_up (ja_up (ja_up (ja_up (ja_up (ja_up (ja_up (ja_up (ja_up h 0 19 0) 0 11 w31) 0 12 w32) 74 ((h 0 113).toNat) 2) 75 ((h 0 113).toNat) 0) 76 ((h 0 113).toNat) 0) 0 113 ((h 0 113) + 1)) 0 7 ((h 0 7) + 1)) 6 ((h 0 17).toNat) 7) 7 ((h 0 17).toNat) 0) 8 ((h 0 17).toNat) 0) 9 ((h 0 17).toNat) 0) 0 17 ((h 0 17) + 1)) := g37
                  show mJ l D cA ad 4 cX12_operand 4 (some .boolean) 247 [(2, (0, (h 0 113))), (1, (0, (h 0 7))), (0, (2, ((0 : Nat) : Int)))] [(0, 1)] (ja_up (ja_up (ja_up (ja_up (ja_up (ja_up (ja_up (ja_up (ja_up (ja_up (ja_up (ja_up (ja_up h 0 19 0) 0 11 w31) 0 12 w32) 74 ((h 0 113).toNat) 2) 75 ((h 0 113).toNat) 0) 76 ((h 0 113).toNat) 0) 0 113 ((h 0 113) + 1)) 0 7 ((h 0 7) + 1)) 6 ((h 0 17).toNat) 7) 7 ((h 0 17).toNat) 0) 8 ((h 0 17).toNat) 0) 9 ((h 0 17).toNat) 0) 0 17 ((h 0 17) + 1)) Q
                  refine ja_if_eq 254 doperand_247 rfl ⟨by decide, by decide⟩ (fun c247 => absurd c247 (by omega)) (fun c247 => ?_)
                  refine ja_iconst doperand_250 ?_
                  refine ja_goto 255 doperand_251 rfl ?_
                  refine ja_zreturn doperand_255 rfl (by omega) ?_
                  exact mo_fin (by omega) rfl (k1 (ja_up (ja_up (ja_up (ja_up (ja_up (ja_up (ja_up (ja_up (ja_up (ja_up (ja_up (ja_up (ja_up h 0 19 0) 0 11 w31) 0 12 w32) 74 ((h 0 113).toNat) 2) 75 ((h 0 113).toNat) 0) 76 ((h 0 113).toNat) 0) 0 113 ((h 0 113) + 1)) 0 7 ((h 0 7) + 1)) 6 ((h 0 17).toNat) 7) 7 ((h 0 17).toNat) 0) 8 ((h 0 17).toNat) 0) 9 ((h 0 17).toNat) 0) 0 17 ((h 0 17) + 1)) ((by first | exact ab_selfj g p1 p2 (hr3 (by omega)) (by omega) | (exfalso; omega))) g37)
                · intro h38 k232_1 g39
                  replace k232_1 : 0 < (h38 0 8) ∧ (h38 0 1) = (h 0 1) ∧ (h38 0 118) = (h 0 118) ∧ (h38 0 127) = (h 0 127) := k232_1
                  refine ja_if_eq 254 doperand_235 rfl ⟨by decide, by decide⟩ (fun c235 => ?_) (fun c235 => absurd c235 (by omega))
                  refine ja_iconst doperand_254 ?_
                  refine ja_zreturn doperand_255 rfl (by omega) ?_
                  exact mo_fin (by omega) rfl (k2 h38 (by omega) g39)
              · refine ja_iconst doperand_220 ?_
                refine ja_goto 225 doperand_221 rfl ?_
                refine ja_iconst doperand_225 ?_
                refine ja_iconst doperand_226 ?_
                refine t_emit (by decide) (show (0 : Nat) ≤ 8 by decide) doperand_227 g33 ⟨by decide, by decide⟩ ⟨by decide, by decide⟩ ⟨by decide, by decide⟩ (show 0 ≤ 3 ∧ 3 ≤ 26 by omega) (show (h 0 113) < 5000 by omega) ?_
                intro g40
                replace g40 : mo_G (ja_up (ja_up (ja_up (ja_up (ja_up (ja_up (ja_up h 0 19 0) 0 11 w31) 0 12 w32) 74 ((h 0 113).toNat) 3) 75 ((h 0 113).toNat) 0) 76 ((h 0 113).toNat) 0) 0 113 ((h 0 113) + 1)) := g40
                show mJ l D cA ad 4 cX12_operand 4 (some .boolean) 230 [(1, (0, (h 0 7))), (0, (2, ((0 : Nat) : Int)))] [(0, (h 0 113))] (ja_up (ja_up (ja_up (ja_up (ja_up (ja_up (ja_up h 0 19 0) 0 11 w31) 0 12 w32) 74 ((h 0 113).toNat) 3) 75 ((h 0 113).toNat) 0) 76 ((h 0 113).toNat) 0) 0 113 ((h 0 113) + 1)) Q
                refine ja_istore_n doperand_230 rfl (by decide) (L2 := [(2, (0, (h 0 113))), (1, (0, (h 0 7))), (0, (2, ((0 : Nat) : Int)))]) rfl ?_
                refine ja_aload_n doperand_231 rfl rfl ?_
                refine t_take (by decide) (show (0 : Nat) ≤ 8 by decide) doperand_232 g40  ?_ ?_
                · intro k232_0 g41
                  replace k232_0 : (h 0 7) < 900 := k232_0
                  replace g41 : mo_G (ja_up (ja_up (ja_up (ja_up (ja_up (ja_up (ja_up (ja_up h 0 19 0) 0 11 w31) 0 12 w32) 74 ((h 0 113).toNat) 3) 75 ((h 0 113).toNat) 0) 76 ((h 0 113).toNat) 0) 0 113 ((h 0 113) + 1)) 0 7 ((h 0 7) + 1)) := g41
                  show mJ l D cA ad 4 cX12_operand 4 (some .boolean) 235 [(2, (0, (h 0 113))), (1, (0, (h 0 7))), (0, (2, ((0 : Nat) : Int)))] [(0, 1)] (ja_up (ja_up (ja_up (ja_up (ja_up (ja_up (ja_up (ja_up h 0 19 0) 0 11 w31) 0 12 w32) 74 ((h 0 113).toNat) 3) 75 ((h 0 113).toNat) 0) 76 ((h 0 113).toNat) 0) 0 113 ((h 0 113) + 1)) 0 7 ((h 0 7) + 1)) Q
                  refine ja_if_eq 254 doperand_235 rfl ⟨by decide, by decide⟩ (fun c235 => absurd c235 (by omega)) (fun c235 => ?_)
                  refine ja_aload_n doperand_238 rfl rfl ?_
                  refine ja_bipush 7 doperand_239 rfl ?_
                  refine ja_iconst doperand_241 ?_
                  refine ja_iconst doperand_242 ?_
                  refine ja_iconst doperand_243 ?_
                  refine t_later (by decide) (show (0 : Nat) ≤ 8 by decide) doperand_244 g41 ⟨by decide, by decide⟩ ⟨by decide, by decide⟩ ⟨by decide, by decide⟩ ⟨by decide, by decide⟩ (show 0 ≤ 7 ∧ 7 ≤ 38 by omega) (show (h 0 17) < 2000 by omega) ?_
                  intro g42
                  replace g42 : mo_G (ja_up (ja_up (ja_up (ja_up (ja_up (ja_up (ja_up (ja_up (ja_up (ja_up (ja_up (ja_up (ja_up h 0 19 0) 0 11 w31) 0 12 w32) 74 ((h 0 113).toNat) 3) 75 ((h 0 113).toNat) 0) 76 ((h 0 113).toNat) 0) 0 113 ((h 0 113) + 1)) 0 7 ((h 0 7) + 1)) 6 ((h 0 17).toNat) 7) 7 ((h 0 17).toNat) 0) 8 ((h 0 17).toNat) 0) 9 ((h 0 17).toNat) 0) 0 17 ((h 0 17) + 1)) := g42
                  show mJ l D cA ad 4 cX12_operand 4 (some .boolean) 247 [(2, (0, (h 0 113))), (1, (0, (h 0 7))), (0, (2, ((0 : Nat) : Int)))] [(0, 1)] (ja_up (ja_up (ja_up (ja_up (ja_up (ja_up (ja_up (ja_up (ja_up (ja_up (ja_up (ja_up (ja_up h 0 19 0) 0 11 w31) 0 12 w32) 74 ((h 0 113).toNat) 3) 75 ((h 0 113).toNat) 0) 76 ((h 0 113).toNat) 0) 0 113 ((h 0 113) + 1)) 0 7 ((h 0 7) + 1)) 6 ((h 0 17).toNat) 7) 7 ((h 0 17).toNat) 0) 8 ((h 0 17).toNat) 0) 9 ((h 0 17).toNat) 0) 0 17 ((h 0 17) + 1)) Q
                  refine ja_if_eq 254 doperand_247 rfl ⟨by decide, by decide⟩ (fun c247 => absurd c247 (by omega)) (fun c247 => ?_)
                  refine ja_iconst doperand_250 ?_
                  refine ja_goto 255 doperand_251 rfl ?_
                  refine ja_zreturn doperand_255 rfl (by omega) ?_
                  exact mo_fin (by omega) rfl (k1 (ja_up (ja_up (ja_up (ja_up (ja_up (ja_up (ja_up (ja_up (ja_up (ja_up (ja_up (ja_up (ja_up h 0 19 0) 0 11 w31) 0 12 w32) 74 ((h 0 113).toNat) 3) 75 ((h 0 113).toNat) 0) 76 ((h 0 113).toNat) 0) 0 113 ((h 0 113) + 1)) 0 7 ((h 0 7) + 1)) 6 ((h 0 17).toNat) 7) 7 ((h 0 17).toNat) 0) 8 ((h 0 17).toNat) 0) 9 ((h 0 17).toNat) 0) 0 17 ((h 0 17) + 1)) ((by first | exact ab_selfj g p1 p2 (hr3 (by omega)) (by omega) | (exfalso; omega))) g42)
                · intro h43 k232_1 g44
                  replace k232_1 : 0 < (h43 0 8) ∧ (h43 0 1) = (h 0 1) ∧ (h43 0 118) = (h 0 118) ∧ (h43 0 127) = (h 0 127) := k232_1
                  refine ja_if_eq 254 doperand_235 rfl ⟨by decide, by decide⟩ (fun c235 => ?_) (fun c235 => absurd c235 (by omega))
                  refine ja_iconst doperand_254 ?_
                  refine ja_zreturn doperand_255 rfl (by omega) ?_
                  exact mo_fin (by omega) rfl (k2 h43 (by omega) g44)
        · refine ja_aload_n doperand_170 rfl rfl ?_
          refine ja_bipush 36 doperand_171 rfl ?_
          refine t_isWord (by decide) (show (0 : Nat) ≤ 8 by decide) doperand_173 g ⟨by decide, by decide⟩ ?_
          intro w45 k173_0
          refine ja_if_eq 256 doperand_176 rfl ⟨by omega, by omega⟩ (fun c176 => ?_) (fun c176 => ?_)
          · refine ja_aload_n doperand_256 rfl rfl ?_
            refine ja_bipush 18 doperand_257 rfl ?_
            refine t_isWord (by decide) (show (0 : Nat) ≤ 8 by decide) doperand_259 g ⟨by decide, by decide⟩ ?_
            intro w46 k259_0
            refine ja_if_eq 366 doperand_262 rfl ⟨by omega, by omega⟩ (fun c262 => ?_) (fun c262 => ?_)
            · refine ja_aload_n doperand_366 rfl rfl ?_
              refine ja_iconst doperand_367 ?_
              refine t_newPoint (by decide) (show (0 : Nat) ≤ 8 by decide) doperand_368 g ⟨by decide, by decide⟩ (show 0 ≤ 2 ∧ 2 ≤ 5 by omega) ?_ ?_
              · intro w47 w48 k368_0 g49
                replace k368_0 : (h 0 88) < 400 ∧ (((h 0 74) = 3 ∧ w47 = 2) ∨ (¬ (h 0 74) = 3 ∧ w47 = (h 0 74))) ∧ (((h 0 74) = 0 ∧ w48 = 0) ∨ (¬ (h 0 74) = 0 ∧ w48 = (h 0 75))) := k368_0
                replace g49 : mo_G (ja_up (ja_up (ja_up (ja_up (ja_up (ja_up (ja_up h 52 ((h 0 88).toNat) 2) 53 ((h 0 88).toNat) (h 0 7)) 54 ((h 0 88).toNat) (-1)) 55 ((h 0 88).toNat) 0) 56 ((h 0 88).toNat) w47) 57 ((h 0 88).toNat) w48) 0 88 ((h 0 88) + 1)) := g49
                show mJ l D cA ad 4 cX12_operand 4 (some .boolean) 371 [(1, (0, (h 0 7))), (0, (2, ((0 : Nat) : Int)))] [(0, (h 0 88))] (ja_up (ja_up (ja_up (ja_up (ja_up (ja_up (ja_up h 52 ((h 0 88).toNat) 2) 53 ((h 0 88).toNat) (h 0 7)) 54 ((h 0 88).toNat) (-1)) 55 ((h 0 88).toNat) 0) 56 ((h 0 88).toNat) w47) 57 ((h 0 88).toNat) w48) 0 88 ((h 0 88) + 1)) Q
                refine ja_istore_n doperand_371 rfl (by decide) (L2 := [(2, (0, (h 0 88))), (1, (0, (h 0 7))), (0, (2, ((0 : Nat) : Int)))]) rfl ?_
                refine ja_iload_n doperand_372 rfl rfl ?_
                refine ja_if_lt 383 doperand_373 rfl ⟨by omega, by omega⟩ (fun c373 => ?_) (fun c373 => ?_)
                · refine ja_iconst doperand_383 ?_
                  refine ja_zreturn doperand_384 rfl (by omega) ?_
                  exact mo_fin (by omega) rfl (k2 (ja_up (ja_up (ja_up (ja_up (ja_up (ja_up (ja_up h 52 ((h 0 88).toNat) 2) 53 ((h 0 88).toNat) (h 0 7)) 54 ((h 0 88).toNat) (-1)) 55 ((h 0 88).toNat) 0) 56 ((h 0 88).toNat) w47) 57 ((h 0 88).toNat) w48) 0 88 ((h 0 88) + 1)) (by omega) g49)
                · refine ja_aload_n doperand_376 rfl rfl ?_
                  refine t_take (by decide) (show (0 : Nat) ≤ 8 by decide) doperand_377 g49  ?_ ?_
                  · intro k377_0 g50
                    replace k377_0 : (h 0 7) < 900 := k377_0
                    replace g50 : mo_G (ja_up (ja_up (ja_up (ja_up (ja_up (ja_up (ja_up (ja_up h 52 ((h 0 88).toNat) 2) 53 ((h 0 88).toNat) (h 0 7)) 54 ((h 0 88).toNat) (-1)) 55 ((h 0 88).toNat) 0) 56 ((h 0 88).toNat) w47) 57 ((h 0 88).toNat) w48) 0 88 ((h 0 88) + 1)) 0 7 ((h 0 7) + 1)) := g50
                    show mJ l D cA ad 4 cX12_operand 4 (some .boolean) 380 [(2, (0, (h 0 88))), (1, (0, (h 0 7))), (0, (2, ((0 : Nat) : Int)))] [(0, 1)] (ja_up (ja_up (ja_up (ja_up (ja_up (ja_up (ja_up (ja_up h 52 ((h 0 88).toNat) 2) 53 ((h 0 88).toNat) (h 0 7)) 54 ((h 0 88).toNat) (-1)) 55 ((h 0 88).toNat) 0) 56 ((h 0 88).toNat) w47) 57 ((h 0 88).toNat) w48) 0 88 ((h 0 88) + 1)) 0 7 ((h 0 7) + 1)) Q
                    refine ja_if_ne 385 doperand_380 rfl ⟨by decide, by decide⟩ (fun c380 => ?_) (fun c380 => absurd c380 (by omega))
                    refine ja_aload_n doperand_385 rfl rfl ?_
                    refine fa_pointName doperand_386 ?_
                    refine ja_iload_n doperand_389 rfl rfl ?_
                    refine ja_aload_n doperand_390 rfl rfl ?_
                    refine fg_at (v := (h 0 7) + 1) rfl doperand_391 ?_
                    have g51 := gW_pointName g50 (h 0 88).toNat (x := (h 0 7) + 1) ⟨by omega, by omega⟩
                    refine is_pointName ⟨by omega, by omega⟩ doperand_394 ?_
                    refine ja_aload_n doperand_395 rfl rfl ?_
                    refine fg_at (v := (h 0 7) + 1) rfl doperand_396 ?_
                    refine ja_istore_n doperand_399 rfl (by decide) (L2 := [(3, (0, ((h 0 7) + 1))), (2, (0, (h 0 88))), (1, (0, (h 0 7))), (0, (2, ((0 : Nat) : Int)))]) rfl ?_
                    refine ja_aload_n doperand_400 rfl rfl ?_
                    refine t_name (by decide) (show (0 : Nat) ≤ 8 by decide) doperand_401 g51  ?_ ?_
                    · intro k401_0 g52
                      replace k401_0 : ((h 0 7) + 1) < 900 ∧ (h 2 ((h 0 7) + 1).toNat) = 2 := k401_0
                      replace g52 : mo_G (ja_up (ja_up (ja_up (ja_up (ja_up (ja_up (ja_up (ja_up (ja_up (ja_up h 52 ((h 0 88).toNat) 2) 53 ((h 0 88).toNat) (h 0 7)) 54 ((h 0 88).toNat) (-1)) 55 ((h 0 88).toNat) 0) 56 ((h 0 88).toNat) w47) 57 ((h 0 88).toNat) w48) 0 88 ((h 0 88) + 1)) 0 7 ((h 0 7) + 1)) 54 ((h 0 88).toNat) ((h 0 7) + 1)) 0 7 (((h 0 7) + 1) + 1)) := g52
                      show mJ l D cA ad 4 cX12_operand 4 (some .boolean) 404 [(3, (0, ((h 0 7) + 1))), (2, (0, (h 0 88))), (1, (0, (h 0 7))), (0, (2, ((0 : Nat) : Int)))] [(0, 1)] (ja_up (ja_up (ja_up (ja_up (ja_up (ja_up (ja_up (ja_up (ja_up (ja_up h 52 ((h 0 88).toNat) 2) 53 ((h 0 88).toNat) (h 0 7)) 54 ((h 0 88).toNat) (-1)) 55 ((h 0 88).toNat) 0) 56 ((h 0 88).toNat) w47) 57 ((h 0 88).toNat) w48) 0 88 ((h 0 88) + 1)) 0 7 ((h 0 7) + 1)) 54 ((h 0 88).toNat) ((h 0 7) + 1)) 0 7 (((h 0 7) + 1) + 1)) Q
                      refine ja_if_ne 409 doperand_404 rfl ⟨by decide, by decide⟩ (fun c404 => ?_) (fun c404 => absurd c404 (by omega))
                      refine ja_aload_n doperand_409 rfl rfl ?_
                      refine ja_iconst doperand_410 ?_
                      refine ja_iload_n doperand_411 rfl rfl ?_
                      refine ja_iconst doperand_412 ?_
                      refine t_want (by decide) (show (0 : Nat) ≤ 8 by decide) doperand_413 g52 ⟨by decide, by decide⟩ ⟨by omega, by omega⟩ ⟨by decide, by decide⟩ (show 0 ≤ 0 ∧ 0 ≤ 1 by omega) (show 0 ≤ ((h 0 7) + 1) ∧ ((h 0 7) + 1) ≤ 900 by omega) (show 0 ≤ 0 ∧ 0 ≤ 7 by omega) (show (h 0 68) < 900 by omega) ?_
                      intro g53
                      replace g53 : mo_G (ja_up (ja_up (ja_up (ja_up (ja_up (ja_up (ja_up (ja_up (ja_up (ja_up (ja_up (ja_up (ja_up (ja_up h 52 ((h 0 88).toNat) 2) 53 ((h 0 88).toNat) (h 0 7)) 54 ((h 0 88).toNat) (-1)) 55 ((h 0 88).toNat) 0) 56 ((h 0 88).toNat) w47) 57 ((h 0 88).toNat) w48) 0 88 ((h 0 88) + 1)) 0 7 ((h 0 7) + 1)) 54 ((h 0 88).toNat) ((h 0 7) + 1)) 0 7 (((h 0 7) + 1) + 1)) 45 ((h 0 68).toNat) 0) 44 ((h 0 68).toNat) ((h 0 7) + 1)) 46 ((h 0 68).toNat) 0) 0 68 ((h 0 68) + 1)) := g53
                      show mJ l D cA ad 4 cX12_operand 4 (some .boolean) 416 [(3, (0, ((h 0 7) + 1))), (2, (0, (h 0 88))), (1, (0, (h 0 7))), (0, (2, ((0 : Nat) : Int)))] [] (ja_up (ja_up (ja_up (ja_up (ja_up (ja_up (ja_up (ja_up (ja_up (ja_up (ja_up (ja_up (ja_up (ja_up h 52 ((h 0 88).toNat) 2) 53 ((h 0 88).toNat) (h 0 7)) 54 ((h 0 88).toNat) (-1)) 55 ((h 0 88).toNat) 0) 56 ((h 0 88).toNat) w47) 57 ((h 0 88).toNat) w48) 0 88 ((h 0 88) + 1)) 0 7 ((h 0 7) + 1)) 54 ((h 0 88).toNat) ((h 0 7) + 1)) 0 7 (((h 0 7) + 1) + 1)) 45 ((h 0 68).toNat) 0) 44 ((h 0 68).toNat) ((h 0 7) + 1)) 46 ((h 0 68).toNat) 0) 0 68 ((h 0 68) + 1)) Q
                      refine ja_aload_n doperand_416 rfl rfl ?_
                      refine ja_bipush 7 doperand_417 rfl ?_
                      refine ja_iconst doperand_419 ?_
                      refine ja_iconst doperand_420 ?_
                      refine ja_iconst doperand_421 ?_
                      refine t_later (by decide) (show (0 : Nat) ≤ 8 by decide) doperand_422 g53 ⟨by decide, by decide⟩ ⟨by decide, by decide⟩ ⟨by decide, by decide⟩ ⟨by decide, by decide⟩ (show 0 ≤ 7 ∧ 7 ≤ 38 by omega) (show (h 0 17) < 2000 by omega) ?_
                      intro g54
                      replace g54 : mo_G (ja_up (ja_up (ja_up (ja_up (ja_up (ja_up (ja_up (ja_up (ja_up (ja_up (ja_up (ja_up (ja_up (ja_up (ja_up (ja_up (ja_up (ja_up (ja_up h 52 ((h 0 88).toNat) 2) 53 ((h 0 88).toNat) (h 0 7)) 54 ((h 0 88).toNat) (-1)) 55 ((h 0 88).toNat) 0) 56 ((h 0 88).toNat) w47) 57 ((h 0 88).toNat) w48) 0 88 ((h 0 88) + 1)) 0 7 ((h 0 7) + 1)) 54 ((h 0 88).toNat) ((h 0 7) + 1)) 0 7 (((h 0 7) + 1) + 1)) 45 ((h 0 68).toNat) 0) 44 ((h 0 68).toNat) ((h 0 7) + 1)) 46 ((h 0 68).toNat) 0) 0 68 ((h 0 68) + 1)) 6 ((h 0 17).toNat) 7) 7 ((h 0 17).toNat) 0) 8 ((h 0 17).toNat) 0) 9 ((h 0 17).toNat) 0) 0 17 ((h 0 17) + 1)) := g54
                      show mJ l D cA ad 4 cX12_operand 4 (some .boolean) 425 [(3, (0, ((h 0 7) + 1))), (2, (0, (h 0 88))), (1, (0, (h 0 7))), (0, (2, ((0 : Nat) : Int)))] [(0, 1)] (ja_up (ja_up (ja_up (ja_up (ja_up (ja_up (ja_up (ja_up (ja_up (ja_up (ja_up (ja_up (ja_up (ja_up (ja_up (ja_up (ja_up (ja_up (ja_up h 52 ((h 0 88).toNat) 2) 53 ((h 0 88).toNat) (h 0 7)) 54 ((h 0 88).toNat) (-1)) 55 ((h 0 88).toNat) 0) 56 ((h 0 88).toNat) w47) 57 ((h 0 88).toNat) w48) 0 88 ((h 0 88) + 1)) 0 7 ((h 0 7) + 1)) 54 ((h 0 88).toNat) ((h 0 7) + 1)) 0 7 (((h 0 7) + 1) + 1)) 45 ((h 0 68).toNat) 0) 44 ((h 0 68).toNat) ((h 0 7) + 1)) 46 ((h 0 68).toNat) 0) 0 68 ((h 0 68) + 1)) 6 ((h 0 17).toNat) 7) 7 ((h 0 17).toNat) 0) 8 ((h 0 17).toNat) 0) 9 ((h 0 17).toNat) 0) 0 17 ((h 0 17) + 1)) Q
                      refine ja_if_eq 456 doperand_425 rfl ⟨by decide, by decide⟩ (fun c425 => absurd c425 (by omega)) (fun c425 => ?_)
                      refine ja_aload_n doperand_428 rfl rfl ?_
                      refine ja_bipush 11 doperand_429 rfl ?_
                      refine ja_iload_n doperand_431 rfl rfl ?_
                      refine ja_iconst doperand_432 ?_
                      refine ja_iconst doperand_433 ?_
                      refine t_later (by decide) (show (0 : Nat) ≤ 8 by decide) doperand_434 g54 ⟨by decide, by decide⟩ ⟨by omega, by omega⟩ ⟨by decide, by decide⟩ ⟨by decide, by decide⟩ (show 0 ≤ 11 ∧ 11 ≤ 38 by omega) (show ((h 0 17) + 1) < 2000 by omega) ?_
                      intro g55
                      replace g55 : mo_G (ja_up (ja_up (ja_up (ja_up (ja_up (ja_up (ja_up (ja_up (ja_up (ja_up (ja_up (ja_up (ja_up (ja_up (ja_up (ja_up (ja_up (ja_up (ja_up (ja_up (ja_up (ja_up (ja_up (ja_up h 52 ((h 0 88).toNat) 2) 53 ((h 0 88).toNat) (h 0 7)) 54 ((h 0 88).toNat) (-1)) 55 ((h 0 88).toNat) 0) 56 ((h 0 88).toNat) w47) 57 ((h 0 88).toNat) w48) 0 88 ((h 0 88) + 1)) 0 7 ((h 0 7) + 1)) 54 ((h 0 88).toNat) ((h 0 7) + 1)) 0 7 (((h 0 7) + 1) + 1)) 45 ((h 0 68).toNat) 0) 44 ((h 0 68).toNat) ((h 0 7) + 1)) 46 ((h 0 68).toNat) 0) 0 68 ((h 0 68) + 1)) 6 ((h 0 17).toNat) 7) 7 ((h 0 17).toNat) 0) 8 ((h 0 17).toNat) 0) 9 ((h 0 17).toNat) 0) 0 17 ((h 0 17) + 1)) 6 (((h 0 17) + 1).toNat) 11) 7 (((h 0 17) + 1).toNat) (h 0 88)) 8 (((h 0 17) + 1).toNat) 0) 9 (((h 0 17) + 1).toNat) 0) 0 17 (((h 0 17) + 1) + 1)) := g55
                      show mJ l D cA ad 4 cX12_operand 4 (some .boolean) 437 [(3, (0, ((h 0 7) + 1))), (2, (0, (h 0 88))), (1, (0, (h 0 7))), (0, (2, ((0 : Nat) : Int)))] [(0, 1)] (ja_up (ja_up (ja_up (ja_up (ja_up (ja_up (ja_up (ja_up (ja_up (ja_up (ja_up (ja_up (ja_up (ja_up (ja_up (ja_up (ja_up (ja_up (ja_up (ja_up (ja_up (ja_up (ja_up (ja_up h 52 ((h 0 88).toNat) 2) 53 ((h 0 88).toNat) (h 0 7)) 54 ((h 0 88).toNat) (-1)) 55 ((h 0 88).toNat) 0) 56 ((h 0 88).toNat) w47) 57 ((h 0 88).toNat) w48) 0 88 ((h 0 88) + 1)) 0 7 ((h 0 7) + 1)) 54 ((h 0 88).toNat) ((h 0 7) + 1)) 0 7 (((h 0 7) + 1) + 1)) 45 ((h 0 68).toNat) 0) 44 ((h 0 68).toNat) ((h 0 7) + 1)) 46 ((h 0 68).toNat) 0) 0 68 ((h 0 68) + 1)) 6 ((h 0 17).toNat) 7) 7 ((h 0 17).toNat) 0) 8 ((h 0 17).toNat) 0) 9 ((h 0 17).toNat) 0) 0 17 ((h 0 17) + 1)) 6 (((h 0 17) + 1).toNat) 11) 7 (((h 0 17) + 1).toNat) (h 0 88)) 8 (((h 0 17) + 1).toNat) 0) 9 (((h 0 17) + 1).toNat) 0) 0 17 (((h 0 17) + 1) + 1)) Q
                      refine ja_if_eq 456 doperand_437 rfl ⟨by decide, by decide⟩ (fun c437 => absurd c437 (by omega)) (fun c437 => ?_)
                      refine ja_aload_n doperand_440 rfl rfl ?_
                      refine ja_bipush 8 doperand_441 rfl ?_
                      refine ja_iconst doperand_443 ?_
                      refine ja_iconst doperand_444 ?_
                      refine ja_iconst doperand_445 ?_
                      refine t_later (by decide) (show (0 : Nat) ≤ 8 by decide) doperand_446 g55 ⟨by decide, by decide⟩ ⟨by decide, by decide⟩ ⟨by decide, by decide⟩ ⟨by decide, by decide⟩ (show 0 ≤ 8 ∧ 8 ≤ 38 by omega) (show (((h 0 17) + 1) + 1) < 2000 by omega) ?_
                      intro g56
                      replace g56 : mo_G (ja_up (ja_up (ja_up (ja_up (ja_up (ja_up (ja_up (ja_up (ja_up (ja_up (ja_up (ja_up (ja_up (ja_up (ja_up (ja_up (ja_up (ja_up (ja_up (ja_up (ja_up (ja_up (ja_up (ja_up (ja_up (ja_up (ja_up (ja_up (ja_up h 52 ((h 0 88).toNat) 2) 53 ((h 0 88).toNat) (h 0 7)) 54 ((h 0 88).toNat) (-1)) 55 ((h 0 88).toNat) 0) 56 ((h 0 88).toNat) w47) 57 ((h 0 88).toNat) w48) 0 88 ((h 0 88) + 1)) 0 7 ((h 0 7) + 1)) 54 ((h 0 88).toNat) ((h 0 7) + 1)) 0 7 (((h 0 7) + 1) + 1)) 45 ((h 0 68).toNat) 0) 44 ((h 0 68).toNat) ((h 0 7) + 1)) 46 ((h 0 68).toNat) 0) 0 68 ((h 0 68) + 1)) 6 ((h 0 17).toNat) 7) 7 ((h 0 17).toNat) 0) 8 ((h 0 17).toNat) 0) 9 ((h 0 17).toNat) 0) 0 17 ((h 0 17) + 1)) 6 (((h 0 17) + 1).toNat) 11) 7 (((h 0 17) + 1).toNat) (h 0 88)) 8 (((h 0 17) + 1).toNat) 0) 9 (((h 0 17) + 1).toNat) 0) 0 17 (((h 0 17) + 1) + 1)) 6 ((((h 0 17) + 1) + 1).toNat) 8) 7 ((((h 0 17) + 1) + 1).toNat) 0) 8 ((((h 0 17) + 1) + 1).toNat) 0) 9 ((((h 0 17) + 1) + 1).toNat) 0) 0 17 ((((h 0 17) + 1) + 1) + 1)) := g56
                      show mJ l D cA ad 4 cX12_operand 4 (some .boolean) 449 [(3, (0, ((h 0 7) + 1))), (2, (0, (h 0 88))), (1, (0, (h 0 7))), (0, (2, ((0 : Nat) : Int)))] [(0, 1)] (ja_up (ja_up (ja_up (ja_up (ja_up (ja_up (ja_up (ja_up (ja_up (ja_up (ja_up (ja_up (ja_up (ja_up (ja_up (ja_up (ja_up (ja_up (ja_up (ja_up (ja_up (ja_up (ja_up (ja_up (ja_up (ja_up (ja_up (ja_up (ja_up h 52 ((h 0 88).toNat) 2) 53 ((h 0 88).toNat) (h 0 7)) 54 ((h 0 88).toNat) (-1)) 55 ((h 0 88).toNat) 0) 56 ((h 0 88).toNat) w47) 57 ((h 0 88).toNat) w48) 0 88 ((h 0 88) + 1)) 0 7 ((h 0 7) + 1)) 54 ((h 0 88).toNat) ((h 0 7) + 1)) 0 7 (((h 0 7) + 1) + 1)) 45 ((h 0 68).toNat) 0) 44 ((h 0 68).toNat) ((h 0 7) + 1)) 46 ((h 0 68).toNat) 0) 0 68 ((h 0 68) + 1)) 6 ((h 0 17).toNat) 7) 7 ((h 0 17).toNat) 0) 8 ((h 0 17).toNat) 0) 9 ((h 0 17).toNat) 0) 0 17 ((h 0 17) + 1)) 6 (((h 0 17) + 1).toNat) 11) 7 (((h 0 17) + 1).toNat) (h 0 88)) 8 (((h 0 17) + 1).toNat) 0) 9 (((h 0 17) + 1).toNat) 0) 0 17 (((h 0 17) + 1) + 1)) 6 ((((h 0 17) + 1) + 1).toNat) 8) 7 ((((h 0 17) + 1) + 1).toNat) 0) 8 ((((h 0 17) + 1) + 1).toNat) 0) 9 ((((h 0 17) + 1) + 1).toNat) 0) 0 17 ((((h 0 17) + 1) + 1) + 1)) Q
                      refine ja_if_eq 456 doperand_449 rfl ⟨by decide, by decide⟩ (fun c449 => absurd c449 (by omega)) (fun c449 => ?_)
                      refine ja_iconst doperand_452 ?_
                      refine ja_goto 457 doperand_453 rfl ?_
                      refine ja_zreturn doperand_457 rfl (by omega) ?_
                      exact mo_fin (by omega) rfl (k1 (ja_up (ja_up (ja_up (ja_up (ja_up (ja_up (ja_up (ja_up (ja_up (ja_up (ja_up (ja_up (ja_up (ja_up (ja_up (ja_up (ja_up (ja_up (ja_up (ja_up (ja_up (ja_up (ja_up (ja_up (ja_up (ja_up (ja_up (ja_up (ja_up h 52 ((h 0 88).toNat) 2) 53 ((h 0 88).toNat) (h 0 7)) 54 ((h 0 88).toNat) (-1)) 55 ((h 0 88).toNat) 0) 56 ((h 0 88).toNat) w47) 57 ((h 0 88).toNat) w48) 0 88 ((h 0 88) + 1)) 0 7 ((h 0 7) + 1)) 54 ((h 0 88).toNat) ((h 0 7) + 1)) 0 7 (((h 0 7) + 1) + 1)) 45 ((h 0 68).toNat) 0) 44 ((h 0 68).toNat) ((h 0 7) + 1)) 46 ((h 0 68).toNat) 0) 0 68 ((h 0 68) + 1)) 6 ((h 0 17).toNat) 7) 7 ((h 0 17).toNat) 0) 8 ((h 0 17).toNat) 0) 9 ((h 0 17).toNat) 0) 0 17 ((h 0 17) + 1)) 6 (((h 0 17) + 1).toNat) 11) 7 (((h 0 17) + 1).toNat) (h 0 88)) 8 (((h 0 17) + 1).toNat) 0) 9 (((h 0 17) + 1).toNat) 0) 0 17 (((h 0 17) + 1) + 1)) 6 ((((h 0 17) + 1) + 1).toNat) 8) 7 ((((h 0 17) + 1) + 1).toNat) 0) 8 ((((h 0 17) + 1) + 1).toNat) 0) 9 ((((h 0 17) + 1) + 1).toNat) 0) 0 17 ((((h 0 17) + 1) + 1) + 1)) (ab_new (sd := w47) (wh := w48) g p1 p2 (by omega) (by omega)) g56)
                    · intro h57 k401_1 g58
                      replace k401_1 : 0 < (h57 0 8) ∧ (h57 0 1) = (h 0 1) ∧ (h57 0 118) = (h 0 118) ∧ (h57 0 127) = (h 0 127) := k401_1
                      refine ja_if_ne 409 doperand_404 rfl ⟨by decide, by decide⟩ (fun c404 => absurd c404 (by omega)) (fun c404 => ?_)
                      refine ja_iconst doperand_407 ?_
                      refine ja_zreturn doperand_408 rfl (by omega) ?_
                      exact mo_fin (by omega) rfl (k2 h57 (by omega) g58)
                  · intro h59 k377_1 g60
                    replace k377_1 : 0 < (h59 0 8) ∧ (h59 0 1) = (h 0 1) ∧ (h59 0 118) = (h 0 118) ∧ (h59 0 127) = (h 0 127) := k377_1
                    refine ja_if_ne 385 doperand_380 rfl ⟨by decide, by decide⟩ (fun c380 => absurd c380 (by omega)) (fun c380 => ?_)
                    refine ja_iconst doperand_383 ?_
                    refine ja_zreturn doperand_384 rfl (by omega) ?_
                    exact mo_fin (by omega) rfl (k2 h59 (by omega) g60)
              · intro h61 k368_1 g62
                refine ja_istore_n doperand_371 rfl (by decide) (L2 := [(2, (0, (-1))), (1, (0, (h 0 7))), (0, (2, ((0 : Nat) : Int)))]) rfl ?_
                refine ja_iload_n doperand_372 rfl rfl ?_
                refine ja_if_lt 383 doperand_373 rfl ⟨by decide, by decide⟩ (fun c373 => ?_) (fun c373 => absurd c373 (by omega))
                refine ja_iconst doperand_383 ?_
                refine ja_zreturn doperand_384 rfl (by omega) ?_
                exact mo_fin (by omega) rfl (k2 h61 (by omega) g62)
            · refine ja_aload_n doperand_265 rfl rfl ?_
              refine fg_body (v := h 0 74) rfl doperand_266 ?_
              have f63 := gF_body g
              refine ja_iconst doperand_269 ?_
              refine ja_icmp_eq 282 doperand_270 rfl ⟨by omega, by omega⟩ ⟨by decide, by decide⟩ (fun c270 => ?_) (fun c270 => ?_)
              · refine ja_aload_n doperand_282 rfl rfl ?_
                refine t_take (by decide) (show (0 : Nat) ≤ 8 by decide) doperand_283 g  ?_ ?_
                · intro k283_0 g64
                  replace k283_0 : (h 0 7) < 900 := k283_0
                  replace g64 : mo_G (ja_up h 0 7 ((h 0 7) + 1)) := g64
                  show mJ l D cA ad 4 cX12_operand 4 (some .boolean) 286 [(1, (0, (h 0 7))), (0, (2, ((0 : Nat) : Int)))] [(0, 1)] (ja_up h 0 7 ((h 0 7) + 1)) Q
                  refine ja_if_ne 291 doperand_286 rfl ⟨by decide, by decide⟩ (fun c286 => ?_) (fun c286 => absurd c286 (by omega))
                  refine ja_aload_n doperand_291 rfl rfl ?_
                  refine ja_bipush 40 doperand_292 rfl ?_
                  refine t_isSign (by decide) (show (0 : Nat) ≤ 8 by decide) doperand_294 g64 ⟨by decide, by decide⟩ ?_
                  intro w65 k294_0
                  replace k294_0 : (w65 = 1 ∧ (h 2 ((h 0 7) + 1).toNat) = 5 ∧ (h 5 ((h 0 7) + 1).toNat) = 40) ∨ (w65 = 0 ∧ ¬ ((h 2 ((h 0 7) + 1).toNat) = 5 ∧ (h 5 ((h 0 7) + 1).toNat) = 40)) := k294_0
                  refine ja_if_eq 342 doperand_297 rfl ⟨by omega, by omega⟩ (fun c297 => ?_) (fun c297 => ?_)
                  · refine ja_aload_n doperand_342 rfl rfl ?_
                    refine ja_iconst doperand_343 ?_
                    have g66 := gP_form g64 (x := 5) ⟨by decide, by decide⟩
                    refine fp_form doperand_344 ?_
                    refine ja_aload_n doperand_347 rfl rfl ?_
                    refine ja_bipush 16 doperand_348 rfl ?_
                    refine ja_iconst doperand_350 ?_
                    refine ja_iconst doperand_351 ?_
                    refine t_emit (by decide) (show (0 : Nat) ≤ 8 by decide) doperand_352 g66 ⟨by decide, by decide⟩ ⟨by decide, by decide⟩ ⟨by decide, by decide⟩ (show 0 ≤ 16 ∧ 16 ≤ 26 by omega) (show (h 0 113) < 5000 by omega) ?_
                    intro g67
                    replace g67 : mo_G (ja_up (ja_up (ja_up (ja_up (ja_up (ja_up h 0 7 ((h 0 7) + 1)) 0 19 5) 74 ((h 0 113).toNat) 16) 75 ((h 0 113).toNat) 0) 76 ((h 0 113).toNat) 0) 0 113 ((h 0 113) + 1)) := g67
                    show mJ l D cA ad 4 cX12_operand 4 (some .boolean) 355 [(1, (0, (h 0 7))), (0, (2, ((0 : Nat) : Int)))] [(0, (h 0 113))] (ja_up (ja_up (ja_up (ja_up (ja_up (ja_up h 0 7 ((h 0 7) + 1)) 0 19 5) 74 ((h 0 113).toNat) 16) 75 ((h 0 113).toNat) 0) 76 ((h 0 113).toNat) 0) 0 113 ((h 0 113) + 1)) Q
                    refine ja_istore_n doperand_355 rfl (by decide) (L2 := [(2, (0, (h 0 113))), (1, (0, (h 0 7))), (0, (2, ((0 : Nat) : Int)))]) rfl ?_
                    refine ja_aload_n doperand_356 rfl rfl ?_
                    refine ja_bipush 7 doperand_357 rfl ?_
                    refine ja_iconst doperand_359 ?_
                    refine ja_iconst doperand_360 ?_
                    refine ja_iconst doperand_361 ?_
                    refine t_later (by decide) (show (0 : Nat) ≤ 8 by decide) doperand_362 g67 ⟨by decide, by decide⟩ ⟨by decide, by decide⟩ ⟨by decide, by decide⟩ ⟨by decide, by decide⟩ (show 0 ≤ 7 ∧ 7 ≤ 38 by omega) (show (h 0 17) < 2000 by omega) ?_
                    intro g68
                    replace g68 : mo_G (ja_up (ja_up (ja_up (ja_up (ja_up (ja_up (ja_up (ja_up (ja_up (ja_up (ja_up h 0 7 ((h 0 7) + 1)) 0 19 5) 74 ((h 0 113).toNat) 16) 75 ((h 0 113).toNat) 0) 76 ((h 0 113).toNat) 0) 0 113 ((h 0 113) + 1)) 6 ((h 0 17).toNat) 7) 7 ((h 0 17).toNat) 0) 8 ((h 0 17).toNat) 0) 9 ((h 0 17).toNat) 0) 0 17 ((h 0 17) + 1)) := g68
                    show mJ l D cA ad 4 cX12_operand 4 (some .boolean) 365 [(2, (0, (h 0 113))), (1, (0, (h 0 7))), (0, (2, ((0 : Nat) : Int)))] [(0, 1)] (ja_up (ja_up (ja_up (ja_up (ja_up (ja_up (ja_up (ja_up (ja_up (ja_up (ja_up h 0 7 ((h 0 7) + 1)) 0 19 5) 74 ((h 0 113).toNat) 16) 75 ((h 0 113).toNat) 0) 76 ((h 0 113).toNat) 0) 0 113 ((h 0 113) + 1)) 6 ((h 0 17).toNat) 7) 7 ((h 0 17).toNat) 0) 8 ((h 0 17).toNat) 0) 9 ((h 0 17).toNat) 0) 0 17 ((h 0 17) + 1)) Q
                    refine ja_zreturn doperand_365 rfl (by omega) ?_
                    exact mo_fin (by omega) rfl (k1 (ja_up (ja_up (ja_up (ja_up (ja_up (ja_up (ja_up (ja_up (ja_up (ja_up (ja_up h 0 7 ((h 0 7) + 1)) 0 19 5) 74 ((h 0 113).toNat) 16) 75 ((h 0 113).toNat) 0) 76 ((h 0 113).toNat) 0) 0 113 ((h 0 113) + 1)) 6 ((h 0 17).toNat) 7) 7 ((h 0 17).toNat) 0) 8 ((h 0 17).toNat) 0) 9 ((h 0 17).toNat) 0) 0 17 ((h 0 17) + 1)) ((by first | exact ab_od_go1 g p1 p2 (hr3 (by omega)) (wn_go (fun _ => hrb (by omega))) | (exfalso; omega))) g68)
                  · refine ja_aload_n doperand_300 rfl rfl ?_
                    refine ja_bipush 7 doperand_301 rfl ?_
                    refine ja_iconst doperand_303 ?_
                    refine ja_iconst doperand_304 ?_
                    refine ja_iconst doperand_305 ?_
                    refine t_later (by decide) (show (0 : Nat) ≤ 8 by decide) doperand_306 g64 ⟨by decide, by decide⟩ ⟨by decide, by decide⟩ ⟨by decide, by decide⟩ ⟨by decide, by decide⟩ (show 0 ≤ 7 ∧ 7 ≤ 38 by omega) (show (h 0 17) < 2000 by omega) ?_
                    intro g69
                    replace g69 : mo_G (ja_up (ja_up (ja_up (ja_up (ja_up (ja_up h 0 7 ((h 0 7) + 1)) 6 ((h 0 17).toNat) 7) 7 ((h 0 17).toNat) 0) 8 ((h 0 17).toNat) 0) 9 ((h 0 17).toNat) 0) 0 17 ((h 0 17) + 1)) := g69
                    show mJ l D cA ad 4 cX12_operand 4 (some .boolean) 309 [(1, (0, (h 0 7))), (0, (2, ((0 : Nat) : Int)))] [(0, 1)] (ja_up (ja_up (ja_up (ja_up (ja_up (ja_up h 0 7 ((h 0 7) + 1)) 6 ((h 0 17).toNat) 7) 7 ((h 0 17).toNat) 0) 8 ((h 0 17).toNat) 0) 9 ((h 0 17).toNat) 0) 0 17 ((h 0 17) + 1)) Q
                    refine ja_if_eq 340 doperand_309 rfl ⟨by decide, by decide⟩ (fun c309 => absurd c309 (by omega)) (fun c309 => ?_)
                    refine ja_aload_n doperand_312 rfl rfl ?_
                    refine ja_bipush 12 doperand_313 rfl ?_
                    refine ja_iconst doperand_315 ?_
                    refine ja_iconst doperand_316 ?_
                    refine ja_iconst doperand_317 ?_
                    refine t_later (by decide) (show (0 : Nat) ≤ 8 by decide) doperand_318 g69 ⟨by decide, by decide⟩ ⟨by decide, by decide⟩ ⟨by decide, by decide⟩ ⟨by decide, by decide⟩ (show 0 ≤ 12 ∧ 12 ≤ 38 by omega) (show ((h 0 17) + 1) < 2000 by omega) ?_
                    intro g70
                    replace g70 : mo_G (ja_up (ja_up (ja_up (ja_up (ja_up (ja_up (ja_up (ja_up (ja_up (ja_up (ja_up h 0 7 ((h 0 7) + 1)) 6 ((h 0 17).toNat) 7) 7 ((h 0 17).toNat) 0) 8 ((h 0 17).toNat) 0) 9 ((h 0 17).toNat) 0) 0 17 ((h 0 17) + 1)) 6 (((h 0 17) + 1).toNat) 12) 7 (((h 0 17) + 1).toNat) 0) 8 (((h 0 17) + 1).toNat) 0) 9 (((h 0 17) + 1).toNat) 0) 0 17 (((h 0 17) + 1) + 1)) := g70
                    show mJ l D cA ad 4 cX12_operand 4 (some .boolean) 321 [(1, (0, (h 0 7))), (0, (2, ((0 : Nat) : Int)))] [(0, 1)] (ja_up (ja_up (ja_up (ja_up (ja_up (ja_up (ja_up (ja_up (ja_up (ja_up (ja_up h 0 7 ((h 0 7) + 1)) 6 ((h 0 17).toNat) 7) 7 ((h 0 17).toNat) 0) 8 ((h 0 17).toNat) 0) 9 ((h 0 17).toNat) 0) 0 17 ((h 0 17) + 1)) 6 (((h 0 17) + 1).toNat) 12) 7 (((h 0 17) + 1).toNat) 0) 8 (((h 0 17) + 1).toNat) 0) 9 (((h 0 17) + 1).toNat) 0) 0 17 (((h 0 17) + 1) + 1)) Q
                    refine ja_if_eq 340 doperand_321 rfl ⟨by decide, by decide⟩ (fun c321 => absurd c321 (by omega)) (fun c321 => ?_)
                    refine ja_aload_n doperand_324 rfl rfl ?_
                    refine ja_bipush 8 doperand_325 rfl ?_
                    refine ja_iconst doperand_327 ?_
                    refine ja_iconst doperand_328 ?_
                    refine ja_iconst doperand_329 ?_
                    refine t_later (by decide) (show (0 : Nat) ≤ 8 by decide) doperand_330 g70 ⟨by decide, by decide⟩ ⟨by decide, by decide⟩ ⟨by decide, by decide⟩ ⟨by decide, by decide⟩ (show 0 ≤ 8 ∧ 8 ≤ 38 by omega) (show (((h 0 17) + 1) + 1) < 2000 by omega) ?_
                    intro g71
                    replace g71 : mo_G (ja_up (ja_up (ja_up (ja_up (ja_up (ja_up (ja_up (ja_up (ja_up (ja_up (ja_up (ja_up (ja_up (ja_up (ja_up (ja_up h 0 7 ((h 0 7) + 1)) 6 ((h 0 17).toNat) 7) 7 ((h 0 17).toNat) 0) 8 ((h 0 17).toNat) 0) 9 ((h 0 17).toNat) 0) 0 17 ((h 0 17) + 1)) 6 (((h 0 17) + 1).toNat) 12) 7 (((h 0 17) + 1).toNat) 0) 8 (((h 0 17) + 1).toNat) 0) 9 (((h 0 17) + 1).toNat) 0) 0 17 (((h 0 17) + 1) + 1)) 6 ((((h 0 17) + 1) + 1).toNat) 8) 7 ((((h 0 17) + 1) + 1).toNat) 0) 8 ((((h 0 17) + 1) + 1).toNat) 0) 9 ((((h 0 17) + 1) + 1).toNat) 0) 0 17 ((((h 0 17) + 1) + 1) + 1)) := g71
                    show mJ l D cA ad 4 cX12_operand 4 (some .boolean) 333 [(1, (0, (h 0 7))), (0, (2, ((0 : Nat) : Int)))] [(0, 1)] (ja_up (ja_up (ja_up (ja_up (ja_up (ja_up (ja_up (ja_up (ja_up (ja_up (ja_up (ja_up (ja_up (ja_up (ja_up (ja_up h 0 7 ((h 0 7) + 1)) 6 ((h 0 17).toNat) 7) 7 ((h 0 17).toNat) 0) 8 ((h 0 17).toNat) 0) 9 ((h 0 17).toNat) 0) 0 17 ((h 0 17) + 1)) 6 (((h 0 17) + 1).toNat) 12) 7 (((h 0 17) + 1).toNat) 0) 8 (((h 0 17) + 1).toNat) 0) 9 (((h 0 17) + 1).toNat) 0) 0 17 (((h 0 17) + 1) + 1)) 6 ((((h 0 17) + 1) + 1).toNat) 8) 7 ((((h 0 17) + 1) + 1).toNat) 0) 8 ((((h 0 17) + 1) + 1).toNat) 0) 9 ((((h 0 17) + 1) + 1).toNat) 0) 0 17 ((((h 0 17) + 1) + 1) + 1)) Q
                    refine ja_if_eq 340 doperand_333 rfl ⟨by decide, by decide⟩ (fun c333 => absurd c333 (by omega)) (fun c333 => ?_)
                    refine ja_iconst doperand_336 ?_
                    refine ja_goto 341 doperand_337 rfl ?_
                    refine ja_zreturn doperand_341 rfl (by omega) ?_
                    exact mo_fin (by omega) rfl (k1 (ja_up (ja_up (ja_up (ja_up (ja_up (ja_up (ja_up (ja_up (ja_up (ja_up (ja_up (ja_up (ja_up (ja_up (ja_up (ja_up h 0 7 ((h 0 7) + 1)) 6 ((h 0 17).toNat) 7) 7 ((h 0 17).toNat) 0) 8 ((h 0 17).toNat) 0) 9 ((h 0 17).toNat) 0) 0 17 ((h 0 17) + 1)) 6 (((h 0 17) + 1).toNat) 12) 7 (((h 0 17) + 1).toNat) 0) 8 (((h 0 17) + 1).toNat) 0) 9 (((h 0 17) + 1).toNat) 0) 0 17 (((h 0 17) + 1) + 1)) 6 ((((h 0 17) + 1) + 1).toNat) 8) 7 ((((h 0 17) + 1) + 1).toNat) 0) 8 ((((h 0 17) + 1) + 1).toNat) 0) 9 ((((h 0 17) + 1) + 1).toNat) 0) 0 17 ((((h 0 17) + 1) + 1) + 1)) ((by first | exact ab_od_go g p1 p2 (wn_go (fun _ => hrb (by omega))) (hr3 (by omega)) | (exfalso; omega))) g71)
                · intro h72 k283_1 g73
                  refine ja_if_ne 291 doperand_286 rfl ⟨by decide, by decide⟩ (fun c286 => absurd c286 (by omega)) (fun c286 => ?_)
                  refine ja_iconst doperand_289 ?_
                  refine ja_zreturn doperand_290 rfl (by omega) ?_
                  exact mo_fin (by omega) rfl (k2 h72 (by omega) g73)
              · refine ja_aload_n doperand_273 rfl rfl ?_
                refine ja_iconst doperand_274 ?_
                refine ja_aload_n doperand_275 rfl rfl ?_
                refine fg_at (v := h 0 7) rfl doperand_276 ?_
                refine t_judge (by decide) (show (0 : Nat) ≤ 8 by decide) doperand_279 g ⟨by decide, by decide⟩ ⟨by omega, by omega⟩ (show 1 ≤ 5 ∧ 5 ≤ 8 by omega) (show 0 ≤ (h 0 7) ∧ (h 0 7) ≤ 900 by omega) ?_
                intro w74 w75 k279_0 g76
                replace k279_0 : 1 ≤ w74 ∧ w74 ≤ 8 ∧ -2147483648 ≤ w75 ∧ w75 ≤ 2147483647 := k279_0
                replace g76 : mo_G (ja_up (ja_up h 0 11 w74) 0 12 w75) := g76
                show mJ l D cA ad 4 cX12_operand 4 (some .boolean) 282 [(1, (0, (h 0 7))), (0, (2, ((0 : Nat) : Int)))] [] (ja_up (ja_up h 0 11 w74) 0 12 w75) Q
                refine ja_aload_n doperand_282 rfl rfl ?_
                refine t_take (by decide) (show (0 : Nat) ≤ 8 by decide) doperand_283 g76  ?_ ?_
                · intro k283_0 g77
                  replace k283_0 : (h 0 7) < 900 := k283_0
                  replace g77 : mo_G (ja_up (ja_up (ja_up h 0 11 w74) 0 12 w75) 0 7 ((h 0 7) + 1)) := g77
                  show mJ l D cA ad 4 cX12_operand 4 (some .boolean) 286 [(1, (0, (h 0 7))), (0, (2, ((0 : Nat) : Int)))] [(0, 1)] (ja_up (ja_up (ja_up h 0 11 w74) 0 12 w75) 0 7 ((h 0 7) + 1)) Q
                  refine ja_if_ne 291 doperand_286 rfl ⟨by decide, by decide⟩ (fun c286 => ?_) (fun c286 => absurd c286 (by omega))
                  refine ja_aload_n doperand_291 rfl rfl ?_
                  refine ja_bipush 40 doperand_292 rfl ?_
                  refine t_isSign (by decide) (show (0 : Nat) ≤ 8 by decide) doperand_294 g77 ⟨by decide, by decide⟩ ?_
                  intro w78 k294_0
                  replace k294_0 : (w78 = 1 ∧ (h 2 ((h 0 7) + 1).toNat) = 5 ∧ (h 5 ((h 0 7) + 1).toNat) = 40) ∨ (w78 = 0 ∧ ¬ ((h 2 ((h 0 7) + 1).toNat) = 5 ∧ (h 5 ((h 0 7) + 1).toNat) = 40)) := k294_0
                  refine ja_if_eq 342 doperand_297 rfl ⟨by omega, by omega⟩ (fun c297 => ?_) (fun c297 => ?_)
                  · refine ja_aload_n doperand_342 rfl rfl ?_
                    refine ja_iconst doperand_343 ?_
                    have g79 := gP_form g77 (x := 5) ⟨by decide, by decide⟩
                    refine fp_form doperand_344 ?_
                    refine ja_aload_n doperand_347 rfl rfl ?_
                    refine ja_bipush 16 doperand_348 rfl ?_
                    refine ja_iconst doperand_350 ?_
                    refine ja_iconst doperand_351 ?_
                    refine t_emit (by decide) (show (0 : Nat) ≤ 8 by decide) doperand_352 g79 ⟨by decide, by decide⟩ ⟨by decide, by decide⟩ ⟨by decide, by decide⟩ (show 0 ≤ 16 ∧ 16 ≤ 26 by omega) (show (h 0 113) < 5000 by omega) ?_
                    intro g80
                    replace g80 : mo_G (ja_up (ja_up (ja_up (ja_up (ja_up (ja_up (ja_up (ja_up h 0 11 w74) 0 12 w75) 0 7 ((h 0 7) + 1)) 0 19 5) 74 ((h 0 113).toNat) 16) 75 ((h 0 113).toNat) 0) 76 ((h 0 113).toNat) 0) 0 113 ((h 0 113) + 1)) := g80
                    show mJ l D cA ad 4 cX12_operand 4 (some .boolean) 355 [(1, (0, (h 0 7))), (0, (2, ((0 : Nat) : Int)))] [(0, (h 0 113))] (ja_up (ja_up (ja_up (ja_up (ja_up (ja_up (ja_up (ja_up h 0 11 w74) 0 12 w75) 0 7 ((h 0 7) + 1)) 0 19 5) 74 ((h 0 113).toNat) 16) 75 ((h 0 113).toNat) 0) 76 ((h 0 113).toNat) 0) 0 113 ((h 0 113) + 1)) Q
                    refine ja_istore_n doperand_355 rfl (by decide) (L2 := [(2, (0, (h 0 113))), (1, (0, (h 0 7))), (0, (2, ((0 : Nat) : Int)))]) rfl ?_
                    refine ja_aload_n doperand_356 rfl rfl ?_
                    refine ja_bipush 7 doperand_357 rfl ?_
                    refine ja_iconst doperand_359 ?_
                    refine ja_iconst doperand_360 ?_
                    refine ja_iconst doperand_361 ?_
                    refine t_later (by decide) (show (0 : Nat) ≤ 8 by decide) doperand_362 g80 ⟨by decide, by decide⟩ ⟨by decide, by decide⟩ ⟨by decide, by decide⟩ ⟨by decide, by decide⟩ (show 0 ≤ 7 ∧ 7 ≤ 38 by omega) (show (h 0 17) < 2000 by omega) ?_
                    intro g81
                    replace g81 : mo_G (ja_up (ja_up (ja_up (ja_up (ja_up (ja_up (ja_up (ja_up (ja_up (ja_up (ja_up (ja_up (ja_up h 0 11 w74) 0 12 w75) 0 7 ((h 0 7) + 1)) 0 19 5) 74 ((h 0 113).toNat) 16) 75 ((h 0 113).toNat) 0) 76 ((h 0 113).toNat) 0) 0 113 ((h 0 113) + 1)) 6 ((h 0 17).toNat) 7) 7 ((h 0 17).toNat) 0) 8 ((h 0 17).toNat) 0) 9 ((h 0 17).toNat) 0) 0 17 ((h 0 17) + 1)) := g81
                    show mJ l D cA ad 4 cX12_operand 4 (some .boolean) 365 [(2, (0, (h 0 113))), (1, (0, (h 0 7))), (0, (2, ((0 : Nat) : Int)))] [(0, 1)] (ja_up (ja_up (ja_up (ja_up (ja_up (ja_up (ja_up (ja_up (ja_up (ja_up (ja_up (ja_up (ja_up h 0 11 w74) 0 12 w75) 0 7 ((h 0 7) + 1)) 0 19 5) 74 ((h 0 113).toNat) 16) 75 ((h 0 113).toNat) 0) 76 ((h 0 113).toNat) 0) 0 113 ((h 0 113) + 1)) 6 ((h 0 17).toNat) 7) 7 ((h 0 17).toNat) 0) 8 ((h 0 17).toNat) 0) 9 ((h 0 17).toNat) 0) 0 17 ((h 0 17) + 1)) Q
                    refine ja_zreturn doperand_365 rfl (by omega) ?_
                    exact mo_fin (by omega) rfl (k1 (ja_up (ja_up (ja_up (ja_up (ja_up (ja_up (ja_up (ja_up (ja_up (ja_up (ja_up (ja_up (ja_up h 0 11 w74) 0 12 w75) 0 7 ((h 0 7) + 1)) 0 19 5) 74 ((h 0 113).toNat) 16) 75 ((h 0 113).toNat) 0) 76 ((h 0 113).toNat) 0) 0 113 ((h 0 113) + 1)) 6 ((h 0 17).toNat) 7) 7 ((h 0 17).toNat) 0) 8 ((h 0 17).toNat) 0) 9 ((h 0 17).toNat) 0) 0 17 ((h 0 17) + 1)) ((by first | exact ab_goj1 g p1 p2 (hr3 (by omega)) (by omega) | (exfalso; omega))) g81)
                  · refine ja_aload_n doperand_300 rfl rfl ?_
                    refine ja_bipush 7 doperand_301 rfl ?_
                    refine ja_iconst doperand_303 ?_
                    refine ja_iconst doperand_304 ?_
                    refine ja_iconst doperand_305 ?_
                    refine t_later (by decide) (show (0 : Nat) ≤ 8 by decide) doperand_306 g77 ⟨by decide, by decide⟩ ⟨by decide, by decide⟩ ⟨by decide, by decide⟩ ⟨by decide, by decide⟩ (show 0 ≤ 7 ∧ 7 ≤ 38 by omega) (show (h 0 17) < 2000 by omega) ?_
                    intro g82
                    replace g82 : mo_G (ja_up (ja_up (ja_up (ja_up (ja_up (ja_up (ja_up (ja_up h 0 11 w74) 0 12 w75) 0 7 ((h 0 7) + 1)) 6 ((h 0 17).toNat) 7) 7 ((h 0 17).toNat) 0) 8 ((h 0 17).toNat) 0) 9 ((h 0 17).toNat) 0) 0 17 ((h 0 17) + 1)) := g82
                    show mJ l D cA ad 4 cX12_operand 4 (some .boolean) 309 [(1, (0, (h 0 7))), (0, (2, ((0 : Nat) : Int)))] [(0, 1)] (ja_up (ja_up (ja_up (ja_up (ja_up (ja_up (ja_up (ja_up h 0 11 w74) 0 12 w75) 0 7 ((h 0 7) + 1)) 6 ((h 0 17).toNat) 7) 7 ((h 0 17).toNat) 0) 8 ((h 0 17).toNat) 0) 9 ((h 0 17).toNat) 0) 0 17 ((h 0 17) + 1)) Q
                    refine ja_if_eq 340 doperand_309 rfl ⟨by decide, by decide⟩ (fun c309 => absurd c309 (by omega)) (fun c309 => ?_)
                    refine ja_aload_n doperand_312 rfl rfl ?_
                    refine ja_bipush 12 doperand_313 rfl ?_
                    refine ja_iconst doperand_315 ?_
                    refine ja_iconst doperand_316 ?_
                    refine ja_iconst doperand_317 ?_
                    refine t_later (by decide) (show (0 : Nat) ≤ 8 by decide) doperand_318 g82 ⟨by decide, by decide⟩ ⟨by decide, by decide⟩ ⟨by decide, by decide⟩ ⟨by decide, by decide⟩ (show 0 ≤ 12 ∧ 12 ≤ 38 by omega) (show ((h 0 17) + 1) < 2000 by omega) ?_
                    intro g83
                    replace g83 : mo_G (ja_up (ja_up (ja_up (ja_up (ja_up (ja_up (ja_up (ja_up (ja_up (ja_up (ja_up (ja_up (ja_up h 0 11 w74) 0 12 w75) 0 7 ((h 0 7) + 1)) 6 ((h 0 17).toNat) 7) 7 ((h 0 17).toNat) 0) 8 ((h 0 17).toNat) 0) 9 ((h 0 17).toNat) 0) 0 17 ((h 0 17) + 1)) 6 (((h 0 17) + 1).toNat) 12) 7 (((h 0 17) + 1).toNat) 0) 8 (((h 0 17) + 1).toNat) 0) 9 (((h 0 17) + 1).toNat) 0) 0 17 (((h 0 17) + 1) + 1)) := g83
                    show mJ l D cA ad 4 cX12_operand 4 (some .boolean) 321 [(1, (0, (h 0 7))), (0, (2, ((0 : Nat) : Int)))] [(0, 1)] (ja_up (ja_up (ja_up (ja_up (ja_up (ja_up (ja_up (ja_up (ja_up (ja_up (ja_up (ja_up (ja_up h 0 11 w74) 0 12 w75) 0 7 ((h 0 7) + 1)) 6 ((h 0 17).toNat) 7) 7 ((h 0 17).toNat) 0) 8 ((h 0 17).toNat) 0) 9 ((h 0 17).toNat) 0) 0 17 ((h 0 17) + 1)) 6 (((h 0 17) + 1).toNat) 12) 7 (((h 0 17) + 1).toNat) 0) 8 (((h 0 17) + 1).toNat) 0) 9 (((h 0 17) + 1).toNat) 0) 0 17 (((h 0 17) + 1) + 1)) Q
                    refine ja_if_eq 340 doperand_321 rfl ⟨by decide, by decide⟩ (fun c321 => absurd c321 (by omega)) (fun c321 => ?_)
                    refine ja_aload_n doperand_324 rfl rfl ?_
                    refine ja_bipush 8 doperand_325 rfl ?_
                    refine ja_iconst doperand_327 ?_
                    refine ja_iconst doperand_328 ?_
                    refine ja_iconst doperand_329 ?_
                    refine t_later (by decide) (show (0 : Nat) ≤ 8 by decide) doperand_330 g83 ⟨by decide, by decide⟩ ⟨by decide, by decide⟩ ⟨by decide, by decide⟩ ⟨by decide, by decide⟩ (show 0 ≤ 8 ∧ 8 ≤ 38 by omega) (show (((h 0 17) + 1) + 1) < 2000 by omega) ?_
                    intro g84
                    replace g84 : mo_G (ja_up (ja_up (ja_up (ja_up (ja_up (ja_up (ja_up (ja_up (ja_up (ja_up (ja_up (ja_up (ja_up (ja_up (ja_up (ja_up (ja_up (ja_up h 0 11 w74) 0 12 w75) 0 7 ((h 0 7) + 1)) 6 ((h 0 17).toNat) 7) 7 ((h 0 17).toNat) 0) 8 ((h 0 17).toNat) 0) 9 ((h 0 17).toNat) 0) 0 17 ((h 0 17) + 1)) 6 (((h 0 17) + 1).toNat) 12) 7 (((h 0 17) + 1).toNat) 0) 8 (((h 0 17) + 1).toNat) 0) 9 (((h 0 17) + 1).toNat) 0) 0 17 (((h 0 17) + 1) + 1)) 6 ((((h 0 17) + 1) + 1).toNat) 8) 7 ((((h 0 17) + 1) + 1).toNat) 0) 8 ((((h 0 17) + 1) + 1).toNat) 0) 9 ((((h 0 17) + 1) + 1).toNat) 0) 0 17 ((((h 0 17) + 1) + 1) + 1)) := g84
                    show mJ l D cA ad 4 cX12_operand 4 (some .boolean) 333 [(1, (0, (h 0 7))), (0, (2, ((0 : Nat) : Int)))] [(0, 1)] (ja_up (ja_up (ja_up (ja_up (ja_up (ja_up (ja_up (ja_up (ja_up (ja_up (ja_up (ja_up (ja_up (ja_up (ja_up (ja_up (ja_up (ja_up h 0 11 w74) 0 12 w75) 0 7 ((h 0 7) + 1)) 6 ((h 0 17).toNat) 7) 7 ((h 0 17).toNat) 0) 8 ((h 0 17).toNat) 0) 9 ((h 0 17).toNat) 0) 0 17 ((h 0 17) + 1)) 6 (((h 0 17) + 1).toNat) 12) 7 (((h 0 17) + 1).toNat) 0) 8 (((h 0 17) + 1).toNat) 0) 9 (((h 0 17) + 1).toNat) 0) 0 17 (((h 0 17) + 1) + 1)) 6 ((((h 0 17) + 1) + 1).toNat) 8) 7 ((((h 0 17) + 1) + 1).toNat) 0) 8 ((((h 0 17) + 1) + 1).toNat) 0) 9 ((((h 0 17) + 1) + 1).toNat) 0) 0 17 ((((h 0 17) + 1) + 1) + 1)) Q
                    refine ja_if_eq 340 doperand_333 rfl ⟨by decide, by decide⟩ (fun c333 => absurd c333 (by omega)) (fun c333 => ?_)
                    refine ja_iconst doperand_336 ?_
                    refine ja_goto 341 doperand_337 rfl ?_
                    refine ja_zreturn doperand_341 rfl (by omega) ?_
                    exact mo_fin (by omega) rfl (k1 (ja_up (ja_up (ja_up (ja_up (ja_up (ja_up (ja_up (ja_up (ja_up (ja_up (ja_up (ja_up (ja_up (ja_up (ja_up (ja_up (ja_up (ja_up h 0 11 w74) 0 12 w75) 0 7 ((h 0 7) + 1)) 6 ((h 0 17).toNat) 7) 7 ((h 0 17).toNat) 0) 8 ((h 0 17).toNat) 0) 9 ((h 0 17).toNat) 0) 0 17 ((h 0 17) + 1)) 6 (((h 0 17) + 1).toNat) 12) 7 (((h 0 17) + 1).toNat) 0) 8 (((h 0 17) + 1).toNat) 0) 9 (((h 0 17) + 1).toNat) 0) 0 17 (((h 0 17) + 1) + 1)) 6 ((((h 0 17) + 1) + 1).toNat) 8) 7 ((((h 0 17) + 1) + 1).toNat) 0) 8 ((((h 0 17) + 1) + 1).toNat) 0) 9 ((((h 0 17) + 1) + 1).toNat) 0) 0 17 ((((h 0 17) + 1) + 1) + 1)) ((by first | exact ab_goj g p1 p2 (hr3 (by omega)) (by omega) | (exfalso; omega))) g84)
                · intro h85 k283_1 g86
                  replace k283_1 : 0 < (h85 0 8) ∧ (h85 0 1) = (h 0 1) ∧ (h85 0 118) = (h 0 118) ∧ (h85 0 127) = (h 0 127) := k283_1
                  refine ja_if_ne 291 doperand_286 rfl ⟨by decide, by decide⟩ (fun c286 => absurd c286 (by omega)) (fun c286 => ?_)
                  refine ja_iconst doperand_289 ?_
                  refine ja_zreturn doperand_290 rfl (by omega) ?_
                  exact mo_fin (by omega) rfl (k2 h85 (by omega) g86)
          · refine ja_aload_n doperand_179 rfl rfl ?_
            refine ja_iconst doperand_180 ?_
            have g87 := gP_form g (x := 0) ⟨by decide, by decide⟩
            refine fp_form doperand_181 ?_
            refine ja_aload_n doperand_184 rfl rfl ?_
            refine ja_bipush 36 doperand_185 rfl ?_
            refine t_isWord (by decide) (show (0 : Nat) ≤ 8 by decide) doperand_187 g87 ⟨by decide, by decide⟩ ?_
            intro w88 k187_0
            replace k187_0 : (w88 = 1 ∧ (h 2 (h 0 7).toNat) = 1 ∧ (h 5 (h 0 7).toNat) = 36) ∨ (w88 = 0 ∧ ¬ ((h 2 (h 0 7).toNat) = 1 ∧ (h 5 (h 0 7).toNat) = 36)) := k187_0
            refine ja_if_eq 210 doperand_190 rfl ⟨by omega, by omega⟩ (fun c190 => ?_) (fun c190 => ?_)
            · refine ja_aload_n doperand_210 rfl rfl ?_
              refine ja_aload_n doperand_211 rfl rfl ?_
              refine ja_bipush 36 doperand_212 rfl ?_
              refine t_isWord (by decide) (show (1 : Nat) ≤ 8 by decide) doperand_214 g87 ⟨by decide, by decide⟩ ?_
              intro w89 k214_0
              replace k214_0 : (w89 = 1 ∧ (h 2 (h 0 7).toNat) = 1 ∧ (h 5 (h 0 7).toNat) = 36) ∨ (w89 = 0 ∧ ¬ ((h 2 (h 0 7).toNat) = 1 ∧ (h 5 (h 0 7).toNat) = 36)) := k214_0
              refine ja_if_eq 224 doperand_217 rfl ⟨by omega, by omega⟩ (fun c217 => ?_) (fun c217 => ?_)
              · refine ja_iconst doperand_224 ?_
                refine ja_iconst doperand_225 ?_
                refine ja_iconst doperand_226 ?_
                refine t_emit (by decide) (show (0 : Nat) ≤ 8 by decide) doperand_227 g87 ⟨by decide, by decide⟩ ⟨by decide, by decide⟩ ⟨by decide, by decide⟩ (show 0 ≤ 2 ∧ 2 ≤ 26 by omega) (show (h 0 113) < 5000 by omega) ?_
                intro g90
                replace g90 : mo_G (ja_up (ja_up (ja_up (ja_up (ja_up h 0 19 0) 74 ((h 0 113).toNat) 2) 75 ((h 0 113).toNat) 0) 76 ((h 0 113).toNat) 0) 0 113 ((h 0 113) + 1)) := g90
                show mJ l D cA ad 4 cX12_operand 4 (some .boolean) 230 [(1, (0, (h 0 7))), (0, (2, ((0 : Nat) : Int)))] [(0, (h 0 113))] (ja_up (ja_up (ja_up (ja_up (ja_up h 0 19 0) 74 ((h 0 113).toNat) 2) 75 ((h 0 113).toNat) 0) 76 ((h 0 113).toNat) 0) 0 113 ((h 0 113) + 1)) Q
                refine ja_istore_n doperand_230 rfl (by decide) (L2 := [(2, (0, (h 0 113))), (1, (0, (h 0 7))), (0, (2, ((0 : Nat) : Int)))]) rfl ?_
                refine ja_aload_n doperand_231 rfl rfl ?_
                refine t_take (by decide) (show (0 : Nat) ≤ 8 by decide) doperand_232 g90  ?_ ?_
                · intro k232_0 g91
                  replace k232_0 : (h 0 7) < 900 := k232_0
                  replace g91 : mo_G (ja_up (ja_up (ja_up (ja_up (ja_up (ja_up h 0 19 0) 74 ((h 0 113).toNat) 2) 75 ((h 0 113).toNat) 0) 76 ((h 0 113).toNat) 0) 0 113 ((h 0 113) + 1)) 0 7 ((h 0 7) + 1)) := g91
                  show mJ l D cA ad 4 cX12_operand 4 (some .boolean) 235 [(2, (0, (h 0 113))), (1, (0, (h 0 7))), (0, (2, ((0 : Nat) : Int)))] [(0, 1)] (ja_up (ja_up (ja_up (ja_up (ja_up (ja_up h 0 19 0) 74 ((h 0 113).toNat) 2) 75 ((h 0 113).toNat) 0) 76 ((h 0 113).toNat) 0) 0 113 ((h 0 113) + 1)) 0 7 ((h 0 7) + 1)) Q
                  refine ja_if_eq 254 doperand_235 rfl ⟨by decide, by decide⟩ (fun c235 => absurd c235 (by omega)) (fun c235 => ?_)
                  refine ja_aload_n doperand_238 rfl rfl ?_
                  refine ja_bipush 7 doperand_239 rfl ?_
                  refine ja_iconst doperand_241 ?_
                  refine ja_iconst doperand_242 ?_
                  refine ja_iconst doperand_243 ?_
                  refine t_later (by decide) (show (0 : Nat) ≤ 8 by decide) doperand_244 g91 ⟨by decide, by decide⟩ ⟨by decide, by decide⟩ ⟨by decide, by decide⟩ ⟨by decide, by decide⟩ (show 0 ≤ 7 ∧ 7 ≤ 38 by omega) (show (h 0 17) < 2000 by omega) ?_
                  intro g92
                  replace g92 : mo_G (ja_up (ja_up (ja_up (ja_up (ja_up (ja_up (ja_up (ja_up (ja_up (ja_up (ja_up h 0 19 0) 74 ((h 0 113).toNat) 2) 75 ((h 0 113).toNat) 0) 76 ((h 0 113).toNat) 0) 0 113 ((h 0 113) + 1)) 0 7 ((h 0 7) + 1)) 6 ((h 0 17).toNat) 7) 7 ((h 0 17).toNat) 0) 8 ((h 0 17).toNat) 0) 9 ((h 0 17).toNat) 0) 0 17 ((h 0 17) + 1)) := g92
                  show mJ l D cA ad 4 cX12_operand 4 (some .boolean) 247 [(2, (0, (h 0 113))), (1, (0, (h 0 7))), (0, (2, ((0 : Nat) : Int)))] [(0, 1)] (ja_up (ja_up (ja_up (ja_up (ja_up (ja_up (ja_up (ja_up (ja_up (ja_up (ja_up h 0 19 0) 74 ((h 0 113).toNat) 2) 75 ((h 0 113).toNat) 0) 76 ((h 0 113).toNat) 0) 0 113 ((h 0 113) + 1)) 0 7 ((h 0 7) + 1)) 6 ((h 0 17).toNat) 7) 7 ((h 0 17).toNat) 0) 8 ((h 0 17).toNat) 0) 9 ((h 0 17).toNat) 0) 0 17 ((h 0 17) + 1)) Q
                  refine ja_if_eq 254 doperand_247 rfl ⟨by decide, by decide⟩ (fun c247 => absurd c247 (by omega)) (fun c247 => ?_)
                  refine ja_iconst doperand_250 ?_
                  refine ja_goto 255 doperand_251 rfl ?_
                  refine ja_zreturn doperand_255 rfl (by omega) ?_
                  exact mo_fin (by omega) rfl (k1 (ja_up (ja_up (ja_up (ja_up (ja_up (ja_up (ja_up (ja_up (ja_up (ja_up (ja_up h 0 19 0) 74 ((h 0 113).toNat) 2) 75 ((h 0 113).toNat) 0) 76 ((h 0 113).toNat) 0) 0 113 ((h 0 113) + 1)) 0 7 ((h 0 7) + 1)) 6 ((h 0 17).toNat) 7) 7 ((h 0 17).toNat) 0) 8 ((h 0 17).toNat) 0) 9 ((h 0 17).toNat) 0) 0 17 ((h 0 17) + 1)) ((by first | exact ab_od_none g p1 p2 | (exfalso; omega))) g92)
                · intro h93 k232_1 g94
                  replace k232_1 : 0 < (h93 0 8) ∧ (h93 0 1) = (h 0 1) ∧ (h93 0 118) = (h 0 118) ∧ (h93 0 127) = (h 0 127) := k232_1
                  refine ja_if_eq 254 doperand_235 rfl ⟨by decide, by decide⟩ (fun c235 => ?_) (fun c235 => absurd c235 (by omega))
                  refine ja_iconst doperand_254 ?_
                  refine ja_zreturn doperand_255 rfl (by omega) ?_
                  exact mo_fin (by omega) rfl (k2 h93 (by omega) g94)
              · refine ja_iconst doperand_220 ?_
                refine ja_goto 225 doperand_221 rfl ?_
                refine ja_iconst doperand_225 ?_
                refine ja_iconst doperand_226 ?_
                refine t_emit (by decide) (show (0 : Nat) ≤ 8 by decide) doperand_227 g87 ⟨by decide, by decide⟩ ⟨by decide, by decide⟩ ⟨by decide, by decide⟩ (show 0 ≤ 3 ∧ 3 ≤ 26 by omega) (show (h 0 113) < 5000 by omega) ?_
                intro g95
                replace g95 : mo_G (ja_up (ja_up (ja_up (ja_up (ja_up h 0 19 0) 74 ((h 0 113).toNat) 3) 75 ((h 0 113).toNat) 0) 76 ((h 0 113).toNat) 0) 0 113 ((h 0 113) + 1)) := g95
                show mJ l D cA ad 4 cX12_operand 4 (some .boolean) 230 [(1, (0, (h 0 7))), (0, (2, ((0 : Nat) : Int)))] [(0, (h 0 113))] (ja_up (ja_up (ja_up (ja_up (ja_up h 0 19 0) 74 ((h 0 113).toNat) 3) 75 ((h 0 113).toNat) 0) 76 ((h 0 113).toNat) 0) 0 113 ((h 0 113) + 1)) Q
                refine ja_istore_n doperand_230 rfl (by decide) (L2 := [(2, (0, (h 0 113))), (1, (0, (h 0 7))), (0, (2, ((0 : Nat) : Int)))]) rfl ?_
                refine ja_aload_n doperand_231 rfl rfl ?_
                refine t_take (by decide) (show (0 : Nat) ≤ 8 by decide) doperand_232 g95  ?_ ?_
                · intro k232_0 g96
                  replace k232_0 : (h 0 7) < 900 := k232_0
                  replace g96 : mo_G (ja_up (ja_up (ja_up (ja_up (ja_up (ja_up h 0 19 0) 74 ((h 0 113).toNat) 3) 75 ((h 0 113).toNat) 0) 76 ((h 0 113).toNat) 0) 0 113 ((h 0 113) + 1)) 0 7 ((h 0 7) + 1)) := g96
                  show mJ l D cA ad 4 cX12_operand 4 (some .boolean) 235 [(2, (0, (h 0 113))), (1, (0, (h 0 7))), (0, (2, ((0 : Nat) : Int)))] [(0, 1)] (ja_up (ja_up (ja_up (ja_up (ja_up (ja_up h 0 19 0) 74 ((h 0 113).toNat) 3) 75 ((h 0 113).toNat) 0) 76 ((h 0 113).toNat) 0) 0 113 ((h 0 113) + 1)) 0 7 ((h 0 7) + 1)) Q
                  refine ja_if_eq 254 doperand_235 rfl ⟨by decide, by decide⟩ (fun c235 => absurd c235 (by omega)) (fun c235 => ?_)
                  refine ja_aload_n doperand_238 rfl rfl ?_
                  refine ja_bipush 7 doperand_239 rfl ?_
                  refine ja_iconst doperand_241 ?_
                  refine ja_iconst doperand_242 ?_
                  refine ja_iconst doperand_243 ?_
                  refine t_later (by decide) (show (0 : Nat) ≤ 8 by decide) doperand_244 g96 ⟨by decide, by decide⟩ ⟨by decide, by decide⟩ ⟨by decide, by decide⟩ ⟨by decide, by decide⟩ (show 0 ≤ 7 ∧ 7 ≤ 38 by omega) (show (h 0 17) < 2000 by omega) ?_
                  intro g97
                  replace g97 : mo_G (ja_up (ja_up (ja_up (ja_up (ja_up (ja_up (ja_up (ja_up (ja_up (ja_up (ja_up h 0 19 0) 74 ((h 0 113).toNat) 3) 75 ((h 0 113).toNat) 0) 76 ((h 0 113).toNat) 0) 0 113 ((h 0 113) + 1)) 0 7 ((h 0 7) + 1)) 6 ((h 0 17).toNat) 7) 7 ((h 0 17).toNat) 0) 8 ((h 0 17).toNat) 0) 9 ((h 0 17).toNat) 0) 0 17 ((h 0 17) + 1)) := g97
                  show mJ l D cA ad 4 cX12_operand 4 (some .boolean) 247 [(2, (0, (h 0 113))), (1, (0, (h 0 7))), (0, (2, ((0 : Nat) : Int)))] [(0, 1)] (ja_up (ja_up (ja_up (ja_up (ja_up (ja_up (ja_up (ja_up (ja_up (ja_up (ja_up h 0 19 0) 74 ((h 0 113).toNat) 3) 75 ((h 0 113).toNat) 0) 76 ((h 0 113).toNat) 0) 0 113 ((h 0 113) + 1)) 0 7 ((h 0 7) + 1)) 6 ((h 0 17).toNat) 7) 7 ((h 0 17).toNat) 0) 8 ((h 0 17).toNat) 0) 9 ((h 0 17).toNat) 0) 0 17 ((h 0 17) + 1)) Q
                  refine ja_if_eq 254 doperand_247 rfl ⟨by decide, by decide⟩ (fun c247 => absurd c247 (by omega)) (fun c247 => ?_)
                  refine ja_iconst doperand_250 ?_
                  refine ja_goto 255 doperand_251 rfl ?_
                  refine ja_zreturn doperand_255 rfl (by omega) ?_
                  exact mo_fin (by omega) rfl (k1 (ja_up (ja_up (ja_up (ja_up (ja_up (ja_up (ja_up (ja_up (ja_up (ja_up (ja_up h 0 19 0) 74 ((h 0 113).toNat) 3) 75 ((h 0 113).toNat) 0) 76 ((h 0 113).toNat) 0) 0 113 ((h 0 113) + 1)) 0 7 ((h 0 7) + 1)) 6 ((h 0 17).toNat) 7) 7 ((h 0 17).toNat) 0) 8 ((h 0 17).toNat) 0) 9 ((h 0 17).toNat) 0) 0 17 ((h 0 17) + 1)) ((by first | exact ab_od_self g p1 p2 (hr3 (by omega)) | (exfalso; omega))) g97)
                · intro h98 k232_1 g99
                  replace k232_1 : 0 < (h98 0 8) ∧ (h98 0 1) = (h 0 1) ∧ (h98 0 118) = (h 0 118) ∧ (h98 0 127) = (h 0 127) := k232_1
                  refine ja_if_eq 254 doperand_235 rfl ⟨by decide, by decide⟩ (fun c235 => ?_) (fun c235 => absurd c235 (by omega))
                  refine ja_iconst doperand_254 ?_
                  refine ja_zreturn doperand_255 rfl (by omega) ?_
                  exact mo_fin (by omega) rfl (k2 h98 (by omega) g99)
            · refine ja_aload_n doperand_193 rfl rfl ?_
              refine fg_body (v := h 0 74) rfl doperand_194 ?_
              have f100 := gF_body g
              refine ja_iconst doperand_197 ?_
              refine ja_icmp_eq 210 doperand_198 rfl ⟨by omega, by omega⟩ ⟨by decide, by decide⟩ (fun c198 => ?_) (fun c198 => ?_)
              · refine ja_aload_n doperand_210 rfl rfl ?_
                refine ja_aload_n doperand_211 rfl rfl ?_
                refine ja_bipush 36 doperand_212 rfl ?_
                refine t_isWord (by decide) (show (1 : Nat) ≤ 8 by decide) doperand_214 g87 ⟨by decide, by decide⟩ ?_
                intro w101 k214_0
                replace k214_0 : (w101 = 1 ∧ (h 2 (h 0 7).toNat) = 1 ∧ (h 5 (h 0 7).toNat) = 36) ∨ (w101 = 0 ∧ ¬ ((h 2 (h 0 7).toNat) = 1 ∧ (h 5 (h 0 7).toNat) = 36)) := k214_0
                refine ja_if_eq 224 doperand_217 rfl ⟨by omega, by omega⟩ (fun c217 => ?_) (fun c217 => ?_)
                · refine ja_iconst doperand_224 ?_
                  refine ja_iconst doperand_225 ?_
                  refine ja_iconst doperand_226 ?_
                  refine t_emit (by decide) (show (0 : Nat) ≤ 8 by decide) doperand_227 g87 ⟨by decide, by decide⟩ ⟨by decide, by decide⟩ ⟨by decide, by decide⟩ (show 0 ≤ 2 ∧ 2 ≤ 26 by omega) (show (h 0 113) < 5000 by omega) ?_
                  intro g102
                  replace g102 : mo_G (ja_up (ja_up (ja_up (ja_up (ja_up h 0 19 0) 74 ((h 0 113).toNat) 2) 75 ((h 0 113).toNat) 0) 76 ((h 0 113).toNat) 0) 0 113 ((h 0 113) + 1)) := g102
                  show mJ l D cA ad 4 cX12_operand 4 (some .boolean) 230 [(1, (0, (h 0 7))), (0, (2, ((0 : Nat) : Int)))] [(0, (h 0 113))] (ja_up (ja_up (ja_up (ja_up (ja_up h 0 19 0) 74 ((h 0 113).toNat) 2) 75 ((h 0 113).toNat) 0) 76 ((h 0 113).toNat) 0) 0 113 ((h 0 113) + 1)) Q
                  refine ja_istore_n doperand_230 rfl (by decide) (L2 := [(2, (0, (h 0 113))), (1, (0, (h 0 7))), (0, (2, ((0 : Nat) : Int)))]) rfl ?_
                  refine ja_aload_n doperand_231 rfl rfl ?_
                  refine t_take (by decide) (show (0 : Nat) ≤ 8 by decide) doperand_232 g102  ?_ ?_
                  · intro k232_0 g103
                    replace k232_0 : (h 0 7) < 900 := k232_0
                    replace g103 : mo_G (ja_up (ja_up (ja_up (ja_up (ja_up (ja_up h 0 19 0) 74 ((h 0 113).toNat) 2) 75 ((h 0 113).toNat) 0) 76 ((h 0 113).toNat) 0) 0 113 ((h 0 113) + 1)) 0 7 ((h 0 7) + 1)) := g103
                    show mJ l D cA ad 4 cX12_operand 4 (some .boolean) 235 [(2, (0, (h 0 113))), (1, (0, (h 0 7))), (0, (2, ((0 : Nat) : Int)))] [(0, 1)] (ja_up (ja_up (ja_up (ja_up (ja_up (ja_up h 0 19 0) 74 ((h 0 113).toNat) 2) 75 ((h 0 113).toNat) 0) 76 ((h 0 113).toNat) 0) 0 113 ((h 0 113) + 1)) 0 7 ((h 0 7) + 1)) Q
                    refine ja_if_eq 254 doperand_235 rfl ⟨by decide, by decide⟩ (fun c235 => absurd c235 (by omega)) (fun c235 => ?_)
                    refine ja_aload_n doperand_238 rfl rfl ?_
                    refine ja_bipush 7 doperand_239 rfl ?_
                    refine ja_iconst doperand_241 ?_
                    refine ja_iconst doperand_242 ?_
                    refine ja_iconst doperand_243 ?_
                    refine t_later (by decide) (show (0 : Nat) ≤ 8 by decide) doperand_244 g103 ⟨by decide, by decide⟩ ⟨by decide, by decide⟩ ⟨by decide, by decide⟩ ⟨by decide, by decide⟩ (show 0 ≤ 7 ∧ 7 ≤ 38 by omega) (show (h 0 17) < 2000 by omega) ?_
                    intro g104
                    replace g104 : mo_G (ja_up (ja_up (ja_up (ja_up (ja_up (ja_up (ja_up (ja_up (ja_up (ja_up (ja_up h 0 19 0) 74 ((h 0 113).toNat) 2) 75 ((h 0 113).toNat) 0) 76 ((h 0 113).toNat) 0) 0 113 ((h 0 113) + 1)) 0 7 ((h 0 7) + 1)) 6 ((h 0 17).toNat) 7) 7 ((h 0 17).toNat) 0) 8 ((h 0 17).toNat) 0) 9 ((h 0 17).toNat) 0) 0 17 ((h 0 17) + 1)) := g104
                    show mJ l D cA ad 4 cX12_operand 4 (some .boolean) 247 [(2, (0, (h 0 113))), (1, (0, (h 0 7))), (0, (2, ((0 : Nat) : Int)))] [(0, 1)] (ja_up (ja_up (ja_up (ja_up (ja_up (ja_up (ja_up (ja_up (ja_up (ja_up (ja_up h 0 19 0) 74 ((h 0 113).toNat) 2) 75 ((h 0 113).toNat) 0) 76 ((h 0 113).toNat) 0) 0 113 ((h 0 113) + 1)) 0 7 ((h 0 7) + 1)) 6 ((h 0 17).toNat) 7) 7 ((h 0 17).toNat) 0) 8 ((h 0 17).toNat) 0) 9 ((h 0 17).toNat) 0) 0 17 ((h 0 17) + 1)) Q
                    refine ja_if_eq 254 doperand_247 rfl ⟨by decide, by decide⟩ (fun c247 => absurd c247 (by omega)) (fun c247 => ?_)
                    refine ja_iconst doperand_250 ?_
                    refine ja_goto 255 doperand_251 rfl ?_
                    refine ja_zreturn doperand_255 rfl (by omega) ?_
                    exact mo_fin (by omega) rfl (k1 (ja_up (ja_up (ja_up (ja_up (ja_up (ja_up (ja_up (ja_up (ja_up (ja_up (ja_up h 0 19 0) 74 ((h 0 113).toNat) 2) 75 ((h 0 113).toNat) 0) 76 ((h 0 113).toNat) 0) 0 113 ((h 0 113) + 1)) 0 7 ((h 0 7) + 1)) 6 ((h 0 17).toNat) 7) 7 ((h 0 17).toNat) 0) 8 ((h 0 17).toNat) 0) 9 ((h 0 17).toNat) 0) 0 17 ((h 0 17) + 1)) ((by first | exact ab_od_none g p1 p2 | (exfalso; omega))) g104)
                  · intro h105 k232_1 g106
                    replace k232_1 : 0 < (h105 0 8) ∧ (h105 0 1) = (h 0 1) ∧ (h105 0 118) = (h 0 118) ∧ (h105 0 127) = (h 0 127) := k232_1
                    refine ja_if_eq 254 doperand_235 rfl ⟨by decide, by decide⟩ (fun c235 => ?_) (fun c235 => absurd c235 (by omega))
                    refine ja_iconst doperand_254 ?_
                    refine ja_zreturn doperand_255 rfl (by omega) ?_
                    exact mo_fin (by omega) rfl (k2 h105 (by omega) g106)
                · refine ja_iconst doperand_220 ?_
                  refine ja_goto 225 doperand_221 rfl ?_
                  refine ja_iconst doperand_225 ?_
                  refine ja_iconst doperand_226 ?_
                  refine t_emit (by decide) (show (0 : Nat) ≤ 8 by decide) doperand_227 g87 ⟨by decide, by decide⟩ ⟨by decide, by decide⟩ ⟨by decide, by decide⟩ (show 0 ≤ 3 ∧ 3 ≤ 26 by omega) (show (h 0 113) < 5000 by omega) ?_
                  intro g107
                  replace g107 : mo_G (ja_up (ja_up (ja_up (ja_up (ja_up h 0 19 0) 74 ((h 0 113).toNat) 3) 75 ((h 0 113).toNat) 0) 76 ((h 0 113).toNat) 0) 0 113 ((h 0 113) + 1)) := g107
                  show mJ l D cA ad 4 cX12_operand 4 (some .boolean) 230 [(1, (0, (h 0 7))), (0, (2, ((0 : Nat) : Int)))] [(0, (h 0 113))] (ja_up (ja_up (ja_up (ja_up (ja_up h 0 19 0) 74 ((h 0 113).toNat) 3) 75 ((h 0 113).toNat) 0) 76 ((h 0 113).toNat) 0) 0 113 ((h 0 113) + 1)) Q
                  refine ja_istore_n doperand_230 rfl (by decide) (L2 := [(2, (0, (h 0 113))), (1, (0, (h 0 7))), (0, (2, ((0 : Nat) : Int)))]) rfl ?_
                  refine ja_aload_n doperand_231 rfl rfl ?_
                  refine t_take (by decide) (show (0 : Nat) ≤ 8 by decide) doperand_232 g107  ?_ ?_
                  · intro k232_0 g108
                    replace k232_0 : (h 0 7) < 900 := k232_0
                    replace g108 : mo_G (ja_up (ja_up (ja_up (ja_up (ja_up (ja_up h 0 19 0) 74 ((h 0 113).toNat) 3) 75 ((h 0 113).toNat) 0) 76 ((h 0 113).toNat) 0) 0 113 ((h 0 113) + 1)) 0 7 ((h 0 7) + 1)) := g108
                    show mJ l D cA ad 4 cX12_operand 4 (some .boolean) 235 [(2, (0, (h 0 113))), (1, (0, (h 0 7))), (0, (2, ((0 : Nat) : Int)))] [(0, 1)] (ja_up (ja_up (ja_up (ja_up (ja_up (ja_up h 0 19 0) 74 ((h 0 113).toNat) 3) 75 ((h 0 113).toNat) 0) 76 ((h 0 113).toNat) 0) 0 113 ((h 0 113) + 1)) 0 7 ((h 0 7) + 1)) Q
                    refine ja_if_eq 254 doperand_235 rfl ⟨by decide, by decide⟩ (fun c235 => absurd c235 (by omega)) (fun c235 => ?_)
                    refine ja_aload_n doperand_238 rfl rfl ?_
                    refine ja_bipush 7 doperand_239 rfl ?_
                    refine ja_iconst doperand_241 ?_
                    refine ja_iconst doperand_242 ?_
                    refine ja_iconst doperand_243 ?_
                    refine t_later (by decide) (show (0 : Nat) ≤ 8 by decide) doperand_244 g108 ⟨by decide, by decide⟩ ⟨by decide, by decide⟩ ⟨by decide, by decide⟩ ⟨by decide, by decide⟩ (show 0 ≤ 7 ∧ 7 ≤ 38 by omega) (show (h 0 17) < 2000 by omega) ?_
                    intro g109
                    replace g109 : mo_G (ja_up (ja_up (ja_up (ja_up (ja_up (ja_up (ja_up (ja_up (ja_up (ja_up (ja_up h 0 19 0) 74 ((h 0 113).toNat) 3) 75 ((h 0 113).toNat) 0) 76 ((h 0 113).toNat) 0) 0 113 ((h 0 113) + 1)) 0 7 ((h 0 7) + 1)) 6 ((h 0 17).toNat) 7) 7 ((h 0 17).toNat) 0) 8 ((h 0 17).toNat) 0) 9 ((h 0 17).toNat) 0) 0 17 ((h 0 17) + 1)) := g109
                    show mJ l D cA ad 4 cX12_operand 4 (some .boolean) 247 [(2, (0, (h 0 113))), (1, (0, (h 0 7))), (0, (2, ((0 : Nat) : Int)))] [(0, 1)] (ja_up (ja_up (ja_up (ja_up (ja_up (ja_up (ja_up (ja_up (ja_up (ja_up (ja_up h 0 19 0) 74 ((h 0 113).toNat) 3) 75 ((h 0 113).toNat) 0) 76 ((h 0 113).toNat) 0) 0 113 ((h 0 113) + 1)) 0 7 ((h 0 7) + 1)) 6 ((h 0 17).toNat) 7) 7 ((h 0 17).toNat) 0) 8 ((h 0 17).toNat) 0) 9 ((h 0 17).toNat) 0) 0 17 ((h 0 17) + 1)) Q
                    refine ja_if_eq 254 doperand_247 rfl ⟨by decide, by decide⟩ (fun c247 => absurd c247 (by omega)) (fun c247 => ?_)
                    refine ja_iconst doperand_250 ?_
                    refine ja_goto 255 doperand_251 rfl ?_
                    refine ja_zreturn doperand_255 rfl (by omega) ?_
                    exact mo_fin (by omega) rfl (k1 (ja_up (ja_up (ja_up (ja_up (ja_up (ja_up (ja_up (ja_up (ja_up (ja_up (ja_up h 0 19 0) 74 ((h 0 113).toNat) 3) 75 ((h 0 113).toNat) 0) 76 ((h 0 113).toNat) 0) 0 113 ((h 0 113) + 1)) 0 7 ((h 0 7) + 1)) 6 ((h 0 17).toNat) 7) 7 ((h 0 17).toNat) 0) 8 ((h 0 17).toNat) 0) 9 ((h 0 17).toNat) 0) 0 17 ((h 0 17) + 1)) ((by first | exact ab_od_self g p1 p2 (hr3 (by omega)) | (exfalso; omega))) g109)
                  · intro h110 k232_1 g111
                    replace k232_1 : 0 < (h110 0 8) ∧ (h110 0 1) = (h 0 1) ∧ (h110 0 118) = (h 0 118) ∧ (h110 0 127) = (h 0 127) := k232_1
                    refine ja_if_eq 254 doperand_235 rfl ⟨by decide, by decide⟩ (fun c235 => ?_) (fun c235 => absurd c235 (by omega))
                    refine ja_iconst doperand_254 ?_
                    refine ja_zreturn doperand_255 rfl (by omega) ?_
                    exact mo_fin (by omega) rfl (k2 h110 (by omega) g111)
              · refine ja_aload_n doperand_201 rfl rfl ?_
                refine ja_iconst doperand_202 ?_
                refine ja_aload_n doperand_203 rfl rfl ?_
                refine fg_at (v := h 0 7) rfl doperand_204 ?_
                refine t_judge (by decide) (show (0 : Nat) ≤ 8 by decide) doperand_207 g87 ⟨by decide, by decide⟩ ⟨by omega, by omega⟩ (show 1 ≤ 5 ∧ 5 ≤ 8 by omega) (show 0 ≤ (h 0 7) ∧ (h 0 7) ≤ 900 by omega) ?_
                intro w112 w113 k207_0 g114
                replace k207_0 : 1 ≤ w112 ∧ w112 ≤ 8 ∧ -2147483648 ≤ w113 ∧ w113 ≤ 2147483647 := k207_0
                replace g114 : mo_G (ja_up (ja_up (ja_up h 0 19 0) 0 11 w112) 0 12 w113) := g114
                show mJ l D cA ad 4 cX12_operand 4 (some .boolean) 210 [(1, (0, (h 0 7))), (0, (2, ((0 : Nat) : Int)))] [] (ja_up (ja_up (ja_up h 0 19 0) 0 11 w112) 0 12 w113) Q
                refine ja_aload_n doperand_210 rfl rfl ?_
                refine ja_aload_n doperand_211 rfl rfl ?_
                refine ja_bipush 36 doperand_212 rfl ?_
                refine t_isWord (by decide) (show (1 : Nat) ≤ 8 by decide) doperand_214 g114 ⟨by decide, by decide⟩ ?_
                intro w115 k214_0
                replace k214_0 : (w115 = 1 ∧ (h 2 (h 0 7).toNat) = 1 ∧ (h 5 (h 0 7).toNat) = 36) ∨ (w115 = 0 ∧ ¬ ((h 2 (h 0 7).toNat) = 1 ∧ (h 5 (h 0 7).toNat) = 36)) := k214_0
                refine ja_if_eq 224 doperand_217 rfl ⟨by omega, by omega⟩ (fun c217 => ?_) (fun c217 => ?_)
                · refine ja_iconst doperand_224 ?_
                  refine ja_iconst doperand_225 ?_
                  refine ja_iconst doperand_226 ?_
                  refine t_emit (by decide) (show (0 : Nat) ≤ 8 by decide) doperand_227 g114 ⟨by decide, by decide⟩ ⟨by decide, by decide⟩ ⟨by decide, by decide⟩ (show 0 ≤ 2 ∧ 2 ≤ 26 by omega) (show (h 0 113) < 5000 by omega) ?_
                  intro g116
                  replace g116 : mo_G (ja_up (ja_up (ja_up (ja_up (ja_up (ja_up (ja_up h 0 19 0) 0 11 w112) 0 12 w113) 74 ((h 0 113).toNat) 2) 75 ((h 0 113).toNat) 0) 76 ((h 0 113).toNat) 0) 0 113 ((h 0 113) + 1)) := g116
                  show mJ l D cA ad 4 cX12_operand 4 (some .boolean) 230 [(1, (0, (h 0 7))), (0, (2, ((0 : Nat) : Int)))] [(0, (h 0 113))] (ja_up (ja_up (ja_up (ja_up (ja_up (ja_up (ja_up h 0 19 0) 0 11 w112) 0 12 w113) 74 ((h 0 113).toNat) 2) 75 ((h 0 113).toNat) 0) 76 ((h 0 113).toNat) 0) 0 113 ((h 0 113) + 1)) Q
                  refine ja_istore_n doperand_230 rfl (by decide) (L2 := [(2, (0, (h 0 113))), (1, (0, (h 0 7))), (0, (2, ((0 : Nat) : Int)))]) rfl ?_
                  refine ja_aload_n doperand_231 rfl rfl ?_
                  refine t_take (by decide) (show (0 : Nat) ≤ 8 by decide) doperand_232 g116  ?_ ?_
                  · intro k232_0 g117
                    replace k232_0 : (h 0 7) < 900 := k232_0
                    replace g117 : mo_G (ja_up (ja_up (ja_up (ja_up (ja_up (ja_up (ja_up (ja_up h 0 19 0) 0 11 w112) 0 12 w113) 74 ((h 0 113).toNat) 2) 75 ((h 0 113).toNat) 0) 76 ((h 0 113).toNat) 0) 0 113 ((h 0 113) + 1)) 0 7 ((h 0 7) + 1)) := g117
                    show mJ l D cA ad 4 cX12_operand 4 (some .boolean) 235 [(2, (0, (h 0 113))), (1, (0, (h 0 7))), (0, (2, ((0 : Nat) : Int)))] [(0, 1)] (ja_up (ja_up (ja_up (ja_up (ja_up (ja_up (ja_up (ja_up h 0 19 0) 0 11 w112) 0 12 w113) 74 ((h 0 113).toNat) 2) 75 ((h 0 113).toNat) 0) 76 ((h 0 113).toNat) 0) 0 113 ((h 0 113) + 1)) 0 7 ((h 0 7) + 1)) Q
                    refine ja_if_eq 254 doperand_235 rfl ⟨by decide, by decide⟩ (fun c235 => absurd c235 (by omega)) (fun c235 => ?_)
                    refine ja_aload_n doperand_238 rfl rfl ?_
                    refine ja_bipush 7 doperand_239 rfl ?_
                    refine ja_iconst doperand_241 ?_
                    refine ja_iconst doperand_242 ?_
                    refine ja_iconst doperand_243 ?_
                    refine t_later (by decide) (show (0 : Nat) ≤ 8 by decide) doperand_244 g117 ⟨by decide, by decide⟩ ⟨by decide, by decide⟩ ⟨by decide, by decide⟩ ⟨by decide, by decide⟩ (show 0 ≤ 7 ∧ 7 ≤ 38 by omega) (show (h 0 17) < 2000 by omega) ?_
                    intro g118
                    replace g118 : mo_G (ja_up (ja_up (ja_up (ja_up (ja_up (ja_up (ja_up (ja_up (ja_up (ja_up (ja_up (ja_up (ja_up h 0 19 0) 0 11 w112) 0 12 w113) 74 ((h 0 113).toNat) 2) 75 ((h 0 113).toNat) 0) 76 ((h 0 113).toNat) 0) 0 113 ((h 0 113) + 1)) 0 7 ((h 0 7) + 1)) 6 ((h 0 17).toNat) 7) 7 ((h 0 17).toNat) 0) 8 ((h 0 17).toNat) 0) 9 ((h 0 17).toNat) 0) 0 17 ((h 0 17) + 1)) := g118
                    show mJ l D cA ad 4 cX12_operand 4 (some .boolean) 247 [(2, (0, (h 0 113))), (1, (0, (h 0 7))), (0, (2, ((0 : Nat) : Int)))] [(0, 1)] (ja_up (ja_up (ja_up (ja_up (ja_up (ja_up (ja_up (ja_up (ja_up (ja_up (ja_up (ja_up (ja_up h 0 19 0) 0 11 w112) 0 12 w113) 74 ((h 0 113).toNat) 2) 75 ((h 0 113).toNat) 0) 76 ((h 0 113).toNat) 0) 0 113 ((h 0 113) + 1)) 0 7 ((h 0 7) + 1)) 6 ((h 0 17).toNat) 7) 7 ((h 0 17).toNat) 0) 8 ((h 0 17).toNat) 0) 9 ((h 0 17).toNat) 0) 0 17 ((h 0 17) + 1)) Q
                    refine ja_if_eq 254 doperand_247 rfl ⟨by decide, by decide⟩ (fun c247 => absurd c247 (by omega)) (fun c247 => ?_)
                    refine ja_iconst doperand_250 ?_
                    refine ja_goto 255 doperand_251 rfl ?_
                    refine ja_zreturn doperand_255 rfl (by omega) ?_
                    exact mo_fin (by omega) rfl (k1 (ja_up (ja_up (ja_up (ja_up (ja_up (ja_up (ja_up (ja_up (ja_up (ja_up (ja_up (ja_up (ja_up h 0 19 0) 0 11 w112) 0 12 w113) 74 ((h 0 113).toNat) 2) 75 ((h 0 113).toNat) 0) 76 ((h 0 113).toNat) 0) 0 113 ((h 0 113) + 1)) 0 7 ((h 0 7) + 1)) 6 ((h 0 17).toNat) 7) 7 ((h 0 17).toNat) 0) 8 ((h 0 17).toNat) 0) 9 ((h 0 17).toNat) 0) 0 17 ((h 0 17) + 1)) ((by first | exact ab_selfj g p1 p2 (hr3 (by omega)) (by omega) | (exfalso; omega))) g118)
                  · intro h119 k232_1 g120
                    replace k232_1 : 0 < (h119 0 8) ∧ (h119 0 1) = (h 0 1) ∧ (h119 0 118) = (h 0 118) ∧ (h119 0 127) = (h 0 127) := k232_1
                    refine ja_if_eq 254 doperand_235 rfl ⟨by decide, by decide⟩ (fun c235 => ?_) (fun c235 => absurd c235 (by omega))
                    refine ja_iconst doperand_254 ?_
                    refine ja_zreturn doperand_255 rfl (by omega) ?_
                    exact mo_fin (by omega) rfl (k2 h119 (by omega) g120)
                · refine ja_iconst doperand_220 ?_
                  refine ja_goto 225 doperand_221 rfl ?_
                  refine ja_iconst doperand_225 ?_
                  refine ja_iconst doperand_226 ?_
                  refine t_emit (by decide) (show (0 : Nat) ≤ 8 by decide) doperand_227 g114 ⟨by decide, by decide⟩ ⟨by decide, by decide⟩ ⟨by decide, by decide⟩ (show 0 ≤ 3 ∧ 3 ≤ 26 by omega) (show (h 0 113) < 5000 by omega) ?_
                  intro g121
                  replace g121 : mo_G (ja_up (ja_up (ja_up (ja_up (ja_up (ja_up (ja_up h 0 19 0) 0 11 w112) 0 12 w113) 74 ((h 0 113).toNat) 3) 75 ((h 0 113).toNat) 0) 76 ((h 0 113).toNat) 0) 0 113 ((h 0 113) + 1)) := g121
                  show mJ l D cA ad 4 cX12_operand 4 (some .boolean) 230 [(1, (0, (h 0 7))), (0, (2, ((0 : Nat) : Int)))] [(0, (h 0 113))] (ja_up (ja_up (ja_up (ja_up (ja_up (ja_up (ja_up h 0 19 0) 0 11 w112) 0 12 w113) 74 ((h 0 113).toNat) 3) 75 ((h 0 113).toNat) 0) 76 ((h 0 113).toNat) 0) 0 113 ((h 0 113) + 1)) Q
                  refine ja_istore_n doperand_230 rfl (by decide) (L2 := [(2, (0, (h 0 113))), (1, (0, (h 0 7))), (0, (2, ((0 : Nat) : Int)))]) rfl ?_
                  refine ja_aload_n doperand_231 rfl rfl ?_
                  refine t_take (by decide) (show (0 : Nat) ≤ 8 by decide) doperand_232 g121  ?_ ?_
                  · intro k232_0 g122
                    replace k232_0 : (h 0 7) < 900 := k232_0
                    replace g122 : mo_G (ja_up (ja_up (ja_up (ja_up (ja_up (ja_up (ja_up (ja_up h 0 19 0) 0 11 w112) 0 12 w113) 74 ((h 0 113).toNat) 3) 75 ((h 0 113).toNat) 0) 76 ((h 0 113).toNat) 0) 0 113 ((h 0 113) + 1)) 0 7 ((h 0 7) + 1)) := g122
                    show mJ l D cA ad 4 cX12_operand 4 (some .boolean) 235 [(2, (0, (h 0 113))), (1, (0, (h 0 7))), (0, (2, ((0 : Nat) : Int)))] [(0, 1)] (ja_up (ja_up (ja_up (ja_up (ja_up (ja_up (ja_up (ja_up h 0 19 0) 0 11 w112) 0 12 w113) 74 ((h 0 113).toNat) 3) 75 ((h 0 113).toNat) 0) 76 ((h 0 113).toNat) 0) 0 113 ((h 0 113) + 1)) 0 7 ((h 0 7) + 1)) Q
                    refine ja_if_eq 254 doperand_235 rfl ⟨by decide, by decide⟩ (fun c235 => absurd c235 (by omega)) (fun c235 => ?_)
                    refine ja_aload_n doperand_238 rfl rfl ?_
                    refine ja_bipush 7 doperand_239 rfl ?_
                    refine ja_iconst doperand_241 ?_
                    refine ja_iconst doperand_242 ?_
                    refine ja_iconst doperand_243 ?_
                    refine t_later (by decide) (show (0 : Nat) ≤ 8 by decide) doperand_244 g122 ⟨by decide, by decide⟩ ⟨by decide, by decide⟩ ⟨by decide, by decide⟩ ⟨by decide, by decide⟩ (show 0 ≤ 7 ∧ 7 ≤ 38 by omega) (show (h 0 17) < 2000 by omega) ?_
                    intro g123
                    replace g123 : mo_G (ja_up (ja_up (ja_up (ja_up (ja_up (ja_up (ja_up (ja_up (ja_up (ja_up (ja_up (ja_up (ja_up h 0 19 0) 0 11 w112) 0 12 w113) 74 ((h 0 113).toNat) 3) 75 ((h 0 113).toNat) 0) 76 ((h 0 113).toNat) 0) 0 113 ((h 0 113) + 1)) 0 7 ((h 0 7) + 1)) 6 ((h 0 17).toNat) 7) 7 ((h 0 17).toNat) 0) 8 ((h 0 17).toNat) 0) 9 ((h 0 17).toNat) 0) 0 17 ((h 0 17) + 1)) := g123
                    show mJ l D cA ad 4 cX12_operand 4 (some .boolean) 247 [(2, (0, (h 0 113))), (1, (0, (h 0 7))), (0, (2, ((0 : Nat) : Int)))] [(0, 1)] (ja_up (ja_up (ja_up (ja_up (ja_up (ja_up (ja_up (ja_up (ja_up (ja_up (ja_up (ja_up (ja_up h 0 19 0) 0 11 w112) 0 12 w113) 74 ((h 0 113).toNat) 3) 75 ((h 0 113).toNat) 0) 76 ((h 0 113).toNat) 0) 0 113 ((h 0 113) + 1)) 0 7 ((h 0 7) + 1)) 6 ((h 0 17).toNat) 7) 7 ((h 0 17).toNat) 0) 8 ((h 0 17).toNat) 0) 9 ((h 0 17).toNat) 0) 0 17 ((h 0 17) + 1)) Q
                    refine ja_if_eq 254 doperand_247 rfl ⟨by decide, by decide⟩ (fun c247 => absurd c247 (by omega)) (fun c247 => ?_)
                    refine ja_iconst doperand_250 ?_
                    refine ja_goto 255 doperand_251 rfl ?_
                    refine ja_zreturn doperand_255 rfl (by omega) ?_
                    exact mo_fin (by omega) rfl (k1 (ja_up (ja_up (ja_up (ja_up (ja_up (ja_up (ja_up (ja_up (ja_up (ja_up (ja_up (ja_up (ja_up h 0 19 0) 0 11 w112) 0 12 w113) 74 ((h 0 113).toNat) 3) 75 ((h 0 113).toNat) 0) 76 ((h 0 113).toNat) 0) 0 113 ((h 0 113) + 1)) 0 7 ((h 0 7) + 1)) 6 ((h 0 17).toNat) 7) 7 ((h 0 17).toNat) 0) 8 ((h 0 17).toNat) 0) 9 ((h 0 17).toNat) 0) 0 17 ((h 0 17) + 1)) ((by first | exact ab_selfj g p1 p2 (hr3 (by omega)) (by omega) | (exfalso; omega))) g123)
                  · intro h124 k232_1 g125
                    replace k232_1 : 0 < (h124 0 8) ∧ (h124 0 1) = (h 0 1) ∧ (h124 0 118) = (h 0 118) ∧ (h124 0 127) = (h 0 127) := k232_1
                    refine ja_if_eq 254 doperand_235 rfl ⟨by decide, by decide⟩ (fun c235 => ?_) (fun c235 => absurd c235 (by omega))
                    refine ja_iconst doperand_254 ?_
                    refine ja_zreturn doperand_255 rfl (by omega) ?_
                    exact mo_fin (by omega) rfl (k2 h124 (by omega) g125)
      · refine ja_aload_n doperand_113 rfl rfl ?_
        refine t_take (by decide) (show (0 : Nat) ≤ 8 by decide) doperand_114 g  ?_ ?_
        · intro k114_0 g126
          replace k114_0 : (h 0 7) < 900 := k114_0
          replace g126 : mo_G (ja_up h 0 7 ((h 0 7) + 1)) := g126
          show mJ l D cA ad 4 cX12_operand 4 (some .boolean) 117 [(1, (0, (h 0 7))), (0, (2, ((0 : Nat) : Int)))] [(0, 1)] (ja_up h 0 7 ((h 0 7) + 1)) Q
          refine ja_if_eq 159 doperand_117 rfl ⟨by decide, by decide⟩ (fun c117 => absurd c117 (by omega)) (fun c117 => ?_)
          refine ja_aload_n doperand_120 rfl rfl ?_
          refine ja_bipush 7 doperand_121 rfl ?_
          refine ja_iconst doperand_123 ?_
          refine ja_iconst doperand_124 ?_
          refine ja_iconst doperand_125 ?_
          refine t_later (by decide) (show (0 : Nat) ≤ 8 by decide) doperand_126 g126 ⟨by decide, by decide⟩ ⟨by decide, by decide⟩ ⟨by decide, by decide⟩ ⟨by decide, by decide⟩ (show 0 ≤ 7 ∧ 7 ≤ 38 by omega) (show (h 0 17) < 2000 by omega) ?_
          intro g127
          replace g127 : mo_G (ja_up (ja_up (ja_up (ja_up (ja_up (ja_up h 0 7 ((h 0 7) + 1)) 6 ((h 0 17).toNat) 7) 7 ((h 0 17).toNat) 0) 8 ((h 0 17).toNat) 0) 9 ((h 0 17).toNat) 0) 0 17 ((h 0 17) + 1)) := g127
          show mJ l D cA ad 4 cX12_operand 4 (some .boolean) 129 [(1, (0, (h 0 7))), (0, (2, ((0 : Nat) : Int)))] [(0, 1)] (ja_up (ja_up (ja_up (ja_up (ja_up (ja_up h 0 7 ((h 0 7) + 1)) 6 ((h 0 17).toNat) 7) 7 ((h 0 17).toNat) 0) 8 ((h 0 17).toNat) 0) 9 ((h 0 17).toNat) 0) 0 17 ((h 0 17) + 1)) Q
          refine ja_if_eq 159 doperand_129 rfl ⟨by decide, by decide⟩ (fun c129 => absurd c129 (by omega)) (fun c129 => ?_)
          refine ja_aload_n doperand_132 rfl rfl ?_
          refine ja_bipush 38 doperand_133 rfl ?_
          refine ja_iconst doperand_135 ?_
          refine ja_iconst doperand_136 ?_
          refine ja_iconst doperand_137 ?_
          refine t_later (by decide) (show (0 : Nat) ≤ 8 by decide) doperand_138 g127 ⟨by decide, by decide⟩ ⟨by decide, by decide⟩ ⟨by decide, by decide⟩ ⟨by decide, by decide⟩ (show 0 ≤ 38 ∧ 38 ≤ 38 by omega) (show ((h 0 17) + 1) < 2000 by omega) ?_
          intro g128
          replace g128 : mo_G (ja_up (ja_up (ja_up (ja_up (ja_up (ja_up (ja_up (ja_up (ja_up (ja_up (ja_up h 0 7 ((h 0 7) + 1)) 6 ((h 0 17).toNat) 7) 7 ((h 0 17).toNat) 0) 8 ((h 0 17).toNat) 0) 9 ((h 0 17).toNat) 0) 0 17 ((h 0 17) + 1)) 6 (((h 0 17) + 1).toNat) 38) 7 (((h 0 17) + 1).toNat) 0) 8 (((h 0 17) + 1).toNat) 0) 9 (((h 0 17) + 1).toNat) 0) 0 17 (((h 0 17) + 1) + 1)) := g128
          show mJ l D cA ad 4 cX12_operand 4 (some .boolean) 141 [(1, (0, (h 0 7))), (0, (2, ((0 : Nat) : Int)))] [(0, 1)] (ja_up (ja_up (ja_up (ja_up (ja_up (ja_up (ja_up (ja_up (ja_up (ja_up (ja_up h 0 7 ((h 0 7) + 1)) 6 ((h 0 17).toNat) 7) 7 ((h 0 17).toNat) 0) 8 ((h 0 17).toNat) 0) 9 ((h 0 17).toNat) 0) 0 17 ((h 0 17) + 1)) 6 (((h 0 17) + 1).toNat) 38) 7 (((h 0 17) + 1).toNat) 0) 8 (((h 0 17) + 1).toNat) 0) 9 (((h 0 17) + 1).toNat) 0) 0 17 (((h 0 17) + 1) + 1)) Q
          refine ja_if_eq 159 doperand_141 rfl ⟨by decide, by decide⟩ (fun c141 => absurd c141 (by omega)) (fun c141 => ?_)
          refine ja_aload_n doperand_144 rfl rfl ?_
          refine ja_iconst doperand_145 ?_
          refine ja_iconst doperand_146 ?_
          refine ja_iconst doperand_147 ?_
          refine ja_iconst doperand_148 ?_
          refine t_later (by decide) (show (0 : Nat) ≤ 8 by decide) doperand_149 g128 ⟨by decide, by decide⟩ ⟨by decide, by decide⟩ ⟨by decide, by decide⟩ ⟨by decide, by decide⟩ (show 0 ≤ 1 ∧ 1 ≤ 38 by omega) (show (((h 0 17) + 1) + 1) < 2000 by omega) ?_
          intro g129
          replace g129 : mo_G (ja_up (ja_up (ja_up (ja_up (ja_up (ja_up (ja_up (ja_up (ja_up (ja_up (ja_up (ja_up (ja_up (ja_up (ja_up (ja_up h 0 7 ((h 0 7) + 1)) 6 ((h 0 17).toNat) 7) 7 ((h 0 17).toNat) 0) 8 ((h 0 17).toNat) 0) 9 ((h 0 17).toNat) 0) 0 17 ((h 0 17) + 1)) 6 (((h 0 17) + 1).toNat) 38) 7 (((h 0 17) + 1).toNat) 0) 8 (((h 0 17) + 1).toNat) 0) 9 (((h 0 17) + 1).toNat) 0) 0 17 (((h 0 17) + 1) + 1)) 6 ((((h 0 17) + 1) + 1).toNat) 1) 7 ((((h 0 17) + 1) + 1).toNat) 0) 8 ((((h 0 17) + 1) + 1).toNat) 0) 9 ((((h 0 17) + 1) + 1).toNat) 0) 0 17 ((((h 0 17) + 1) + 1) + 1)) := g129
          show mJ l D cA ad 4 cX12_operand 4 (some .boolean) 152 [(1, (0, (h 0 7))), (0, (2, ((0 : Nat) : Int)))] [(0, 1)] (ja_up (ja_up (ja_up (ja_up (ja_up (ja_up (ja_up (ja_up (ja_up (ja_up (ja_up (ja_up (ja_up (ja_up (ja_up (ja_up h 0 7 ((h 0 7) + 1)) 6 ((h 0 17).toNat) 7) 7 ((h 0 17).toNat) 0) 8 ((h 0 17).toNat) 0) 9 ((h 0 17).toNat) 0) 0 17 ((h 0 17) + 1)) 6 (((h 0 17) + 1).toNat) 38) 7 (((h 0 17) + 1).toNat) 0) 8 (((h 0 17) + 1).toNat) 0) 9 (((h 0 17) + 1).toNat) 0) 0 17 (((h 0 17) + 1) + 1)) 6 ((((h 0 17) + 1) + 1).toNat) 1) 7 ((((h 0 17) + 1) + 1).toNat) 0) 8 ((((h 0 17) + 1) + 1).toNat) 0) 9 ((((h 0 17) + 1) + 1).toNat) 0) 0 17 ((((h 0 17) + 1) + 1) + 1)) Q
          refine ja_if_eq 159 doperand_152 rfl ⟨by decide, by decide⟩ (fun c152 => absurd c152 (by omega)) (fun c152 => ?_)
          refine ja_iconst doperand_155 ?_
          refine ja_goto 160 doperand_156 rfl ?_
          refine ja_zreturn doperand_160 rfl (by omega) ?_
          exact mo_fin (by omega) rfl (k1 (ja_up (ja_up (ja_up (ja_up (ja_up (ja_up (ja_up (ja_up (ja_up (ja_up (ja_up (ja_up (ja_up (ja_up (ja_up (ja_up h 0 7 ((h 0 7) + 1)) 6 ((h 0 17).toNat) 7) 7 ((h 0 17).toNat) 0) 8 ((h 0 17).toNat) 0) 9 ((h 0 17).toNat) 0) 0 17 ((h 0 17) + 1)) 6 (((h 0 17) + 1).toNat) 38) 7 (((h 0 17) + 1).toNat) 0) 8 (((h 0 17) + 1).toNat) 0) 9 (((h 0 17) + 1).toNat) 0) 0 17 (((h 0 17) + 1) + 1)) 6 ((((h 0 17) + 1) + 1).toNat) 1) 7 ((((h 0 17) + 1) + 1).toNat) 0) 8 ((((h 0 17) + 1) + 1).toNat) 0) 9 ((((h 0 17) + 1) + 1).toNat) 0) 0 17 ((((h 0 17) + 1) + 1) + 1)) (ab_od_br g p1 p2) g129)
        · intro h130 k114_1 g131
          refine ja_if_eq 159 doperand_117 rfl ⟨by decide, by decide⟩ (fun c117 => ?_) (fun c117 => absurd c117 (by omega))
          refine ja_iconst doperand_159 ?_
          refine ja_zreturn doperand_160 rfl (by omega) ?_
          exact mo_fin (by omega) rfl (k2 h130 (by omega) g131)
    · refine ja_aload_n doperand_71 rfl rfl ?_
      refine ja_aload_n doperand_72 rfl rfl ?_
      refine fg_at (v := h 0 7) rfl doperand_73 ?_
      refine t_load (by decide) (show (0 : Nat) ≤ 8 by decide) doperand_76 g ⟨by omega, by omega⟩ (show 0 ≤ (h 0 7) ∧ (h 0 7) ≤ 900 by omega) (show (h 0 113) < 5000 by omega) (show (h 0 68) < 900 by omega) ?_ ?_ ?_
      · intro w132 k76_0 g133
        replace k76_0 : 0 ≤ w132 ∧ w132 ≤ 15 := k76_0
        replace g133 : mo_G (ja_up (ja_up (ja_up (ja_up (ja_up h 0 19 1) 74 ((h 0 113).toNat) 4) 75 ((h 0 113).toNat) w132) 76 ((h 0 113).toNat) 0) 0 113 ((h 0 113) + 1)) := g133
        show mJ l D cA ad 4 cX12_operand 4 (some .boolean) 79 [(1, (0, (h 0 7))), (0, (2, ((0 : Nat) : Int)))] [] (ja_up (ja_up (ja_up (ja_up (ja_up h 0 19 1) 74 ((h 0 113).toNat) 4) 75 ((h 0 113).toNat) w132) 76 ((h 0 113).toNat) 0) 0 113 ((h 0 113) + 1)) Q
        refine ja_aload_n doperand_79 rfl rfl ?_
        refine t_take (by decide) (show (0 : Nat) ≤ 8 by decide) doperand_80 g133  ?_ ?_
        · intro k80_0 g134
          replace k80_0 : (h 0 7) < 900 := k80_0
          replace g134 : mo_G (ja_up (ja_up (ja_up (ja_up (ja_up (ja_up h 0 19 1) 74 ((h 0 113).toNat) 4) 75 ((h 0 113).toNat) w132) 76 ((h 0 113).toNat) 0) 0 113 ((h 0 113) + 1)) 0 7 ((h 0 7) + 1)) := g134
          show mJ l D cA ad 4 cX12_operand 4 (some .boolean) 83 [(1, (0, (h 0 7))), (0, (2, ((0 : Nat) : Int)))] [(0, 1)] (ja_up (ja_up (ja_up (ja_up (ja_up (ja_up h 0 19 1) 74 ((h 0 113).toNat) 4) 75 ((h 0 113).toNat) w132) 76 ((h 0 113).toNat) 0) 0 113 ((h 0 113) + 1)) 0 7 ((h 0 7) + 1)) Q
          refine ja_if_eq 102 doperand_83 rfl ⟨by decide, by decide⟩ (fun c83 => absurd c83 (by omega)) (fun c83 => ?_)
          refine ja_aload_n doperand_86 rfl rfl ?_
          refine ja_bipush 7 doperand_87 rfl ?_
          refine ja_iconst doperand_89 ?_
          refine ja_iconst doperand_90 ?_
          refine ja_iconst doperand_91 ?_
          refine t_later (by decide) (show (0 : Nat) ≤ 8 by decide) doperand_92 g134 ⟨by decide, by decide⟩ ⟨by decide, by decide⟩ ⟨by decide, by decide⟩ ⟨by decide, by decide⟩ (show 0 ≤ 7 ∧ 7 ≤ 38 by omega) (show (h 0 17) < 2000 by omega) ?_
          intro g135
          replace g135 : mo_G (ja_up (ja_up (ja_up (ja_up (ja_up (ja_up (ja_up (ja_up (ja_up (ja_up (ja_up h 0 19 1) 74 ((h 0 113).toNat) 4) 75 ((h 0 113).toNat) w132) 76 ((h 0 113).toNat) 0) 0 113 ((h 0 113) + 1)) 0 7 ((h 0 7) + 1)) 6 ((h 0 17).toNat) 7) 7 ((h 0 17).toNat) 0) 8 ((h 0 17).toNat) 0) 9 ((h 0 17).toNat) 0) 0 17 ((h 0 17) + 1)) := g135
          show mJ l D cA ad 4 cX12_operand 4 (some .boolean) 95 [(1, (0, (h 0 7))), (0, (2, ((0 : Nat) : Int)))] [(0, 1)] (ja_up (ja_up (ja_up (ja_up (ja_up (ja_up (ja_up (ja_up (ja_up (ja_up (ja_up h 0 19 1) 74 ((h 0 113).toNat) 4) 75 ((h 0 113).toNat) w132) 76 ((h 0 113).toNat) 0) 0 113 ((h 0 113) + 1)) 0 7 ((h 0 7) + 1)) 6 ((h 0 17).toNat) 7) 7 ((h 0 17).toNat) 0) 8 ((h 0 17).toNat) 0) 9 ((h 0 17).toNat) 0) 0 17 ((h 0 17) + 1)) Q
          refine ja_if_eq 102 doperand_95 rfl ⟨by decide, by decide⟩ (fun c95 => absurd c95 (by omega)) (fun c95 => ?_)
          refine ja_iconst doperand_98 ?_
          refine ja_goto 103 doperand_99 rfl ?_
          refine ja_zreturn doperand_103 rfl (by omega) ?_
          exact mo_fin (by omega) rfl (k1 (ja_up (ja_up (ja_up (ja_up (ja_up (ja_up (ja_up (ja_up (ja_up (ja_up (ja_up h 0 19 1) 74 ((h 0 113).toNat) 4) 75 ((h 0 113).toNat) w132) 76 ((h 0 113).toNat) 0) 0 113 ((h 0 113) + 1)) 0 7 ((h 0 7) + 1)) 6 ((h 0 17).toNat) 7) 7 ((h 0 17).toNat) 0) 8 ((h 0 17).toNat) 0) 9 ((h 0 17).toNat) 0) 0 17 ((h 0 17) + 1)) (ab_od_load g p1 p2 (by omega)) g135)
        · intro h136 k80_1 g137
          replace k80_1 : 0 < (h136 0 8) ∧ (h136 0 1) = (h 0 1) ∧ (h136 0 118) = (h 0 118) ∧ (h136 0 127) = (h 0 127) := k80_1
          refine ja_if_eq 102 doperand_83 rfl ⟨by decide, by decide⟩ (fun c83 => ?_) (fun c83 => absurd c83 (by omega))
          refine ja_iconst doperand_102 ?_
          refine ja_zreturn doperand_103 rfl (by omega) ?_
          exact mo_fin (by omega) rfl (k2 h136 (by omega) g137)
      · intro k76_1 g138
        replace k76_1 : (h 0 86) = 1 ∨ 2 ≤ (h 0 74) := k76_1
        replace g138 : mo_G (ja_up (ja_up (ja_up (ja_up (ja_up (ja_up (ja_up (ja_up (ja_up h 0 19 1) 45 ((h 0 68).toNat) 1) 44 ((h 0 68).toNat) (h 0 7)) 46 ((h 0 68).toNat) (h 0 76)) 0 68 ((h 0 68) + 1)) 74 ((h 0 113).toNat) 6) 75 ((h 0 113).toNat) (h 0 7)) 76 ((h 0 113).toNat) (h 0 76)) 0 113 ((h 0 113) + 1)) := g138
        show mJ l D cA ad 4 cX12_operand 4 (some .boolean) 79 [(1, (0, (h 0 7))), (0, (2, ((0 : Nat) : Int)))] [] (ja_up (ja_up (ja_up (ja_up (ja_up (ja_up (ja_up (ja_up (ja_up h 0 19 1) 45 ((h 0 68).toNat) 1) 44 ((h 0 68).toNat) (h 0 7)) 46 ((h 0 68).toNat) (h 0 76)) 0 68 ((h 0 68) + 1)) 74 ((h 0 113).toNat) 6) 75 ((h 0 113).toNat) (h 0 7)) 76 ((h 0 113).toNat) (h 0 76)) 0 113 ((h 0 113) + 1)) Q
        refine ja_aload_n doperand_79 rfl rfl ?_
        refine t_take (by decide) (show (0 : Nat) ≤ 8 by decide) doperand_80 g138  ?_ ?_
        · intro k80_0 g139
          replace k80_0 : (h 0 7) < 900 := k80_0
          replace g139 : mo_G (ja_up (ja_up (ja_up (ja_up (ja_up (ja_up (ja_up (ja_up (ja_up (ja_up h 0 19 1) 45 ((h 0 68).toNat) 1) 44 ((h 0 68).toNat) (h 0 7)) 46 ((h 0 68).toNat) (h 0 76)) 0 68 ((h 0 68) + 1)) 74 ((h 0 113).toNat) 6) 75 ((h 0 113).toNat) (h 0 7)) 76 ((h 0 113).toNat) (h 0 76)) 0 113 ((h 0 113) + 1)) 0 7 ((h 0 7) + 1)) := g139
          show mJ l D cA ad 4 cX12_operand 4 (some .boolean) 83 [(1, (0, (h 0 7))), (0, (2, ((0 : Nat) : Int)))] [(0, 1)] (ja_up (ja_up (ja_up (ja_up (ja_up (ja_up (ja_up (ja_up (ja_up (ja_up h 0 19 1) 45 ((h 0 68).toNat) 1) 44 ((h 0 68).toNat) (h 0 7)) 46 ((h 0 68).toNat) (h 0 76)) 0 68 ((h 0 68) + 1)) 74 ((h 0 113).toNat) 6) 75 ((h 0 113).toNat) (h 0 7)) 76 ((h 0 113).toNat) (h 0 76)) 0 113 ((h 0 113) + 1)) 0 7 ((h 0 7) + 1)) Q
          refine ja_if_eq 102 doperand_83 rfl ⟨by decide, by decide⟩ (fun c83 => absurd c83 (by omega)) (fun c83 => ?_)
          refine ja_aload_n doperand_86 rfl rfl ?_
          refine ja_bipush 7 doperand_87 rfl ?_
          refine ja_iconst doperand_89 ?_
          refine ja_iconst doperand_90 ?_
          refine ja_iconst doperand_91 ?_
          refine t_later (by decide) (show (0 : Nat) ≤ 8 by decide) doperand_92 g139 ⟨by decide, by decide⟩ ⟨by decide, by decide⟩ ⟨by decide, by decide⟩ ⟨by decide, by decide⟩ (show 0 ≤ 7 ∧ 7 ≤ 38 by omega) (show (h 0 17) < 2000 by omega) ?_
          intro g140
          replace g140 : mo_G (ja_up (ja_up (ja_up (ja_up (ja_up (ja_up (ja_up (ja_up (ja_up (ja_up (ja_up (ja_up (ja_up (ja_up (ja_up h 0 19 1) 45 ((h 0 68).toNat) 1) 44 ((h 0 68).toNat) (h 0 7)) 46 ((h 0 68).toNat) (h 0 76)) 0 68 ((h 0 68) + 1)) 74 ((h 0 113).toNat) 6) 75 ((h 0 113).toNat) (h 0 7)) 76 ((h 0 113).toNat) (h 0 76)) 0 113 ((h 0 113) + 1)) 0 7 ((h 0 7) + 1)) 6 ((h 0 17).toNat) 7) 7 ((h 0 17).toNat) 0) 8 ((h 0 17).toNat) 0) 9 ((h 0 17).toNat) 0) 0 17 ((h 0 17) + 1)) := g140
          show mJ l D cA ad 4 cX12_operand 4 (some .boolean) 95 [(1, (0, (h 0 7))), (0, (2, ((0 : Nat) : Int)))] [(0, 1)] (ja_up (ja_up (ja_up (ja_up (ja_up (ja_up (ja_up (ja_up (ja_up (ja_up (ja_up (ja_up (ja_up (ja_up (ja_up h 0 19 1) 45 ((h 0 68).toNat) 1) 44 ((h 0 68).toNat) (h 0 7)) 46 ((h 0 68).toNat) (h 0 76)) 0 68 ((h 0 68) + 1)) 74 ((h 0 113).toNat) 6) 75 ((h 0 113).toNat) (h 0 7)) 76 ((h 0 113).toNat) (h 0 76)) 0 113 ((h 0 113) + 1)) 0 7 ((h 0 7) + 1)) 6 ((h 0 17).toNat) 7) 7 ((h 0 17).toNat) 0) 8 ((h 0 17).toNat) 0) 9 ((h 0 17).toNat) 0) 0 17 ((h 0 17) + 1)) Q
          refine ja_if_eq 102 doperand_95 rfl ⟨by decide, by decide⟩ (fun c95 => absurd c95 (by omega)) (fun c95 => ?_)
          refine ja_iconst doperand_98 ?_
          refine ja_goto 103 doperand_99 rfl ?_
          refine ja_zreturn doperand_103 rfl (by omega) ?_
          exact mo_fin (by omega) rfl (k1 (ja_up (ja_up (ja_up (ja_up (ja_up (ja_up (ja_up (ja_up (ja_up (ja_up (ja_up (ja_up (ja_up (ja_up (ja_up h 0 19 1) 45 ((h 0 68).toNat) 1) 44 ((h 0 68).toNat) (h 0 7)) 46 ((h 0 68).toNat) (h 0 76)) 0 68 ((h 0 68) + 1)) 74 ((h 0 113).toNat) 6) 75 ((h 0 113).toNat) (h 0 7)) 76 ((h 0 113).toNat) (h 0 76)) 0 113 ((h 0 113) + 1)) 0 7 ((h 0 7) + 1)) 6 ((h 0 17).toNat) 7) 7 ((h 0 17).toNat) 0) 8 ((h 0 17).toNat) 0) 9 ((h 0 17).toNat) 0) 0 17 ((h 0 17) + 1)) (ab_od_loadf g p1 p2 (by omega) (by omega)) g140)
        · intro h141 k80_1 g142
          replace k80_1 : 0 < (h141 0 8) ∧ (h141 0 1) = (h 0 1) ∧ (h141 0 118) = (h 0 118) ∧ (h141 0 127) = (h 0 127) := k80_1
          refine ja_if_eq 102 doperand_83 rfl ⟨by decide, by decide⟩ (fun c83 => ?_) (fun c83 => absurd c83 (by omega))
          refine ja_iconst doperand_102 ?_
          refine ja_zreturn doperand_103 rfl (by omega) ?_
          exact mo_fin (by omega) rfl (k2 h141 (by omega) g142)
      · intro w143 w144 k76_2 g145
        replace k76_2 : 1 ≤ w143 ∧ w143 ≤ 8 ∧ -2147483648 ≤ w144 ∧ w144 ≤ 2147483647 := k76_2
        replace g145 : mo_G (ja_up (ja_up (ja_up (ja_up (ja_up (ja_up (ja_up h 0 19 1) 0 11 w143) 0 12 w144) 74 ((h 0 113).toNat) 6) 75 ((h 0 113).toNat) (h 0 7)) 76 ((h 0 113).toNat) (h 0 76)) 0 113 ((h 0 113) + 1)) := g145
        show mJ l D cA ad 4 cX12_operand 4 (some .boolean) 79 [(1, (0, (h 0 7))), (0, (2, ((0 : Nat) : Int)))] [] (ja_up (ja_up (ja_up (ja_up (ja_up (ja_up (ja_up h 0 19 1) 0 11 w143) 0 12 w144) 74 ((h 0 113).toNat) 6) 75 ((h 0 113).toNat) (h 0 7)) 76 ((h 0 113).toNat) (h 0 76)) 0 113 ((h 0 113) + 1)) Q
        refine ja_aload_n doperand_79 rfl rfl ?_
        refine t_take (by decide) (show (0 : Nat) ≤ 8 by decide) doperand_80 g145  ?_ ?_
        · intro k80_0 g146
          replace k80_0 : (h 0 7) < 900 := k80_0
          replace g146 : mo_G (ja_up (ja_up (ja_up (ja_up (ja_up (ja_up (ja_up (ja_up h 0 19 1) 0 11 w143) 0 12 w144) 74 ((h 0 113).toNat) 6) 75 ((h 0 113).toNat) (h 0 7)) 76 ((h 0 113).toNat) (h 0 76)) 0 113 ((h 0 113) + 1)) 0 7 ((h 0 7) + 1)) := g146
          show mJ l D cA ad 4 cX12_operand 4 (some .boolean) 83 [(1, (0, (h 0 7))), (0, (2, ((0 : Nat) : Int)))] [(0, 1)] (ja_up (ja_up (ja_up (ja_up (ja_up (ja_up (ja_up (ja_up h 0 19 1) 0 11 w143) 0 12 w144) 74 ((h 0 113).toNat) 6) 75 ((h 0 113).toNat) (h 0 7)) 76 ((h 0 113).toNat) (h 0 76)) 0 113 ((h 0 113) + 1)) 0 7 ((h 0 7) + 1)) Q
          refine ja_if_eq 102 doperand_83 rfl ⟨by decide, by decide⟩ (fun c83 => absurd c83 (by omega)) (fun c83 => ?_)
          refine ja_aload_n doperand_86 rfl rfl ?_
          refine ja_bipush 7 doperand_87 rfl ?_
          refine ja_iconst doperand_89 ?_
          refine ja_iconst doperand_90 ?_
          refine ja_iconst doperand_91 ?_
          refine t_later (by decide) (show (0 : Nat) ≤ 8 by decide) doperand_92 g146 ⟨by decide, by decide⟩ ⟨by decide, by decide⟩ ⟨by decide, by decide⟩ ⟨by decide, by decide⟩ (show 0 ≤ 7 ∧ 7 ≤ 38 by omega) (show (h 0 17) < 2000 by omega) ?_
          intro g147
          replace g147 : mo_G (ja_up (ja_up (ja_up (ja_up (ja_up (ja_up (ja_up (ja_up (ja_up (ja_up (ja_up (ja_up (ja_up h 0 19 1) 0 11 w143) 0 12 w144) 74 ((h 0 113).toNat) 6) 75 ((h 0 113).toNat) (h 0 7)) 76 ((h 0 113).toNat) (h 0 76)) 0 113 ((h 0 113) + 1)) 0 7 ((h 0 7) + 1)) 6 ((h 0 17).toNat) 7) 7 ((h 0 17).toNat) 0) 8 ((h 0 17).toNat) 0) 9 ((h 0 17).toNat) 0) 0 17 ((h 0 17) + 1)) := g147
          show mJ l D cA ad 4 cX12_operand 4 (some .boolean) 95 [(1, (0, (h 0 7))), (0, (2, ((0 : Nat) : Int)))] [(0, 1)] (ja_up (ja_up (ja_up (ja_up (ja_up (ja_up (ja_up (ja_up (ja_up (ja_up (ja_up (ja_up (ja_up h 0 19 1) 0 11 w143) 0 12 w144) 74 ((h 0 113).toNat) 6) 75 ((h 0 113).toNat) (h 0 7)) 76 ((h 0 113).toNat) (h 0 76)) 0 113 ((h 0 113) + 1)) 0 7 ((h 0 7) + 1)) 6 ((h 0 17).toNat) 7) 7 ((h 0 17).toNat) 0) 8 ((h 0 17).toNat) 0) 9 ((h 0 17).toNat) 0) 0 17 ((h 0 17) + 1)) Q
          refine ja_if_eq 102 doperand_95 rfl ⟨by decide, by decide⟩ (fun c95 => absurd c95 (by omega)) (fun c95 => ?_)
          refine ja_iconst doperand_98 ?_
          refine ja_goto 103 doperand_99 rfl ?_
          refine ja_zreturn doperand_103 rfl (by omega) ?_
          exact mo_fin (by omega) rfl (k1 (ja_up (ja_up (ja_up (ja_up (ja_up (ja_up (ja_up (ja_up (ja_up (ja_up (ja_up (ja_up (ja_up h 0 19 1) 0 11 w143) 0 12 w144) 74 ((h 0 113).toNat) 6) 75 ((h 0 113).toNat) (h 0 7)) 76 ((h 0 113).toNat) (h 0 76)) 0 113 ((h 0 113) + 1)) 0 7 ((h 0 7) + 1)) 6 ((h 0 17).toNat) 7) 7 ((h 0 17).toNat) 0) 8 ((h 0 17).toNat) 0) 9 ((h 0 17).toNat) 0) 0 17 ((h 0 17) + 1)) (ab_loadj g p1 p2 (by omega) (by omega)) g147)
        · intro h148 k80_1 g149
          replace k80_1 : 0 < (h148 0 8) ∧ (h148 0 1) = (h 0 1) ∧ (h148 0 118) = (h 0 118) ∧ (h148 0 127) = (h 0 127) := k80_1
          refine ja_if_eq 102 doperand_83 rfl ⟨by decide, by decide⟩ (fun c83 => ?_) (fun c83 => absurd c83 (by omega))
          refine ja_iconst doperand_102 ?_
          refine ja_zreturn doperand_103 rfl (by omega) ?_
          exact mo_fin (by omega) rfl (k2 h148 (by omega) g149)
  · refine ja_aload_n doperand_18 rfl rfl ?_
    refine ja_iconst doperand_19 ?_
    have g150 := gP_form g (x := 0) ⟨by decide, by decide⟩
    refine fp_form doperand_20 ?_
    refine ja_aload_n doperand_23 rfl rfl ?_
    refine ja_iconst doperand_24 ?_
    refine ja_aload_n doperand_25 rfl rfl ?_
    refine fa_worths doperand_26 ?_
    refine ja_aload_n doperand_29 rfl rfl ?_
    refine fg_at (v := h 0 7) rfl doperand_30 ?_
    refine il_worths (v := h 5 (h 0 7).toNat) rfl ⟨by omega, by omega⟩ doperand_33 ?_
    have f151 := gC_worths g (h 0 7).toNat
    refine ja_iconst doperand_34 ?_
    refine t_emit (by decide) (show (0 : Nat) ≤ 8 by decide) doperand_35 g150 ⟨by decide, by decide⟩ ⟨by omega, by omega⟩ ⟨by decide, by decide⟩ (show 0 ≤ 1 ∧ 1 ≤ 26 by omega) (show (h 0 113) < 5000 by omega) ?_
    intro g152
    replace g152 : mo_G (ja_up (ja_up (ja_up (ja_up (ja_up h 0 19 0) 74 ((h 0 113).toNat) 1) 75 ((h 0 113).toNat) (h 5 (h 0 7).toNat)) 76 ((h 0 113).toNat) 0) 0 113 ((h 0 113) + 1)) := g152
    show mJ l D cA ad 4 cX12_operand 4 (some .boolean) 38 [(1, (0, (h 0 7))), (0, (2, ((0 : Nat) : Int)))] [(0, (h 0 113))] (ja_up (ja_up (ja_up (ja_up (ja_up h 0 19 0) 74 ((h 0 113).toNat) 1) 75 ((h 0 113).toNat) (h 5 (h 0 7).toNat)) 76 ((h 0 113).toNat) 0) 0 113 ((h 0 113) + 1)) Q
    refine ja_istore_n doperand_38 rfl (by decide) (L2 := [(2, (0, (h 0 113))), (1, (0, (h 0 7))), (0, (2, ((0 : Nat) : Int)))]) rfl ?_
    refine ja_aload_n doperand_39 rfl rfl ?_
    refine t_take (by decide) (show (0 : Nat) ≤ 8 by decide) doperand_40 g152  ?_ ?_
    · intro k40_0 g153
      replace k40_0 : (h 0 7) < 900 := k40_0
      replace g153 : mo_G (ja_up (ja_up (ja_up (ja_up (ja_up (ja_up h 0 19 0) 74 ((h 0 113).toNat) 1) 75 ((h 0 113).toNat) (h 5 (h 0 7).toNat)) 76 ((h 0 113).toNat) 0) 0 113 ((h 0 113) + 1)) 0 7 ((h 0 7) + 1)) := g153
      show mJ l D cA ad 4 cX12_operand 4 (some .boolean) 43 [(2, (0, (h 0 113))), (1, (0, (h 0 7))), (0, (2, ((0 : Nat) : Int)))] [(0, 1)] (ja_up (ja_up (ja_up (ja_up (ja_up (ja_up h 0 19 0) 74 ((h 0 113).toNat) 1) 75 ((h 0 113).toNat) (h 5 (h 0 7).toNat)) 76 ((h 0 113).toNat) 0) 0 113 ((h 0 113) + 1)) 0 7 ((h 0 7) + 1)) Q
      refine ja_if_eq 62 doperand_43 rfl ⟨by decide, by decide⟩ (fun c43 => absurd c43 (by omega)) (fun c43 => ?_)
      refine ja_aload_n doperand_46 rfl rfl ?_
      refine ja_bipush 7 doperand_47 rfl ?_
      refine ja_iconst doperand_49 ?_
      refine ja_iconst doperand_50 ?_
      refine ja_iconst doperand_51 ?_
      refine t_later (by decide) (show (0 : Nat) ≤ 8 by decide) doperand_52 g153 ⟨by decide, by decide⟩ ⟨by decide, by decide⟩ ⟨by decide, by decide⟩ ⟨by decide, by decide⟩ (show 0 ≤ 7 ∧ 7 ≤ 38 by omega) (show (h 0 17) < 2000 by omega) ?_
      intro g154
      replace g154 : mo_G (ja_up (ja_up (ja_up (ja_up (ja_up (ja_up (ja_up (ja_up (ja_up (ja_up (ja_up h 0 19 0) 74 ((h 0 113).toNat) 1) 75 ((h 0 113).toNat) (h 5 (h 0 7).toNat)) 76 ((h 0 113).toNat) 0) 0 113 ((h 0 113) + 1)) 0 7 ((h 0 7) + 1)) 6 ((h 0 17).toNat) 7) 7 ((h 0 17).toNat) 0) 8 ((h 0 17).toNat) 0) 9 ((h 0 17).toNat) 0) 0 17 ((h 0 17) + 1)) := g154
      show mJ l D cA ad 4 cX12_operand 4 (some .boolean) 55 [(2, (0, (h 0 113))), (1, (0, (h 0 7))), (0, (2, ((0 : Nat) : Int)))] [(0, 1)] (ja_up (ja_up (ja_up (ja_up (ja_up (ja_up (ja_up (ja_up (ja_up (ja_up (ja_up h 0 19 0) 74 ((h 0 113).toNat) 1) 75 ((h 0 113).toNat) (h 5 (h 0 7).toNat)) 76 ((h 0 113).toNat) 0) 0 113 ((h 0 113) + 1)) 0 7 ((h 0 7) + 1)) 6 ((h 0 17).toNat) 7) 7 ((h 0 17).toNat) 0) 8 ((h 0 17).toNat) 0) 9 ((h 0 17).toNat) 0) 0 17 ((h 0 17) + 1)) Q
      refine ja_if_eq 62 doperand_55 rfl ⟨by decide, by decide⟩ (fun c55 => absurd c55 (by omega)) (fun c55 => ?_)
      refine ja_iconst doperand_58 ?_
      refine ja_goto 63 doperand_59 rfl ?_
      refine ja_zreturn doperand_63 rfl (by omega) ?_
      exact mo_fin (by omega) rfl (k1 (ja_up (ja_up (ja_up (ja_up (ja_up (ja_up (ja_up (ja_up (ja_up (ja_up (ja_up h 0 19 0) 74 ((h 0 113).toNat) 1) 75 ((h 0 113).toNat) (h 5 (h 0 7).toNat)) 76 ((h 0 113).toNat) 0) 0 113 ((h 0 113) + 1)) 0 7 ((h 0 7) + 1)) 6 ((h 0 17).toNat) 7) 7 ((h 0 17).toNat) 0) 8 ((h 0 17).toNat) 0) 9 ((h 0 17).toNat) 0) 0 17 ((h 0 17) + 1)) (ab_od_whole g p1 p2) g154)
    · intro h155 k40_1 g156
      replace k40_1 : 0 < (h155 0 8) ∧ (h155 0 1) = (h 0 1) ∧ (h155 0 118) = (h 0 118) ∧ (h155 0 127) = (h 0 127) := k40_1
      refine ja_if_eq 62 doperand_43 rfl ⟨by decide, by decide⟩ (fun c43 => ?_) (fun c43 => absurd c43 (by omega))
      refine ja_iconst doperand_62 ?_
      refine ja_zreturn doperand_63 rfl (by omega) ?_
      exact mo_fin (by omega) rfl (k2 h155 (by omega) g156)
theorem t_operand {R r ph tf q0 a b : Int} {s : List mo_A} {ht st rg : Nat → Int} {tu : Int} {d nL pc : Nat} {cc : ByteArray} {rt : Option FieldType} {L : List (Nat × ja_V)} {S : List ja_V} {h : ja_H} {Q : Option ja_V → ja_H → Prop} (hdd : 4 < d) (hwd : ja_wd S ≤ 8) (hd : decode cc pc = .ok (.invokevirtual 850, 3)) (g : mo_G h) (p1 : pk_S h (h 0 17).toNat s) (p2 : piB h R r ph tf q0 ((6, a, b) :: s) ht st rg tu) (p3 : (h 0 74) ≤ 1 ∨ (h 0 75) ≤ 24) (k1 : ∀ (h' : ja_H), (pi_done h h' R r ph tf q0 (pi_mu h ((6, a, b) :: s))) → mo_G h' → mJ l D cA ad d cc nL rt (pc + 3) L ((0, 1) :: S) h' Q) (k2 : ∀ (h' : ja_H), (0 < (h' 0 8) ∧ (h' 0 1) = (h 0 1) ∧ (h' 0 118) = (h 0 118) ∧ (h' 0 127) = (h 0 127)) → mo_G h' → mJ l D cA ad d cc nL rt (pc + 3) L ((0, 0) :: S) h' Q) : mJ l D cA ad d cc nL rt pc L ((2, ((0 : Nat) : Int)) :: S) h Q :=
  mc_operand hdd hwd hd (s_operand g p1 p2 p3 k1 k2)
end
theorem dtail_0 : decode cX12_tail 0 = .ok (.aload_n 0, 1) := by decide +kernel
theorem dtail_1 : decode cX12_tail 1 = .ok (.getfield 698, 3) := by decide +kernel
theorem dtail_4 : decode cX12_tail 4 = .ok (.ifCond .ne 137, 3) := by decide +kernel
theorem dtail_7 : decode cX12_tail 7 = .ok (.aload_n 0, 1) := by decide +kernel
theorem dtail_8 : decode cX12_tail 8 = .ok (.bipush 46, 2) := by decide +kernel
theorem dtail_10 : decode cX12_tail 10 = .ok (.invokevirtual 586, 3) := by decide +kernel
theorem dtail_13 : decode cX12_tail 13 = .ok (.ifCond .eq 128, 3) := by decide +kernel
theorem dtail_16 : decode cX12_tail 16 = .ok (.aload_n 0, 1) := by decide +kernel
theorem dtail_17 : decode cX12_tail 17 = .ok (.iconst 3, 1) := by decide +kernel
theorem dtail_18 : decode cX12_tail 18 = .ok (.invokevirtual 751, 3) := by decide +kernel
theorem dtail_21 : decode cX12_tail 21 = .ok (.istore_n 1, 1) := by decide +kernel
theorem dtail_22 : decode cX12_tail 22 = .ok (.iload_n 1, 1) := by decide +kernel
theorem dtail_23 : decode cX12_tail 23 = .ok (.ifCond .lt 10, 3) := by decide +kernel
theorem dtail_26 : decode cX12_tail 26 = .ok (.aload_n 0, 1) := by decide +kernel
theorem dtail_27 : decode cX12_tail 27 = .ok (.invokevirtual 589, 3) := by decide +kernel
theorem dtail_30 : decode cX12_tail 30 = .ok (.ifCond .ne 5, 3) := by decide +kernel
theorem dtail_33 : decode cX12_tail 33 = .ok (.iconst 0, 1) := by decide +kernel
theorem dtail_34 : decode cX12_tail 34 = .ok (.ireturn, 1) := by decide +kernel
theorem dtail_35 : decode cX12_tail 35 = .ok (.aload_n 0, 1) := by decide +kernel
theorem dtail_36 : decode cX12_tail 36 = .ok (.getfield 170, 3) := by decide +kernel
theorem dtail_39 : decode cX12_tail 39 = .ok (.iload_n 1, 1) := by decide +kernel
theorem dtail_40 : decode cX12_tail 40 = .ok (.aload_n 0, 1) := by decide +kernel
theorem dtail_41 : decode cX12_tail 41 = .ok (.getfield 574, 3) := by decide +kernel
theorem dtail_44 : decode cX12_tail 44 = .ok (.iastore, 1) := by decide +kernel
theorem dtail_45 : decode cX12_tail 45 = .ok (.aload_n 0, 1) := by decide +kernel
theorem dtail_46 : decode cX12_tail 46 = .ok (.invokevirtual 739, 3) := by decide +kernel
theorem dtail_49 : decode cX12_tail 49 = .ok (.ifCond .ne 5, 3) := by decide +kernel
theorem dtail_52 : decode cX12_tail 52 = .ok (.iconst 0, 1) := by decide +kernel
theorem dtail_53 : decode cX12_tail 53 = .ok (.ireturn, 1) := by decide +kernel
theorem dtail_54 : decode cX12_tail 54 = .ok (.aload_n 0, 1) := by decide +kernel
theorem dtail_55 : decode cX12_tail 55 = .ok (.bipush 40, 2) := by decide +kernel
theorem dtail_57 : decode cX12_tail 57 = .ok (.invokevirtual 586, 3) := by decide +kernel
theorem dtail_60 : decode cX12_tail 60 = .ok (.ifCond .eq 52, 3) := by decide +kernel
theorem dtail_63 : decode cX12_tail 63 = .ok (.aload_n 0, 1) := by decide +kernel
theorem dtail_64 : decode cX12_tail 64 = .ok (.getfield 164, 3) := by decide +kernel
theorem dtail_67 : decode cX12_tail 67 = .ok (.iload_n 1, 1) := by decide +kernel
theorem dtail_68 : decode cX12_tail 68 = .ok (.iconst 0, 1) := by decide +kernel
theorem dtail_69 : decode cX12_tail 69 = .ok (.iastore, 1) := by decide +kernel
theorem dtail_70 : decode cX12_tail 70 = .ok (.aload_n 0, 1) := by decide +kernel
theorem dtail_71 : decode cX12_tail 71 = .ok (.bipush 7, 2) := by decide +kernel
theorem dtail_73 : decode cX12_tail 73 = .ok (.iconst 0, 1) := by decide +kernel
theorem dtail_74 : decode cX12_tail 74 = .ok (.iconst 0, 1) := by decide +kernel
theorem dtail_75 : decode cX12_tail 75 = .ok (.iconst 0, 1) := by decide +kernel
theorem dtail_76 : decode cX12_tail 76 = .ok (.invokevirtual 790, 3) := by decide +kernel
theorem dtail_79 : decode cX12_tail 79 = .ok (.ifCond .eq 31, 3) := by decide +kernel
theorem dtail_82 : decode cX12_tail 82 = .ok (.aload_n 0, 1) := by decide +kernel
theorem dtail_83 : decode cX12_tail 83 = .ok (.bipush 10, 2) := by decide +kernel
theorem dtail_85 : decode cX12_tail 85 = .ok (.iload_n 1, 1) := by decide +kernel
theorem dtail_86 : decode cX12_tail 86 = .ok (.iconst 0, 1) := by decide +kernel
theorem dtail_87 : decode cX12_tail 87 = .ok (.iconst 0, 1) := by decide +kernel
theorem dtail_88 : decode cX12_tail 88 = .ok (.invokevirtual 790, 3) := by decide +kernel
theorem dtail_91 : decode cX12_tail 91 = .ok (.ifCond .eq 19, 3) := by decide +kernel
theorem dtail_94 : decode cX12_tail 94 = .ok (.aload_n 0, 1) := by decide +kernel
theorem dtail_95 : decode cX12_tail 95 = .ok (.bipush 8, 2) := by decide +kernel
theorem dtail_97 : decode cX12_tail 97 = .ok (.iconst 0, 1) := by decide +kernel
theorem dtail_98 : decode cX12_tail 98 = .ok (.iconst 0, 1) := by decide +kernel
theorem dtail_99 : decode cX12_tail 99 = .ok (.iconst 0, 1) := by decide +kernel
theorem dtail_100 : decode cX12_tail 100 = .ok (.invokevirtual 790, 3) := by decide +kernel
theorem dtail_103 : decode cX12_tail 103 = .ok (.ifCond .eq 7, 3) := by decide +kernel
theorem dtail_106 : decode cX12_tail 106 = .ok (.iconst 1, 1) := by decide +kernel
theorem dtail_107 : decode cX12_tail 107 = .ok (.goto 4, 3) := by decide +kernel
theorem dtail_110 : decode cX12_tail 110 = .ok (.iconst 0, 1) := by decide +kernel
theorem dtail_111 : decode cX12_tail 111 = .ok (.ireturn, 1) := by decide +kernel
theorem dtail_112 : decode cX12_tail 112 = .ok (.aload_n 0, 1) := by decide +kernel
theorem dtail_113 : decode cX12_tail 113 = .ok (.iconst 2, 1) := by decide +kernel
theorem dtail_114 : decode cX12_tail 114 = .ok (.putfield 838, 3) := by decide +kernel
theorem dtail_117 : decode cX12_tail 117 = .ok (.aload_n 0, 1) := by decide +kernel
theorem dtail_118 : decode cX12_tail 118 = .ok (.iload_n 1, 1) := by decide +kernel
theorem dtail_119 : decode cX12_tail 119 = .ok (.putfield 841, 3) := by decide +kernel
theorem dtail_122 : decode cX12_tail 122 = .ok (.aload_n 0, 1) := by decide +kernel
theorem dtail_123 : decode cX12_tail 123 = .ok (.bipush 15, 2) := by decide +kernel
theorem dtail_125 : decode cX12_tail 125 = .ok (.iload_n 1, 1) := by decide +kernel
theorem dtail_126 : decode cX12_tail 126 = .ok (.iconst 0, 1) := by decide +kernel
theorem dtail_127 : decode cX12_tail 127 = .ok (.invokevirtual 732, 3) := by decide +kernel
theorem dtail_130 : decode cX12_tail 130 = .ok (.istore_n 2, 1) := by decide +kernel
theorem dtail_131 : decode cX12_tail 131 = .ok (.aload_n 0, 1) := by decide +kernel
theorem dtail_132 : decode cX12_tail 132 = .ok (.bipush 7, 2) := by decide +kernel
theorem dtail_134 : decode cX12_tail 134 = .ok (.iconst 0, 1) := by decide +kernel
theorem dtail_135 : decode cX12_tail 135 = .ok (.iconst 0, 1) := by decide +kernel
theorem dtail_136 : decode cX12_tail 136 = .ok (.iconst 0, 1) := by decide +kernel
theorem dtail_137 : decode cX12_tail 137 = .ok (.invokevirtual 790, 3) := by decide +kernel
theorem dtail_140 : decode cX12_tail 140 = .ok (.ireturn, 1) := by decide +kernel
theorem dtail_141 : decode cX12_tail 141 = .ok (.aload_n 0, 1) := by decide +kernel
theorem dtail_142 : decode cX12_tail 142 = .ok (.bipush 21, 2) := by decide +kernel
theorem dtail_144 : decode cX12_tail 144 = .ok (.invokevirtual 596, 3) := by decide +kernel
theorem dtail_147 : decode cX12_tail 147 = .ok (.ifCond .eq 47, 3) := by decide +kernel
theorem dtail_150 : decode cX12_tail 150 = .ok (.aload_n 0, 1) := by decide +kernel
theorem dtail_151 : decode cX12_tail 151 = .ok (.invokevirtual 589, 3) := by decide +kernel
theorem dtail_154 : decode cX12_tail 154 = .ok (.ifCond .ne 5, 3) := by decide +kernel
theorem dtail_157 : decode cX12_tail 157 = .ok (.iconst 0, 1) := by decide +kernel
theorem dtail_158 : decode cX12_tail 158 = .ok (.ireturn, 1) := by decide +kernel
theorem dtail_159 : decode cX12_tail 159 = .ok (.aload_n 0, 1) := by decide +kernel
theorem dtail_160 : decode cX12_tail 160 = .ok (.getfield 574, 3) := by decide +kernel
theorem dtail_163 : decode cX12_tail 163 = .ok (.istore_n 1, 1) := by decide +kernel
theorem dtail_164 : decode cX12_tail 164 = .ok (.aload_n 0, 1) := by decide +kernel
theorem dtail_165 : decode cX12_tail 165 = .ok (.invokevirtual 739, 3) := by decide +kernel
theorem dtail_168 : decode cX12_tail 168 = .ok (.ifCond .ne 5, 3) := by decide +kernel
theorem dtail_171 : decode cX12_tail 171 = .ok (.iconst 0, 1) := by decide +kernel
theorem dtail_172 : decode cX12_tail 172 = .ok (.ireturn, 1) := by decide +kernel
theorem dtail_173 : decode cX12_tail 173 = .ok (.aload_n 0, 1) := by decide +kernel
theorem dtail_174 : decode cX12_tail 174 = .ok (.iconst 0, 1) := by decide +kernel
theorem dtail_175 : decode cX12_tail 175 = .ok (.iload_n 1, 1) := by decide +kernel
theorem dtail_176 : decode cX12_tail 176 = .ok (.iconst 0, 1) := by decide +kernel
theorem dtail_177 : decode cX12_tail 177 = .ok (.invokevirtual 783, 3) := by decide +kernel
theorem dtail_180 : decode cX12_tail 180 = .ok (.aload_n 0, 1) := by decide +kernel
theorem dtail_181 : decode cX12_tail 181 = .ok (.iconst 0, 1) := by decide +kernel
theorem dtail_182 : decode cX12_tail 182 = .ok (.putfield 838, 3) := by decide +kernel
theorem dtail_185 : decode cX12_tail 185 = .ok (.aload_n 0, 1) := by decide +kernel
theorem dtail_186 : decode cX12_tail 186 = .ok (.bipush 8, 2) := by decide +kernel
theorem dtail_188 : decode cX12_tail 188 = .ok (.iload_n 1, 1) := by decide +kernel
theorem dtail_189 : decode cX12_tail 189 = .ok (.iconst 0, 1) := by decide +kernel
theorem dtail_190 : decode cX12_tail 190 = .ok (.invokevirtual 732, 3) := by decide +kernel
theorem dtail_193 : decode cX12_tail 193 = .ok (.istore_n 2, 1) := by decide +kernel
theorem dtail_194 : decode cX12_tail 194 = .ok (.iconst 1, 1) := by decide +kernel
theorem dtail_195 : decode cX12_tail 195 = .ok (.ireturn, 1) := by decide +kernel
section
variable {l : Launch} {D : va_G} {cA : Nat → ClassId} {ad : Nat → Nat}
theorem s_tail {R r ph tf q0 a b : Int} {s : List mo_A} {ht st rg : Nat → Int} {tu : Int} {h : ja_H} {Q : Option ja_V → ja_H → Prop} (g : mo_G h) (p1 : pk_S h (h 0 17).toNat s) (p2 : piB h R r ph tf q0 ((7, a, b) :: s) ht st rg tu) (p3 : (h 0 74) ≤ 1 ∨ (h 0 75) ≤ 24) (k1 : ∀ (h' : ja_H), (pi_done h h' R r ph tf q0 (pi_mu h ((7, a, b) :: s))) → mo_G h' → Q (some (0, 1)) h') (k2 : ∀ (h' : ja_H), (0 < (h' 0 8) ∧ (h' 0 1) = (h 0 1) ∧ (h' 0 118) = (h 0 118) ∧ (h' 0 127) = (h 0 127)) → mo_G h' → Q (some (0, 0)) h') : mM_tail l D cA ad  h Q := by
  show mJ l D cA ad 4 cX12_tail 3 (some .boolean) 0 [(0, (2, ((0 : Nat) : Int)))] [] h Q
  have kn_at := gF_at g
  have kn_wTop := gF_wTop g
  have kn_words := gF_words g
  have kn_nest := gF_nest g
  have kn_inIf := gF_inIf g
  have kn_body := gF_body g
  have kn_bodyNumber := gF_bodyNumber g
  have kn_wants := gF_wants g
  have kn_points := gF_points g
  have hN := piB_num g p1 p2
  obtain ⟨N1, N2, N3, N4, N5, N6, N7, N8, N9, N10, N11, N12, N13, ⟨NK1, NK2⟩, ND1, ND2, ND3, NU1, NU2⟩ := hN
  have hll := bs_hl p2
  have hn1 : (h 0 18) = 0 + pk_sum pk_c s := p2.1.1
  refine ja_aload_n dtail_0 rfl rfl ?_
  refine fg_inIf (v := h 0 86) rfl dtail_1 ?_
  have f1 := gF_inIf g
  refine ja_if_ne 141 dtail_4 rfl ⟨by omega, by omega⟩ (fun c4 => ?_) (fun c4 => ?_)
  · refine ja_aload_n dtail_141 rfl rfl ?_
    refine ja_bipush 21 dtail_142 rfl ?_
    refine t_isWord (by decide) (show (0 : Nat) ≤ 8 by decide) dtail_144 g ⟨by decide, by decide⟩ ?_
    intro w2 k144_0
    refine ja_if_eq 194 dtail_147 rfl ⟨by omega, by omega⟩ (fun c147 => ?_) (fun c147 => ?_)
    · refine ja_iconst dtail_194 ?_
      refine ja_zreturn dtail_195 rfl (by omega) ?_
      exact mo_fin (by omega) rfl (k1 h (ab_tail_end g p1 p2) g)
    · refine ja_aload_n dtail_150 rfl rfl ?_
      refine t_take (by decide) (show (0 : Nat) ≤ 8 by decide) dtail_151 g  ?_ ?_
      · intro k151_0 g3
        replace k151_0 : (h 0 7) < 900 := k151_0
        replace g3 : mo_G (ja_up h 0 7 ((h 0 7) + 1)) := g3
        show mJ l D cA ad 4 cX12_tail 3 (some .boolean) 154 [(0, (2, ((0 : Nat) : Int)))] [(0, 1)] (ja_up h 0 7 ((h 0 7) + 1)) Q
        refine ja_if_ne 159 dtail_154 rfl ⟨by decide, by decide⟩ (fun c154 => ?_) (fun c154 => absurd c154 (by omega))
        refine ja_aload_n dtail_159 rfl rfl ?_
        refine fg_at (v := (h 0 7) + 1) rfl dtail_160 ?_
        refine ja_istore_n dtail_163 rfl (by decide) (L2 := [(1, (0, ((h 0 7) + 1))), (0, (2, ((0 : Nat) : Int)))]) rfl ?_
        refine ja_aload_n dtail_164 rfl rfl ?_
        refine t_name (by decide) (show (0 : Nat) ≤ 8 by decide) dtail_165 g3  ?_ ?_
        · intro k165_0 g4
          replace k165_0 : ((h 0 7) + 1) < 900 ∧ (h 2 ((h 0 7) + 1).toNat) = 2 := k165_0
          replace g4 : mo_G (ja_up (ja_up h 0 7 ((h 0 7) + 1)) 0 7 (((h 0 7) + 1) + 1)) := g4
          show mJ l D cA ad 4 cX12_tail 3 (some .boolean) 168 [(1, (0, ((h 0 7) + 1))), (0, (2, ((0 : Nat) : Int)))] [(0, 1)] (ja_up (ja_up h 0 7 ((h 0 7) + 1)) 0 7 (((h 0 7) + 1) + 1)) Q
          refine ja_if_ne 173 dtail_168 rfl ⟨by decide, by decide⟩ (fun c168 => ?_) (fun c168 => absurd c168 (by omega))
          refine ja_aload_n dtail_173 rfl rfl ?_
          refine ja_iconst dtail_174 ?_
          refine ja_iload_n dtail_175 rfl rfl ?_
          refine ja_iconst dtail_176 ?_
          refine t_want (by decide) (show (0 : Nat) ≤ 8 by decide) dtail_177 g4 ⟨by decide, by decide⟩ ⟨by omega, by omega⟩ ⟨by decide, by decide⟩ (show 0 ≤ 0 ∧ 0 ≤ 1 by omega) (show 0 ≤ ((h 0 7) + 1) ∧ ((h 0 7) + 1) ≤ 900 by omega) (show 0 ≤ 0 ∧ 0 ≤ 7 by omega) (show (h 0 68) < 900 by omega) ?_
          intro g5
          replace g5 : mo_G (ja_up (ja_up (ja_up (ja_up (ja_up (ja_up h 0 7 ((h 0 7) + 1)) 0 7 (((h 0 7) + 1) + 1)) 45 ((h 0 68).toNat) 0) 44 ((h 0 68).toNat) ((h 0 7) + 1)) 46 ((h 0 68).toNat) 0) 0 68 ((h 0 68) + 1)) := g5
          show mJ l D cA ad 4 cX12_tail 3 (some .boolean) 180 [(1, (0, ((h 0 7) + 1))), (0, (2, ((0 : Nat) : Int)))] [] (ja_up (ja_up (ja_up (ja_up (ja_up (ja_up h 0 7 ((h 0 7) + 1)) 0 7 (((h 0 7) + 1) + 1)) 45 ((h 0 68).toNat) 0) 44 ((h 0 68).toNat) ((h 0 7) + 1)) 46 ((h 0 68).toNat) 0) 0 68 ((h 0 68) + 1)) Q
          refine ja_aload_n dtail_180 rfl rfl ?_
          refine ja_iconst dtail_181 ?_
          have g6 := gP_form g5 (x := 0) ⟨by decide, by decide⟩
          refine fp_form dtail_182 ?_
          refine ja_aload_n dtail_185 rfl rfl ?_
          refine ja_bipush 8 dtail_186 rfl ?_
          refine ja_iload_n dtail_188 rfl rfl ?_
          refine ja_iconst dtail_189 ?_
          refine t_emit (by decide) (show (0 : Nat) ≤ 8 by decide) dtail_190 g6 ⟨by decide, by decide⟩ ⟨by omega, by omega⟩ ⟨by decide, by decide⟩ (show 0 ≤ 8 ∧ 8 ≤ 26 by omega) (show (h 0 113) < 5000 by omega) ?_
          intro g7
          replace g7 : mo_G (ja_up (ja_up (ja_up (ja_up (ja_up (ja_up (ja_up (ja_up (ja_up (ja_up (ja_up h 0 7 ((h 0 7) + 1)) 0 7 (((h 0 7) + 1) + 1)) 45 ((h 0 68).toNat) 0) 44 ((h 0 68).toNat) ((h 0 7) + 1)) 46 ((h 0 68).toNat) 0) 0 68 ((h 0 68) + 1)) 0 19 0) 74 ((h 0 113).toNat) 8) 75 ((h 0 113).toNat) ((h 0 7) + 1)) 76 ((h 0 113).toNat) 0) 0 113 ((h 0 113) + 1)) := g7
          show mJ l D cA ad 4 cX12_tail 3 (some .boolean) 193 [(1, (0, ((h 0 7) + 1))), (0, (2, ((0 : Nat) : Int)))] [(0, (h 0 113))] (ja_up (ja_up (ja_up (ja_up (ja_up (ja_up (ja_up (ja_up (ja_up (ja_up (ja_up h 0 7 ((h 0 7) + 1)) 0 7 (((h 0 7) + 1) + 1)) 45 ((h 0 68).toNat) 0) 44 ((h 0 68).toNat) ((h 0 7) + 1)) 46 ((h 0 68).toNat) 0) 0 68 ((h 0 68) + 1)) 0 19 0) 74 ((h 0 113).toNat) 8) 75 ((h 0 113).toNat) ((h 0 7) + 1)) 76 ((h 0 113).toNat) 0) 0 113 ((h 0 113) + 1)) Q
          refine ja_istore_n dtail_193 rfl (by decide) (L2 := [(2, (0, (h 0 113))), (1, (0, ((h 0 7) + 1))), (0, (2, ((0 : Nat) : Int)))]) rfl ?_
          refine ja_iconst dtail_194 ?_
          refine ja_zreturn dtail_195 rfl (by omega) ?_
          exact mo_fin (by omega) rfl (k1 (ja_up (ja_up (ja_up (ja_up (ja_up (ja_up (ja_up (ja_up (ja_up (ja_up (ja_up h 0 7 ((h 0 7) + 1)) 0 7 (((h 0 7) + 1) + 1)) 45 ((h 0 68).toNat) 0) 44 ((h 0 68).toNat) ((h 0 7) + 1)) 46 ((h 0 68).toNat) 0) 0 68 ((h 0 68) + 1)) 0 19 0) 74 ((h 0 113).toNat) 8) 75 ((h 0 113).toNat) ((h 0 7) + 1)) 76 ((h 0 113).toNat) 0) 0 113 ((h 0 113) + 1)) (ab_tail_is g p1 p2 (by omega)) g7)
        · intro h8 k165_1 g9
          replace k165_1 : 0 < (h8 0 8) ∧ (h8 0 1) = (h 0 1) ∧ (h8 0 118) = (h 0 118) ∧ (h8 0 127) = (h 0 127) := k165_1
          refine ja_if_ne 173 dtail_168 rfl ⟨by decide, by decide⟩ (fun c168 => absurd c168 (by omega)) (fun c168 => ?_)
          refine ja_iconst dtail_171 ?_
          refine ja_zreturn dtail_172 rfl (by omega) ?_
          exact mo_fin (by omega) rfl (k2 h8 (by omega) g9)
      · intro h10 k151_1 g11
        refine ja_if_ne 159 dtail_154 rfl ⟨by decide, by decide⟩ (fun c154 => absurd c154 (by omega)) (fun c154 => ?_)
        refine ja_iconst dtail_157 ?_
        refine ja_zreturn dtail_158 rfl (by omega) ?_
        exact mo_fin (by omega) rfl (k2 h10 (by omega) g11)
  · refine ja_aload_n dtail_7 rfl rfl ?_
    refine ja_bipush 46 dtail_8 rfl ?_
    refine t_isSign (by decide) (show (0 : Nat) ≤ 8 by decide) dtail_10 g ⟨by decide, by decide⟩ ?_
    intro w12 k10_0
    refine ja_if_eq 141 dtail_13 rfl ⟨by omega, by omega⟩ (fun c13 => ?_) (fun c13 => ?_)
    · refine ja_aload_n dtail_141 rfl rfl ?_
      refine ja_bipush 21 dtail_142 rfl ?_
      refine t_isWord (by decide) (show (0 : Nat) ≤ 8 by decide) dtail_144 g ⟨by decide, by decide⟩ ?_
      intro w13 k144_0
      refine ja_if_eq 194 dtail_147 rfl ⟨by omega, by omega⟩ (fun c147 => ?_) (fun c147 => ?_)
      · refine ja_iconst dtail_194 ?_
        refine ja_zreturn dtail_195 rfl (by omega) ?_
        exact mo_fin (by omega) rfl (k1 h (ab_tail_end g p1 p2) g)
      · refine ja_aload_n dtail_150 rfl rfl ?_
        refine t_take (by decide) (show (0 : Nat) ≤ 8 by decide) dtail_151 g  ?_ ?_
        · intro k151_0 g14
          replace k151_0 : (h 0 7) < 900 := k151_0
          replace g14 : mo_G (ja_up h 0 7 ((h 0 7) + 1)) := g14
          show mJ l D cA ad 4 cX12_tail 3 (some .boolean) 154 [(0, (2, ((0 : Nat) : Int)))] [(0, 1)] (ja_up h 0 7 ((h 0 7) + 1)) Q
          refine ja_if_ne 159 dtail_154 rfl ⟨by decide, by decide⟩ (fun c154 => ?_) (fun c154 => absurd c154 (by omega))
          refine ja_aload_n dtail_159 rfl rfl ?_
          refine fg_at (v := (h 0 7) + 1) rfl dtail_160 ?_
          refine ja_istore_n dtail_163 rfl (by decide) (L2 := [(1, (0, ((h 0 7) + 1))), (0, (2, ((0 : Nat) : Int)))]) rfl ?_
          refine ja_aload_n dtail_164 rfl rfl ?_
          refine t_name (by decide) (show (0 : Nat) ≤ 8 by decide) dtail_165 g14  ?_ ?_
          · intro k165_0 g15
            replace k165_0 : ((h 0 7) + 1) < 900 ∧ (h 2 ((h 0 7) + 1).toNat) = 2 := k165_0
            replace g15 : mo_G (ja_up (ja_up h 0 7 ((h 0 7) + 1)) 0 7 (((h 0 7) + 1) + 1)) := g15
            show mJ l D cA ad 4 cX12_tail 3 (some .boolean) 168 [(1, (0, ((h 0 7) + 1))), (0, (2, ((0 : Nat) : Int)))] [(0, 1)] (ja_up (ja_up h 0 7 ((h 0 7) + 1)) 0 7 (((h 0 7) + 1) + 1)) Q
            refine ja_if_ne 173 dtail_168 rfl ⟨by decide, by decide⟩ (fun c168 => ?_) (fun c168 => absurd c168 (by omega))
            refine ja_aload_n dtail_173 rfl rfl ?_
            refine ja_iconst dtail_174 ?_
            refine ja_iload_n dtail_175 rfl rfl ?_
            refine ja_iconst dtail_176 ?_
            refine t_want (by decide) (show (0 : Nat) ≤ 8 by decide) dtail_177 g15 ⟨by decide, by decide⟩ ⟨by omega, by omega⟩ ⟨by decide, by decide⟩ (show 0 ≤ 0 ∧ 0 ≤ 1 by omega) (show 0 ≤ ((h 0 7) + 1) ∧ ((h 0 7) + 1) ≤ 900 by omega) (show 0 ≤ 0 ∧ 0 ≤ 7 by omega) (show (h 0 68) < 900 by omega) ?_
            intro g16
            replace g16 : mo_G (ja_up (ja_up (ja_up (ja_up (ja_up (ja_up h 0 7 ((h 0 7) + 1)) 0 7 (((h 0 7) + 1) + 1)) 45 ((h 0 68).toNat) 0) 44 ((h 0 68).toNat) ((h 0 7) + 1)) 46 ((h 0 68).toNat) 0) 0 68 ((h 0 68) + 1)) := g16
            show mJ l D cA ad 4 cX12_tail 3 (some .boolean) 180 [(1, (0, ((h 0 7) + 1))), (0, (2, ((0 : Nat) : Int)))] [] (ja_up (ja_up (ja_up (ja_up (ja_up (ja_up h 0 7 ((h 0 7) + 1)) 0 7 (((h 0 7) + 1) + 1)) 45 ((h 0 68).toNat) 0) 44 ((h 0 68).toNat) ((h 0 7) + 1)) 46 ((h 0 68).toNat) 0) 0 68 ((h 0 68) + 1)) Q
            refine ja_aload_n dtail_180 rfl rfl ?_
            refine ja_iconst dtail_181 ?_
            have g17 := gP_form g16 (x := 0) ⟨by decide, by decide⟩
            refine fp_form dtail_182 ?_
            refine ja_aload_n dtail_185 rfl rfl ?_
            refine ja_bipush 8 dtail_186 rfl ?_
            refine ja_iload_n dtail_188 rfl rfl ?_
            refine ja_iconst dtail_189 ?_
            refine t_emit (by decide) (show (0 : Nat) ≤ 8 by decide) dtail_190 g17 ⟨by decide, by decide⟩ ⟨by omega, by omega⟩ ⟨by decide, by decide⟩ (show 0 ≤ 8 ∧ 8 ≤ 26 by omega) (show (h 0 113) < 5000 by omega) ?_
            intro g18
            replace g18 : mo_G (ja_up (ja_up (ja_up (ja_up (ja_up (ja_up (ja_up (ja_up (ja_up (ja_up (ja_up h 0 7 ((h 0 7) + 1)) 0 7 (((h 0 7) + 1) + 1)) 45 ((h 0 68).toNat) 0) 44 ((h 0 68).toNat) ((h 0 7) + 1)) 46 ((h 0 68).toNat) 0) 0 68 ((h 0 68) + 1)) 0 19 0) 74 ((h 0 113).toNat) 8) 75 ((h 0 113).toNat) ((h 0 7) + 1)) 76 ((h 0 113).toNat) 0) 0 113 ((h 0 113) + 1)) := g18
            show mJ l D cA ad 4 cX12_tail 3 (some .boolean) 193 [(1, (0, ((h 0 7) + 1))), (0, (2, ((0 : Nat) : Int)))] [(0, (h 0 113))] (ja_up (ja_up (ja_up (ja_up (ja_up (ja_up (ja_up (ja_up (ja_up (ja_up (ja_up h 0 7 ((h 0 7) + 1)) 0 7 (((h 0 7) + 1) + 1)) 45 ((h 0 68).toNat) 0) 44 ((h 0 68).toNat) ((h 0 7) + 1)) 46 ((h 0 68).toNat) 0) 0 68 ((h 0 68) + 1)) 0 19 0) 74 ((h 0 113).toNat) 8) 75 ((h 0 113).toNat) ((h 0 7) + 1)) 76 ((h 0 113).toNat) 0) 0 113 ((h 0 113) + 1)) Q
            refine ja_istore_n dtail_193 rfl (by decide) (L2 := [(2, (0, (h 0 113))), (1, (0, ((h 0 7) + 1))), (0, (2, ((0 : Nat) : Int)))]) rfl ?_
            refine ja_iconst dtail_194 ?_
            refine ja_zreturn dtail_195 rfl (by omega) ?_
            exact mo_fin (by omega) rfl (k1 (ja_up (ja_up (ja_up (ja_up (ja_up (ja_up (ja_up (ja_up (ja_up (ja_up (ja_up h 0 7 ((h 0 7) + 1)) 0 7 (((h 0 7) + 1) + 1)) 45 ((h 0 68).toNat) 0) 44 ((h 0 68).toNat) ((h 0 7) + 1)) 46 ((h 0 68).toNat) 0) 0 68 ((h 0 68) + 1)) 0 19 0) 74 ((h 0 113).toNat) 8) 75 ((h 0 113).toNat) ((h 0 7) + 1)) 76 ((h 0 113).toNat) 0) 0 113 ((h 0 113) + 1)) (ab_tail_is g p1 p2 (by omega)) g18)
          · intro h19 k165_1 g20
            replace k165_1 : 0 < (h19 0 8) ∧ (h19 0 1) = (h 0 1) ∧ (h19 0 118) = (h 0 118) ∧ (h19 0 127) = (h 0 127) := k165_1
            refine ja_if_ne 173 dtail_168 rfl ⟨by decide, by decide⟩ (fun c168 => absurd c168 (by omega)) (fun c168 => ?_)
            refine ja_iconst dtail_171 ?_
            refine ja_zreturn dtail_172 rfl (by omega) ?_
            exact mo_fin (by omega) rfl (k2 h19 (by omega) g20)
        · intro h21 k151_1 g22
          refine ja_if_ne 159 dtail_154 rfl ⟨by decide, by decide⟩ (fun c154 => absurd c154 (by omega)) (fun c154 => ?_)
          refine ja_iconst dtail_157 ?_
          refine ja_zreturn dtail_158 rfl (by omega) ?_
          exact mo_fin (by omega) rfl (k2 h21 (by omega) g22)
    · refine ja_aload_n dtail_16 rfl rfl ?_
      refine ja_iconst dtail_17 ?_
      refine t_newPoint (by decide) (show (0 : Nat) ≤ 8 by decide) dtail_18 g ⟨by decide, by decide⟩ (show 0 ≤ 3 ∧ 3 ≤ 5 by omega) ?_ ?_
      · intro w23 w24 k18_0 g25
        replace k18_0 : (h 0 88) < 400 ∧ (((h 0 74) = 3 ∧ w23 = 2) ∨ (¬ (h 0 74) = 3 ∧ w23 = (h 0 74))) ∧ (((h 0 74) = 0 ∧ w24 = 0) ∨ (¬ (h 0 74) = 0 ∧ w24 = (h 0 75))) := k18_0
        replace g25 : mo_G (ja_up (ja_up (ja_up (ja_up (ja_up (ja_up (ja_up h 52 ((h 0 88).toNat) 3) 53 ((h 0 88).toNat) (h 0 7)) 54 ((h 0 88).toNat) (-1)) 55 ((h 0 88).toNat) 0) 56 ((h 0 88).toNat) w23) 57 ((h 0 88).toNat) w24) 0 88 ((h 0 88) + 1)) := g25
        show mJ l D cA ad 4 cX12_tail 3 (some .boolean) 21 [(0, (2, ((0 : Nat) : Int)))] [(0, (h 0 88))] (ja_up (ja_up (ja_up (ja_up (ja_up (ja_up (ja_up h 52 ((h 0 88).toNat) 3) 53 ((h 0 88).toNat) (h 0 7)) 54 ((h 0 88).toNat) (-1)) 55 ((h 0 88).toNat) 0) 56 ((h 0 88).toNat) w23) 57 ((h 0 88).toNat) w24) 0 88 ((h 0 88) + 1)) Q
        refine ja_istore_n dtail_21 rfl (by decide) (L2 := [(1, (0, (h 0 88))), (0, (2, ((0 : Nat) : Int)))]) rfl ?_
        refine ja_iload_n dtail_22 rfl rfl ?_
        refine ja_if_lt 33 dtail_23 rfl ⟨by omega, by omega⟩ (fun c23 => ?_) (fun c23 => ?_)
        · refine ja_iconst dtail_33 ?_
          refine ja_zreturn dtail_34 rfl (by omega) ?_
          exact mo_fin (by omega) rfl (k2 (ja_up (ja_up (ja_up (ja_up (ja_up (ja_up (ja_up h 52 ((h 0 88).toNat) 3) 53 ((h 0 88).toNat) (h 0 7)) 54 ((h 0 88).toNat) (-1)) 55 ((h 0 88).toNat) 0) 56 ((h 0 88).toNat) w23) 57 ((h 0 88).toNat) w24) 0 88 ((h 0 88) + 1)) (by omega) g25)
        · refine ja_aload_n dtail_26 rfl rfl ?_
          refine t_take (by decide) (show (0 : Nat) ≤ 8 by decide) dtail_27 g25  ?_ ?_
          · intro k27_0 g26
            replace k27_0 : (h 0 7) < 900 := k27_0
            replace g26 : mo_G (ja_up (ja_up (ja_up (ja_up (ja_up (ja_up (ja_up (ja_up h 52 ((h 0 88).toNat) 3) 53 ((h 0 88).toNat) (h 0 7)) 54 ((h 0 88).toNat) (-1)) 55 ((h 0 88).toNat) 0) 56 ((h 0 88).toNat) w23) 57 ((h 0 88).toNat) w24) 0 88 ((h 0 88) + 1)) 0 7 ((h 0 7) + 1)) := g26
            show mJ l D cA ad 4 cX12_tail 3 (some .boolean) 30 [(1, (0, (h 0 88))), (0, (2, ((0 : Nat) : Int)))] [(0, 1)] (ja_up (ja_up (ja_up (ja_up (ja_up (ja_up (ja_up (ja_up h 52 ((h 0 88).toNat) 3) 53 ((h 0 88).toNat) (h 0 7)) 54 ((h 0 88).toNat) (-1)) 55 ((h 0 88).toNat) 0) 56 ((h 0 88).toNat) w23) 57 ((h 0 88).toNat) w24) 0 88 ((h 0 88) + 1)) 0 7 ((h 0 7) + 1)) Q
            refine ja_if_ne 35 dtail_30 rfl ⟨by decide, by decide⟩ (fun c30 => ?_) (fun c30 => absurd c30 (by omega))
            refine ja_aload_n dtail_35 rfl rfl ?_
            refine fa_pointName dtail_36 ?_
            refine ja_iload_n dtail_39 rfl rfl ?_
            refine ja_aload_n dtail_40 rfl rfl ?_
            refine fg_at (v := (h 0 7) + 1) rfl dtail_41 ?_
            have g27 := gW_pointName g26 (h 0 88).toNat (x := (h 0 7) + 1) ⟨by omega, by omega⟩
            refine is_pointName ⟨by omega, by omega⟩ dtail_44 ?_
            refine ja_aload_n dtail_45 rfl rfl ?_
            refine t_name (by decide) (show (0 : Nat) ≤ 8 by decide) dtail_46 g27  ?_ ?_
            · intro k46_0 g28
              replace k46_0 : ((h 0 7) + 1) < 900 ∧ (h 2 ((h 0 7) + 1).toNat) = 2 := k46_0
              replace g28 : mo_G (ja_up (ja_up (ja_up (ja_up (ja_up (ja_up (ja_up (ja_up (ja_up (ja_up h 52 ((h 0 88).toNat) 3) 53 ((h 0 88).toNat) (h 0 7)) 54 ((h 0 88).toNat) (-1)) 55 ((h 0 88).toNat) 0) 56 ((h 0 88).toNat) w23) 57 ((h 0 88).toNat) w24) 0 88 ((h 0 88) + 1)) 0 7 ((h 0 7) + 1)) 54 ((h 0 88).toNat) ((h 0 7) + 1)) 0 7 (((h 0 7) + 1) + 1)) := g28
              show mJ l D cA ad 4 cX12_tail 3 (some .boolean) 49 [(1, (0, (h 0 88))), (0, (2, ((0 : Nat) : Int)))] [(0, 1)] (ja_up (ja_up (ja_up (ja_up (ja_up (ja_up (ja_up (ja_up (ja_up (ja_up h 52 ((h 0 88).toNat) 3) 53 ((h 0 88).toNat) (h 0 7)) 54 ((h 0 88).toNat) (-1)) 55 ((h 0 88).toNat) 0) 56 ((h 0 88).toNat) w23) 57 ((h 0 88).toNat) w24) 0 88 ((h 0 88) + 1)) 0 7 ((h 0 7) + 1)) 54 ((h 0 88).toNat) ((h 0 7) + 1)) 0 7 (((h 0 7) + 1) + 1)) Q
              refine ja_if_ne 54 dtail_49 rfl ⟨by decide, by decide⟩ (fun c49 => ?_) (fun c49 => absurd c49 (by omega))
              refine ja_aload_n dtail_54 rfl rfl ?_
              refine ja_bipush 40 dtail_55 rfl ?_
              refine t_isSign (by decide) (show (0 : Nat) ≤ 8 by decide) dtail_57 g28 ⟨by decide, by decide⟩ ?_
              intro w29 k57_0
              replace k57_0 : (w29 = 1 ∧ (h 2 (((h 0 7) + 1) + 1).toNat) = 5 ∧ (h 5 (((h 0 7) + 1) + 1).toNat) = 40) ∨ (w29 = 0 ∧ ¬ ((h 2 (((h 0 7) + 1) + 1).toNat) = 5 ∧ (h 5 (((h 0 7) + 1) + 1).toNat) = 40)) := k57_0
              refine ja_if_eq 112 dtail_60 rfl ⟨by omega, by omega⟩ (fun c60 => ?_) (fun c60 => ?_)
              · refine ja_aload_n dtail_112 rfl rfl ?_
                refine ja_iconst dtail_113 ?_
                have g30 := gP_form g28 (x := 2) ⟨by decide, by decide⟩
                refine fp_form dtail_114 ?_
                refine ja_aload_n dtail_117 rfl rfl ?_
                refine ja_iload_n dtail_118 rfl rfl ?_
                have g31 := gP_formA g30 (x := h 0 88) ⟨by omega, by omega⟩
                refine fp_formA dtail_119 ?_
                refine ja_aload_n dtail_122 rfl rfl ?_
                refine ja_bipush 15 dtail_123 rfl ?_
                refine ja_iload_n dtail_125 rfl rfl ?_
                refine ja_iconst dtail_126 ?_
                refine t_emit (by decide) (show (0 : Nat) ≤ 8 by decide) dtail_127 g31 ⟨by decide, by decide⟩ ⟨by omega, by omega⟩ ⟨by decide, by decide⟩ (show 0 ≤ 15 ∧ 15 ≤ 26 by omega) (show (h 0 113) < 5000 by omega) ?_
                intro g32
                replace g32 : mo_G (ja_up (ja_up (ja_up (ja_up (ja_up (ja_up (ja_up (ja_up (ja_up (ja_up (ja_up (ja_up (ja_up (ja_up (ja_up (ja_up h 52 ((h 0 88).toNat) 3) 53 ((h 0 88).toNat) (h 0 7)) 54 ((h 0 88).toNat) (-1)) 55 ((h 0 88).toNat) 0) 56 ((h 0 88).toNat) w23) 57 ((h 0 88).toNat) w24) 0 88 ((h 0 88) + 1)) 0 7 ((h 0 7) + 1)) 54 ((h 0 88).toNat) ((h 0 7) + 1)) 0 7 (((h 0 7) + 1) + 1)) 0 19 2) 0 20 (h 0 88)) 74 ((h 0 113).toNat) 15) 75 ((h 0 113).toNat) (h 0 88)) 76 ((h 0 113).toNat) 0) 0 113 ((h 0 113) + 1)) := g32
                show mJ l D cA ad 4 cX12_tail 3 (some .boolean) 130 [(1, (0, (h 0 88))), (0, (2, ((0 : Nat) : Int)))] [(0, (h 0 113))] (ja_up (ja_up (ja_up (ja_up (ja_up (ja_up (ja_up (ja_up (ja_up (ja_up (ja_up (ja_up (ja_up (ja_up (ja_up (ja_up h 52 ((h 0 88).toNat) 3) 53 ((h 0 88).toNat) (h 0 7)) 54 ((h 0 88).toNat) (-1)) 55 ((h 0 88).toNat) 0) 56 ((h 0 88).toNat) w23) 57 ((h 0 88).toNat) w24) 0 88 ((h 0 88) + 1)) 0 7 ((h 0 7) + 1)) 54 ((h 0 88).toNat) ((h 0 7) + 1)) 0 7 (((h 0 7) + 1) + 1)) 0 19 2) 0 20 (h 0 88)) 74 ((h 0 113).toNat) 15) 75 ((h 0 113).toNat) (h 0 88)) 76 ((h 0 113).toNat) 0) 0 113 ((h 0 113) + 1)) Q
                refine ja_istore_n dtail_130 rfl (by decide) (L2 := [(2, (0, (h 0 113))), (1, (0, (h 0 88))), (0, (2, ((0 : Nat) : Int)))]) rfl ?_
                refine ja_aload_n dtail_131 rfl rfl ?_
                refine ja_bipush 7 dtail_132 rfl ?_
                refine ja_iconst dtail_134 ?_
                refine ja_iconst dtail_135 ?_
                refine ja_iconst dtail_136 ?_
                refine t_later (by decide) (show (0 : Nat) ≤ 8 by decide) dtail_137 g32 ⟨by decide, by decide⟩ ⟨by decide, by decide⟩ ⟨by decide, by decide⟩ ⟨by decide, by decide⟩ (show 0 ≤ 7 ∧ 7 ≤ 38 by omega) (show (h 0 17) < 2000 by omega) ?_
                intro g33
                replace g33 : mo_G (ja_up (ja_up (ja_up (ja_up (ja_up (ja_up (ja_up (ja_up (ja_up (ja_up (ja_up (ja_up (ja_up (ja_up (ja_up (ja_up (ja_up (ja_up (ja_up (ja_up (ja_up h 52 ((h 0 88).toNat) 3) 53 ((h 0 88).toNat) (h 0 7)) 54 ((h 0 88).toNat) (-1)) 55 ((h 0 88).toNat) 0) 56 ((h 0 88).toNat) w23) 57 ((h 0 88).toNat) w24) 0 88 ((h 0 88) + 1)) 0 7 ((h 0 7) + 1)) 54 ((h 0 88).toNat) ((h 0 7) + 1)) 0 7 (((h 0 7) + 1) + 1)) 0 19 2) 0 20 (h 0 88)) 74 ((h 0 113).toNat) 15) 75 ((h 0 113).toNat) (h 0 88)) 76 ((h 0 113).toNat) 0) 0 113 ((h 0 113) + 1)) 6 ((h 0 17).toNat) 7) 7 ((h 0 17).toNat) 0) 8 ((h 0 17).toNat) 0) 9 ((h 0 17).toNat) 0) 0 17 ((h 0 17) + 1)) := g33
                show mJ l D cA ad 4 cX12_tail 3 (some .boolean) 140 [(2, (0, (h 0 113))), (1, (0, (h 0 88))), (0, (2, ((0 : Nat) : Int)))] [(0, 1)] (ja_up (ja_up (ja_up (ja_up (ja_up (ja_up (ja_up (ja_up (ja_up (ja_up (ja_up (ja_up (ja_up (ja_up (ja_up (ja_up (ja_up (ja_up (ja_up (ja_up (ja_up h 52 ((h 0 88).toNat) 3) 53 ((h 0 88).toNat) (h 0 7)) 54 ((h 0 88).toNat) (-1)) 55 ((h 0 88).toNat) 0) 56 ((h 0 88).toNat) w23) 57 ((h 0 88).toNat) w24) 0 88 ((h 0 88) + 1)) 0 7 ((h 0 7) + 1)) 54 ((h 0 88).toNat) ((h 0 7) + 1)) 0 7 (((h 0 7) + 1) + 1)) 0 19 2) 0 20 (h 0 88)) 74 ((h 0 113).toNat) 15) 75 ((h 0 113).toNat) (h 0 88)) 76 ((h 0 113).toNat) 0) 0 113 ((h 0 113) + 1)) 6 ((h 0 17).toNat) 7) 7 ((h 0 17).toNat) 0) 8 ((h 0 17).toNat) 0) 9 ((h 0 17).toNat) 0) 0 17 ((h 0 17) + 1)) Q
                refine ja_zreturn dtail_140 rfl (by omega) ?_
                exact mo_fin (by omega) rfl (k1 (ja_up (ja_up (ja_up (ja_up (ja_up (ja_up (ja_up (ja_up (ja_up (ja_up (ja_up (ja_up (ja_up (ja_up (ja_up (ja_up (ja_up (ja_up (ja_up (ja_up (ja_up h 52 ((h 0 88).toNat) 3) 53 ((h 0 88).toNat) (h 0 7)) 54 ((h 0 88).toNat) (-1)) 55 ((h 0 88).toNat) 0) 56 ((h 0 88).toNat) w23) 57 ((h 0 88).toNat) w24) 0 88 ((h 0 88) + 1)) 0 7 ((h 0 7) + 1)) 54 ((h 0 88).toNat) ((h 0 7) + 1)) 0 7 (((h 0 7) + 1) + 1)) 0 19 2) 0 20 (h 0 88)) 74 ((h 0 113).toNat) 15) 75 ((h 0 113).toNat) (h 0 88)) 76 ((h 0 113).toNat) 0) 0 113 ((h 0 113) + 1)) 6 ((h 0 17).toNat) 7) 7 ((h 0 17).toNat) 0) 8 ((h 0 17).toNat) 0) 9 ((h 0 17).toNat) 0) 0 17 ((h 0 17) + 1)) (ab_field (sd := w23) (wh := w24) g p1 p2 (by omega) (by omega) (by omega) (by omega) (by omega) (by omega) (by omega)) g33)
              · refine ja_aload_n dtail_63 rfl rfl ?_
                refine fa_pointKind dtail_64 ?_
                refine ja_iload_n dtail_67 rfl rfl ?_
                refine ja_iconst dtail_68 ?_
                have g34 := gW_pointKind g28 (h 0 88).toNat (x := 0) ⟨by decide, by decide⟩
                refine is_pointKind ⟨by omega, by omega⟩ dtail_69 ?_
                refine ja_aload_n dtail_70 rfl rfl ?_
                refine ja_bipush 7 dtail_71 rfl ?_
                refine ja_iconst dtail_73 ?_
                refine ja_iconst dtail_74 ?_
                refine ja_iconst dtail_75 ?_
                refine t_later (by decide) (show (0 : Nat) ≤ 8 by decide) dtail_76 g34 ⟨by decide, by decide⟩ ⟨by decide, by decide⟩ ⟨by decide, by decide⟩ ⟨by decide, by decide⟩ (show 0 ≤ 7 ∧ 7 ≤ 38 by omega) (show (h 0 17) < 2000 by omega) ?_
                intro g35
                replace g35 : mo_G (ja_up (ja_up (ja_up (ja_up (ja_up (ja_up (ja_up (ja_up (ja_up (ja_up (ja_up (ja_up (ja_up (ja_up (ja_up (ja_up h 52 ((h 0 88).toNat) 3) 53 ((h 0 88).toNat) (h 0 7)) 54 ((h 0 88).toNat) (-1)) 55 ((h 0 88).toNat) 0) 56 ((h 0 88).toNat) w23) 57 ((h 0 88).toNat) w24) 0 88 ((h 0 88) + 1)) 0 7 ((h 0 7) + 1)) 54 ((h 0 88).toNat) ((h 0 7) + 1)) 0 7 (((h 0 7) + 1) + 1)) 52 ((h 0 88).toNat) 0) 6 ((h 0 17).toNat) 7) 7 ((h 0 17).toNat) 0) 8 ((h 0 17).toNat) 0) 9 ((h 0 17).toNat) 0) 0 17 ((h 0 17) + 1)) := g35
                show mJ l D cA ad 4 cX12_tail 3 (some .boolean) 79 [(1, (0, (h 0 88))), (0, (2, ((0 : Nat) : Int)))] [(0, 1)] (ja_up (ja_up (ja_up (ja_up (ja_up (ja_up (ja_up (ja_up (ja_up (ja_up (ja_up (ja_up (ja_up (ja_up (ja_up (ja_up h 52 ((h 0 88).toNat) 3) 53 ((h 0 88).toNat) (h 0 7)) 54 ((h 0 88).toNat) (-1)) 55 ((h 0 88).toNat) 0) 56 ((h 0 88).toNat) w23) 57 ((h 0 88).toNat) w24) 0 88 ((h 0 88) + 1)) 0 7 ((h 0 7) + 1)) 54 ((h 0 88).toNat) ((h 0 7) + 1)) 0 7 (((h 0 7) + 1) + 1)) 52 ((h 0 88).toNat) 0) 6 ((h 0 17).toNat) 7) 7 ((h 0 17).toNat) 0) 8 ((h 0 17).toNat) 0) 9 ((h 0 17).toNat) 0) 0 17 ((h 0 17) + 1)) Q
                refine ja_if_eq 110 dtail_79 rfl ⟨by decide, by decide⟩ (fun c79 => absurd c79 (by omega)) (fun c79 => ?_)
                refine ja_aload_n dtail_82 rfl rfl ?_
                refine ja_bipush 10 dtail_83 rfl ?_
                refine ja_iload_n dtail_85 rfl rfl ?_
                refine ja_iconst dtail_86 ?_
                refine ja_iconst dtail_87 ?_
                refine t_later (by decide) (show (0 : Nat) ≤ 8 by decide) dtail_88 g35 ⟨by decide, by decide⟩ ⟨by omega, by omega⟩ ⟨by decide, by decide⟩ ⟨by decide, by decide⟩ (show 0 ≤ 10 ∧ 10 ≤ 38 by omega) (show ((h 0 17) + 1) < 2000 by omega) ?_
                intro g36
                replace g36 : mo_G (ja_up (ja_up (ja_up (ja_up (ja_up (ja_up (ja_up (ja_up (ja_up (ja_up (ja_up (ja_up (ja_up (ja_up (ja_up (ja_up (ja_up (ja_up (ja_up (ja_up (ja_up h 52 ((h 0 88).toNat) 3) 53 ((h 0 88).toNat) (h 0 7)) 54 ((h 0 88).toNat) (-1)) 55 ((h 0 88).toNat) 0) 56 ((h 0 88).toNat) w23) 57 ((h 0 88).toNat) w24) 0 88 ((h 0 88) + 1)) 0 7 ((h 0 7) + 1)) 54 ((h 0 88).toNat) ((h 0 7) + 1)) 0 7 (((h 0 7) + 1) + 1)) 52 ((h 0 88).toNat) 0) 6 ((h 0 17).toNat) 7) 7 ((h 0 17).toNat) 0) 8 ((h 0 17).toNat) 0) 9 ((h 0 17).toNat) 0) 0 17 ((h 0 17) + 1)) 6 (((h 0 17) + 1).toNat) 10) 7 (((h 0 17) + 1).toNat) (h 0 88)) 8 (((h 0 17) + 1).toNat) 0) 9 (((h 0 17) + 1).toNat) 0) 0 17 (((h 0 17) + 1) + 1)) := g36
                show mJ l D cA ad 4 cX12_tail 3 (some .boolean) 91 [(1, (0, (h 0 88))), (0, (2, ((0 : Nat) : Int)))] [(0, 1)] (ja_up (ja_up (ja_up (ja_up (ja_up (ja_up (ja_up (ja_up (ja_up (ja_up (ja_up (ja_up (ja_up (ja_up (ja_up (ja_up (ja_up (ja_up (ja_up (ja_up (ja_up h 52 ((h 0 88).toNat) 3) 53 ((h 0 88).toNat) (h 0 7)) 54 ((h 0 88).toNat) (-1)) 55 ((h 0 88).toNat) 0) 56 ((h 0 88).toNat) w23) 57 ((h 0 88).toNat) w24) 0 88 ((h 0 88) + 1)) 0 7 ((h 0 7) + 1)) 54 ((h 0 88).toNat) ((h 0 7) + 1)) 0 7 (((h 0 7) + 1) + 1)) 52 ((h 0 88).toNat) 0) 6 ((h 0 17).toNat) 7) 7 ((h 0 17).toNat) 0) 8 ((h 0 17).toNat) 0) 9 ((h 0 17).toNat) 0) 0 17 ((h 0 17) + 1)) 6 (((h 0 17) + 1).toNat) 10) 7 (((h 0 17) + 1).toNat) (h 0 88)) 8 (((h 0 17) + 1).toNat) 0) 9 (((h 0 17) + 1).toNat) 0) 0 17 (((h 0 17) + 1) + 1)) Q
                refine ja_if_eq 110 dtail_91 rfl ⟨by decide, by decide⟩ (fun c91 => absurd c91 (by omega)) (fun c91 => ?_)
                refine ja_aload_n dtail_94 rfl rfl ?_
                refine ja_bipush 8 dtail_95 rfl ?_
                refine ja_iconst dtail_97 ?_
                refine ja_iconst dtail_98 ?_
                refine ja_iconst dtail_99 ?_
                refine t_later (by decide) (show (0 : Nat) ≤ 8 by decide) dtail_100 g36 ⟨by decide, by decide⟩ ⟨by decide, by decide⟩ ⟨by decide, by decide⟩ ⟨by decide, by decide⟩ (show 0 ≤ 8 ∧ 8 ≤ 38 by omega) (show (((h 0 17) + 1) + 1) < 2000 by omega) ?_
                intro g37
                replace g37 : mo_G (ja_up (ja_up (ja_up (ja_up (ja_up (ja_up (ja_up (ja_up (ja_up (ja_up (ja_up (ja_up (ja_up (ja_up (ja_up (ja_up (ja_up (ja_up (ja_up (ja_up (ja_up (ja_up (ja_up (ja_up (ja_up (ja_up h 52 ((h 0 88).toNat) 3) 53 ((h 0 88).toNat) (h 0 7)) 54 ((h 0 88).toNat) (-1)) 55 ((h 0 88).toNat) 0) 56 ((h 0 88).toNat) w23) 57 ((h 0 88).toNat) w24) 0 88 ((h 0 88) + 1)) 0 7 ((h 0 7) + 1)) 54 ((h 0 88).toNat) ((h 0 7) + 1)) 0 7 (((h 0 7) + 1) + 1)) 52 ((h 0 88).toNat) 0) 6 ((h 0 17).toNat) 7) 7 ((h 0 17).toNat) 0) 8 ((h 0 17).toNat) 0) 9 ((h 0 17).toNat) 0) 0 17 ((h 0 17) + 1)) 6 (((h 0 17) + 1).toNat) 10) 7 (((h 0 17) + 1).toNat) (h 0 88)) 8 (((h 0 17) + 1).toNat) 0) 9 (((h 0 17) + 1).toNat) 0) 0 17 (((h 0 17) + 1) + 1)) 6 ((((h 0 17) + 1) + 1).toNat) 8) 7 ((((h 0 17) + 1) + 1).toNat) 0) 8 ((((h 0 17) + 1) + 1).toNat) 0) 9 ((((h 0 17) + 1) + 1).toNat) 0) 0 17 ((((h 0 17) + 1) + 1) + 1)) := g37
                show mJ l D cA ad 4 cX12_tail 3 (some .boolean) 103 [(1, (0, (h 0 88))), (0, (2, ((0 : Nat) : Int)))] [(0, 1)] (ja_up (ja_up (ja_up (ja_up (ja_up (ja_up (ja_up (ja_up (ja_up (ja_up (ja_up (ja_up (ja_up (ja_up (ja_up (ja_up (ja_up (ja_up (ja_up (ja_up (ja_up (ja_up (ja_up (ja_up (ja_up (ja_up h 52 ((h 0 88).toNat) 3) 53 ((h 0 88).toNat) (h 0 7)) 54 ((h 0 88).toNat) (-1)) 55 ((h 0 88).toNat) 0) 56 ((h 0 88).toNat) w23) 57 ((h 0 88).toNat) w24) 0 88 ((h 0 88) + 1)) 0 7 ((h 0 7) + 1)) 54 ((h 0 88).toNat) ((h 0 7) + 1)) 0 7 (((h 0 7) + 1) + 1)) 52 ((h 0 88).toNat) 0) 6 ((h 0 17).toNat) 7) 7 ((h 0 17).toNat) 0) 8 ((h 0 17).toNat) 0) 9 ((h 0 17).toNat) 0) 0 17 ((h 0 17) + 1)) 6 (((h 0 17) + 1).toNat) 10) 7 (((h 0 17) + 1).toNat) (h 0 88)) 8 (((h 0 17) + 1).toNat) 0) 9 (((h 0 17) + 1).toNat) 0) 0 17 (((h 0 17) + 1) + 1)) 6 ((((h 0 17) + 1) + 1).toNat) 8) 7 ((((h 0 17) + 1) + 1).toNat) 0) 8 ((((h 0 17) + 1) + 1).toNat) 0) 9 ((((h 0 17) + 1) + 1).toNat) 0) 0 17 ((((h 0 17) + 1) + 1) + 1)) Q
                refine ja_if_eq 110 dtail_103 rfl ⟨by decide, by decide⟩ (fun c103 => absurd c103 (by omega)) (fun c103 => ?_)
                refine ja_iconst dtail_106 ?_
                refine ja_goto 111 dtail_107 rfl ?_
                refine ja_zreturn dtail_111 rfl (by omega) ?_
                exact mo_fin (by omega) rfl (k1 (ja_up (ja_up (ja_up (ja_up (ja_up (ja_up (ja_up (ja_up (ja_up (ja_up (ja_up (ja_up (ja_up (ja_up (ja_up (ja_up (ja_up (ja_up (ja_up (ja_up (ja_up (ja_up (ja_up (ja_up (ja_up (ja_up h 52 ((h 0 88).toNat) 3) 53 ((h 0 88).toNat) (h 0 7)) 54 ((h 0 88).toNat) (-1)) 55 ((h 0 88).toNat) 0) 56 ((h 0 88).toNat) w23) 57 ((h 0 88).toNat) w24) 0 88 ((h 0 88) + 1)) 0 7 ((h 0 7) + 1)) 54 ((h 0 88).toNat) ((h 0 7) + 1)) 0 7 (((h 0 7) + 1) + 1)) 52 ((h 0 88).toNat) 0) 6 ((h 0 17).toNat) 7) 7 ((h 0 17).toNat) 0) 8 ((h 0 17).toNat) 0) 9 ((h 0 17).toNat) 0) 0 17 ((h 0 17) + 1)) 6 (((h 0 17) + 1).toNat) 10) 7 (((h 0 17) + 1).toNat) (h 0 88)) 8 (((h 0 17) + 1).toNat) 0) 9 (((h 0 17) + 1).toNat) 0) 0 17 (((h 0 17) + 1) + 1)) 6 ((((h 0 17) + 1) + 1).toNat) 8) 7 ((((h 0 17) + 1) + 1).toNat) 0) 8 ((((h 0 17) + 1) + 1).toNat) 0) 9 ((((h 0 17) + 1) + 1).toNat) 0) 0 17 ((((h 0 17) + 1) + 1) + 1)) (ab_call (sd := w23) (wh := w24) g p1 p2 (by omega) (by omega)) g37)
            · intro h38 k46_1 g39
              replace k46_1 : 0 < (h38 0 8) ∧ (h38 0 1) = (h 0 1) ∧ (h38 0 118) = (h 0 118) ∧ (h38 0 127) = (h 0 127) := k46_1
              refine ja_if_ne 54 dtail_49 rfl ⟨by decide, by decide⟩ (fun c49 => absurd c49 (by omega)) (fun c49 => ?_)
              refine ja_iconst dtail_52 ?_
              refine ja_zreturn dtail_53 rfl (by omega) ?_
              exact mo_fin (by omega) rfl (k2 h38 (by omega) g39)
          · intro h40 k27_1 g41
            replace k27_1 : 0 < (h40 0 8) ∧ (h40 0 1) = (h 0 1) ∧ (h40 0 118) = (h 0 118) ∧ (h40 0 127) = (h 0 127) := k27_1
            refine ja_if_ne 35 dtail_30 rfl ⟨by decide, by decide⟩ (fun c30 => absurd c30 (by omega)) (fun c30 => ?_)
            refine ja_iconst dtail_33 ?_
            refine ja_zreturn dtail_34 rfl (by omega) ?_
            exact mo_fin (by omega) rfl (k2 h40 (by omega) g41)
      · intro h42 k18_1 g43
        refine ja_istore_n dtail_21 rfl (by decide) (L2 := [(1, (0, (-1))), (0, (2, ((0 : Nat) : Int)))]) rfl ?_
        refine ja_iload_n dtail_22 rfl rfl ?_
        refine ja_if_lt 33 dtail_23 rfl ⟨by decide, by decide⟩ (fun c23 => ?_) (fun c23 => absurd c23 (by omega))
        refine ja_iconst dtail_33 ?_
        refine ja_zreturn dtail_34 rfl (by omega) ?_
        exact mo_fin (by omega) rfl (k2 h42 (by omega) g43)
theorem t_tail {R r ph tf q0 a b : Int} {s : List mo_A} {ht st rg : Nat → Int} {tu : Int} {d nL pc : Nat} {cc : ByteArray} {rt : Option FieldType} {L : List (Nat × ja_V)} {S : List ja_V} {h : ja_H} {Q : Option ja_V → ja_H → Prop} (hdd : 4 < d) (hwd : ja_wd S ≤ 8) (hd : decode cc pc = .ok (.invokevirtual 853, 3)) (g : mo_G h) (p1 : pk_S h (h 0 17).toNat s) (p2 : piB h R r ph tf q0 ((7, a, b) :: s) ht st rg tu) (p3 : (h 0 74) ≤ 1 ∨ (h 0 75) ≤ 24) (k1 : ∀ (h' : ja_H), (pi_done h h' R r ph tf q0 (pi_mu h ((7, a, b) :: s))) → mo_G h' → mJ l D cA ad d cc nL rt (pc + 3) L ((0, 1) :: S) h' Q) (k2 : ∀ (h' : ja_H), (0 < (h' 0 8) ∧ (h' 0 1) = (h 0 1) ∧ (h' 0 118) = (h 0 118) ∧ (h' 0 127) = (h 0 127)) → mo_G h' → mJ l D cA ad d cc nL rt (pc + 3) L ((0, 0) :: S) h' Q) : mJ l D cA ad d cc nL rt pc L ((2, ((0 : Nat) : Int)) :: S) h Q :=
  mc_tail hdd hwd hd (s_tail g p1 p2 p3 k1 k2)
end
theorem dtried_0 : decode cX12_tried 0 = .ok (.aload_n 0, 1) := by decide +kernel
theorem dtried_1 : decode cX12_tried 1 = .ok (.bipush 9, 2) := by decide +kernel
theorem dtried_3 : decode cX12_tried 3 = .ok (.invokevirtual 596, 3) := by decide +kernel
theorem dtried_6 : decode cX12_tried 6 = .ok (.ifCond .ne 8, 3) := by decide +kernel
theorem dtried_9 : decode cX12_tried 9 = .ok (.aload_n 0, 1) := by decide +kernel
theorem dtried_10 : decode cX12_tried 10 = .ok (.invokevirtual 593, 3) := by decide +kernel
theorem dtried_13 : decode cX12_tried 13 = .ok (.ireturn, 1) := by decide +kernel
theorem dtried_14 : decode cX12_tried 14 = .ok (.aload_n 0, 1) := by decide +kernel
theorem dtried_15 : decode cX12_tried 15 = .ok (.iconst 5, 1) := by decide +kernel
theorem dtried_16 : decode cX12_tried 16 = .ok (.invokevirtual 751, 3) := by decide +kernel
theorem dtried_19 : decode cX12_tried 19 = .ok (.istore_n 2, 1) := by decide +kernel
theorem dtried_20 : decode cX12_tried 20 = .ok (.iload_n 2, 1) := by decide +kernel
theorem dtried_21 : decode cX12_tried 21 = .ok (.ifCond .ge 5, 3) := by decide +kernel
theorem dtried_24 : decode cX12_tried 24 = .ok (.iconst 0, 1) := by decide +kernel
theorem dtried_25 : decode cX12_tried 25 = .ok (.ireturn, 1) := by decide +kernel
theorem dtried_26 : decode cX12_tried 26 = .ok (.aload_n 0, 1) := by decide +kernel
theorem dtried_27 : decode cX12_tried 27 = .ok (.getfield 173, 3) := by decide +kernel
theorem dtried_30 : decode cX12_tried 30 = .ok (.iload_n 2, 1) := by decide +kernel
theorem dtried_31 : decode cX12_tried 31 = .ok (.iconst 1, 1) := by decide +kernel
theorem dtried_32 : decode cX12_tried 32 = .ok (.iastore, 1) := by decide +kernel
theorem dtried_33 : decode cX12_tried 33 = .ok (.aload_n 0, 1) := by decide +kernel
theorem dtried_34 : decode cX12_tried 34 = .ok (.bipush 24, 2) := by decide +kernel
theorem dtried_36 : decode cX12_tried 36 = .ok (.iconst 0, 1) := by decide +kernel
theorem dtried_37 : decode cX12_tried 37 = .ok (.iconst 0, 1) := by decide +kernel
theorem dtried_38 : decode cX12_tried 38 = .ok (.invokevirtual 732, 3) := by decide +kernel
theorem dtried_41 : decode cX12_tried 41 = .ok (.istore_n 3, 1) := by decide +kernel
theorem dtried_42 : decode cX12_tried 42 = .ok (.aload_n 0, 1) := by decide +kernel
theorem dtried_43 : decode cX12_tried 43 = .ok (.getfield 234, 3) := by decide +kernel
theorem dtried_46 : decode cX12_tried 46 = .ok (.iload_n 1, 1) := by decide +kernel
theorem dtried_47 : decode cX12_tried 47 = .ok (.aload_n 0, 1) := by decide +kernel
theorem dtried_48 : decode cX12_tried 48 = .ok (.getfield 611, 3) := by decide +kernel
theorem dtried_51 : decode cX12_tried 51 = .ok (.iastore, 1) := by decide +kernel
theorem dtried_52 : decode cX12_tried 52 = .ok (.aload_n 0, 1) := by decide +kernel
theorem dtried_53 : decode cX12_tried 53 = .ok (.invokevirtual 589, 3) := by decide +kernel
theorem dtried_56 : decode cX12_tried 56 = .ok (.ifCond .ne 5, 3) := by decide +kernel
theorem dtried_59 : decode cX12_tried 59 = .ok (.iconst 0, 1) := by decide +kernel
theorem dtried_60 : decode cX12_tried 60 = .ok (.ireturn, 1) := by decide +kernel
theorem dtried_61 : decode cX12_tried 61 = .ok (.aload_n 0, 1) := by decide +kernel
theorem dtried_62 : decode cX12_tried 62 = .ok (.invokevirtual 599, 3) := by decide +kernel
theorem dtried_65 : decode cX12_tried 65 = .ok (.ifCond .eq 18, 3) := by decide +kernel
theorem dtried_68 : decode cX12_tried 68 = .ok (.aload_n 0, 1) := by decide +kernel
theorem dtried_69 : decode cX12_tried 69 = .ok (.getfield 710, 3) := by decide +kernel
theorem dtried_72 : decode cX12_tried 72 = .ok (.bipush 10, 2) := by decide +kernel
theorem dtried_74 : decode cX12_tried 74 = .ok (.if_icmp .ne 9, 3) := by decide +kernel
theorem dtried_77 : decode cX12_tried 77 = .ok (.aload_n 0, 1) := by decide +kernel
theorem dtried_78 : decode cX12_tried 78 = .ok (.iconst 3, 1) := by decide +kernel
theorem dtried_79 : decode cX12_tried 79 = .ok (.invokevirtual 583, 3) := by decide +kernel
theorem dtried_82 : decode cX12_tried 82 = .ok (.ireturn, 1) := by decide +kernel
theorem dtried_83 : decode cX12_tried 83 = .ok (.aload_n 0, 1) := by decide +kernel
theorem dtried_84 : decode cX12_tried 84 = .ok (.getfield 574, 3) := by decide +kernel
theorem dtried_87 : decode cX12_tried 87 = .ok (.istore 4, 2) := by decide +kernel
theorem dtried_89 : decode cX12_tried 89 = .ok (.aload_n 0, 1) := by decide +kernel
theorem dtried_90 : decode cX12_tried 90 = .ok (.invokevirtual 739, 3) := by decide +kernel
theorem dtried_93 : decode cX12_tried 93 = .ok (.ifCond .ne 5, 3) := by decide +kernel
theorem dtried_96 : decode cX12_tried 96 = .ok (.iconst 0, 1) := by decide +kernel
theorem dtried_97 : decode cX12_tried 97 = .ok (.ireturn, 1) := by decide +kernel
theorem dtried_98 : decode cX12_tried 98 = .ok (.aload_n 0, 1) := by decide +kernel
theorem dtried_99 : decode cX12_tried 99 = .ok (.getfield 713, 3) := by decide +kernel
theorem dtried_102 : decode cX12_tried 102 = .ok (.istore 5, 2) := by decide +kernel
theorem dtried_104 : decode cX12_tried 104 = .ok (.aload_n 0, 1) := by decide +kernel
theorem dtried_105 : decode cX12_tried 105 = .ok (.iload 4, 2) := by decide +kernel
theorem dtried_107 : decode cX12_tried 107 = .ok (.invokevirtual 820, 3) := by decide +kernel
theorem dtried_110 : decode cX12_tried 110 = .ok (.aload_n 0, 1) := by decide +kernel
theorem dtried_111 : decode cX12_tried 111 = .ok (.bipush 15, 2) := by decide +kernel
theorem dtried_113 : decode cX12_tried 113 = .ok (.iload_n 2, 1) := by decide +kernel
theorem dtried_114 : decode cX12_tried 114 = .ok (.iconst 0, 1) := by decide +kernel
theorem dtried_115 : decode cX12_tried 115 = .ok (.invokevirtual 732, 3) := by decide +kernel
theorem dtried_118 : decode cX12_tried 118 = .ok (.istore 6, 2) := by decide +kernel
theorem dtried_120 : decode cX12_tried 120 = .ok (.aload_n 0, 1) := by decide +kernel
theorem dtried_121 : decode cX12_tried 121 = .ok (.iconst 5, 1) := by decide +kernel
theorem dtried_122 : decode cX12_tried 122 = .ok (.aload_n 0, 1) := by decide +kernel
theorem dtried_123 : decode cX12_tried 123 = .ok (.getfield 710, 3) := by decide +kernel
theorem dtried_126 : decode cX12_tried 126 = .ok (.iconst 1, 1) := by decide +kernel
theorem dtried_127 : decode cX12_tried 127 = .ok (.isub, 1) := by decide +kernel
theorem dtried_128 : decode cX12_tried 128 = .ok (.iconst 0, 1) := by decide +kernel
theorem dtried_129 : decode cX12_tried 129 = .ok (.invokevirtual 732, 3) := by decide +kernel
theorem dtried_132 : decode cX12_tried 132 = .ok (.istore 7, 2) := by decide +kernel
theorem dtried_134 : decode cX12_tried 134 = .ok (.aload_n 0, 1) := by decide +kernel
theorem dtried_135 : decode cX12_tried 135 = .ok (.bipush 22, 2) := by decide +kernel
theorem dtried_137 : decode cX12_tried 137 = .ok (.iload_n 3, 1) := by decide +kernel
theorem dtried_138 : decode cX12_tried 138 = .ok (.iconst 0, 1) := by decide +kernel
theorem dtried_139 : decode cX12_tried 139 = .ok (.iconst 0, 1) := by decide +kernel
theorem dtried_140 : decode cX12_tried 140 = .ok (.invokevirtual 790, 3) := by decide +kernel
theorem dtried_143 : decode cX12_tried 143 = .ok (.ifCond .eq 32, 3) := by decide +kernel
theorem dtried_146 : decode cX12_tried 146 = .ok (.aload_n 0, 1) := by decide +kernel
theorem dtried_147 : decode cX12_tried 147 = .ok (.bipush 16, 2) := by decide +kernel
theorem dtried_149 : decode cX12_tried 149 = .ok (.iload 5, 2) := by decide +kernel
theorem dtried_151 : decode cX12_tried 151 = .ok (.iconst 0, 1) := by decide +kernel
theorem dtried_152 : decode cX12_tried 152 = .ok (.iconst 0, 1) := by decide +kernel
theorem dtried_153 : decode cX12_tried 153 = .ok (.invokevirtual 790, 3) := by decide +kernel
theorem dtried_156 : decode cX12_tried 156 = .ok (.ifCond .eq 19, 3) := by decide +kernel
theorem dtried_159 : decode cX12_tried 159 = .ok (.aload_n 0, 1) := by decide +kernel
theorem dtried_160 : decode cX12_tried 160 = .ok (.bipush 14, 2) := by decide +kernel
theorem dtried_162 : decode cX12_tried 162 = .ok (.iconst 0, 1) := by decide +kernel
theorem dtried_163 : decode cX12_tried 163 = .ok (.iconst 0, 1) := by decide +kernel
theorem dtried_164 : decode cX12_tried 164 = .ok (.iconst 0, 1) := by decide +kernel
theorem dtried_165 : decode cX12_tried 165 = .ok (.invokevirtual 790, 3) := by decide +kernel
theorem dtried_168 : decode cX12_tried 168 = .ok (.ifCond .eq 7, 3) := by decide +kernel
theorem dtried_171 : decode cX12_tried 171 = .ok (.iconst 1, 1) := by decide +kernel
theorem dtried_172 : decode cX12_tried 172 = .ok (.goto 4, 3) := by decide +kernel
theorem dtried_175 : decode cX12_tried 175 = .ok (.iconst 0, 1) := by decide +kernel
theorem dtried_176 : decode cX12_tried 176 = .ok (.ireturn, 1) := by decide +kernel
section
variable {l : Launch} {D : va_G} {cA : Nat → ClassId} {ad : Nat → Nat}
theorem s_tried {a1 : Int} {R r ph tf q0 b : Int} {s : List mo_A} {ht st rg : Nat → Int} {tu : Int} {h : ja_H} {Q : Option ja_V → ja_H → Prop} (g : mo_G h) (r1 : -2147483648 ≤ a1 ∧ a1 ≤ 2147483647) (p1 : pk_S h (h 0 17).toNat s) (p2 : piB h R r ph tf q0 ((28, a1, b) :: s) ht st rg tu) (p3 : (h 0 74) ≤ 1 ∨ (h 0 75) ≤ 24) (k1 : ∀ (h' : ja_H), (pi_done h h' R r ph tf q0 (pi_mu h ((28, a1, b) :: s))) → mo_G h' → Q (some (0, 1)) h') (k2 : ∀ (h' : ja_H), (0 < (h' 0 8) ∧ (h' 0 1) = (h 0 1) ∧ (h' 0 118) = (h 0 118) ∧ (h' 0 127) = (h 0 127)) → mo_G h' → Q (some (0, 0)) h') : mM_tried l D cA ad a1 h Q := by
  show mJ l D cA ad 4 cX12_tried 8 (some .boolean) 0 [(0, (2, ((0 : Nat) : Int))), (1, (0, a1))] [] h Q
  have kn_at := gF_at g
  have kn_wTop := gF_wTop g
  have kn_words := gF_words g
  have kn_nest := gF_nest g
  have kn_body := gF_body g
  have kn_bodyNumber := gF_bodyNumber g
  have kn_points := gF_points g
  have kn_locals := gF_locals g
  have kn_known := gF_known g
  have kn_false1 := gF_false1 g
  have hN := piB_num g p1 p2
  obtain ⟨N1, N2, N3, N4, N5, N6, N7, N8, N9, N10, N11, N12, N13, ⟨NK1, NK2⟩, ND1, ND2, ND3, NU1, NU2⟩ := hN
  have hll := bs_hl p2
  have hn1 : (h 0 18) = 0 + pk_sum pk_c s := p2.1.1
  have ha1 := bs_28 p2
  refine ja_aload_n dtried_0 rfl rfl ?_
  refine ja_bipush 9 dtried_1 rfl ?_
  refine t_isWord (by decide) (show (0 : Nat) ≤ 8 by decide) dtried_3 g ⟨by decide, by decide⟩ ?_
  intro w1 k3_0
  refine ja_if_ne 14 dtried_6 rfl ⟨by omega, by omega⟩ (fun c6 => ?_) (fun c6 => ?_)
  · refine ja_aload_n dtried_14 rfl rfl ?_
    refine ja_iconst dtried_15 ?_
    refine t_newPoint (by decide) (show (0 : Nat) ≤ 8 by decide) dtried_16 g ⟨by decide, by decide⟩ (show 0 ≤ 5 ∧ 5 ≤ 5 by omega) ?_ ?_
    · intro w2 w3 k16_0 g4
      replace k16_0 : (h 0 88) < 400 ∧ (((h 0 74) = 3 ∧ w2 = 2) ∨ (¬ (h 0 74) = 3 ∧ w2 = (h 0 74))) ∧ (((h 0 74) = 0 ∧ w3 = 0) ∨ (¬ (h 0 74) = 0 ∧ w3 = (h 0 75))) := k16_0
      replace g4 : mo_G (ja_up (ja_up (ja_up (ja_up (ja_up (ja_up (ja_up h 52 ((h 0 88).toNat) 5) 53 ((h 0 88).toNat) (h 0 7)) 54 ((h 0 88).toNat) (-1)) 55 ((h 0 88).toNat) 0) 56 ((h 0 88).toNat) w2) 57 ((h 0 88).toNat) w3) 0 88 ((h 0 88) + 1)) := g4
      show mJ l D cA ad 4 cX12_tried 8 (some .boolean) 19 [(0, (2, ((0 : Nat) : Int))), (1, (0, a1))] [(0, (h 0 88))] (ja_up (ja_up (ja_up (ja_up (ja_up (ja_up (ja_up h 52 ((h 0 88).toNat) 5) 53 ((h 0 88).toNat) (h 0 7)) 54 ((h 0 88).toNat) (-1)) 55 ((h 0 88).toNat) 0) 56 ((h 0 88).toNat) w2) 57 ((h 0 88).toNat) w3) 0 88 ((h 0 88) + 1)) Q
      refine ja_istore_n dtried_19 rfl (by decide) (L2 := [(2, (0, (h 0 88))), (0, (2, ((0 : Nat) : Int))), (1, (0, a1))]) rfl ?_
      refine ja_iload_n dtried_20 rfl rfl ?_
      refine ja_if_ge 26 dtried_21 rfl ⟨by omega, by omega⟩ (fun c21 => ?_) (fun c21 => ?_)
      · refine ja_aload_n dtried_26 rfl rfl ?_
        refine fa_pointArgs dtried_27 ?_
        refine ja_iload_n dtried_30 rfl rfl ?_
        refine ja_iconst dtried_31 ?_
        have g5 := gW_pointArgs g4 (h 0 88).toNat (x := 1) ⟨by decide, by decide⟩
        refine is_pointArgs ⟨by omega, by omega⟩ dtried_32 ?_
        refine ja_aload_n dtried_33 rfl rfl ?_
        refine ja_bipush 24 dtried_34 rfl ?_
        refine ja_iconst dtried_36 ?_
        refine ja_iconst dtried_37 ?_
        refine t_emit (by decide) (show (0 : Nat) ≤ 8 by decide) dtried_38 g5 ⟨by decide, by decide⟩ ⟨by decide, by decide⟩ ⟨by decide, by decide⟩ (show 0 ≤ 24 ∧ 24 ≤ 26 by omega) (show (h 0 113) < 5000 by omega) ?_
        intro g6
        replace g6 : mo_G (ja_up (ja_up (ja_up (ja_up (ja_up (ja_up (ja_up (ja_up (ja_up (ja_up (ja_up (ja_up h 52 ((h 0 88).toNat) 5) 53 ((h 0 88).toNat) (h 0 7)) 54 ((h 0 88).toNat) (-1)) 55 ((h 0 88).toNat) 0) 56 ((h 0 88).toNat) w2) 57 ((h 0 88).toNat) w3) 0 88 ((h 0 88) + 1)) 55 ((h 0 88).toNat) 1) 74 ((h 0 113).toNat) 24) 75 ((h 0 113).toNat) 0) 76 ((h 0 113).toNat) 0) 0 113 ((h 0 113) + 1)) := g6
        show mJ l D cA ad 4 cX12_tried 8 (some .boolean) 41 [(2, (0, (h 0 88))), (0, (2, ((0 : Nat) : Int))), (1, (0, a1))] [(0, (h 0 113))] (ja_up (ja_up (ja_up (ja_up (ja_up (ja_up (ja_up (ja_up (ja_up (ja_up (ja_up (ja_up h 52 ((h 0 88).toNat) 5) 53 ((h 0 88).toNat) (h 0 7)) 54 ((h 0 88).toNat) (-1)) 55 ((h 0 88).toNat) 0) 56 ((h 0 88).toNat) w2) 57 ((h 0 88).toNat) w3) 0 88 ((h 0 88) + 1)) 55 ((h 0 88).toNat) 1) 74 ((h 0 113).toNat) 24) 75 ((h 0 113).toNat) 0) 76 ((h 0 113).toNat) 0) 0 113 ((h 0 113) + 1)) Q
        refine ja_istore_n dtried_41 rfl (by decide) (L2 := [(3, (0, (h 0 113))), (2, (0, (h 0 88))), (0, (2, ((0 : Nat) : Int))), (1, (0, a1))]) rfl ?_
        refine ja_aload_n dtried_42 rfl rfl ?_
        refine fa_opA dtried_43 ?_
        refine ja_iload_n dtried_46 rfl rfl ?_
        refine ja_aload_n dtried_47 rfl rfl ?_
        refine fg_words (v := (h 0 113) + 1) rfl dtried_48 ?_
        have g7 := gW_opA g6 (a1).toNat (x := (h 0 113) + 1) ⟨by omega, by omega⟩
        refine is_opA ⟨by omega, by omega⟩ dtried_51 ?_
        refine ja_aload_n dtried_52 rfl rfl ?_
        refine t_take (by decide) (show (0 : Nat) ≤ 8 by decide) dtried_53 g7  ?_ ?_
        · intro k53_0 g8
          replace k53_0 : (h 0 7) < 900 := k53_0
          replace g8 : mo_G (ja_up (ja_up (ja_up (ja_up (ja_up (ja_up (ja_up (ja_up (ja_up (ja_up (ja_up (ja_up (ja_up (ja_up h 52 ((h 0 88).toNat) 5) 53 ((h 0 88).toNat) (h 0 7)) 54 ((h 0 88).toNat) (-1)) 55 ((h 0 88).toNat) 0) 56 ((h 0 88).toNat) w2) 57 ((h 0 88).toNat) w3) 0 88 ((h 0 88) + 1)) 55 ((h 0 88).toNat) 1) 74 ((h 0 113).toNat) 24) 75 ((h 0 113).toNat) 0) 76 ((h 0 113).toNat) 0) 0 113 ((h 0 113) + 1)) 75 ((a1).toNat) ((h 0 113) + 1)) 0 7 ((h 0 7) + 1)) := g8
          show mJ l D cA ad 4 cX12_tried 8 (some .boolean) 56 [(3, (0, (h 0 113))), (2, (0, (h 0 88))), (0, (2, ((0 : Nat) : Int))), (1, (0, a1))] [(0, 1)] (ja_up (ja_up (ja_up (ja_up (ja_up (ja_up (ja_up (ja_up (ja_up (ja_up (ja_up (ja_up (ja_up (ja_up h 52 ((h 0 88).toNat) 5) 53 ((h 0 88).toNat) (h 0 7)) 54 ((h 0 88).toNat) (-1)) 55 ((h 0 88).toNat) 0) 56 ((h 0 88).toNat) w2) 57 ((h 0 88).toNat) w3) 0 88 ((h 0 88) + 1)) 55 ((h 0 88).toNat) 1) 74 ((h 0 113).toNat) 24) 75 ((h 0 113).toNat) 0) 76 ((h 0 113).toNat) 0) 0 113 ((h 0 113) + 1)) 75 ((a1).toNat) ((h 0 113) + 1)) 0 7 ((h 0 7) + 1)) Q
          refine ja_if_ne 61 dtried_56 rfl ⟨by decide, by decide⟩ (fun c56 => ?_) (fun c56 => absurd c56 (by omega))
          refine ja_aload_n dtried_61 rfl rfl ?_
          refine t_isName (by decide) (show (0 : Nat) ≤ 8 by decide) dtried_62 g8  ?_
          intro w9 k62_0
          replace k62_0 : (w9 = 1 ∧ (h 2 ((h 0 7) + 1).toNat) = 2) ∨ (w9 = 0 ∧ ¬ (h 2 ((h 0 7) + 1).toNat) = 2) := k62_0
          refine ja_if_eq 83 dtried_65 rfl ⟨by omega, by omega⟩ (fun c65 => ?_) (fun c65 => ?_)
          · refine ja_aload_n dtried_83 rfl rfl ?_
            refine fg_at (v := (h 0 7) + 1) rfl dtried_84 ?_
            refine ja_istore dtried_87 (by decide) (L2 := [(4, (0, ((h 0 7) + 1))), (3, (0, (h 0 113))), (2, (0, (h 0 88))), (0, (2, ((0 : Nat) : Int))), (1, (0, a1))]) rfl ?_
            refine ja_aload_n dtried_89 rfl rfl ?_
            refine t_name (by decide) (show (0 : Nat) ≤ 8 by decide) dtried_90 g8  ?_ ?_
            · intro k90_0 g10
              replace k90_0 : ((h 0 7) + 1) < 900 ∧ (h 2 ((h 0 7) + 1).toNat) = 2 := k90_0
              replace g10 : mo_G (ja_up (ja_up (ja_up (ja_up (ja_up (ja_up (ja_up (ja_up (ja_up (ja_up (ja_up (ja_up (ja_up (ja_up (ja_up h 52 ((h 0 88).toNat) 5) 53 ((h 0 88).toNat) (h 0 7)) 54 ((h 0 88).toNat) (-1)) 55 ((h 0 88).toNat) 0) 56 ((h 0 88).toNat) w2) 57 ((h 0 88).toNat) w3) 0 88 ((h 0 88) + 1)) 55 ((h 0 88).toNat) 1) 74 ((h 0 113).toNat) 24) 75 ((h 0 113).toNat) 0) 76 ((h 0 113).toNat) 0) 0 113 ((h 0 113) + 1)) 75 ((a1).toNat) ((h 0 113) + 1)) 0 7 ((h 0 7) + 1)) 0 7 (((h 0 7) + 1) + 1)) := g10
              show mJ l D cA ad 4 cX12_tried 8 (some .boolean) 93 [(4, (0, ((h 0 7) + 1))), (3, (0, (h 0 113))), (2, (0, (h 0 88))), (0, (2, ((0 : Nat) : Int))), (1, (0, a1))] [(0, 1)] (ja_up (ja_up (ja_up (ja_up (ja_up (ja_up (ja_up (ja_up (ja_up (ja_up (ja_up (ja_up (ja_up (ja_up (ja_up h 52 ((h 0 88).toNat) 5) 53 ((h 0 88).toNat) (h 0 7)) 54 ((h 0 88).toNat) (-1)) 55 ((h 0 88).toNat) 0) 56 ((h 0 88).toNat) w2) 57 ((h 0 88).toNat) w3) 0 88 ((h 0 88) + 1)) 55 ((h 0 88).toNat) 1) 74 ((h 0 113).toNat) 24) 75 ((h 0 113).toNat) 0) 76 ((h 0 113).toNat) 0) 0 113 ((h 0 113) + 1)) 75 ((a1).toNat) ((h 0 113) + 1)) 0 7 ((h 0 7) + 1)) 0 7 (((h 0 7) + 1) + 1)) Q
              refine ja_if_ne 98 dtried_93 rfl ⟨by decide, by decide⟩ (fun c93 => ?_) (fun c93 => absurd c93 (by omega))
              refine ja_aload_n dtried_98 rfl rfl ?_
              refine fg_known (v := h 0 79) rfl dtried_99 ?_
              have f11 := gF_known g
              refine ja_istore dtried_102 (by decide) (L2 := [(5, (0, (h 0 79))), (4, (0, ((h 0 7) + 1))), (3, (0, (h 0 113))), (2, (0, (h 0 88))), (0, (2, ((0 : Nat) : Int))), (1, (0, a1))]) rfl ?_
              refine ja_aload_n dtried_104 rfl rfl ?_
              refine ja_iload dtried_105 rfl ?_
              refine t_know (by decide) (show (0 : Nat) ≤ 8 by decide) dtried_107 g10 ⟨by omega, by omega⟩ (show 0 ≤ ((h 0 7) + 1) ∧ ((h 0 7) + 1) ≤ 900 by omega) (show (h 0 79) ≤ 15 by omega) (show (h 0 77) ≤ 14 by omega) ?_
              intro w12 w13 k107_0 g14
              replace k107_0 : 0 ≤ w12 ∧ w12 ≤ 8 ∧ (1 ≤ w12 ∨ w12 = (h 0 11)) ∧ -2147483648 ≤ w13 ∧ w13 ≤ 2147483647 := k107_0
              replace g14 : mo_G (ja_up (ja_up (ja_up (ja_up (ja_up (ja_up (ja_up (ja_up (ja_up (ja_up (ja_up (ja_up (ja_up (ja_up (ja_up (ja_up (ja_up (ja_up (ja_up (ja_up (ja_up h 52 ((h 0 88).toNat) 5) 53 ((h 0 88).toNat) (h 0 7)) 54 ((h 0 88).toNat) (-1)) 55 ((h 0 88).toNat) 0) 56 ((h 0 88).toNat) w2) 57 ((h 0 88).toNat) w3) 0 88 ((h 0 88) + 1)) 55 ((h 0 88).toNat) 1) 74 ((h 0 113).toNat) 24) 75 ((h 0 113).toNat) 0) 76 ((h 0 113).toNat) 0) 0 113 ((h 0 113) + 1)) 75 ((a1).toNat) ((h 0 113) + 1)) 0 7 ((h 0 7) + 1)) 0 7 (((h 0 7) + 1) + 1)) 0 11 w12) 0 12 w13) 49 ((h 0 79).toNat) (h 5 ((h 0 7) + 1).toNat)) 50 ((h 0 79).toNat) (h 0 77)) 0 79 ((h 0 79) + 1)) 0 77 ((h 0 77) + 1)) := g14
              show mJ l D cA ad 4 cX12_tried 8 (some .boolean) 110 [(5, (0, (h 0 79))), (4, (0, ((h 0 7) + 1))), (3, (0, (h 0 113))), (2, (0, (h 0 88))), (0, (2, ((0 : Nat) : Int))), (1, (0, a1))] [] (ja_up (ja_up (ja_up (ja_up (ja_up (ja_up (ja_up (ja_up (ja_up (ja_up (ja_up (ja_up (ja_up (ja_up (ja_up (ja_up (ja_up (ja_up (ja_up (ja_up (ja_up h 52 ((h 0 88).toNat) 5) 53 ((h 0 88).toNat) (h 0 7)) 54 ((h 0 88).toNat) (-1)) 55 ((h 0 88).toNat) 0) 56 ((h 0 88).toNat) w2) 57 ((h 0 88).toNat) w3) 0 88 ((h 0 88) + 1)) 55 ((h 0 88).toNat) 1) 74 ((h 0 113).toNat) 24) 75 ((h 0 113).toNat) 0) 76 ((h 0 113).toNat) 0) 0 113 ((h 0 113) + 1)) 75 ((a1).toNat) ((h 0 113) + 1)) 0 7 ((h 0 7) + 1)) 0 7 (((h 0 7) + 1) + 1)) 0 11 w12) 0 12 w13) 49 ((h 0 79).toNat) (h 5 ((h 0 7) + 1).toNat)) 50 ((h 0 79).toNat) (h 0 77)) 0 79 ((h 0 79) + 1)) 0 77 ((h 0 77) + 1)) Q
              refine ja_aload_n dtried_110 rfl rfl ?_
              refine ja_bipush 15 dtried_111 rfl ?_
              refine ja_iload_n dtried_113 rfl rfl ?_
              refine ja_iconst dtried_114 ?_
              refine t_emit (by decide) (show (0 : Nat) ≤ 8 by decide) dtried_115 g14 ⟨by decide, by decide⟩ ⟨by omega, by omega⟩ ⟨by decide, by decide⟩ (show 0 ≤ 15 ∧ 15 ≤ 26 by omega) (show ((h 0 113) + 1) < 5000 by omega) ?_
              intro g15
              replace g15 : mo_G (ja_up (ja_up (ja_up (ja_up (ja_up (ja_up (ja_up (ja_up (ja_up (ja_up (ja_up (ja_up (ja_up (ja_up (ja_up (ja_up (ja_up (ja_up (ja_up (ja_up (ja_up (ja_up (ja_up (ja_up (ja_up h 52 ((h 0 88).toNat) 5) 53 ((h 0 88).toNat) (h 0 7)) 54 ((h 0 88).toNat) (-1)) 55 ((h 0 88).toNat) 0) 56 ((h 0 88).toNat) w2) 57 ((h 0 88).toNat) w3) 0 88 ((h 0 88) + 1)) 55 ((h 0 88).toNat) 1) 74 ((h 0 113).toNat) 24) 75 ((h 0 113).toNat) 0) 76 ((h 0 113).toNat) 0) 0 113 ((h 0 113) + 1)) 75 ((a1).toNat) ((h 0 113) + 1)) 0 7 ((h 0 7) + 1)) 0 7 (((h 0 7) + 1) + 1)) 0 11 w12) 0 12 w13) 49 ((h 0 79).toNat) (h 5 ((h 0 7) + 1).toNat)) 50 ((h 0 79).toNat) (h 0 77)) 0 79 ((h 0 79) + 1)) 0 77 ((h 0 77) + 1)) 74 (((h 0 113) + 1).toNat) 15) 75 (((h 0 113) + 1).toNat) (h 0 88)) 76 (((h 0 113) + 1).toNat) 0) 0 113 (((h 0 113) + 1) + 1)) := g15
              show mJ l D cA ad 4 cX12_tried 8 (some .boolean) 118 [(5, (0, (h 0 79))), (4, (0, ((h 0 7) + 1))), (3, (0, (h 0 113))), (2, (0, (h 0 88))), (0, (2, ((0 : Nat) : Int))), (1, (0, a1))] [(0, ((h 0 113) + 1))] (ja_up (ja_up (ja_up (ja_up (ja_up (ja_up (ja_up (ja_up (ja_up (ja_up (ja_up (ja_up (ja_up (ja_up (ja_up (ja_up (ja_up (ja_up (ja_up (ja_up (ja_up (ja_up (ja_up (ja_up (ja_up h 52 ((h 0 88).toNat) 5) 53 ((h 0 88).toNat) (h 0 7)) 54 ((h 0 88).toNat) (-1)) 55 ((h 0 88).toNat) 0) 56 ((h 0 88).toNat) w2) 57 ((h 0 88).toNat) w3) 0 88 ((h 0 88) + 1)) 55 ((h 0 88).toNat) 1) 74 ((h 0 113).toNat) 24) 75 ((h 0 113).toNat) 0) 76 ((h 0 113).toNat) 0) 0 113 ((h 0 113) + 1)) 75 ((a1).toNat) ((h 0 113) + 1)) 0 7 ((h 0 7) + 1)) 0 7 (((h 0 7) + 1) + 1)) 0 11 w12) 0 12 w13) 49 ((h 0 79).toNat) (h 5 ((h 0 7) + 1).toNat)) 50 ((h 0 79).toNat) (h 0 77)) 0 79 ((h 0 79) + 1)) 0 77 ((h 0 77) + 1)) 74 (((h 0 113) + 1).toNat) 15) 75 (((h 0 113) + 1).toNat) (h 0 88)) 76 (((h 0 113) + 1).toNat) 0) 0 113 (((h 0 113) + 1) + 1)) Q
              refine ja_istore dtried_118 (by decide) (L2 := [(6, (0, ((h 0 113) + 1))), (5, (0, (h 0 79))), (4, (0, ((h 0 7) + 1))), (3, (0, (h 0 113))), (2, (0, (h 0 88))), (0, (2, ((0 : Nat) : Int))), (1, (0, a1))]) rfl ?_
              refine ja_aload_n dtried_120 rfl rfl ?_
              refine ja_iconst dtried_121 ?_
              refine ja_aload_n dtried_122 rfl rfl ?_
              refine fg_locals (v := (h 0 77) + 1) rfl dtried_123 ?_
              refine ja_iconst dtried_126 ?_
              refine ja_isub dtried_127 ?_
              refine ja_iconst dtried_128 ?_
              refine t_emit (by decide) (show (0 : Nat) ≤ 8 by decide) dtried_129 g15 ⟨by decide, by decide⟩ ⟨by omega, by omega⟩ ⟨by decide, by decide⟩ (show 0 ≤ 5 ∧ 5 ≤ 26 by omega) (show (((h 0 113) + 1) + 1) < 5000 by omega) ?_
              intro g16
              replace g16 : mo_G (ja_up (ja_up (ja_up (ja_up (ja_up (ja_up (ja_up (ja_up (ja_up (ja_up (ja_up (ja_up (ja_up (ja_up (ja_up (ja_up (ja_up (ja_up (ja_up (ja_up (ja_up (ja_up (ja_up (ja_up (ja_up (ja_up (ja_up (ja_up (ja_up h 52 ((h 0 88).toNat) 5) 53 ((h 0 88).toNat) (h 0 7)) 54 ((h 0 88).toNat) (-1)) 55 ((h 0 88).toNat) 0) 56 ((h 0 88).toNat) w2) 57 ((h 0 88).toNat) w3) 0 88 ((h 0 88) + 1)) 55 ((h 0 88).toNat) 1) 74 ((h 0 113).toNat) 24) 75 ((h 0 113).toNat) 0) 76 ((h 0 113).toNat) 0) 0 113 ((h 0 113) + 1)) 75 ((a1).toNat) ((h 0 113) + 1)) 0 7 ((h 0 7) + 1)) 0 7 (((h 0 7) + 1) + 1)) 0 11 w12) 0 12 w13) 49 ((h 0 79).toNat) (h 5 ((h 0 7) + 1).toNat)) 50 ((h 0 79).toNat) (h 0 77)) 0 79 ((h 0 79) + 1)) 0 77 ((h 0 77) + 1)) 74 (((h 0 113) + 1).toNat) 15) 75 (((h 0 113) + 1).toNat) (h 0 88)) 76 (((h 0 113) + 1).toNat) 0) 0 113 (((h 0 113) + 1) + 1)) 74 ((((h 0 113) + 1) + 1).toNat) 5) 75 ((((h 0 113) + 1) + 1).toNat) (((h 0 77) + 1) - 1)) 76 ((((h 0 113) + 1) + 1).toNat) 0) 0 113 ((((h 0 113) + 1) + 1) + 1)) := g16
              show mJ l D cA ad 4 cX12_tried 8 (some .boolean) 132 [(6, (0, ((h 0 113) + 1))), (5, (0, (h 0 79))), (4, (0, ((h 0 7) + 1))), (3, (0, (h 0 113))), (2, (0, (h 0 88))), (0, (2, ((0 : Nat) : Int))), (1, (0, a1))] [(0, (((h 0 113) + 1) + 1))] (ja_up (ja_up (ja_up (ja_up (ja_up (ja_up (ja_up (ja_up (ja_up (ja_up (ja_up (ja_up (ja_up (ja_up (ja_up (ja_up (ja_up (ja_up (ja_up (ja_up (ja_up (ja_up (ja_up (ja_up (ja_up (ja_up (ja_up (ja_up (ja_up h 52 ((h 0 88).toNat) 5) 53 ((h 0 88).toNat) (h 0 7)) 54 ((h 0 88).toNat) (-1)) 55 ((h 0 88).toNat) 0) 56 ((h 0 88).toNat) w2) 57 ((h 0 88).toNat) w3) 0 88 ((h 0 88) + 1)) 55 ((h 0 88).toNat) 1) 74 ((h 0 113).toNat) 24) 75 ((h 0 113).toNat) 0) 76 ((h 0 113).toNat) 0) 0 113 ((h 0 113) + 1)) 75 ((a1).toNat) ((h 0 113) + 1)) 0 7 ((h 0 7) + 1)) 0 7 (((h 0 7) + 1) + 1)) 0 11 w12) 0 12 w13) 49 ((h 0 79).toNat) (h 5 ((h 0 7) + 1).toNat)) 50 ((h 0 79).toNat) (h 0 77)) 0 79 ((h 0 79) + 1)) 0 77 ((h 0 77) + 1)) 74 (((h 0 113) + 1).toNat) 15) 75 (((h 0 113) + 1).toNat) (h 0 88)) 76 (((h 0 113) + 1).toNat) 0) 0 113 (((h 0 113) + 1) + 1)) 74 ((((h 0 113) + 1) + 1).toNat) 5) 75 ((((h 0 113) + 1) + 1).toNat) (((h 0 77) + 1) - 1)) 76 ((((h 0 113) + 1) + 1).toNat) 0) 0 113 ((((h 0 113) + 1) + 1) + 1)) Q
              refine ja_istore dtried_132 (by decide) (L2 := [(7, (0, (((h 0 113) + 1) + 1))), (6, (0, ((h 0 113) + 1))), (5, (0, (h 0 79))), (4, (0, ((h 0 7) + 1))), (3, (0, (h 0 113))), (2, (0, (h 0 88))), (0, (2, ((0 : Nat) : Int))), (1, (0, a1))]) rfl ?_
              refine ja_aload_n dtried_134 rfl rfl ?_
              refine ja_bipush 22 dtried_135 rfl ?_
              refine ja_iload_n dtried_137 rfl rfl ?_
              refine ja_iconst dtried_138 ?_
              refine ja_iconst dtried_139 ?_
              refine t_later (by decide) (show (0 : Nat) ≤ 8 by decide) dtried_140 g16 ⟨by decide, by decide⟩ ⟨by omega, by omega⟩ ⟨by decide, by decide⟩ ⟨by decide, by decide⟩ (show 0 ≤ 22 ∧ 22 ≤ 38 by omega) (show (h 0 17) < 2000 by omega) ?_
              intro g17
              replace g17 : mo_G (ja_up (ja_up (ja_up (ja_up (ja_up (ja_up (ja_up (ja_up (ja_up (ja_up (ja_up (ja_up (ja_up (ja_up (ja_up (ja_up (ja_up (ja_up (ja_up (ja_up (ja_up (ja_up (ja_up (ja_up (ja_up (ja_up (ja_up (ja_up (ja_up (ja_up (ja_up (ja_up (ja_up (ja_up h 52 ((h 0 88).toNat) 5) 53 ((h 0 88).toNat) (h 0 7)) 54 ((h 0 88).toNat) (-1)) 55 ((h 0 88).toNat) 0) 56 ((h 0 88).toNat) w2) 57 ((h 0 88).toNat) w3) 0 88 ((h 0 88) + 1)) 55 ((h 0 88).toNat) 1) 74 ((h 0 113).toNat) 24) 75 ((h 0 113).toNat) 0) 76 ((h 0 113).toNat) 0) 0 113 ((h 0 113) + 1)) 75 ((a1).toNat) ((h 0 113) + 1)) 0 7 ((h 0 7) + 1)) 0 7 (((h 0 7) + 1) + 1)) 0 11 w12) 0 12 w13) 49 ((h 0 79).toNat) (h 5 ((h 0 7) + 1).toNat)) 50 ((h 0 79).toNat) (h 0 77)) 0 79 ((h 0 79) + 1)) 0 77 ((h 0 77) + 1)) 74 (((h 0 113) + 1).toNat) 15) 75 (((h 0 113) + 1).toNat) (h 0 88)) 76 (((h 0 113) + 1).toNat) 0) 0 113 (((h 0 113) + 1) + 1)) 74 ((((h 0 113) + 1) + 1).toNat) 5) 75 ((((h 0 113) + 1) + 1).toNat) (((h 0 77) + 1) - 1)) 76 ((((h 0 113) + 1) + 1).toNat) 0) 0 113 ((((h 0 113) + 1) + 1) + 1)) 6 ((h 0 17).toNat) 22) 7 ((h 0 17).toNat) (h 0 113)) 8 ((h 0 17).toNat) 0) 9 ((h 0 17).toNat) 0) 0 17 ((h 0 17) + 1)) := g17
              show mJ l D cA ad 4 cX12_tried 8 (some .boolean) 143 [(7, (0, (((h 0 113) + 1) + 1))), (6, (0, ((h 0 113) + 1))), (5, (0, (h 0 79))), (4, (0, ((h 0 7) + 1))), (3, (0, (h 0 113))), (2, (0, (h 0 88))), (0, (2, ((0 : Nat) : Int))), (1, (0, a1))] [(0, 1)] (ja_up (ja_up (ja_up (ja_up (ja_up (ja_up (ja_up (ja_up (ja_up (ja_up (ja_up (ja_up (ja_up (ja_up (ja_up (ja_up (ja_up (ja_up (ja_up (ja_up (ja_up (ja_up (ja_up (ja_up (ja_up (ja_up (ja_up (ja_up (ja_up (ja_up (ja_up (ja_up (ja_up (ja_up h 52 ((h 0 88).toNat) 5) 53 ((h 0 88).toNat) (h 0 7)) 54 ((h 0 88).toNat) (-1)) 55 ((h 0 88).toNat) 0) 56 ((h 0 88).toNat) w2) 57 ((h 0 88).toNat) w3) 0 88 ((h 0 88) + 1)) 55 ((h 0 88).toNat) 1) 74 ((h 0 113).toNat) 24) 75 ((h 0 113).toNat) 0) 76 ((h 0 113).toNat) 0) 0 113 ((h 0 113) + 1)) 75 ((a1).toNat) ((h 0 113) + 1)) 0 7 ((h 0 7) + 1)) 0 7 (((h 0 7) + 1) + 1)) 0 11 w12) 0 12 w13) 49 ((h 0 79).toNat) (h 5 ((h 0 7) + 1).toNat)) 50 ((h 0 79).toNat) (h 0 77)) 0 79 ((h 0 79) + 1)) 0 77 ((h 0 77) + 1)) 74 (((h 0 113) + 1).toNat) 15) 75 (((h 0 113) + 1).toNat) (h 0 88)) 76 (((h 0 113) + 1).toNat) 0) 0 113 (((h 0 113) + 1) + 1)) 74 ((((h 0 113) + 1) + 1).toNat) 5) 75 ((((h 0 113) + 1) + 1).toNat) (((h 0 77) + 1) - 1)) 76 ((((h 0 113) + 1) + 1).toNat) 0) 0 113 ((((h 0 113) + 1) + 1) + 1)) 6 ((h 0 17).toNat) 22) 7 ((h 0 17).toNat) (h 0 113)) 8 ((h 0 17).toNat) 0) 9 ((h 0 17).toNat) 0) 0 17 ((h 0 17) + 1)) Q
              refine ja_if_eq 175 dtried_143 rfl ⟨by decide, by decide⟩ (fun c143 => absurd c143 (by omega)) (fun c143 => ?_)
              refine ja_aload_n dtried_146 rfl rfl ?_
              refine ja_bipush 16 dtried_147 rfl ?_
              refine ja_iload dtried_149 rfl ?_
              refine ja_iconst dtried_151 ?_
              refine ja_iconst dtried_152 ?_
              refine t_later (by decide) (show (0 : Nat) ≤ 8 by decide) dtried_153 g17 ⟨by decide, by decide⟩ ⟨by omega, by omega⟩ ⟨by decide, by decide⟩ ⟨by decide, by decide⟩ (show 0 ≤ 16 ∧ 16 ≤ 38 by omega) (show ((h 0 17) + 1) < 2000 by omega) ?_
              intro g18
              replace g18 : mo_G (ja_up (ja_up (ja_up (ja_up (ja_up (ja_up (ja_up (ja_up (ja_up (ja_up (ja_up (ja_up (ja_up (ja_up (ja_up (ja_up (ja_up (ja_up (ja_up (ja_up (ja_up (ja_up (ja_up (ja_up (ja_up (ja_up (ja_up (ja_up (ja_up (ja_up (ja_up (ja_up (ja_up (ja_up (ja_up (ja_up (ja_up (ja_up (ja_up h 52 ((h 0 88).toNat) 5) 53 ((h 0 88).toNat) (h 0 7)) 54 ((h 0 88).toNat) (-1)) 55 ((h 0 88).toNat) 0) 56 ((h 0 88).toNat) w2) 57 ((h 0 88).toNat) w3) 0 88 ((h 0 88) + 1)) 55 ((h 0 88).toNat) 1) 74 ((h 0 113).toNat) 24) 75 ((h 0 113).toNat) 0) 76 ((h 0 113).toNat) 0) 0 113 ((h 0 113) + 1)) 75 ((a1).toNat) ((h 0 113) + 1)) 0 7 ((h 0 7) + 1)) 0 7 (((h 0 7) + 1) + 1)) 0 11 w12) 0 12 w13) 49 ((h 0 79).toNat) (h 5 ((h 0 7) + 1).toNat)) 50 ((h 0 79).toNat) (h 0 77)) 0 79 ((h 0 79) + 1)) 0 77 ((h 0 77) + 1)) 74 (((h 0 113) + 1).toNat) 15) 75 (((h 0 113) + 1).toNat) (h 0 88)) 76 (((h 0 113) + 1).toNat) 0) 0 113 (((h 0 113) + 1) + 1)) 74 ((((h 0 113) + 1) + 1).toNat) 5) 75 ((((h 0 113) + 1) + 1).toNat) (((h 0 77) + 1) - 1)) 76 ((((h 0 113) + 1) + 1).toNat) 0) 0 113 ((((h 0 113) + 1) + 1) + 1)) 6 ((h 0 17).toNat) 22) 7 ((h 0 17).toNat) (h 0 113)) 8 ((h 0 17).toNat) 0) 9 ((h 0 17).toNat) 0) 0 17 ((h 0 17) + 1)) 6 (((h 0 17) + 1).toNat) 16) 7 (((h 0 17) + 1).toNat) (h 0 79)) 8 (((h 0 17) + 1).toNat) 0) 9 (((h 0 17) + 1).toNat) 0) 0 17 (((h 0 17) + 1) + 1)) := g18
              show mJ l D cA ad 4 cX12_tried 8 (some .boolean) 156 [(7, (0, (((h 0 113) + 1) + 1))), (6, (0, ((h 0 113) + 1))), (5, (0, (h 0 79))), (4, (0, ((h 0 7) + 1))), (3, (0, (h 0 113))), (2, (0, (h 0 88))), (0, (2, ((0 : Nat) : Int))), (1, (0, a1))] [(0, 1)] (ja_up (ja_up (ja_up (ja_up (ja_up (ja_up (ja_up (ja_up (ja_up (ja_up (ja_up (ja_up (ja_up (ja_up (ja_up (ja_up (ja_up (ja_up (ja_up (ja_up (ja_up (ja_up (ja_up (ja_up (ja_up (ja_up (ja_up (ja_up (ja_up (ja_up (ja_up (ja_up (ja_up (ja_up (ja_up (ja_up (ja_up (ja_up (ja_up h 52 ((h 0 88).toNat) 5) 53 ((h 0 88).toNat) (h 0 7)) 54 ((h 0 88).toNat) (-1)) 55 ((h 0 88).toNat) 0) 56 ((h 0 88).toNat) w2) 57 ((h 0 88).toNat) w3) 0 88 ((h 0 88) + 1)) 55 ((h 0 88).toNat) 1) 74 ((h 0 113).toNat) 24) 75 ((h 0 113).toNat) 0) 76 ((h 0 113).toNat) 0) 0 113 ((h 0 113) + 1)) 75 ((a1).toNat) ((h 0 113) + 1)) 0 7 ((h 0 7) + 1)) 0 7 (((h 0 7) + 1) + 1)) 0 11 w12) 0 12 w13) 49 ((h 0 79).toNat) (h 5 ((h 0 7) + 1).toNat)) 50 ((h 0 79).toNat) (h 0 77)) 0 79 ((h 0 79) + 1)) 0 77 ((h 0 77) + 1)) 74 (((h 0 113) + 1).toNat) 15) 75 (((h 0 113) + 1).toNat) (h 0 88)) 76 (((h 0 113) + 1).toNat) 0) 0 113 (((h 0 113) + 1) + 1)) 74 ((((h 0 113) + 1) + 1).toNat) 5) 75 ((((h 0 113) + 1) + 1).toNat) (((h 0 77) + 1) - 1)) 76 ((((h 0 113) + 1) + 1).toNat) 0) 0 113 ((((h 0 113) + 1) + 1) + 1)) 6 ((h 0 17).toNat) 22) 7 ((h 0 17).toNat) (h 0 113)) 8 ((h 0 17).toNat) 0) 9 ((h 0 17).toNat) 0) 0 17 ((h 0 17) + 1)) 6 (((h 0 17) + 1).toNat) 16) 7 (((h 0 17) + 1).toNat) (h 0 79)) 8 (((h 0 17) + 1).toNat) 0) 9 (((h 0 17) + 1).toNat) 0) 0 17 (((h 0 17) + 1) + 1)) Q
              refine ja_if_eq 175 dtried_156 rfl ⟨by decide, by decide⟩ (fun c156 => absurd c156 (by omega)) (fun c156 => ?_)
              refine ja_aload_n dtried_159 rfl rfl ?_
              refine ja_bipush 14 dtried_160 rfl ?_
              refine ja_iconst dtried_162 ?_
              refine ja_iconst dtried_163 ?_
              refine ja_iconst dtried_164 ?_
              refine t_later (by decide) (show (0 : Nat) ≤ 8 by decide) dtried_165 g18 ⟨by decide, by decide⟩ ⟨by decide, by decide⟩ ⟨by decide, by decide⟩ ⟨by decide, by decide⟩ (show 0 ≤ 14 ∧ 14 ≤ 38 by omega) (show (((h 0 17) + 1) + 1) < 2000 by omega) ?_
              intro g19
              replace g19 : mo_G (ja_up (ja_up (ja_up (ja_up (ja_up (ja_up (ja_up (ja_up (ja_up (ja_up (ja_up (ja_up (ja_up (ja_up (ja_up (ja_up (ja_up (ja_up (ja_up (ja_up (ja_up (ja_up (ja_up (ja_up (ja_up (ja_up (ja_up (ja_up (ja_up (ja_up (ja_up (ja_up (ja_up (ja_up (ja_up (ja_up (ja_up (ja_up (ja_up (ja_up (ja_up (ja_up (ja_up (ja_up h 52 ((h 0 88).toNat) 5) 53 ((h 0 88).toNat) (h 0 7)) 54 ((h 0 88).toNat) (-1)) 55 ((h 0 88).toNat) 0) 56 ((h 0 88).toNat) w2) 57 ((h 0 88).toNat) w3) 0 88 ((h 0 88) + 1)) 55 ((h 0 88).toNat) 1) 74 ((h 0 113).toNat) 24) 75 ((h 0 113).toNat) 0) 76 ((h 0 113).toNat) 0) 0 113 ((h 0 113) + 1)) 75 ((a1).toNat) ((h 0 113) + 1)) 0 7 ((h 0 7) + 1)) 0 7 (((h 0 7) + 1) + 1)) 0 11 w12) 0 12 w13) 49 ((h 0 79).toNat) (h 5 ((h 0 7) + 1).toNat)) 50 ((h 0 79).toNat) (h 0 77)) 0 79 ((h 0 79) + 1)) 0 77 ((h 0 77) + 1)) 74 (((h 0 113) + 1).toNat) 15) 75 (((h 0 113) + 1).toNat) (h 0 88)) 76 (((h 0 113) + 1).toNat) 0) 0 113 (((h 0 113) + 1) + 1)) 74 ((((h 0 113) + 1) + 1).toNat) 5) 75 ((((h 0 113) + 1) + 1).toNat) (((h 0 77) + 1) - 1)) 76 ((((h 0 113) + 1) + 1).toNat) 0) 0 113 ((((h 0 113) + 1) + 1) + 1)) 6 ((h 0 17).toNat) 22) 7 ((h 0 17).toNat) (h 0 113)) 8 ((h 0 17).toNat) 0) 9 ((h 0 17).toNat) 0) 0 17 ((h 0 17) + 1)) 6 (((h 0 17) + 1).toNat) 16) 7 (((h 0 17) + 1).toNat) (h 0 79)) 8 (((h 0 17) + 1).toNat) 0) 9 (((h 0 17) + 1).toNat) 0) 0 17 (((h 0 17) + 1) + 1)) 6 ((((h 0 17) + 1) + 1).toNat) 14) 7 ((((h 0 17) + 1) + 1).toNat) 0) 8 ((((h 0 17) + 1) + 1).toNat) 0) 9 ((((h 0 17) + 1) + 1).toNat) 0) 0 17 ((((h 0 17) + 1) + 1) + 1)) := g19
              show mJ l D cA ad 4 cX12_tried 8 (some .boolean) 168 [(7, (0, (((h 0 113) + 1) + 1))), (6, (0, ((h 0 113) + 1))), (5, (0, (h 0 79))), (4, (0, ((h 0 7) + 1))), (3, (0, (h 0 113))), (2, (0, (h 0 88))), (0, (2, ((0 : Nat) : Int))), (1, (0, a1))] [(0, 1)] (ja_up (ja_up (ja_up (ja_up (ja_up (ja_up (ja_up (ja_up (ja_up (ja_up (ja_up (ja_up (ja_up (ja_up (ja_up (ja_up (ja_up (ja_up (ja_up (ja_up (ja_up (ja_up (ja_up (ja_up (ja_up (ja_up (ja_up (ja_up (ja_up (ja_up (ja_up (ja_up (ja_up (ja_up (ja_up (ja_up (ja_up (ja_up (ja_up (ja_up (ja_up (ja_up (ja_up (ja_up h 52 ((h 0 88).toNat) 5) 53 ((h 0 88).toNat) (h 0 7)) 54 ((h 0 88).toNat) (-1)) 55 ((h 0 88).toNat) 0) 56 ((h 0 88).toNat) w2) 57 ((h 0 88).toNat) w3) 0 88 ((h 0 88) + 1)) 55 ((h 0 88).toNat) 1) 74 ((h 0 113).toNat) 24) 75 ((h 0 113).toNat) 0) 76 ((h 0 113).toNat) 0) 0 113 ((h 0 113) + 1)) 75 ((a1).toNat) ((h 0 113) + 1)) 0 7 ((h 0 7) + 1)) 0 7 (((h 0 7) + 1) + 1)) 0 11 w12) 0 12 w13) 49 ((h 0 79).toNat) (h 5 ((h 0 7) + 1).toNat)) 50 ((h 0 79).toNat) (h 0 77)) 0 79 ((h 0 79) + 1)) 0 77 ((h 0 77) + 1)) 74 (((h 0 113) + 1).toNat) 15) 75 (((h 0 113) + 1).toNat) (h 0 88)) 76 (((h 0 113) + 1).toNat) 0) 0 113 (((h 0 113) + 1) + 1)) 74 ((((h 0 113) + 1) + 1).toNat) 5) 75 ((((h 0 113) + 1) + 1).toNat) (((h 0 77) + 1) - 1)) 76 ((((h 0 113) + 1) + 1).toNat) 0) 0 113 ((((h 0 113) + 1) + 1) + 1)) 6 ((h 0 17).toNat) 22) 7 ((h 0 17).toNat) (h 0 113)) 8 ((h 0 17).toNat) 0) 9 ((h 0 17).toNat) 0) 0 17 ((h 0 17) + 1)) 6 (((h 0 17) + 1).toNat) 16) 7 (((h 0 17) + 1).toNat) (h 0 79)) 8 (((h 0 17) + 1).toNat) 0) 9 (((h 0 17) + 1).toNat) 0) 0 17 (((h 0 17) + 1) + 1)) 6 ((((h 0 17) + 1) + 1).toNat) 14) 7 ((((h 0 17) + 1) + 1).toNat) 0) 8 ((((h 0 17) + 1) + 1).toNat) 0) 9 ((((h 0 17) + 1) + 1).toNat) 0) 0 17 ((((h 0 17) + 1) + 1) + 1)) Q
              refine ja_if_eq 175 dtried_168 rfl ⟨by decide, by decide⟩ (fun c168 => absurd c168 (by omega)) (fun c168 => ?_)
              refine ja_iconst dtried_171 ?_
              refine ja_goto 176 dtried_172 rfl ?_
              refine ja_zreturn dtried_176 rfl (by omega) ?_
              exact mo_fin (by omega) rfl (k1 (ja_up (ja_up (ja_up (ja_up (ja_up (ja_up (ja_up (ja_up (ja_up (ja_up (ja_up (ja_up (ja_up (ja_up (ja_up (ja_up (ja_up (ja_up (ja_up (ja_up (ja_up (ja_up (ja_up (ja_up (ja_up (ja_up (ja_up (ja_up (ja_up (ja_up (ja_up (ja_up (ja_up (ja_up (ja_up (ja_up (ja_up (ja_up (ja_up (ja_up (ja_up (ja_up (ja_up (ja_up h 52 ((h 0 88).toNat) 5) 53 ((h 0 88).toNat) (h 0 7)) 54 ((h 0 88).toNat) (-1)) 55 ((h 0 88).toNat) 0) 56 ((h 0 88).toNat) w2) 57 ((h 0 88).toNat) w3) 0 88 ((h 0 88) + 1)) 55 ((h 0 88).toNat) 1) 74 ((h 0 113).toNat) 24) 75 ((h 0 113).toNat) 0) 76 ((h 0 113).toNat) 0) 0 113 ((h 0 113) + 1)) 75 ((a1).toNat) ((h 0 113) + 1)) 0 7 ((h 0 7) + 1)) 0 7 (((h 0 7) + 1) + 1)) 0 11 w12) 0 12 w13) 49 ((h 0 79).toNat) (h 5 ((h 0 7) + 1).toNat)) 50 ((h 0 79).toNat) (h 0 77)) 0 79 ((h 0 79) + 1)) 0 77 ((h 0 77) + 1)) 74 (((h 0 113) + 1).toNat) 15) 75 (((h 0 113) + 1).toNat) (h 0 88)) 76 (((h 0 113) + 1).toNat) 0) 0 113 (((h 0 113) + 1) + 1)) 74 ((((h 0 113) + 1) + 1).toNat) 5) 75 ((((h 0 113) + 1) + 1).toNat) (((h 0 77) + 1) - 1)) 76 ((((h 0 113) + 1) + 1).toNat) 0) 0 113 ((((h 0 113) + 1) + 1) + 1)) 6 ((h 0 17).toNat) 22) 7 ((h 0 17).toNat) (h 0 113)) 8 ((h 0 17).toNat) 0) 9 ((h 0 17).toNat) 0) 0 17 ((h 0 17) + 1)) 6 (((h 0 17) + 1).toNat) 16) 7 (((h 0 17) + 1).toNat) (h 0 79)) 8 (((h 0 17) + 1).toNat) 0) 9 (((h 0 17) + 1).toNat) 0) 0 17 (((h 0 17) + 1) + 1)) 6 ((((h 0 17) + 1) + 1).toNat) 14) 7 ((((h 0 17) + 1) + 1).toNat) 0) 8 ((((h 0 17) + 1) + 1).toNat) 0) 9 ((((h 0 17) + 1) + 1).toNat) 0) 0 17 ((((h 0 17) + 1) + 1) + 1)) (ab_tried (sd := w2) (wh := w3) (f := w12) (fa := w13) (v := (h 5 ((h 0 7) + 1).toNat)) g p1 p2 (by omega) (by omega) (by omega) (by omega) (by omega) (by omega)) g19)
            · intro h20 k90_1 g21
              replace k90_1 : 0 < (h20 0 8) ∧ (h20 0 1) = (h 0 1) ∧ (h20 0 118) = (h 0 118) ∧ (h20 0 127) = (h 0 127) := k90_1
              refine ja_if_ne 98 dtried_93 rfl ⟨by decide, by decide⟩ (fun c93 => absurd c93 (by omega)) (fun c93 => ?_)
              refine ja_iconst dtried_96 ?_
              refine ja_zreturn dtried_97 rfl (by omega) ?_
              exact mo_fin (by omega) rfl (k2 h20 (by omega) g21)
          · refine ja_aload_n dtried_68 rfl rfl ?_
            refine fg_locals (v := h 0 77) rfl dtried_69 ?_
            have f22 := gF_locals g
            refine ja_bipush 10 dtried_72 rfl ?_
            refine ja_icmp_ne 83 dtried_74 rfl ⟨by omega, by omega⟩ ⟨by decide, by decide⟩ (fun c74 => ?_) (fun c74 => ?_)
            · refine ja_aload_n dtried_83 rfl rfl ?_
              refine fg_at (v := (h 0 7) + 1) rfl dtried_84 ?_
              refine ja_istore dtried_87 (by decide) (L2 := [(4, (0, ((h 0 7) + 1))), (3, (0, (h 0 113))), (2, (0, (h 0 88))), (0, (2, ((0 : Nat) : Int))), (1, (0, a1))]) rfl ?_
              refine ja_aload_n dtried_89 rfl rfl ?_
              refine t_name (by decide) (show (0 : Nat) ≤ 8 by decide) dtried_90 g8  ?_ ?_
              · intro k90_0 g23
                replace k90_0 : ((h 0 7) + 1) < 900 ∧ (h 2 ((h 0 7) + 1).toNat) = 2 := k90_0
                replace g23 : mo_G (ja_up (ja_up (ja_up (ja_up (ja_up (ja_up (ja_up (ja_up (ja_up (ja_up (ja_up (ja_up (ja_up (ja_up (ja_up h 52 ((h 0 88).toNat) 5) 53 ((h 0 88).toNat) (h 0 7)) 54 ((h 0 88).toNat) (-1)) 55 ((h 0 88).toNat) 0) 56 ((h 0 88).toNat) w2) 57 ((h 0 88).toNat) w3) 0 88 ((h 0 88) + 1)) 55 ((h 0 88).toNat) 1) 74 ((h 0 113).toNat) 24) 75 ((h 0 113).toNat) 0) 76 ((h 0 113).toNat) 0) 0 113 ((h 0 113) + 1)) 75 ((a1).toNat) ((h 0 113) + 1)) 0 7 ((h 0 7) + 1)) 0 7 (((h 0 7) + 1) + 1)) := g23
                show mJ l D cA ad 4 cX12_tried 8 (some .boolean) 93 [(4, (0, ((h 0 7) + 1))), (3, (0, (h 0 113))), (2, (0, (h 0 88))), (0, (2, ((0 : Nat) : Int))), (1, (0, a1))] [(0, 1)] (ja_up (ja_up (ja_up (ja_up (ja_up (ja_up (ja_up (ja_up (ja_up (ja_up (ja_up (ja_up (ja_up (ja_up (ja_up h 52 ((h 0 88).toNat) 5) 53 ((h 0 88).toNat) (h 0 7)) 54 ((h 0 88).toNat) (-1)) 55 ((h 0 88).toNat) 0) 56 ((h 0 88).toNat) w2) 57 ((h 0 88).toNat) w3) 0 88 ((h 0 88) + 1)) 55 ((h 0 88).toNat) 1) 74 ((h 0 113).toNat) 24) 75 ((h 0 113).toNat) 0) 76 ((h 0 113).toNat) 0) 0 113 ((h 0 113) + 1)) 75 ((a1).toNat) ((h 0 113) + 1)) 0 7 ((h 0 7) + 1)) 0 7 (((h 0 7) + 1) + 1)) Q
                refine ja_if_ne 98 dtried_93 rfl ⟨by decide, by decide⟩ (fun c93 => ?_) (fun c93 => absurd c93 (by omega))
                refine ja_aload_n dtried_98 rfl rfl ?_
                refine fg_known (v := h 0 79) rfl dtried_99 ?_
                have f24 := gF_known g
                refine ja_istore dtried_102 (by decide) (L2 := [(5, (0, (h 0 79))), (4, (0, ((h 0 7) + 1))), (3, (0, (h 0 113))), (2, (0, (h 0 88))), (0, (2, ((0 : Nat) : Int))), (1, (0, a1))]) rfl ?_
                refine ja_aload_n dtried_104 rfl rfl ?_
                refine ja_iload dtried_105 rfl ?_
                refine t_know (by decide) (show (0 : Nat) ≤ 8 by decide) dtried_107 g23 ⟨by omega, by omega⟩ (show 0 ≤ ((h 0 7) + 1) ∧ ((h 0 7) + 1) ≤ 900 by omega) (show (h 0 79) ≤ 15 by omega) (show (h 0 77) ≤ 14 by omega) ?_
                intro w25 w26 k107_0 g27
                replace k107_0 : 0 ≤ w25 ∧ w25 ≤ 8 ∧ (1 ≤ w25 ∨ w25 = (h 0 11)) ∧ -2147483648 ≤ w26 ∧ w26 ≤ 2147483647 := k107_0
                replace g27 : mo_G (ja_up (ja_up (ja_up (ja_up (ja_up (ja_up (ja_up (ja_up (ja_up (ja_up (ja_up (ja_up (ja_up (ja_up (ja_up (ja_up (ja_up (ja_up (ja_up (ja_up (ja_up h 52 ((h 0 88).toNat) 5) 53 ((h 0 88).toNat) (h 0 7)) 54 ((h 0 88).toNat) (-1)) 55 ((h 0 88).toNat) 0) 56 ((h 0 88).toNat) w2) 57 ((h 0 88).toNat) w3) 0 88 ((h 0 88) + 1)) 55 ((h 0 88).toNat) 1) 74 ((h 0 113).toNat) 24) 75 ((h 0 113).toNat) 0) 76 ((h 0 113).toNat) 0) 0 113 ((h 0 113) + 1)) 75 ((a1).toNat) ((h 0 113) + 1)) 0 7 ((h 0 7) + 1)) 0 7 (((h 0 7) + 1) + 1)) 0 11 w25) 0 12 w26) 49 ((h 0 79).toNat) (h 5 ((h 0 7) + 1).toNat)) 50 ((h 0 79).toNat) (h 0 77)) 0 79 ((h 0 79) + 1)) 0 77 ((h 0 77) + 1)) := g27
                show mJ l D cA ad 4 cX12_tried 8 (some .boolean) 110 [(5, (0, (h 0 79))), (4, (0, ((h 0 7) + 1))), (3, (0, (h 0 113))), (2, (0, (h 0 88))), (0, (2, ((0 : Nat) : Int))), (1, (0, a1))] [] (ja_up (ja_up (ja_up (ja_up (ja_up (ja_up (ja_up (ja_up (ja_up (ja_up (ja_up (ja_up (ja_up (ja_up (ja_up (ja_up (ja_up (ja_up (ja_up (ja_up (ja_up h 52 ((h 0 88).toNat) 5) 53 ((h 0 88).toNat) (h 0 7)) 54 ((h 0 88).toNat) (-1)) 55 ((h 0 88).toNat) 0) 56 ((h 0 88).toNat) w2) 57 ((h 0 88).toNat) w3) 0 88 ((h 0 88) + 1)) 55 ((h 0 88).toNat) 1) 74 ((h 0 113).toNat) 24) 75 ((h 0 113).toNat) 0) 76 ((h 0 113).toNat) 0) 0 113 ((h 0 113) + 1)) 75 ((a1).toNat) ((h 0 113) + 1)) 0 7 ((h 0 7) + 1)) 0 7 (((h 0 7) + 1) + 1)) 0 11 w25) 0 12 w26) 49 ((h 0 79).toNat) (h 5 ((h 0 7) + 1).toNat)) 50 ((h 0 79).toNat) (h 0 77)) 0 79 ((h 0 79) + 1)) 0 77 ((h 0 77) + 1)) Q
                refine ja_aload_n dtried_110 rfl rfl ?_
                refine ja_bipush 15 dtried_111 rfl ?_
                refine ja_iload_n dtried_113 rfl rfl ?_
                refine ja_iconst dtried_114 ?_
                refine t_emit (by decide) (show (0 : Nat) ≤ 8 by decide) dtried_115 g27 ⟨by decide, by decide⟩ ⟨by omega, by omega⟩ ⟨by decide, by decide⟩ (show 0 ≤ 15 ∧ 15 ≤ 26 by omega) (show ((h 0 113) + 1) < 5000 by omega) ?_
                intro g28
                replace g28 : mo_G (ja_up (ja_up (ja_up (ja_up (ja_up (ja_up (ja_up (ja_up (ja_up (ja_up (ja_up (ja_up (ja_up (ja_up (ja_up (ja_up (ja_up (ja_up (ja_up (ja_up (ja_up (ja_up (ja_up (ja_up (ja_up h 52 ((h 0 88).toNat) 5) 53 ((h 0 88).toNat) (h 0 7)) 54 ((h 0 88).toNat) (-1)) 55 ((h 0 88).toNat) 0) 56 ((h 0 88).toNat) w2) 57 ((h 0 88).toNat) w3) 0 88 ((h 0 88) + 1)) 55 ((h 0 88).toNat) 1) 74 ((h 0 113).toNat) 24) 75 ((h 0 113).toNat) 0) 76 ((h 0 113).toNat) 0) 0 113 ((h 0 113) + 1)) 75 ((a1).toNat) ((h 0 113) + 1)) 0 7 ((h 0 7) + 1)) 0 7 (((h 0 7) + 1) + 1)) 0 11 w25) 0 12 w26) 49 ((h 0 79).toNat) (h 5 ((h 0 7) + 1).toNat)) 50 ((h 0 79).toNat) (h 0 77)) 0 79 ((h 0 79) + 1)) 0 77 ((h 0 77) + 1)) 74 (((h 0 113) + 1).toNat) 15) 75 (((h 0 113) + 1).toNat) (h 0 88)) 76 (((h 0 113) + 1).toNat) 0) 0 113 (((h 0 113) + 1) + 1)) := g28
                show mJ l D cA ad 4 cX12_tried 8 (some .boolean) 118 [(5, (0, (h 0 79))), (4, (0, ((h 0 7) + 1))), (3, (0, (h 0 113))), (2, (0, (h 0 88))), (0, (2, ((0 : Nat) : Int))), (1, (0, a1))] [(0, ((h 0 113) + 1))] (ja_up (ja_up (ja_up (ja_up (ja_up (ja_up (ja_up (ja_up (ja_up (ja_up (ja_up (ja_up (ja_up (ja_up (ja_up (ja_up (ja_up (ja_up (ja_up (ja_up (ja_up (ja_up (ja_up (ja_up (ja_up h 52 ((h 0 88).toNat) 5) 53 ((h 0 88).toNat) (h 0 7)) 54 ((h 0 88).toNat) (-1)) 55 ((h 0 88).toNat) 0) 56 ((h 0 88).toNat) w2) 57 ((h 0 88).toNat) w3) 0 88 ((h 0 88) + 1)) 55 ((h 0 88).toNat) 1) 74 ((h 0 113).toNat) 24) 75 ((h 0 113).toNat) 0) 76 ((h 0 113).toNat) 0) 0 113 ((h 0 113) + 1)) 75 ((a1).toNat) ((h 0 113) + 1)) 0 7 ((h 0 7) + 1)) 0 7 (((h 0 7) + 1) + 1)) 0 11 w25) 0 12 w26) 49 ((h 0 79).toNat) (h 5 ((h 0 7) + 1).toNat)) 50 ((h 0 79).toNat) (h 0 77)) 0 79 ((h 0 79) + 1)) 0 77 ((h 0 77) + 1)) 74 (((h 0 113) + 1).toNat) 15) 75 (((h 0 113) + 1).toNat) (h 0 88)) 76 (((h 0 113) + 1).toNat) 0) 0 113 (((h 0 113) + 1) + 1)) Q
                refine ja_istore dtried_118 (by decide) (L2 := [(6, (0, ((h 0 113) + 1))), (5, (0, (h 0 79))), (4, (0, ((h 0 7) + 1))), (3, (0, (h 0 113))), (2, (0, (h 0 88))), (0, (2, ((0 : Nat) : Int))), (1, (0, a1))]) rfl ?_
                refine ja_aload_n dtried_120 rfl rfl ?_
                refine ja_iconst dtried_121 ?_
                refine ja_aload_n dtried_122 rfl rfl ?_
                refine fg_locals (v := (h 0 77) + 1) rfl dtried_123 ?_
                refine ja_iconst dtried_126 ?_
                refine ja_isub dtried_127 ?_
                refine ja_iconst dtried_128 ?_
                refine t_emit (by decide) (show (0 : Nat) ≤ 8 by decide) dtried_129 g28 ⟨by decide, by decide⟩ ⟨by omega, by omega⟩ ⟨by decide, by decide⟩ (show 0 ≤ 5 ∧ 5 ≤ 26 by omega) (show (((h 0 113) + 1) + 1) < 5000 by omega) ?_
                intro g29
                replace g29 : mo_G (ja_up (ja_up (ja_up (ja_up (ja_up (ja_up (ja_up (ja_up (ja_up (ja_up (ja_up (ja_up (ja_up (ja_up (ja_up (ja_up (ja_up (ja_up (ja_up (ja_up (ja_up (ja_up (ja_up (ja_up (ja_up (ja_up (ja_up (ja_up (ja_up h 52 ((h 0 88).toNat) 5) 53 ((h 0 88).toNat) (h 0 7)) 54 ((h 0 88).toNat) (-1)) 55 ((h 0 88).toNat) 0) 56 ((h 0 88).toNat) w2) 57 ((h 0 88).toNat) w3) 0 88 ((h 0 88) + 1)) 55 ((h 0 88).toNat) 1) 74 ((h 0 113).toNat) 24) 75 ((h 0 113).toNat) 0) 76 ((h 0 113).toNat) 0) 0 113 ((h 0 113) + 1)) 75 ((a1).toNat) ((h 0 113) + 1)) 0 7 ((h 0 7) + 1)) 0 7 (((h 0 7) + 1) + 1)) 0 11 w25) 0 12 w26) 49 ((h 0 79).toNat) (h 5 ((h 0 7) + 1).toNat)) 50 ((h 0 79).toNat) (h 0 77)) 0 79 ((h 0 79) + 1)) 0 77 ((h 0 77) + 1)) 74 (((h 0 113) + 1).toNat) 15) 75 (((h 0 113) + 1).toNat) (h 0 88)) 76 (((h 0 113) + 1).toNat) 0) 0 113 (((h 0 113) + 1) + 1)) 74 ((((h 0 113) + 1) + 1).toNat) 5) 75 ((((h 0 113) + 1) + 1).toNat) (((h 0 77) + 1) - 1)) 76 ((((h 0 113) + 1) + 1).toNat) 0) 0 113 ((((h 0 113) + 1) + 1) + 1)) := g29
                show mJ l D cA ad 4 cX12_tried 8 (some .boolean) 132 [(6, (0, ((h 0 113) + 1))), (5, (0, (h 0 79))), (4, (0, ((h 0 7) + 1))), (3, (0, (h 0 113))), (2, (0, (h 0 88))), (0, (2, ((0 : Nat) : Int))), (1, (0, a1))] [(0, (((h 0 113) + 1) + 1))] (ja_up (ja_up (ja_up (ja_up (ja_up (ja_up (ja_up (ja_up (ja_up (ja_up (ja_up (ja_up (ja_up (ja_up (ja_up (ja_up (ja_up (ja_up (ja_up (ja_up (ja_up (ja_up (ja_up (ja_up (ja_up (ja_up (ja_up (ja_up (ja_up h 52 ((h 0 88).toNat) 5) 53 ((h 0 88).toNat) (h 0 7)) 54 ((h 0 88).toNat) (-1)) 55 ((h 0 88).toNat) 0) 56 ((h 0 88).toNat) w2) 57 ((h 0 88).toNat) w3) 0 88 ((h 0 88) + 1)) 55 ((h 0 88).toNat) 1) 74 ((h 0 113).toNat) 24) 75 ((h 0 113).toNat) 0) 76 ((h 0 113).toNat) 0) 0 113 ((h 0 113) + 1)) 75 ((a1).toNat) ((h 0 113) + 1)) 0 7 ((h 0 7) + 1)) 0 7 (((h 0 7) + 1) + 1)) 0 11 w25) 0 12 w26) 49 ((h 0 79).toNat) (h 5 ((h 0 7) + 1).toNat)) 50 ((h 0 79).toNat) (h 0 77)) 0 79 ((h 0 79) + 1)) 0 77 ((h 0 77) + 1)) 74 (((h 0 113) + 1).toNat) 15) 75 (((h 0 113) + 1).toNat) (h 0 88)) 76 (((h 0 113) + 1).toNat) 0) 0 113 (((h 0 113) + 1) + 1)) 74 ((((h 0 113) + 1) + 1).toNat) 5) 75 ((((h 0 113) + 1) + 1).toNat) (((h 0 77) + 1) - 1)) 76 ((((h 0 113) + 1) + 1).toNat) 0) 0 113 ((((h 0 113) + 1) + 1) + 1)) Q
                refine ja_istore dtried_132 (by decide) (L2 := [(7, (0, (((h 0 113) + 1) + 1))), (6, (0, ((h 0 113) + 1))), (5, (0, (h 0 79))), (4, (0, ((h 0 7) + 1))), (3, (0, (h 0 113))), (2, (0, (h 0 88))), (0, (2, ((0 : Nat) : Int))), (1, (0, a1))]) rfl ?_
                refine ja_aload_n dtried_134 rfl rfl ?_
                refine ja_bipush 22 dtried_135 rfl ?_
                refine ja_iload_n dtried_137 rfl rfl ?_
                refine ja_iconst dtried_138 ?_
                refine ja_iconst dtried_139 ?_
                refine t_later (by decide) (show (0 : Nat) ≤ 8 by decide) dtried_140 g29 ⟨by decide, by decide⟩ ⟨by omega, by omega⟩ ⟨by decide, by decide⟩ ⟨by decide, by decide⟩ (show 0 ≤ 22 ∧ 22 ≤ 38 by omega) (show (h 0 17) < 2000 by omega) ?_
                intro g30
                replace g30 : mo_G (ja_up (ja_up (ja_up (ja_up (ja_up (ja_up (ja_up (ja_up (ja_up (ja_up (ja_up (ja_up (ja_up (ja_up (ja_up (ja_up (ja_up (ja_up (ja_up (ja_up (ja_up (ja_up (ja_up (ja_up (ja_up (ja_up (ja_up (ja_up (ja_up (ja_up (ja_up (ja_up (ja_up (ja_up h 52 ((h 0 88).toNat) 5) 53 ((h 0 88).toNat) (h 0 7)) 54 ((h 0 88).toNat) (-1)) 55 ((h 0 88).toNat) 0) 56 ((h 0 88).toNat) w2) 57 ((h 0 88).toNat) w3) 0 88 ((h 0 88) + 1)) 55 ((h 0 88).toNat) 1) 74 ((h 0 113).toNat) 24) 75 ((h 0 113).toNat) 0) 76 ((h 0 113).toNat) 0) 0 113 ((h 0 113) + 1)) 75 ((a1).toNat) ((h 0 113) + 1)) 0 7 ((h 0 7) + 1)) 0 7 (((h 0 7) + 1) + 1)) 0 11 w25) 0 12 w26) 49 ((h 0 79).toNat) (h 5 ((h 0 7) + 1).toNat)) 50 ((h 0 79).toNat) (h 0 77)) 0 79 ((h 0 79) + 1)) 0 77 ((h 0 77) + 1)) 74 (((h 0 113) + 1).toNat) 15) 75 (((h 0 113) + 1).toNat) (h 0 88)) 76 (((h 0 113) + 1).toNat) 0) 0 113 (((h 0 113) + 1) + 1)) 74 ((((h 0 113) + 1) + 1).toNat) 5) 75 ((((h 0 113) + 1) + 1).toNat) (((h 0 77) + 1) - 1)) 76 ((((h 0 113) + 1) + 1).toNat) 0) 0 113 ((((h 0 113) + 1) + 1) + 1)) 6 ((h 0 17).toNat) 22) 7 ((h 0 17).toNat) (h 0 113)) 8 ((h 0 17).toNat) 0) 9 ((h 0 17).toNat) 0) 0 17 ((h 0 17) + 1)) := g30
                show mJ l D cA ad 4 cX12_tried 8 (some .boolean) 143 [(7, (0, (((h 0 113) + 1) + 1))), (6, (0, ((h 0 113) + 1))), (5, (0, (h 0 79))), (4, (0, ((h 0 7) + 1))), (3, (0, (h 0 113))), (2, (0, (h 0 88))), (0, (2, ((0 : Nat) : Int))), (1, (0, a1))] [(0, 1)] (ja_up (ja_up (ja_up (ja_up (ja_up (ja_up (ja_up (ja_up (ja_up (ja_up (ja_up (ja_up (ja_up (ja_up (ja_up (ja_up (ja_up (ja_up (ja_up (ja_up (ja_up (ja_up (ja_up (ja_up (ja_up (ja_up (ja_up (ja_up (ja_up (ja_up (ja_up (ja_up (ja_up (ja_up h 52 ((h 0 88).toNat) 5) 53 ((h 0 88).toNat) (h 0 7)) 54 ((h 0 88).toNat) (-1)) 55 ((h 0 88).toNat) 0) 56 ((h 0 88).toNat) w2) 57 ((h 0 88).toNat) w3) 0 88 ((h 0 88) + 1)) 55 ((h 0 88).toNat) 1) 74 ((h 0 113).toNat) 24) 75 ((h 0 113).toNat) 0) 76 ((h 0 113).toNat) 0) 0 113 ((h 0 113) + 1)) 75 ((a1).toNat) ((h 0 113) + 1)) 0 7 ((h 0 7) + 1)) 0 7 (((h 0 7) + 1) + 1)) 0 11 w25) 0 12 w26) 49 ((h 0 79).toNat) (h 5 ((h 0 7) + 1).toNat)) 50 ((h 0 79).toNat) (h 0 77)) 0 79 ((h 0 79) + 1)) 0 77 ((h 0 77) + 1)) 74 (((h 0 113) + 1).toNat) 15) 75 (((h 0 113) + 1).toNat) (h 0 88)) 76 (((h 0 113) + 1).toNat) 0) 0 113 (((h 0 113) + 1) + 1)) 74 ((((h 0 113) + 1) + 1).toNat) 5) 75 ((((h 0 113) + 1) + 1).toNat) (((h 0 77) + 1) - 1)) 76 ((((h 0 113) + 1) + 1).toNat) 0) 0 113 ((((h 0 113) + 1) + 1) + 1)) 6 ((h 0 17).toNat) 22) 7 ((h 0 17).toNat) (h 0 113)) 8 ((h 0 17).toNat) 0) 9 ((h 0 17).toNat) 0) 0 17 ((h 0 17) + 1)) Q
                refine ja_if_eq 175 dtried_143 rfl ⟨by decide, by decide⟩ (fun c143 => absurd c143 (by omega)) (fun c143 => ?_)
                refine ja_aload_n dtried_146 rfl rfl ?_
                refine ja_bipush 16 dtried_147 rfl ?_
                refine ja_iload dtried_149 rfl ?_
                refine ja_iconst dtried_151 ?_
                refine ja_iconst dtried_152 ?_
                refine t_later (by decide) (show (0 : Nat) ≤ 8 by decide) dtried_153 g30 ⟨by decide, by decide⟩ ⟨by omega, by omega⟩ ⟨by decide, by decide⟩ ⟨by decide, by decide⟩ (show 0 ≤ 16 ∧ 16 ≤ 38 by omega) (show ((h 0 17) + 1) < 2000 by omega) ?_
                intro g31
                replace g31 : mo_G (ja_up (ja_up (ja_up (ja_up (ja_up (ja_up (ja_up (ja_up (ja_up (ja_up (ja_up (ja_up (ja_up (ja_up (ja_up (ja_up (ja_up (ja_up (ja_up (ja_up (ja_up (ja_up (ja_up (ja_up (ja_up (ja_up (ja_up (ja_up (ja_up (ja_up (ja_up (ja_up (ja_up (ja_up (ja_up (ja_up (ja_up (ja_up (ja_up h 52 ((h 0 88).toNat) 5) 53 ((h 0 88).toNat) (h 0 7)) 54 ((h 0 88).toNat) (-1)) 55 ((h 0 88).toNat) 0) 56 ((h 0 88).toNat) w2) 57 ((h 0 88).toNat) w3) 0 88 ((h 0 88) + 1)) 55 ((h 0 88).toNat) 1) 74 ((h 0 113).toNat) 24) 75 ((h 0 113).toNat) 0) 76 ((h 0 113).toNat) 0) 0 113 ((h 0 113) + 1)) 75 ((a1).toNat) ((h 0 113) + 1)) 0 7 ((h 0 7) + 1)) 0 7 (((h 0 7) + 1) + 1)) 0 11 w25) 0 12 w26) 49 ((h 0 79).toNat) (h 5 ((h 0 7) + 1).toNat)) 50 ((h 0 79).toNat) (h 0 77)) 0 79 ((h 0 79) + 1)) 0 77 ((h 0 77) + 1)) 74 (((h 0 113) + 1).toNat) 15) 75 (((h 0 113) + 1).toNat) (h 0 88)) 76 (((h 0 113) + 1).toNat) 0) 0 113 (((h 0 113) + 1) + 1)) 74 ((((h 0 113) + 1) + 1).toNat) 5) 75 ((((h 0 113) + 1) + 1).toNat) (((h 0 77) + 1) - 1)) 76 ((((h 0 113) + 1) + 1).toNat) 0) 0 113 ((((h 0 113) + 1) + 1) + 1)) 6 ((h 0 17).toNat) 22) 7 ((h 0 17).toNat) (h 0 113)) 8 ((h 0 17).toNat) 0) 9 ((h 0 17).toNat) 0) 0 17 ((h 0 17) + 1)) 6 (((h 0 17) + 1).toNat) 16) 7 (((h 0 17) + 1).toNat) (h 0 79)) 8 (((h 0 17) + 1).toNat) 0) 9 (((h 0 17) + 1).toNat) 0) 0 17 (((h 0 17) + 1) + 1)) := g31
                show mJ l D cA ad 4 cX12_tried 8 (some .boolean) 156 [(7, (0, (((h 0 113) + 1) + 1))), (6, (0, ((h 0 113) + 1))), (5, (0, (h 0 79))), (4, (0, ((h 0 7) + 1))), (3, (0, (h 0 113))), (2, (0, (h 0 88))), (0, (2, ((0 : Nat) : Int))), (1, (0, a1))] [(0, 1)] (ja_up (ja_up (ja_up (ja_up (ja_up (ja_up (ja_up (ja_up (ja_up (ja_up (ja_up (ja_up (ja_up (ja_up (ja_up (ja_up (ja_up (ja_up (ja_up (ja_up (ja_up (ja_up (ja_up (ja_up (ja_up (ja_up (ja_up (ja_up (ja_up (ja_up (ja_up (ja_up (ja_up (ja_up (ja_up (ja_up (ja_up (ja_up (ja_up h 52 ((h 0 88).toNat) 5) 53 ((h 0 88).toNat) (h 0 7)) 54 ((h 0 88).toNat) (-1)) 55 ((h 0 88).toNat) 0) 56 ((h 0 88).toNat) w2) 57 ((h 0 88).toNat) w3) 0 88 ((h 0 88) + 1)) 55 ((h 0 88).toNat) 1) 74 ((h 0 113).toNat) 24) 75 ((h 0 113).toNat) 0) 76 ((h 0 113).toNat) 0) 0 113 ((h 0 113) + 1)) 75 ((a1).toNat) ((h 0 113) + 1)) 0 7 ((h 0 7) + 1)) 0 7 (((h 0 7) + 1) + 1)) 0 11 w25) 0 12 w26) 49 ((h 0 79).toNat) (h 5 ((h 0 7) + 1).toNat)) 50 ((h 0 79).toNat) (h 0 77)) 0 79 ((h 0 79) + 1)) 0 77 ((h 0 77) + 1)) 74 (((h 0 113) + 1).toNat) 15) 75 (((h 0 113) + 1).toNat) (h 0 88)) 76 (((h 0 113) + 1).toNat) 0) 0 113 (((h 0 113) + 1) + 1)) 74 ((((h 0 113) + 1) + 1).toNat) 5) 75 ((((h 0 113) + 1) + 1).toNat) (((h 0 77) + 1) - 1)) 76 ((((h 0 113) + 1) + 1).toNat) 0) 0 113 ((((h 0 113) + 1) + 1) + 1)) 6 ((h 0 17).toNat) 22) 7 ((h 0 17).toNat) (h 0 113)) 8 ((h 0 17).toNat) 0) 9 ((h 0 17).toNat) 0) 0 17 ((h 0 17) + 1)) 6 (((h 0 17) + 1).toNat) 16) 7 (((h 0 17) + 1).toNat) (h 0 79)) 8 (((h 0 17) + 1).toNat) 0) 9 (((h 0 17) + 1).toNat) 0) 0 17 (((h 0 17) + 1) + 1)) Q
                refine ja_if_eq 175 dtried_156 rfl ⟨by decide, by decide⟩ (fun c156 => absurd c156 (by omega)) (fun c156 => ?_)
                refine ja_aload_n dtried_159 rfl rfl ?_
                refine ja_bipush 14 dtried_160 rfl ?_
                refine ja_iconst dtried_162 ?_
                refine ja_iconst dtried_163 ?_
                refine ja_iconst dtried_164 ?_
                refine t_later (by decide) (show (0 : Nat) ≤ 8 by decide) dtried_165 g31 ⟨by decide, by decide⟩ ⟨by decide, by decide⟩ ⟨by decide, by decide⟩ ⟨by decide, by decide⟩ (show 0 ≤ 14 ∧ 14 ≤ 38 by omega) (show (((h 0 17) + 1) + 1) < 2000 by omega) ?_
                intro g32
                replace g32 : mo_G (ja_up (ja_up (ja_up (ja_up (ja_up (ja_up (ja_up (ja_up (ja_up (ja_up (ja_up (ja_up (ja_up (ja_up (ja_up (ja_up (ja_up (ja_up (ja_up (ja_up (ja_up (ja_up (ja_up (ja_up (ja_up (ja_up (ja_up (ja_up (ja_up (ja_up (ja_up (ja_up (ja_up (ja_up (ja_up (ja_up (ja_up (ja_up (ja_up (ja_up (ja_up (ja_up (ja_up (ja_up h 52 ((h 0 88).toNat) 5) 53 ((h 0 88).toNat) (h 0 7)) 54 ((h 0 88).toNat) (-1)) 55 ((h 0 88).toNat) 0) 56 ((h 0 88).toNat) w2) 57 ((h 0 88).toNat) w3) 0 88 ((h 0 88) + 1)) 55 ((h 0 88).toNat) 1) 74 ((h 0 113).toNat) 24) 75 ((h 0 113).toNat) 0) 76 ((h 0 113).toNat) 0) 0 113 ((h 0 113) + 1)) 75 ((a1).toNat) ((h 0 113) + 1)) 0 7 ((h 0 7) + 1)) 0 7 (((h 0 7) + 1) + 1)) 0 11 w25) 0 12 w26) 49 ((h 0 79).toNat) (h 5 ((h 0 7) + 1).toNat)) 50 ((h 0 79).toNat) (h 0 77)) 0 79 ((h 0 79) + 1)) 0 77 ((h 0 77) + 1)) 74 (((h 0 113) + 1).toNat) 15) 75 (((h 0 113) + 1).toNat) (h 0 88)) 76 (((h 0 113) + 1).toNat) 0) 0 113 (((h 0 113) + 1) + 1)) 74 ((((h 0 113) + 1) + 1).toNat) 5) 75 ((((h 0 113) + 1) + 1).toNat) (((h 0 77) + 1) - 1)) 76 ((((h 0 113) + 1) + 1).toNat) 0) 0 113 ((((h 0 113) + 1) + 1) + 1)) 6 ((h 0 17).toNat) 22) 7 ((h 0 17).toNat) (h 0 113)) 8 ((h 0 17).toNat) 0) 9 ((h 0 17).toNat) 0) 0 17 ((h 0 17) + 1)) 6 (((h 0 17) + 1).toNat) 16) 7 (((h 0 17) + 1).toNat) (h 0 79)) 8 (((h 0 17) + 1).toNat) 0) 9 (((h 0 17) + 1).toNat) 0) 0 17 (((h 0 17) + 1) + 1)) 6 ((((h 0 17) + 1) + 1).toNat) 14) 7 ((((h 0 17) + 1) + 1).toNat) 0) 8 ((((h 0 17) + 1) + 1).toNat) 0) 9 ((((h 0 17) + 1) + 1).toNat) 0) 0 17 ((((h 0 17) + 1) + 1) + 1)) := g32
                show mJ l D cA ad 4 cX12_tried 8 (some .boolean) 168 [(7, (0, (((h 0 113) + 1) + 1))), (6, (0, ((h 0 113) + 1))), (5, (0, (h 0 79))), (4, (0, ((h 0 7) + 1))), (3, (0, (h 0 113))), (2, (0, (h 0 88))), (0, (2, ((0 : Nat) : Int))), (1, (0, a1))] [(0, 1)] (ja_up (ja_up (ja_up (ja_up (ja_up (ja_up (ja_up (ja_up (ja_up (ja_up (ja_up (ja_up (ja_up (ja_up (ja_up (ja_up (ja_up (ja_up (ja_up (ja_up (ja_up (ja_up (ja_up (ja_up (ja_up (ja_up (ja_up (ja_up (ja_up (ja_up (ja_up (ja_up (ja_up (ja_up (ja_up (ja_up (ja_up (ja_up (ja_up (ja_up (ja_up (ja_up (ja_up (ja_up h 52 ((h 0 88).toNat) 5) 53 ((h 0 88).toNat) (h 0 7)) 54 ((h 0 88).toNat) (-1)) 55 ((h 0 88).toNat) 0) 56 ((h 0 88).toNat) w2) 57 ((h 0 88).toNat) w3) 0 88 ((h 0 88) + 1)) 55 ((h 0 88).toNat) 1) 74 ((h 0 113).toNat) 24) 75 ((h 0 113).toNat) 0) 76 ((h 0 113).toNat) 0) 0 113 ((h 0 113) + 1)) 75 ((a1).toNat) ((h 0 113) + 1)) 0 7 ((h 0 7) + 1)) 0 7 (((h 0 7) + 1) + 1)) 0 11 w25) 0 12 w26) 49 ((h 0 79).toNat) (h 5 ((h 0 7) + 1).toNat)) 50 ((h 0 79).toNat) (h 0 77)) 0 79 ((h 0 79) + 1)) 0 77 ((h 0 77) + 1)) 74 (((h 0 113) + 1).toNat) 15) 75 (((h 0 113) + 1).toNat) (h 0 88)) 76 (((h 0 113) + 1).toNat) 0) 0 113 (((h 0 113) + 1) + 1)) 74 ((((h 0 113) + 1) + 1).toNat) 5) 75 ((((h 0 113) + 1) + 1).toNat) (((h 0 77) + 1) - 1)) 76 ((((h 0 113) + 1) + 1).toNat) 0) 0 113 ((((h 0 113) + 1) + 1) + 1)) 6 ((h 0 17).toNat) 22) 7 ((h 0 17).toNat) (h 0 113)) 8 ((h 0 17).toNat) 0) 9 ((h 0 17).toNat) 0) 0 17 ((h 0 17) + 1)) 6 (((h 0 17) + 1).toNat) 16) 7 (((h 0 17) + 1).toNat) (h 0 79)) 8 (((h 0 17) + 1).toNat) 0) 9 (((h 0 17) + 1).toNat) 0) 0 17 (((h 0 17) + 1) + 1)) 6 ((((h 0 17) + 1) + 1).toNat) 14) 7 ((((h 0 17) + 1) + 1).toNat) 0) 8 ((((h 0 17) + 1) + 1).toNat) 0) 9 ((((h 0 17) + 1) + 1).toNat) 0) 0 17 ((((h 0 17) + 1) + 1) + 1)) Q
                refine ja_if_eq 175 dtried_168 rfl ⟨by decide, by decide⟩ (fun c168 => absurd c168 (by omega)) (fun c168 => ?_)
                refine ja_iconst dtried_171 ?_
                refine ja_goto 176 dtried_172 rfl ?_
                refine ja_zreturn dtried_176 rfl (by omega) ?_
                exact mo_fin (by omega) rfl (k1 (ja_up (ja_up (ja_up (ja_up (ja_up (ja_up (ja_up (ja_up (ja_up (ja_up (ja_up (ja_up (ja_up (ja_up (ja_up (ja_up (ja_up (ja_up (ja_up (ja_up (ja_up (ja_up (ja_up (ja_up (ja_up (ja_up (ja_up (ja_up (ja_up (ja_up (ja_up (ja_up (ja_up (ja_up (ja_up (ja_up (ja_up (ja_up (ja_up (ja_up (ja_up (ja_up (ja_up (ja_up h 52 ((h 0 88).toNat) 5) 53 ((h 0 88).toNat) (h 0 7)) 54 ((h 0 88).toNat) (-1)) 55 ((h 0 88).toNat) 0) 56 ((h 0 88).toNat) w2) 57 ((h 0 88).toNat) w3) 0 88 ((h 0 88) + 1)) 55 ((h 0 88).toNat) 1) 74 ((h 0 113).toNat) 24) 75 ((h 0 113).toNat) 0) 76 ((h 0 113).toNat) 0) 0 113 ((h 0 113) + 1)) 75 ((a1).toNat) ((h 0 113) + 1)) 0 7 ((h 0 7) + 1)) 0 7 (((h 0 7) + 1) + 1)) 0 11 w25) 0 12 w26) 49 ((h 0 79).toNat) (h 5 ((h 0 7) + 1).toNat)) 50 ((h 0 79).toNat) (h 0 77)) 0 79 ((h 0 79) + 1)) 0 77 ((h 0 77) + 1)) 74 (((h 0 113) + 1).toNat) 15) 75 (((h 0 113) + 1).toNat) (h 0 88)) 76 (((h 0 113) + 1).toNat) 0) 0 113 (((h 0 113) + 1) + 1)) 74 ((((h 0 113) + 1) + 1).toNat) 5) 75 ((((h 0 113) + 1) + 1).toNat) (((h 0 77) + 1) - 1)) 76 ((((h 0 113) + 1) + 1).toNat) 0) 0 113 ((((h 0 113) + 1) + 1) + 1)) 6 ((h 0 17).toNat) 22) 7 ((h 0 17).toNat) (h 0 113)) 8 ((h 0 17).toNat) 0) 9 ((h 0 17).toNat) 0) 0 17 ((h 0 17) + 1)) 6 (((h 0 17) + 1).toNat) 16) 7 (((h 0 17) + 1).toNat) (h 0 79)) 8 (((h 0 17) + 1).toNat) 0) 9 (((h 0 17) + 1).toNat) 0) 0 17 (((h 0 17) + 1) + 1)) 6 ((((h 0 17) + 1) + 1).toNat) 14) 7 ((((h 0 17) + 1) + 1).toNat) 0) 8 ((((h 0 17) + 1) + 1).toNat) 0) 9 ((((h 0 17) + 1) + 1).toNat) 0) 0 17 ((((h 0 17) + 1) + 1) + 1)) (ab_tried (sd := w2) (wh := w3) (f := w25) (fa := w26) (v := (h 5 ((h 0 7) + 1).toNat)) g p1 p2 (by omega) (by omega) (by omega) (by omega) (by omega) (by omega)) g32)
              · intro h33 k90_1 g34
                replace k90_1 : 0 < (h33 0 8) ∧ (h33 0 1) = (h 0 1) ∧ (h33 0 118) = (h 0 118) ∧ (h33 0 127) = (h 0 127) := k90_1
                refine ja_if_ne 98 dtried_93 rfl ⟨by decide, by decide⟩ (fun c93 => absurd c93 (by omega)) (fun c93 => ?_)
                refine ja_iconst dtried_96 ?_
                refine ja_zreturn dtried_97 rfl (by omega) ?_
                exact mo_fin (by omega) rfl (k2 h33 (by omega) g34)
            · refine ja_aload_n dtried_77 rfl rfl ?_
              refine ja_iconst dtried_78 ?_
              refine t_halt (by decide) (show (0 : Nat) ≤ 8 by decide) dtried_79 g8 ⟨by decide, by decide⟩ (show 1 ≤ 3 ∧ 3 ≤ 8 by omega) ?_
              intro h35 k79_0 g36
              replace k79_0 : 0 < (h35 0 8) ∧ (h35 0 1) = (h 0 1) ∧ (h35 0 118) = (h 0 118) ∧ (h35 0 127) = (h 0 127) := k79_0
              refine ja_zreturn dtried_82 rfl (by omega) ?_
              exact mo_fin (by omega) rfl (k2 h35 (by omega) g36)
        · intro h37 k53_1 g38
          replace k53_1 : 0 < (h37 0 8) ∧ (h37 0 1) = (h 0 1) ∧ (h37 0 118) = (h 0 118) ∧ (h37 0 127) = (h 0 127) := k53_1
          refine ja_if_ne 61 dtried_56 rfl ⟨by decide, by decide⟩ (fun c56 => absurd c56 (by omega)) (fun c56 => ?_)
          refine ja_iconst dtried_59 ?_
          refine ja_zreturn dtried_60 rfl (by omega) ?_
          exact mo_fin (by omega) rfl (k2 h37 (by omega) g38)
      · refine ja_iconst dtried_24 ?_
        refine ja_zreturn dtried_25 rfl (by omega) ?_
        exact mo_fin (by omega) rfl (k2 (ja_up (ja_up (ja_up (ja_up (ja_up (ja_up (ja_up h 52 ((h 0 88).toNat) 5) 53 ((h 0 88).toNat) (h 0 7)) 54 ((h 0 88).toNat) (-1)) 55 ((h 0 88).toNat) 0) 56 ((h 0 88).toNat) w2) 57 ((h 0 88).toNat) w3) 0 88 ((h 0 88) + 1)) (by omega) g4)
    · intro h39 k16_1 g40
      refine ja_istore_n dtried_19 rfl (by decide) (L2 := [(2, (0, (-1))), (0, (2, ((0 : Nat) : Int))), (1, (0, a1))]) rfl ?_
      refine ja_iload_n dtried_20 rfl rfl ?_
      refine ja_if_ge 26 dtried_21 rfl ⟨by decide, by decide⟩ (fun c21 => absurd c21 (by omega)) (fun c21 => ?_)
      refine ja_iconst dtried_24 ?_
      refine ja_zreturn dtried_25 rfl (by omega) ?_
      exact mo_fin (by omega) rfl (k2 h39 (by omega) g40)
  · refine ja_aload_n dtried_9 rfl rfl ?_
    refine t_wrong (by decide) (show (0 : Nat) ≤ 8 by decide) dtried_10 g  ?_
    intro h41 k10_0 g42
    refine ja_zreturn dtried_13 rfl (by omega) ?_
    exact mo_fin (by omega) rfl (k2 h41 (by omega) g42)
theorem t_tried {a1 : Int} {R r ph tf q0 b : Int} {s : List mo_A} {ht st rg : Nat → Int} {tu : Int} {d nL pc : Nat} {cc : ByteArray} {rt : Option FieldType} {L : List (Nat × ja_V)} {S : List ja_V} {h : ja_H} {Q : Option ja_V → ja_H → Prop} (hdd : 4 < d) (hwd : ja_wd S ≤ 8) (hd : decode cc pc = .ok (.invokevirtual 832, 3)) (g : mo_G h) (r1 : -2147483648 ≤ a1 ∧ a1 ≤ 2147483647) (p1 : pk_S h (h 0 17).toNat s) (p2 : piB h R r ph tf q0 ((28, a1, b) :: s) ht st rg tu) (p3 : (h 0 74) ≤ 1 ∨ (h 0 75) ≤ 24) (k1 : ∀ (h' : ja_H), (pi_done h h' R r ph tf q0 (pi_mu h ((28, a1, b) :: s))) → mo_G h' → mJ l D cA ad d cc nL rt (pc + 3) L ((0, 1) :: S) h' Q) (k2 : ∀ (h' : ja_H), (0 < (h' 0 8) ∧ (h' 0 1) = (h 0 1) ∧ (h' 0 118) = (h 0 118) ∧ (h' 0 127) = (h 0 127)) → mo_G h' → mJ l D cA ad d cc nL rt (pc + 3) L ((0, 0) :: S) h' Q) : mJ l D cA ad d cc nL rt pc L ((0, a1) :: (2, ((0 : Nat) : Int)) :: S) h Q :=
  mc_tried hdd hwd hd (s_tried g r1 p1 p2 p3 k1 k2)
end
theorem dotherwise_0 : decode cX12_otherwise 0 = .ok (.aload_n 0, 1) := by decide +kernel
theorem dotherwise_1 : decode cX12_otherwise 1 = .ok (.bipush 12, 2) := by decide +kernel
theorem dotherwise_3 : decode cX12_otherwise 3 = .ok (.invokevirtual 596, 3) := by decide +kernel
theorem dotherwise_6 : decode cX12_otherwise 6 = .ok (.ifCond .ne 15, 3) := by decide +kernel
theorem dotherwise_9 : decode cX12_otherwise 9 = .ok (.aload_n 0, 1) := by decide +kernel
theorem dotherwise_10 : decode cX12_otherwise 10 = .ok (.getfield 234, 3) := by decide +kernel
theorem dotherwise_13 : decode cX12_otherwise 13 = .ok (.iload_n 1, 1) := by decide +kernel
theorem dotherwise_14 : decode cX12_otherwise 14 = .ok (.aload_n 0, 1) := by decide +kernel
theorem dotherwise_15 : decode cX12_otherwise 15 = .ok (.getfield 611, 3) := by decide +kernel
theorem dotherwise_18 : decode cX12_otherwise 18 = .ok (.iastore, 1) := by decide +kernel
theorem dotherwise_19 : decode cX12_otherwise 19 = .ok (.iconst 1, 1) := by decide +kernel
theorem dotherwise_20 : decode cX12_otherwise 20 = .ok (.ireturn, 1) := by decide +kernel
theorem dotherwise_21 : decode cX12_otherwise 21 = .ok (.aload_n 0, 1) := by decide +kernel
theorem dotherwise_22 : decode cX12_otherwise 22 = .ok (.invokevirtual 589, 3) := by decide +kernel
theorem dotherwise_25 : decode cX12_otherwise 25 = .ok (.ifCond .ne 5, 3) := by decide +kernel
theorem dotherwise_28 : decode cX12_otherwise 28 = .ok (.iconst 0, 1) := by decide +kernel
theorem dotherwise_29 : decode cX12_otherwise 29 = .ok (.ireturn, 1) := by decide +kernel
theorem dotherwise_30 : decode cX12_otherwise 30 = .ok (.aload_n 0, 1) := by decide +kernel
theorem dotherwise_31 : decode cX12_otherwise 31 = .ok (.bipush 21, 2) := by decide +kernel
theorem dotherwise_33 : decode cX12_otherwise 33 = .ok (.iconst 0, 1) := by decide +kernel
theorem dotherwise_34 : decode cX12_otherwise 34 = .ok (.iconst 0, 1) := by decide +kernel
theorem dotherwise_35 : decode cX12_otherwise 35 = .ok (.invokevirtual 732, 3) := by decide +kernel
theorem dotherwise_38 : decode cX12_otherwise 38 = .ok (.istore_n 2, 1) := by decide +kernel
theorem dotherwise_39 : decode cX12_otherwise 39 = .ok (.aload_n 0, 1) := by decide +kernel
theorem dotherwise_40 : decode cX12_otherwise 40 = .ok (.getfield 234, 3) := by decide +kernel
theorem dotherwise_43 : decode cX12_otherwise 43 = .ok (.iload_n 1, 1) := by decide +kernel
theorem dotherwise_44 : decode cX12_otherwise 44 = .ok (.aload_n 0, 1) := by decide +kernel
theorem dotherwise_45 : decode cX12_otherwise 45 = .ok (.getfield 611, 3) := by decide +kernel
theorem dotherwise_48 : decode cX12_otherwise 48 = .ok (.iastore, 1) := by decide +kernel
theorem dotherwise_49 : decode cX12_otherwise 49 = .ok (.aload_n 0, 1) := by decide +kernel
theorem dotherwise_50 : decode cX12_otherwise 50 = .ok (.bipush 22, 2) := by decide +kernel
theorem dotherwise_52 : decode cX12_otherwise 52 = .ok (.iload_n 2, 1) := by decide +kernel
theorem dotherwise_53 : decode cX12_otherwise 53 = .ok (.iconst 0, 1) := by decide +kernel
theorem dotherwise_54 : decode cX12_otherwise 54 = .ok (.iconst 0, 1) := by decide +kernel
theorem dotherwise_55 : decode cX12_otherwise 55 = .ok (.invokevirtual 790, 3) := by decide +kernel
theorem dotherwise_58 : decode cX12_otherwise 58 = .ok (.istore_n 3, 1) := by decide +kernel
theorem dotherwise_59 : decode cX12_otherwise 59 = .ok (.aload_n 0, 1) := by decide +kernel
theorem dotherwise_60 : decode cX12_otherwise 60 = .ok (.bipush 19, 2) := by decide +kernel
theorem dotherwise_62 : decode cX12_otherwise 62 = .ok (.invokevirtual 596, 3) := by decide +kernel
theorem dotherwise_65 : decode cX12_otherwise 65 = .ok (.ifCond .ne 13, 3) := by decide +kernel
theorem dotherwise_68 : decode cX12_otherwise 68 = .ok (.aload_n 0, 1) := by decide +kernel
theorem dotherwise_69 : decode cX12_otherwise 69 = .ok (.bipush 14, 2) := by decide +kernel
theorem dotherwise_71 : decode cX12_otherwise 71 = .ok (.iconst 0, 1) := by decide +kernel
theorem dotherwise_72 : decode cX12_otherwise 72 = .ok (.iconst 0, 1) := by decide +kernel
theorem dotherwise_73 : decode cX12_otherwise 73 = .ok (.iconst 0, 1) := by decide +kernel
theorem dotherwise_74 : decode cX12_otherwise 74 = .ok (.invokevirtual 790, 3) := by decide +kernel
theorem dotherwise_77 : decode cX12_otherwise 77 = .ok (.ireturn, 1) := by decide +kernel
theorem dotherwise_78 : decode cX12_otherwise 78 = .ok (.aload_n 0, 1) := by decide +kernel
theorem dotherwise_79 : decode cX12_otherwise 79 = .ok (.invokevirtual 814, 3) := by decide +kernel
theorem dotherwise_82 : decode cX12_otherwise 82 = .ok (.ifCond .ne 5, 3) := by decide +kernel
theorem dotherwise_85 : decode cX12_otherwise 85 = .ok (.iconst 0, 1) := by decide +kernel
theorem dotherwise_86 : decode cX12_otherwise 86 = .ok (.ireturn, 1) := by decide +kernel
theorem dotherwise_87 : decode cX12_otherwise 87 = .ok (.aload_n 0, 1) := by decide +kernel
theorem dotherwise_88 : decode cX12_otherwise 88 = .ok (.bipush 25, 2) := by decide +kernel
theorem dotherwise_90 : decode cX12_otherwise 90 = .ok (.iconst 0, 1) := by decide +kernel
theorem dotherwise_91 : decode cX12_otherwise 91 = .ok (.iconst 0, 1) := by decide +kernel
theorem dotherwise_92 : decode cX12_otherwise 92 = .ok (.invokevirtual 732, 3) := by decide +kernel
theorem dotherwise_95 : decode cX12_otherwise 95 = .ok (.istore 4, 2) := by decide +kernel
theorem dotherwise_97 : decode cX12_otherwise 97 = .ok (.aload_n 0, 1) := by decide +kernel
theorem dotherwise_98 : decode cX12_otherwise 98 = .ok (.bipush 30, 2) := by decide +kernel
theorem dotherwise_100 : decode cX12_otherwise 100 = .ok (.iconst 0, 1) := by decide +kernel
theorem dotherwise_101 : decode cX12_otherwise 101 = .ok (.iconst 0, 1) := by decide +kernel
theorem dotherwise_102 : decode cX12_otherwise 102 = .ok (.iconst 0, 1) := by decide +kernel
theorem dotherwise_103 : decode cX12_otherwise 103 = .ok (.invokevirtual 790, 3) := by decide +kernel
theorem dotherwise_106 : decode cX12_otherwise 106 = .ok (.ifCond .eq 37, 3) := by decide +kernel
theorem dotherwise_109 : decode cX12_otherwise 109 = .ok (.aload_n 0, 1) := by decide +kernel
theorem dotherwise_110 : decode cX12_otherwise 110 = .ok (.invokevirtual 589, 3) := by decide +kernel
theorem dotherwise_113 : decode cX12_otherwise 113 = .ok (.ifCond .eq 30, 3) := by decide +kernel
theorem dotherwise_116 : decode cX12_otherwise 116 = .ok (.aload_n 0, 1) := by decide +kernel
theorem dotherwise_117 : decode cX12_otherwise 117 = .ok (.bipush 20, 2) := by decide +kernel
theorem dotherwise_119 : decode cX12_otherwise 119 = .ok (.iconst 0, 1) := by decide +kernel
theorem dotherwise_120 : decode cX12_otherwise 120 = .ok (.iconst 0, 1) := by decide +kernel
theorem dotherwise_121 : decode cX12_otherwise 121 = .ok (.iconst 0, 1) := by decide +kernel
theorem dotherwise_122 : decode cX12_otherwise 122 = .ok (.invokevirtual 790, 3) := by decide +kernel
theorem dotherwise_125 : decode cX12_otherwise 125 = .ok (.ifCond .eq 18, 3) := by decide +kernel
theorem dotherwise_128 : decode cX12_otherwise 128 = .ok (.aload_n 0, 1) := by decide +kernel
theorem dotherwise_129 : decode cX12_otherwise 129 = .ok (.iconst 1, 1) := by decide +kernel
theorem dotherwise_130 : decode cX12_otherwise 130 = .ok (.iconst 0, 1) := by decide +kernel
theorem dotherwise_131 : decode cX12_otherwise 131 = .ok (.iconst 0, 1) := by decide +kernel
theorem dotherwise_132 : decode cX12_otherwise 132 = .ok (.iconst 0, 1) := by decide +kernel
theorem dotherwise_133 : decode cX12_otherwise 133 = .ok (.invokevirtual 790, 3) := by decide +kernel
theorem dotherwise_136 : decode cX12_otherwise 136 = .ok (.ifCond .eq 7, 3) := by decide +kernel
theorem dotherwise_139 : decode cX12_otherwise 139 = .ok (.iconst 1, 1) := by decide +kernel
theorem dotherwise_140 : decode cX12_otherwise 140 = .ok (.goto 4, 3) := by decide +kernel
theorem dotherwise_143 : decode cX12_otherwise 143 = .ok (.iconst 0, 1) := by decide +kernel
theorem dotherwise_144 : decode cX12_otherwise 144 = .ok (.ireturn, 1) := by decide +kernel
section
variable {l : Launch} {D : va_G} {cA : Nat → ClassId} {ad : Nat → Nat}
theorem s_otherwise {a1 : Int} {R r ph tf q0 b : Int} {s : List mo_A} {ht st rg : Nat → Int} {tu : Int} {h : ja_H} {Q : Option ja_V → ja_H → Prop} (g : mo_G h) (r1 : -2147483648 ≤ a1 ∧ a1 ≤ 2147483647) (p1 : pk_S h (h 0 17).toNat s) (p2 : piB h R r ph tf q0 ((21, a1, b) :: s) ht st rg tu) (k1 : ∀ (h' : ja_H), (pi_done h h' R r ph tf q0 (pi_mu h ((21, a1, b) :: s))) → mo_G h' → Q (some (0, 1)) h') (k2 : ∀ (h' : ja_H), (0 < (h' 0 8) ∧ (h' 0 1) = (h 0 1) ∧ (h' 0 118) = (h 0 118) ∧ (h' 0 127) = (h 0 127)) → mo_G h' → Q (some (0, 0)) h') : mM_otherwise l D cA ad a1 h Q := by
  show mJ l D cA ad 3 cX12_otherwise 5 (some .boolean) 0 [(0, (2, ((0 : Nat) : Int))), (1, (0, a1))] [] h Q
  have kn_at := gF_at g
  have kn_wTop := gF_wTop g
  have kn_words := gF_words g
  have kn_nest := gF_nest g
  have hN := piB_num g p1 p2
  obtain ⟨N1, N2, N3, N4, N5, N6, N7, N8, N9, N10, N11, N12, N13, ⟨NK1, NK2⟩, ND1, ND2, ND3, NU1, NU2⟩ := hN
  have hll := bs_hl p2
  have hn1 : (h 0 18) = 0 + pk_sum pk_c s := p2.1.1
  have ha1 := bs_21 p2
  refine ja_aload_n dotherwise_0 rfl rfl ?_
  refine ja_bipush 12 dotherwise_1 rfl ?_
  refine t_isWord (by decide) (show (0 : Nat) ≤ 8 by decide) dotherwise_3 g ⟨by decide, by decide⟩ ?_
  intro w1 k3_0
  refine ja_if_ne 21 dotherwise_6 rfl ⟨by omega, by omega⟩ (fun c6 => ?_) (fun c6 => ?_)
  · refine ja_aload_n dotherwise_21 rfl rfl ?_
    refine t_take (by decide) (show (0 : Nat) ≤ 8 by decide) dotherwise_22 g  ?_ ?_
    · intro k22_0 g2
      replace k22_0 : (h 0 7) < 900 := k22_0
      replace g2 : mo_G (ja_up h 0 7 ((h 0 7) + 1)) := g2
      show mJ l D cA ad 3 cX12_otherwise 5 (some .boolean) 25 [(0, (2, ((0 : Nat) : Int))), (1, (0, a1))] [(0, 1)] (ja_up h 0 7 ((h 0 7) + 1)) Q
      refine ja_if_ne 30 dotherwise_25 rfl ⟨by decide, by decide⟩ (fun c25 => ?_) (fun c25 => absurd c25 (by omega))
      refine ja_aload_n dotherwise_30 rfl rfl ?_
      refine ja_bipush 21 dotherwise_31 rfl ?_
      refine ja_iconst dotherwise_33 ?_
      refine ja_iconst dotherwise_34 ?_
      refine t_emit (by decide) (show (0 : Nat) ≤ 8 by decide) dotherwise_35 g2 ⟨by decide, by decide⟩ ⟨by decide, by decide⟩ ⟨by decide, by decide⟩ (show 0 ≤ 21 ∧ 21 ≤ 26 by omega) (show (h 0 113) < 5000 by omega) ?_
      intro g3
      replace g3 : mo_G (ja_up (ja_up (ja_up (ja_up (ja_up h 0 7 ((h 0 7) + 1)) 74 ((h 0 113).toNat) 21) 75 ((h 0 113).toNat) 0) 76 ((h 0 113).toNat) 0) 0 113 ((h 0 113) + 1)) := g3
      show mJ l D cA ad 3 cX12_otherwise 5 (some .boolean) 38 [(0, (2, ((0 : Nat) : Int))), (1, (0, a1))] [(0, (h 0 113))] (ja_up (ja_up (ja_up (ja_up (ja_up h 0 7 ((h 0 7) + 1)) 74 ((h 0 113).toNat) 21) 75 ((h 0 113).toNat) 0) 76 ((h 0 113).toNat) 0) 0 113 ((h 0 113) + 1)) Q
      refine ja_istore_n dotherwise_38 rfl (by decide) (L2 := [(2, (0, (h 0 113))), (0, (2, ((0 : Nat) : Int))), (1, (0, a1))]) rfl ?_
      refine ja_aload_n dotherwise_39 rfl rfl ?_
      refine fa_opA dotherwise_40 ?_
      refine ja_iload_n dotherwise_43 rfl rfl ?_
      refine ja_aload_n dotherwise_44 rfl rfl ?_
      refine fg_words (v := (h 0 113) + 1) rfl dotherwise_45 ?_
      have g4 := gW_opA g3 (a1).toNat (x := (h 0 113) + 1) ⟨by omega, by omega⟩
      refine is_opA ⟨by omega, by omega⟩ dotherwise_48 ?_
      refine ja_aload_n dotherwise_49 rfl rfl ?_
      refine ja_bipush 22 dotherwise_50 rfl ?_
      refine ja_iload_n dotherwise_52 rfl rfl ?_
      refine ja_iconst dotherwise_53 ?_
      refine ja_iconst dotherwise_54 ?_
      refine t_later (by decide) (show (0 : Nat) ≤ 8 by decide) dotherwise_55 g4 ⟨by decide, by decide⟩ ⟨by omega, by omega⟩ ⟨by decide, by decide⟩ ⟨by decide, by decide⟩ (show 0 ≤ 22 ∧ 22 ≤ 38 by omega) (show (h 0 17) < 2000 by omega) ?_
      intro g5
      replace g5 : mo_G (ja_up (ja_up (ja_up (ja_up (ja_up (ja_up (ja_up (ja_up (ja_up (ja_up (ja_up h 0 7 ((h 0 7) + 1)) 74 ((h 0 113).toNat) 21) 75 ((h 0 113).toNat) 0) 76 ((h 0 113).toNat) 0) 0 113 ((h 0 113) + 1)) 75 ((a1).toNat) ((h 0 113) + 1)) 6 ((h 0 17).toNat) 22) 7 ((h 0 17).toNat) (h 0 113)) 8 ((h 0 17).toNat) 0) 9 ((h 0 17).toNat) 0) 0 17 ((h 0 17) + 1)) := g5
      show mJ l D cA ad 3 cX12_otherwise 5 (some .boolean) 58 [(2, (0, (h 0 113))), (0, (2, ((0 : Nat) : Int))), (1, (0, a1))] [(0, 1)] (ja_up (ja_up (ja_up (ja_up (ja_up (ja_up (ja_up (ja_up (ja_up (ja_up (ja_up h 0 7 ((h 0 7) + 1)) 74 ((h 0 113).toNat) 21) 75 ((h 0 113).toNat) 0) 76 ((h 0 113).toNat) 0) 0 113 ((h 0 113) + 1)) 75 ((a1).toNat) ((h 0 113) + 1)) 6 ((h 0 17).toNat) 22) 7 ((h 0 17).toNat) (h 0 113)) 8 ((h 0 17).toNat) 0) 9 ((h 0 17).toNat) 0) 0 17 ((h 0 17) + 1)) Q
      refine ja_istore_n dotherwise_58 rfl (by decide) (L2 := [(3, (0, 1)), (2, (0, (h 0 113))), (0, (2, ((0 : Nat) : Int))), (1, (0, a1))]) rfl ?_
      refine ja_aload_n dotherwise_59 rfl rfl ?_
      refine ja_bipush 19 dotherwise_60 rfl ?_
      refine t_isWord (by decide) (show (0 : Nat) ≤ 8 by decide) dotherwise_62 g5 ⟨by decide, by decide⟩ ?_
      intro w6 k62_0
      replace k62_0 : (w6 = 1 ∧ (h 2 ((h 0 7) + 1).toNat) = 1 ∧ (h 5 ((h 0 7) + 1).toNat) = 19) ∨ (w6 = 0 ∧ ¬ ((h 2 ((h 0 7) + 1).toNat) = 1 ∧ (h 5 ((h 0 7) + 1).toNat) = 19)) := k62_0
      refine ja_if_ne 78 dotherwise_65 rfl ⟨by omega, by omega⟩ (fun c65 => ?_) (fun c65 => ?_)
      · refine ja_aload_n dotherwise_78 rfl rfl ?_
        refine t_enter (by decide) (show (0 : Nat) ≤ 8 by decide) dotherwise_79 g5  ?_ ?_
        · intro k79_0 g7
          replace k79_0 : (h 0 18) < 16 := k79_0
          replace g7 : mo_G (ja_up (ja_up (ja_up (ja_up (ja_up (ja_up (ja_up (ja_up (ja_up (ja_up (ja_up (ja_up h 0 7 ((h 0 7) + 1)) 74 ((h 0 113).toNat) 21) 75 ((h 0 113).toNat) 0) 76 ((h 0 113).toNat) 0) 0 113 ((h 0 113) + 1)) 75 ((a1).toNat) ((h 0 113) + 1)) 6 ((h 0 17).toNat) 22) 7 ((h 0 17).toNat) (h 0 113)) 8 ((h 0 17).toNat) 0) 9 ((h 0 17).toNat) 0) 0 17 ((h 0 17) + 1)) 0 18 ((h 0 18) + 1)) := g7
          show mJ l D cA ad 3 cX12_otherwise 5 (some .boolean) 82 [(3, (0, 1)), (2, (0, (h 0 113))), (0, (2, ((0 : Nat) : Int))), (1, (0, a1))] [(0, 1)] (ja_up (ja_up (ja_up (ja_up (ja_up (ja_up (ja_up (ja_up (ja_up (ja_up (ja_up (ja_up h 0 7 ((h 0 7) + 1)) 74 ((h 0 113).toNat) 21) 75 ((h 0 113).toNat) 0) 76 ((h 0 113).toNat) 0) 0 113 ((h 0 113) + 1)) 75 ((a1).toNat) ((h 0 113) + 1)) 6 ((h 0 17).toNat) 22) 7 ((h 0 17).toNat) (h 0 113)) 8 ((h 0 17).toNat) 0) 9 ((h 0 17).toNat) 0) 0 17 ((h 0 17) + 1)) 0 18 ((h 0 18) + 1)) Q
          refine ja_if_ne 87 dotherwise_82 rfl ⟨by decide, by decide⟩ (fun c82 => ?_) (fun c82 => absurd c82 (by omega))
          refine ja_aload_n dotherwise_87 rfl rfl ?_
          refine ja_bipush 25 dotherwise_88 rfl ?_
          refine ja_iconst dotherwise_90 ?_
          refine ja_iconst dotherwise_91 ?_
          refine t_emit (by decide) (show (0 : Nat) ≤ 8 by decide) dotherwise_92 g7 ⟨by decide, by decide⟩ ⟨by decide, by decide⟩ ⟨by decide, by decide⟩ (show 0 ≤ 25 ∧ 25 ≤ 26 by omega) (show ((h 0 113) + 1) < 5000 by omega) ?_
          intro g8
          replace g8 : mo_G (ja_up (ja_up (ja_up (ja_up (ja_up (ja_up (ja_up (ja_up (ja_up (ja_up (ja_up (ja_up (ja_up (ja_up (ja_up (ja_up h 0 7 ((h 0 7) + 1)) 74 ((h 0 113).toNat) 21) 75 ((h 0 113).toNat) 0) 76 ((h 0 113).toNat) 0) 0 113 ((h 0 113) + 1)) 75 ((a1).toNat) ((h 0 113) + 1)) 6 ((h 0 17).toNat) 22) 7 ((h 0 17).toNat) (h 0 113)) 8 ((h 0 17).toNat) 0) 9 ((h 0 17).toNat) 0) 0 17 ((h 0 17) + 1)) 0 18 ((h 0 18) + 1)) 74 (((h 0 113) + 1).toNat) 25) 75 (((h 0 113) + 1).toNat) 0) 76 (((h 0 113) + 1).toNat) 0) 0 113 (((h 0 113) + 1) + 1)) := g8
          show mJ l D cA ad 3 cX12_otherwise 5 (some .boolean) 95 [(3, (0, 1)), (2, (0, (h 0 113))), (0, (2, ((0 : Nat) : Int))), (1, (0, a1))] [(0, ((h 0 113) + 1))] (ja_up (ja_up (ja_up (ja_up (ja_up (ja_up (ja_up (ja_up (ja_up (ja_up (ja_up (ja_up (ja_up (ja_up (ja_up (ja_up h 0 7 ((h 0 7) + 1)) 74 ((h 0 113).toNat) 21) 75 ((h 0 113).toNat) 0) 76 ((h 0 113).toNat) 0) 0 113 ((h 0 113) + 1)) 75 ((a1).toNat) ((h 0 113) + 1)) 6 ((h 0 17).toNat) 22) 7 ((h 0 17).toNat) (h 0 113)) 8 ((h 0 17).toNat) 0) 9 ((h 0 17).toNat) 0) 0 17 ((h 0 17) + 1)) 0 18 ((h 0 18) + 1)) 74 (((h 0 113) + 1).toNat) 25) 75 (((h 0 113) + 1).toNat) 0) 76 (((h 0 113) + 1).toNat) 0) 0 113 (((h 0 113) + 1) + 1)) Q
          refine ja_istore dotherwise_95 (by decide) (L2 := [(4, (0, ((h 0 113) + 1))), (3, (0, 1)), (2, (0, (h 0 113))), (0, (2, ((0 : Nat) : Int))), (1, (0, a1))]) rfl ?_
          refine ja_aload_n dotherwise_97 rfl rfl ?_
          refine ja_bipush 30 dotherwise_98 rfl ?_
          refine ja_iconst dotherwise_100 ?_
          refine ja_iconst dotherwise_101 ?_
          refine ja_iconst dotherwise_102 ?_
          refine t_later (by decide) (show (0 : Nat) ≤ 8 by decide) dotherwise_103 g8 ⟨by decide, by decide⟩ ⟨by decide, by decide⟩ ⟨by decide, by decide⟩ ⟨by decide, by decide⟩ (show 0 ≤ 30 ∧ 30 ≤ 38 by omega) (show ((h 0 17) + 1) < 2000 by omega) ?_
          intro g9
          replace g9 : mo_G (ja_up (ja_up (ja_up (ja_up (ja_up (ja_up (ja_up (ja_up (ja_up (ja_up (ja_up (ja_up (ja_up (ja_up (ja_up (ja_up (ja_up (ja_up (ja_up (ja_up (ja_up h 0 7 ((h 0 7) + 1)) 74 ((h 0 113).toNat) 21) 75 ((h 0 113).toNat) 0) 76 ((h 0 113).toNat) 0) 0 113 ((h 0 113) + 1)) 75 ((a1).toNat) ((h 0 113) + 1)) 6 ((h 0 17).toNat) 22) 7 ((h 0 17).toNat) (h 0 113)) 8 ((h 0 17).toNat) 0) 9 ((h 0 17).toNat) 0) 0 17 ((h 0 17) + 1)) 0 18 ((h 0 18) + 1)) 74 (((h 0 113) + 1).toNat) 25) 75 (((h 0 113) + 1).toNat) 0) 76 (((h 0 113) + 1).toNat) 0) 0 113 (((h 0 113) + 1) + 1)) 6 (((h 0 17) + 1).toNat) 30) 7 (((h 0 17) + 1).toNat) 0) 8 (((h 0 17) + 1).toNat) 0) 9 (((h 0 17) + 1).toNat) 0) 0 17 (((h 0 17) + 1) + 1)) := g9
          show mJ l D cA ad 3 cX12_otherwise 5 (some .boolean) 106 [(4, (0, ((h 0 113) + 1))), (3, (0, 1)), (2, (0, (h 0 113))), (0, (2, ((0 : Nat) : Int))), (1, (0, a1))] [(0, 1)] (ja_up (ja_up (ja_up (ja_up (ja_up (ja_up (ja_up (ja_up (ja_up (ja_up (ja_up (ja_up (ja_up (ja_up (ja_up (ja_up (ja_up (ja_up (ja_up (ja_up (ja_up h 0 7 ((h 0 7) + 1)) 74 ((h 0 113).toNat) 21) 75 ((h 0 113).toNat) 0) 76 ((h 0 113).toNat) 0) 0 113 ((h 0 113) + 1)) 75 ((a1).toNat) ((h 0 113) + 1)) 6 ((h 0 17).toNat) 22) 7 ((h 0 17).toNat) (h 0 113)) 8 ((h 0 17).toNat) 0) 9 ((h 0 17).toNat) 0) 0 17 ((h 0 17) + 1)) 0 18 ((h 0 18) + 1)) 74 (((h 0 113) + 1).toNat) 25) 75 (((h 0 113) + 1).toNat) 0) 76 (((h 0 113) + 1).toNat) 0) 0 113 (((h 0 113) + 1) + 1)) 6 (((h 0 17) + 1).toNat) 30) 7 (((h 0 17) + 1).toNat) 0) 8 (((h 0 17) + 1).toNat) 0) 9 (((h 0 17) + 1).toNat) 0) 0 17 (((h 0 17) + 1) + 1)) Q
          refine ja_if_eq 143 dotherwise_106 rfl ⟨by decide, by decide⟩ (fun c106 => absurd c106 (by omega)) (fun c106 => ?_)
          refine ja_aload_n dotherwise_109 rfl rfl ?_
          refine t_take (by decide) (show (0 : Nat) ≤ 8 by decide) dotherwise_110 g9  ?_ ?_
          · intro k110_0 g10
            replace k110_0 : ((h 0 7) + 1) < 900 := k110_0
            replace g10 : mo_G (ja_up (ja_up (ja_up (ja_up (ja_up (ja_up (ja_up (ja_up (ja_up (ja_up (ja_up (ja_up (ja_up (ja_up (ja_up (ja_up (ja_up (ja_up (ja_up (ja_up (ja_up (ja_up h 0 7 ((h 0 7) + 1)) 74 ((h 0 113).toNat) 21) 75 ((h 0 113).toNat) 0) 76 ((h 0 113).toNat) 0) 0 113 ((h 0 113) + 1)) 75 ((a1).toNat) ((h 0 113) + 1)) 6 ((h 0 17).toNat) 22) 7 ((h 0 17).toNat) (h 0 113)) 8 ((h 0 17).toNat) 0) 9 ((h 0 17).toNat) 0) 0 17 ((h 0 17) + 1)) 0 18 ((h 0 18) + 1)) 74 (((h 0 113) + 1).toNat) 25) 75 (((h 0 113) + 1).toNat) 0) 76 (((h 0 113) + 1).toNat) 0) 0 113 (((h 0 113) + 1) + 1)) 6 (((h 0 17) + 1).toNat) 30) 7 (((h 0 17) + 1).toNat) 0) 8 (((h 0 17) + 1).toNat) 0) 9 (((h 0 17) + 1).toNat) 0) 0 17 (((h 0 17) + 1) + 1)) 0 7 (((h 0 7) + 1) + 1)) := g10
            show mJ l D cA ad 3 cX12_otherwise 5 (some .boolean) 113 [(4, (0, ((h 0 113) + 1))), (3, (0, 1)), (2, (0, (h 0 113))), (0, (2, ((0 : Nat) : Int))), (1, (0, a1))] [(0, 1)] (ja_up (ja_up (ja_up (ja_up (ja_up (ja_up (ja_up (ja_up (ja_up (ja_up (ja_up (ja_up (ja_up (ja_up (ja_up (ja_up (ja_up (ja_up (ja_up (ja_up (ja_up (ja_up h 0 7 ((h 0 7) + 1)) 74 ((h 0 113).toNat) 21) 75 ((h 0 113).toNat) 0) 76 ((h 0 113).toNat) 0) 0 113 ((h 0 113) + 1)) 75 ((a1).toNat) ((h 0 113) + 1)) 6 ((h 0 17).toNat) 22) 7 ((h 0 17).toNat) (h 0 113)) 8 ((h 0 17).toNat) 0) 9 ((h 0 17).toNat) 0) 0 17 ((h 0 17) + 1)) 0 18 ((h 0 18) + 1)) 74 (((h 0 113) + 1).toNat) 25) 75 (((h 0 113) + 1).toNat) 0) 76 (((h 0 113) + 1).toNat) 0) 0 113 (((h 0 113) + 1) + 1)) 6 (((h 0 17) + 1).toNat) 30) 7 (((h 0 17) + 1).toNat) 0) 8 (((h 0 17) + 1).toNat) 0) 9 (((h 0 17) + 1).toNat) 0) 0 17 (((h 0 17) + 1) + 1)) 0 7 (((h 0 7) + 1) + 1)) Q
            refine ja_if_eq 143 dotherwise_113 rfl ⟨by decide, by decide⟩ (fun c113 => absurd c113 (by omega)) (fun c113 => ?_)
            refine ja_aload_n dotherwise_116 rfl rfl ?_
            refine ja_bipush 20 dotherwise_117 rfl ?_
            refine ja_iconst dotherwise_119 ?_
            refine ja_iconst dotherwise_120 ?_
            refine ja_iconst dotherwise_121 ?_
            refine t_later (by decide) (show (0 : Nat) ≤ 8 by decide) dotherwise_122 g10 ⟨by decide, by decide⟩ ⟨by decide, by decide⟩ ⟨by decide, by decide⟩ ⟨by decide, by decide⟩ (show 0 ≤ 20 ∧ 20 ≤ 38 by omega) (show (((h 0 17) + 1) + 1) < 2000 by omega) ?_
            intro g11
            replace g11 : mo_G (ja_up (ja_up (ja_up (ja_up (ja_up (ja_up (ja_up (ja_up (ja_up (ja_up (ja_up (ja_up (ja_up (ja_up (ja_up (ja_up (ja_up (ja_up (ja_up (ja_up (ja_up (ja_up (ja_up (ja_up (ja_up (ja_up (ja_up h 0 7 ((h 0 7) + 1)) 74 ((h 0 113).toNat) 21) 75 ((h 0 113).toNat) 0) 76 ((h 0 113).toNat) 0) 0 113 ((h 0 113) + 1)) 75 ((a1).toNat) ((h 0 113) + 1)) 6 ((h 0 17).toNat) 22) 7 ((h 0 17).toNat) (h 0 113)) 8 ((h 0 17).toNat) 0) 9 ((h 0 17).toNat) 0) 0 17 ((h 0 17) + 1)) 0 18 ((h 0 18) + 1)) 74 (((h 0 113) + 1).toNat) 25) 75 (((h 0 113) + 1).toNat) 0) 76 (((h 0 113) + 1).toNat) 0) 0 113 (((h 0 113) + 1) + 1)) 6 (((h 0 17) + 1).toNat) 30) 7 (((h 0 17) + 1).toNat) 0) 8 (((h 0 17) + 1).toNat) 0) 9 (((h 0 17) + 1).toNat) 0) 0 17 (((h 0 17) + 1) + 1)) 0 7 (((h 0 7) + 1) + 1)) 6 ((((h 0 17) + 1) + 1).toNat) 20) 7 ((((h 0 17) + 1) + 1).toNat) 0) 8 ((((h 0 17) + 1) + 1).toNat) 0) 9 ((((h 0 17) + 1) + 1).toNat) 0) 0 17 ((((h 0 17) + 1) + 1) + 1)) := g11
            show mJ l D cA ad 3 cX12_otherwise 5 (some .boolean) 125 [(4, (0, ((h 0 113) + 1))), (3, (0, 1)), (2, (0, (h 0 113))), (0, (2, ((0 : Nat) : Int))), (1, (0, a1))] [(0, 1)] (ja_up (ja_up (ja_up (ja_up (ja_up (ja_up (ja_up (ja_up (ja_up (ja_up (ja_up (ja_up (ja_up (ja_up (ja_up (ja_up (ja_up (ja_up (ja_up (ja_up (ja_up (ja_up (ja_up (ja_up (ja_up (ja_up (ja_up h 0 7 ((h 0 7) + 1)) 74 ((h 0 113).toNat) 21) 75 ((h 0 113).toNat) 0) 76 ((h 0 113).toNat) 0) 0 113 ((h 0 113) + 1)) 75 ((a1).toNat) ((h 0 113) + 1)) 6 ((h 0 17).toNat) 22) 7 ((h 0 17).toNat) (h 0 113)) 8 ((h 0 17).toNat) 0) 9 ((h 0 17).toNat) 0) 0 17 ((h 0 17) + 1)) 0 18 ((h 0 18) + 1)) 74 (((h 0 113) + 1).toNat) 25) 75 (((h 0 113) + 1).toNat) 0) 76 (((h 0 113) + 1).toNat) 0) 0 113 (((h 0 113) + 1) + 1)) 6 (((h 0 17) + 1).toNat) 30) 7 (((h 0 17) + 1).toNat) 0) 8 (((h 0 17) + 1).toNat) 0) 9 (((h 0 17) + 1).toNat) 0) 0 17 (((h 0 17) + 1) + 1)) 0 7 (((h 0 7) + 1) + 1)) 6 ((((h 0 17) + 1) + 1).toNat) 20) 7 ((((h 0 17) + 1) + 1).toNat) 0) 8 ((((h 0 17) + 1) + 1).toNat) 0) 9 ((((h 0 17) + 1) + 1).toNat) 0) 0 17 ((((h 0 17) + 1) + 1) + 1)) Q
            refine ja_if_eq 143 dotherwise_125 rfl ⟨by decide, by decide⟩ (fun c125 => absurd c125 (by omega)) (fun c125 => ?_)
            refine ja_aload_n dotherwise_128 rfl rfl ?_
            refine ja_iconst dotherwise_129 ?_
            refine ja_iconst dotherwise_130 ?_
            refine ja_iconst dotherwise_131 ?_
            refine ja_iconst dotherwise_132 ?_
            refine t_later (by decide) (show (0 : Nat) ≤ 8 by decide) dotherwise_133 g11 ⟨by decide, by decide⟩ ⟨by decide, by decide⟩ ⟨by decide, by decide⟩ ⟨by decide, by decide⟩ (show 0 ≤ 1 ∧ 1 ≤ 38 by omega) (show ((((h 0 17) + 1) + 1) + 1) < 2000 by omega) ?_
            intro g12
            replace g12 : mo_G (ja_up (ja_up (ja_up (ja_up (ja_up (ja_up (ja_up (ja_up (ja_up (ja_up (ja_up (ja_up (ja_up (ja_up (ja_up (ja_up (ja_up (ja_up (ja_up (ja_up (ja_up (ja_up (ja_up (ja_up (ja_up (ja_up (ja_up (ja_up (ja_up (ja_up (ja_up (ja_up h 0 7 ((h 0 7) + 1)) 74 ((h 0 113).toNat) 21) 75 ((h 0 113).toNat) 0) 76 ((h 0 113).toNat) 0) 0 113 ((h 0 113) + 1)) 75 ((a1).toNat) ((h 0 113) + 1)) 6 ((h 0 17).toNat) 22) 7 ((h 0 17).toNat) (h 0 113)) 8 ((h 0 17).toNat) 0) 9 ((h 0 17).toNat) 0) 0 17 ((h 0 17) + 1)) 0 18 ((h 0 18) + 1)) 74 (((h 0 113) + 1).toNat) 25) 75 (((h 0 113) + 1).toNat) 0) 76 (((h 0 113) + 1).toNat) 0) 0 113 (((h 0 113) + 1) + 1)) 6 (((h 0 17) + 1).toNat) 30) 7 (((h 0 17) + 1).toNat) 0) 8 (((h 0 17) + 1).toNat) 0) 9 (((h 0 17) + 1).toNat) 0) 0 17 (((h 0 17) + 1) + 1)) 0 7 (((h 0 7) + 1) + 1)) 6 ((((h 0 17) + 1) + 1).toNat) 20) 7 ((((h 0 17) + 1) + 1).toNat) 0) 8 ((((h 0 17) + 1) + 1).toNat) 0) 9 ((((h 0 17) + 1) + 1).toNat) 0) 0 17 ((((h 0 17) + 1) + 1) + 1)) 6 (((((h 0 17) + 1) + 1) + 1).toNat) 1) 7 (((((h 0 17) + 1) + 1) + 1).toNat) 0) 8 (((((h 0 17) + 1) + 1) + 1).toNat) 0) 9 (((((h 0 17) + 1) + 1) + 1).toNat) 0) 0 17 (((((h 0 17) + 1) + 1) + 1) + 1)) := g12
            show mJ l D cA ad 3 cX12_otherwise 5 (some .boolean) 136 [(4, (0, ((h 0 113) + 1))), (3, (0, 1)), (2, (0, (h 0 113))), (0, (2, ((0 : Nat) : Int))), (1, (0, a1))] [(0, 1)] (ja_up (ja_up (ja_up (ja_up (ja_up (ja_up (ja_up (ja_up (ja_up (ja_up (ja_up (ja_up (ja_up (ja_up (ja_up (ja_up (ja_up (ja_up (ja_up (ja_up (ja_up (ja_up (ja_up (ja_up (ja_up (ja_up (ja_up (ja_up (ja_up (ja_up (ja_up (ja_up h 0 7 ((h 0 7) + 1)) 74 ((h 0 113).toNat) 21) 75 ((h 0 113).toNat) 0) 76 ((h 0 113).toNat) 0) 0 113 ((h 0 113) + 1)) 75 ((a1).toNat) ((h 0 113) + 1)) 6 ((h 0 17).toNat) 22) 7 ((h 0 17).toNat) (h 0 113)) 8 ((h 0 17).toNat) 0) 9 ((h 0 17).toNat) 0) 0 17 ((h 0 17) + 1)) 0 18 ((h 0 18) + 1)) 74 (((h 0 113) + 1).toNat) 25) 75 (((h 0 113) + 1).toNat) 0) 76 (((h 0 113) + 1).toNat) 0) 0 113 (((h 0 113) + 1) + 1)) 6 (((h 0 17) + 1).toNat) 30) 7 (((h 0 17) + 1).toNat) 0) 8 (((h 0 17) + 1).toNat) 0) 9 (((h 0 17) + 1).toNat) 0) 0 17 (((h 0 17) + 1) + 1)) 0 7 (((h 0 7) + 1) + 1)) 6 ((((h 0 17) + 1) + 1).toNat) 20) 7 ((((h 0 17) + 1) + 1).toNat) 0) 8 ((((h 0 17) + 1) + 1).toNat) 0) 9 ((((h 0 17) + 1) + 1).toNat) 0) 0 17 ((((h 0 17) + 1) + 1) + 1)) 6 (((((h 0 17) + 1) + 1) + 1).toNat) 1) 7 (((((h 0 17) + 1) + 1) + 1).toNat) 0) 8 (((((h 0 17) + 1) + 1) + 1).toNat) 0) 9 (((((h 0 17) + 1) + 1) + 1).toNat) 0) 0 17 (((((h 0 17) + 1) + 1) + 1) + 1)) Q
            refine ja_if_eq 143 dotherwise_136 rfl ⟨by decide, by decide⟩ (fun c136 => absurd c136 (by omega)) (fun c136 => ?_)
            refine ja_iconst dotherwise_139 ?_
            refine ja_goto 144 dotherwise_140 rfl ?_
            refine ja_zreturn dotherwise_144 rfl (by omega) ?_
            exact mo_fin (by omega) rfl (k1 (ja_up (ja_up (ja_up (ja_up (ja_up (ja_up (ja_up (ja_up (ja_up (ja_up (ja_up (ja_up (ja_up (ja_up (ja_up (ja_up (ja_up (ja_up (ja_up (ja_up (ja_up (ja_up (ja_up (ja_up (ja_up (ja_up (ja_up (ja_up (ja_up (ja_up (ja_up (ja_up h 0 7 ((h 0 7) + 1)) 74 ((h 0 113).toNat) 21) 75 ((h 0 113).toNat) 0) 76 ((h 0 113).toNat) 0) 0 113 ((h 0 113) + 1)) 75 ((a1).toNat) ((h 0 113) + 1)) 6 ((h 0 17).toNat) 22) 7 ((h 0 17).toNat) (h 0 113)) 8 ((h 0 17).toNat) 0) 9 ((h 0 17).toNat) 0) 0 17 ((h 0 17) + 1)) 0 18 ((h 0 18) + 1)) 74 (((h 0 113) + 1).toNat) 25) 75 (((h 0 113) + 1).toNat) 0) 76 (((h 0 113) + 1).toNat) 0) 0 113 (((h 0 113) + 1) + 1)) 6 (((h 0 17) + 1).toNat) 30) 7 (((h 0 17) + 1).toNat) 0) 8 (((h 0 17) + 1).toNat) 0) 9 (((h 0 17) + 1).toNat) 0) 0 17 (((h 0 17) + 1) + 1)) 0 7 (((h 0 7) + 1) + 1)) 6 ((((h 0 17) + 1) + 1).toNat) 20) 7 ((((h 0 17) + 1) + 1).toNat) 0) 8 ((((h 0 17) + 1) + 1).toNat) 0) 9 ((((h 0 17) + 1) + 1).toNat) 0) 0 17 ((((h 0 17) + 1) + 1) + 1)) 6 (((((h 0 17) + 1) + 1) + 1).toNat) 1) 7 (((((h 0 17) + 1) + 1) + 1).toNat) 0) 8 (((((h 0 17) + 1) + 1) + 1).toNat) 0) 9 (((((h 0 17) + 1) + 1) + 1).toNat) 0) 0 17 (((((h 0 17) + 1) + 1) + 1) + 1)) (ab_else_if g p1 p2) g12)
          · intro h13 k110_1 g14
            replace k110_1 : 0 < (h13 0 8) ∧ (h13 0 1) = (h 0 1) ∧ (h13 0 118) = (h 0 118) ∧ (h13 0 127) = (h 0 127) := k110_1
            refine ja_if_eq 143 dotherwise_113 rfl ⟨by decide, by decide⟩ (fun c113 => ?_) (fun c113 => absurd c113 (by omega))
            refine ja_iconst dotherwise_143 ?_
            refine ja_zreturn dotherwise_144 rfl (by omega) ?_
            exact mo_fin (by omega) rfl (k2 h13 (by omega) g14)
        · intro h15 k79_1 g16
          replace k79_1 : 0 < (h15 0 8) ∧ (h15 0 1) = (h 0 1) ∧ (h15 0 118) = (h 0 118) ∧ (h15 0 127) = (h 0 127) := k79_1
          refine ja_if_ne 87 dotherwise_82 rfl ⟨by decide, by decide⟩ (fun c82 => absurd c82 (by omega)) (fun c82 => ?_)
          refine ja_iconst dotherwise_85 ?_
          refine ja_zreturn dotherwise_86 rfl (by omega) ?_
          exact mo_fin (by omega) rfl (k2 h15 (by omega) g16)
      · refine ja_aload_n dotherwise_68 rfl rfl ?_
        refine ja_bipush 14 dotherwise_69 rfl ?_
        refine ja_iconst dotherwise_71 ?_
        refine ja_iconst dotherwise_72 ?_
        refine ja_iconst dotherwise_73 ?_
        refine t_later (by decide) (show (0 : Nat) ≤ 8 by decide) dotherwise_74 g5 ⟨by decide, by decide⟩ ⟨by decide, by decide⟩ ⟨by decide, by decide⟩ ⟨by decide, by decide⟩ (show 0 ≤ 14 ∧ 14 ≤ 38 by omega) (show ((h 0 17) + 1) < 2000 by omega) ?_
        intro g17
        replace g17 : mo_G (ja_up (ja_up (ja_up (ja_up (ja_up (ja_up (ja_up (ja_up (ja_up (ja_up (ja_up (ja_up (ja_up (ja_up (ja_up (ja_up h 0 7 ((h 0 7) + 1)) 74 ((h 0 113).toNat) 21) 75 ((h 0 113).toNat) 0) 76 ((h 0 113).toNat) 0) 0 113 ((h 0 113) + 1)) 75 ((a1).toNat) ((h 0 113) + 1)) 6 ((h 0 17).toNat) 22) 7 ((h 0 17).toNat) (h 0 113)) 8 ((h 0 17).toNat) 0) 9 ((h 0 17).toNat) 0) 0 17 ((h 0 17) + 1)) 6 (((h 0 17) + 1).toNat) 14) 7 (((h 0 17) + 1).toNat) 0) 8 (((h 0 17) + 1).toNat) 0) 9 (((h 0 17) + 1).toNat) 0) 0 17 (((h 0 17) + 1) + 1)) := g17
        show mJ l D cA ad 3 cX12_otherwise 5 (some .boolean) 77 [(3, (0, 1)), (2, (0, (h 0 113))), (0, (2, ((0 : Nat) : Int))), (1, (0, a1))] [(0, 1)] (ja_up (ja_up (ja_up (ja_up (ja_up (ja_up (ja_up (ja_up (ja_up (ja_up (ja_up (ja_up (ja_up (ja_up (ja_up (ja_up h 0 7 ((h 0 7) + 1)) 74 ((h 0 113).toNat) 21) 75 ((h 0 113).toNat) 0) 76 ((h 0 113).toNat) 0) 0 113 ((h 0 113) + 1)) 75 ((a1).toNat) ((h 0 113) + 1)) 6 ((h 0 17).toNat) 22) 7 ((h 0 17).toNat) (h 0 113)) 8 ((h 0 17).toNat) 0) 9 ((h 0 17).toNat) 0) 0 17 ((h 0 17) + 1)) 6 (((h 0 17) + 1).toNat) 14) 7 (((h 0 17) + 1).toNat) 0) 8 (((h 0 17) + 1).toNat) 0) 9 (((h 0 17) + 1).toNat) 0) 0 17 (((h 0 17) + 1) + 1)) Q
        refine ja_zreturn dotherwise_77 rfl (by omega) ?_
        exact mo_fin (by omega) rfl (k1 (ja_up (ja_up (ja_up (ja_up (ja_up (ja_up (ja_up (ja_up (ja_up (ja_up (ja_up (ja_up (ja_up (ja_up (ja_up (ja_up h 0 7 ((h 0 7) + 1)) 74 ((h 0 113).toNat) 21) 75 ((h 0 113).toNat) 0) 76 ((h 0 113).toNat) 0) 0 113 ((h 0 113) + 1)) 75 ((a1).toNat) ((h 0 113) + 1)) 6 ((h 0 17).toNat) 22) 7 ((h 0 17).toNat) (h 0 113)) 8 ((h 0 17).toNat) 0) 9 ((h 0 17).toNat) 0) 0 17 ((h 0 17) + 1)) 6 (((h 0 17) + 1).toNat) 14) 7 (((h 0 17) + 1).toNat) 0) 8 (((h 0 17) + 1).toNat) 0) 9 (((h 0 17) + 1).toNat) 0) 0 17 (((h 0 17) + 1) + 1)) (ab_else_bl g p1 p2) g17)
    · intro h18 k22_1 g19
      refine ja_if_ne 30 dotherwise_25 rfl ⟨by decide, by decide⟩ (fun c25 => absurd c25 (by omega)) (fun c25 => ?_)
      refine ja_iconst dotherwise_28 ?_
      refine ja_zreturn dotherwise_29 rfl (by omega) ?_
      exact mo_fin (by omega) rfl (k2 h18 (by omega) g19)
  · refine ja_aload_n dotherwise_9 rfl rfl ?_
    refine fa_opA dotherwise_10 ?_
    refine ja_iload_n dotherwise_13 rfl rfl ?_
    refine ja_aload_n dotherwise_14 rfl rfl ?_
    refine fg_words (v := h 0 113) rfl dotherwise_15 ?_
    have f20 := gF_words g
    have g21 := gW_opA g (a1).toNat (x := h 0 113) ⟨by omega, by omega⟩
    refine is_opA ⟨by omega, by omega⟩ dotherwise_18 ?_
    refine ja_iconst dotherwise_19 ?_
    refine ja_zreturn dotherwise_20 rfl (by omega) ?_
    exact mo_fin (by omega) rfl (k1 (ja_up h 75 ((a1).toNat) (h 0 113)) (ab_else_end g p1 p2) g21)
theorem t_otherwise {a1 : Int} {R r ph tf q0 b : Int} {s : List mo_A} {ht st rg : Nat → Int} {tu : Int} {d nL pc : Nat} {cc : ByteArray} {rt : Option FieldType} {L : List (Nat × ja_V)} {S : List ja_V} {h : ja_H} {Q : Option ja_V → ja_H → Prop} (hdd : 3 < d) (hwd : ja_wd S ≤ 8) (hd : decode cc pc = .ok (.invokevirtual 829, 3)) (g : mo_G h) (r1 : -2147483648 ≤ a1 ∧ a1 ≤ 2147483647) (p1 : pk_S h (h 0 17).toNat s) (p2 : piB h R r ph tf q0 ((21, a1, b) :: s) ht st rg tu) (k1 : ∀ (h' : ja_H), (pi_done h h' R r ph tf q0 (pi_mu h ((21, a1, b) :: s))) → mo_G h' → mJ l D cA ad d cc nL rt (pc + 3) L ((0, 1) :: S) h' Q) (k2 : ∀ (h' : ja_H), (0 < (h' 0 8) ∧ (h' 0 1) = (h 0 1) ∧ (h' 0 118) = (h 0 118) ∧ (h' 0 127) = (h 0 127)) → mo_G h' → mJ l D cA ad d cc nL rt (pc + 3) L ((0, 0) :: S) h' Q) : mJ l D cA ad d cc nL rt pc L ((0, a1) :: (2, ((0 : Nat) : Int)) :: S) h Q :=
  mc_otherwise hdd hwd hd (s_otherwise g r1 p1 p2 k1 k2)
end
