/-! the reference: its acts (written by a program) -/
variable {Zz : Zc}
theorem bw_ok {h : ja_H} {R r ph q0 : Int} {tf : mo_TF} {x : mo_A} {s : List mo_A} {ht st rg : Nat → Int} {tu : Int} (g : mo_G Zz h) (hB : piB h R r ph tf q0 (x :: s) ht st rg tu) (hw : ph = 1 ∨ (h 0 74) ≤ 1 ∨ (h 0 75) ≤ 24) (hx : ((h 0 86) = 0 ∧ x.1 ≤ 12) ∨ (13 ≤ x.1 ∧ x.1 ≤ 30)) : (h 0 74) ≤ 1 ∨ (h 0 75) ≤ 24 := by
  refine hw.resolve_left ?_
  rcases hx with ⟨hi, hx⟩ | hx
  · have hr := reg_3 g hB hx hi
    obtain ⟨-, -, reg, -⟩ := hB
    rcases reg with ⟨q1, -⟩ | ⟨q1, ⟨q2, -⟩, -⟩ <;> omega
  · obtain ⟨-, -, reg, -⟩ := hB
    rcases reg with ⟨q1, -⟩ | ⟨q1, q2, q3, -⟩
    · omega
    · have := q3 _ List.mem_cons_self; omega
theorem is0 {v : Int} {P : Prop} (k : (v = 1 ∧ P) ∨ (v = 0 ∧ ¬ P)) (c : v = 0) : ¬ P := by
  rcases k with k | k
  · omega
  · exact k.2
theorem is1 {v : Int} {P : Prop} (k : (v = 1 ∧ P) ∨ (v = 0 ∧ ¬ P)) (c : ¬ v = 0) : P := by
  rcases k with k | k
  · exact k.2
  · omega
theorem is1v {v : Int} {P : Prop} (k : (v = 1 ∧ P) ∨ (v = 0 ∧ ¬ P)) (c : ¬ v = 0) : v = 1 := by
  rcases k with k | k
  · exact k.1
  · omega
theorem be_new {k w i : Int} (hbe : (k = 3 ∨ k = 2 ∨ (k = 5 ∧ (w = 40 ∨ w = 45)) ∨ (k = 1 ∧ (w = 28 ∨ w = 27)) ∨ (i = 0 ∧ k = 1 ∧ (w = 36 ∨ w = 26 ∨ w = 18))) ∧ ¬ (k = 5 ∧ w = 45) ∧ ¬ (k = 1 ∧ w = 28)) (h3 : ¬ k = 3) (h2 : ¬ k = 2) (h40 : ¬ (k = 5 ∧ w = 40)) (h27 : ¬ (k = 1 ∧ w = 27)) : i = 0 := by omega
theorem bs_w1 {h : ja_H} {R r ph q0 a b : Int} {tf : mo_TF} {s : List mo_A} {ht st rg : Nat → Int} {tu : Int} (hB : piB h R r ph tf q0 ((18, a, b) :: s) ht st rg tu) (q : (h 0 19) = 1 ∨ (h 0 19) = 2) : 1 ≤ (h 0 113) := by
  obtain ⟨-, -, -, -, -, -, -, -, top⟩ := hB
  obtain ⟨F1, F2, -⟩ := top.1 (Or.inr (Or.inr rfl))
  rcases q with q | q
  · exact (F1 q).1
  · exact (F2 q).1
theorem bs_be {h : ja_H} {R r ph q0 a b : Int} {tf : mo_TF} {s : List mo_A} {ht st rg : Nat → Int} {tu : Int} (hB : piB h R r ph tf q0 ((6, a, b) :: s) ht st rg tu) : ((h 2) (h 0 7).toNat = 3 ∨ (h 2) (h 0 7).toNat = 2 ∨ ((h 2) (h 0 7).toNat = 5 ∧ ((h 5) (h 0 7).toNat = 40 ∨ (h 5) (h 0 7).toNat = 45)) ∨ ((h 2) (h 0 7).toNat = 1 ∧ ((h 5) (h 0 7).toNat = 28 ∨ (h 5) (h 0 7).toNat = 27)) ∨ ((h 0 86) = 0 ∧ (h 2) (h 0 7).toNat = 1 ∧ ((h 5) (h 0 7).toNat = 36 ∨ (h 5) (h 0 7).toNat = 26 ∨ (h 5) (h 0 7).toNat = 18))) ∧ ¬ ((h 2) (h 0 7).toNat = 5 ∧ (h 5) (h 0 7).toNat = 45) ∧ ¬ ((h 2) (h 0 7).toNat = 1 ∧ (h 5) (h 0 7).toNat = 28) := by
  obtain ⟨-, -, -, -, -, -, -, -, top⟩ := hB
  exact top.2.1 rfl
theorem bs_28 {h : ja_H} {R r ph q0 a b : Int} {tf : mo_TF} {s : List mo_A} {ht st rg : Nat → Int} {tu : Int} (hB : piB h R r ph tf q0 ((28, a, b) :: s) ht st rg tu) : 0 ≤ a ∧ a < (h 0 113) := by
  obtain ⟨-, -, -, hpt, -⟩ := hB
  obtain ⟨-, -, q3, -⟩ := hpt
  obtain ⟨-, -, -, -, -, -, -, -, -, -, -, -, -, -, -, -, -, -, -, -, -, -, -, -, -, o28, -⟩ := q3
  have := (o28 rfl).1
  exact ⟨this.1, this.2.1⟩
theorem bs_21 {h : ja_H} {R r ph q0 a b : Int} {tf : mo_TF} {s : List mo_A} {ht st rg : Nat → Int} {tu : Int} (hB : piB h R r ph tf q0 ((21, a, b) :: s) ht st rg tu) : 0 ≤ a ∧ a < (h 0 113) := by
  obtain ⟨-, -, -, hpt, -⟩ := hB
  obtain ⟨-, -, q3, -⟩ := hpt
  obtain ⟨-, -, -, -, -, -, -, -, -, -, -, -, -, -, -, -, -, -, -, -, -, o21, -⟩ := q3
  have := (o21 rfl).1
  exact ⟨this.1, this.2.1⟩
theorem wn_go {h : ja_H} {r : Int} (q : (h 0 11) = 0 → r = 3)   : pi_wn h r (-1) := ⟨⟨fun _ z => q z, fun z => absurd z (by decide)⟩, fun z => absurd z.1 (by decide), fun z => absurd z.1 (by decide), fun z => absurd z.1 (by decide), fun z => absurd z (by decide)⟩
theorem mo_j_G {h : ja_H} {f p : Int} (g : mo_G Zz h) (hf : 0 ≤ f ∧ f ≤ 8) (hp : -2147483648 ≤ p ∧ p ≤ 2147483647) : mo_G Zz (ja_up (ja_up h 0 11 f) 0 12 p) := gP_falseAt (gP_false1 g (x := f) hf) (x := p) hp
section
variable {h : ja_H} {R r ph q0 a b f p : Int} {tf : mo_TF} {s : List mo_A} {ht st rg : Nat → Int} {tu : Int}
theorem ab_loadj {tok : Int} (g : mo_G Zz h) (hS : pk_S h (h 0 17).toNat s) (hB : piB h R r ph tf q0 ((6, a, b) :: s) ht st rg tu) (htk : 0 ≤ tok ∧ tok ≤ 900) (hf : 1 ≤ f ∧ f ≤ 8 ∧ -2147483648 ≤ p ∧ p ≤ 2147483647) : pi_done h (mo_L (mo_tk (mo_E (ja_up (ja_up (ja_up h 0 19 1) 0 11 f) 0 12 p) 6 tok ((h 0 76)))) 7 0 0 0) R r ph tf q0 (pi_mu h ((6, a, b) :: s)) := by
  refine pi_done_of (h1 := ja_up (ja_up (ja_up h 0 19 1) 0 11 f) 0 12 p) (by (repeat (refine ag_up rfl ?_)); exact ag_refl) ?_
  exact ab_od_loadj (mo_j_G (gP_form g (x := 1) (by decide)) (by omega) (by omega)) (pk_S_ag (by (repeat (refine ag_up rfl ?_)); exact ag_refl) hS) (piB_judge (fun z => by omega) (piB_form hB)) htk rfl (show f ≠ 0 by omega)
theorem ab_selfj (g : mo_G Zz h) (hS : pk_S h (h 0 17).toNat s) (hB : piB h R r ph tf q0 ((6, a, b) :: s) ht st rg tu) (hr3 : r ≤ 3) (hf : 1 ≤ f ∧ f ≤ 8 ∧ -2147483648 ≤ p ∧ p ≤ 2147483647) : pi_done h (mo_L (mo_tk (mo_E (ja_up (ja_up (ja_up h 0 19 0) 0 11 f) 0 12 p) 3 0 0)) 7 0 0 0) R r ph tf q0 (pi_mu h ((6, a, b) :: s)) := by
  refine pi_done_of (h1 := ja_up (ja_up (ja_up h 0 19 0) 0 11 f) 0 12 p) (by (repeat (refine ag_up rfl ?_)); exact ag_refl) ?_
  exact ab_od_self1 (mo_j_G (gP_form g (x := 0) (by decide)) (by omega) (by omega)) (pk_S_ag (by (repeat (refine ag_up rfl ?_)); exact ag_refl) hS) (piB_judge (fun z => by omega) (piB_form hB)) hr3 rfl (show f ≠ 0 by omega)
theorem ab_goj1 (g : mo_G Zz h) (hS : pk_S h (h 0 17).toNat s) (hB : piB h R r ph tf q0 ((6, a, b) :: s) ht st rg tu) (hr3 : r ≤ 3) (hf : 1 ≤ f ∧ f ≤ 8 ∧ -2147483648 ≤ p ∧ p ≤ 2147483647) : pi_done h (mo_L (mo_E (ja_up (mo_tk (ja_up (ja_up h 0 11 f) 0 12 p)) 0 19 5) 16 0 0) 7 0 0 0) R r ph tf q0 (pi_mu h ((6, a, b) :: s)) := by
  refine pi_done_of (h1 := ja_up (ja_up h 0 11 f) 0 12 p) (by (repeat (refine ag_up rfl ?_)); exact ag_refl) ?_
  exact ab_od_go1 (mo_j_G g (by omega) (by omega)) (pk_S_ag (by (repeat (refine ag_up rfl ?_)); exact ag_refl) hS) (piB_judge (fun z => by omega) hB) hr3 (wn_go (fun z => absurd (show f = 0 from z) (by omega)))
theorem ab_goj (g : mo_G Zz h) (hS : pk_S h (h 0 17).toNat s) (hB : piB h R r ph tf q0 ((6, a, b) :: s) ht st rg tu) (hr3 : r ≤ 3) (hf : 1 ≤ f ∧ f ≤ 8 ∧ -2147483648 ≤ p ∧ p ≤ 2147483647) : pi_done h (mo_L (mo_L (mo_L (mo_tk (ja_up (ja_up h 0 11 f) 0 12 p)) 7 0 0 0) 12 0 0 0) 8 0 0 0) R r ph tf q0 (pi_mu h ((6, a, b) :: s)) := by
  refine pi_done_of (h1 := ja_up (ja_up h 0 11 f) 0 12 p) (by (repeat (refine ag_up rfl ?_)); exact ag_refl) ?_
  exact ab_od_go (mo_j_G g (by omega) (by omega)) (pk_S_ag (by (repeat (refine ag_up rfl ?_)); exact ag_refl) hS) (piB_judge (fun z => by omega) hB) (wn_go (fun z => absurd (show f = 0 from z) (by omega))) hr3
end
theorem doperators_0 : decode cX12_operators 0 = .ok (.aload_n 0, 1) := by decide +kernel
theorem doperators_1 : decode cX12_operators 1 = .ok (.invokevirtual 862, 3) := by decide +kernel
theorem doperators_4 : decode cX12_operators 4 = .ok (.istore_n 2, 1) := by decide +kernel
theorem doperators_5 : decode cX12_operators 5 = .ok (.iload_n 2, 1) := by decide +kernel
theorem doperators_6 : decode cX12_operators 6 = .ok (.iload_n 1, 1) := by decide +kernel
theorem doperators_7 : decode cX12_operators 7 = .ok (.if_icmp .gt 15, 3) := by decide +kernel
theorem doperators_10 : decode cX12_operators 10 = .ok (.aload_n 0, 1) := by decide +kernel
theorem doperators_11 : decode cX12_operators 11 = .ok (.dup, 1) := by decide +kernel
theorem doperators_12 : decode cX12_operators 12 = .ok (.getfield 614, 3) := by decide +kernel
theorem doperators_15 : decode cX12_operators 15 = .ok (.iconst 1, 1) := by decide +kernel
theorem doperators_16 : decode cX12_operators 16 = .ok (.isub, 1) := by decide +kernel
theorem doperators_17 : decode cX12_operators 17 = .ok (.putfield 614, 3) := by decide +kernel
theorem doperators_20 : decode cX12_operators 20 = .ok (.iconst 1, 1) := by decide +kernel
theorem doperators_21 : decode cX12_operators 21 = .ok (.ireturn, 1) := by decide +kernel
theorem doperators_22 : decode cX12_operators 22 = .ok (.aload_n 0, 1) := by decide +kernel
theorem doperators_23 : decode cX12_operators 23 = .ok (.getfield 13, 3) := by decide +kernel
theorem doperators_26 : decode cX12_operators 26 = .ok (.aload_n 0, 1) := by decide +kernel
theorem doperators_27 : decode cX12_operators 27 = .ok (.getfield 574, 3) := by decide +kernel
theorem doperators_30 : decode cX12_operators 30 = .ok (.iaload, 1) := by decide +kernel
theorem doperators_31 : decode cX12_operators 31 = .ok (.iconst 1, 1) := by decide +kernel
theorem doperators_32 : decode cX12_operators 32 = .ok (.if_icmp .ne 7, 3) := by decide +kernel
theorem doperators_35 : decode cX12_operators 35 = .ok (.iconst 0, 1) := by decide +kernel
theorem doperators_36 : decode cX12_operators 36 = .ok (.goto 12, 3) := by decide +kernel
theorem doperators_39 : decode cX12_operators 39 = .ok (.aload_n 0, 1) := by decide +kernel
theorem doperators_40 : decode cX12_operators 40 = .ok (.getfield 22, 3) := by decide +kernel
theorem doperators_43 : decode cX12_operators 43 = .ok (.aload_n 0, 1) := by decide +kernel
theorem doperators_44 : decode cX12_operators 44 = .ok (.getfield 574, 3) := by decide +kernel
theorem doperators_47 : decode cX12_operators 47 = .ok (.iaload, 1) := by decide +kernel
theorem doperators_48 : decode cX12_operators 48 = .ok (.istore_n 3, 1) := by decide +kernel
theorem doperators_49 : decode cX12_operators 49 = .ok (.aload_n 0, 1) := by decide +kernel
theorem doperators_50 : decode cX12_operators 50 = .ok (.invokevirtual 589, 3) := by decide +kernel
theorem doperators_53 : decode cX12_operators 53 = .ok (.ifCond .ne 5, 3) := by decide +kernel
theorem doperators_56 : decode cX12_operators 56 = .ok (.iconst 0, 1) := by decide +kernel
theorem doperators_57 : decode cX12_operators 57 = .ok (.ireturn, 1) := by decide +kernel
theorem doperators_58 : decode cX12_operators 58 = .ok (.aload_n 0, 1) := by decide +kernel
theorem doperators_59 : decode cX12_operators 59 = .ok (.iconst 2, 1) := by decide +kernel
theorem doperators_60 : decode cX12_operators 60 = .ok (.iload_n 1, 1) := by decide +kernel
theorem doperators_61 : decode cX12_operators 61 = .ok (.iconst 0, 1) := by decide +kernel
theorem doperators_62 : decode cX12_operators 62 = .ok (.iconst 0, 1) := by decide +kernel
theorem doperators_63 : decode cX12_operators 63 = .ok (.invokevirtual 790, 3) := by decide +kernel
theorem doperators_66 : decode cX12_operators 66 = .ok (.istore 4, 2) := by decide +kernel
theorem doperators_68 : decode cX12_operators 68 = .ok (.iload_n 2, 1) := by decide +kernel
theorem doperators_69 : decode cX12_operators 69 = .ok (.iconst 2, 1) := by decide +kernel
theorem doperators_70 : decode cX12_operators 70 = .ok (.if_icmp .gt 31, 3) := by decide +kernel
theorem doperators_73 : decode cX12_operators 73 = .ok (.aload_n 0, 1) := by decide +kernel
theorem doperators_74 : decode cX12_operators 74 = .ok (.iconst 4, 1) := by decide +kernel
theorem doperators_75 : decode cX12_operators 75 = .ok (.aload_n 0, 1) := by decide +kernel
theorem doperators_76 : decode cX12_operators 76 = .ok (.iload_n 2, 1) := by decide +kernel
theorem doperators_77 : decode cX12_operators 77 = .ok (.iconst 1, 1) := by decide +kernel
theorem doperators_78 : decode cX12_operators 78 = .ok (.if_icmp .ne 8, 3) := by decide +kernel
theorem doperators_81 : decode cX12_operators 81 = .ok (.bipush 13, 2) := by decide +kernel
theorem doperators_83 : decode cX12_operators 83 = .ok (.goto 5, 3) := by decide +kernel
theorem doperators_86 : decode cX12_operators 86 = .ok (.bipush 12, 2) := by decide +kernel
theorem doperators_88 : decode cX12_operators 88 = .ok (.iconst 0, 1) := by decide +kernel
theorem doperators_89 : decode cX12_operators 89 = .ok (.iconst 0, 1) := by decide +kernel
theorem doperators_90 : decode cX12_operators 90 = .ok (.invokevirtual 732, 3) := by decide +kernel
theorem doperators_93 : decode cX12_operators 93 = .ok (.iconst 0, 1) := by decide +kernel
theorem doperators_94 : decode cX12_operators 94 = .ok (.iconst 0, 1) := by decide +kernel
theorem doperators_95 : decode cX12_operators 95 = .ok (.invokevirtual 790, 3) := by decide +kernel
theorem doperators_98 : decode cX12_operators 98 = .ok (.goto 11, 3) := by decide +kernel
theorem doperators_101 : decode cX12_operators 101 = .ok (.aload_n 0, 1) := by decide +kernel
theorem doperators_102 : decode cX12_operators 102 = .ok (.iconst 3, 1) := by decide +kernel
theorem doperators_103 : decode cX12_operators 103 = .ok (.iload_n 3, 1) := by decide +kernel
theorem doperators_104 : decode cX12_operators 104 = .ok (.iconst 0, 1) := by decide +kernel
theorem doperators_105 : decode cX12_operators 105 = .ok (.iconst 0, 1) := by decide +kernel
theorem doperators_106 : decode cX12_operators 106 = .ok (.invokevirtual 790, 3) := by decide +kernel
theorem doperators_109 : decode cX12_operators 109 = .ok (.istore 4, 2) := by decide +kernel
theorem doperators_111 : decode cX12_operators 111 = .ok (.aload_n 0, 1) := by decide +kernel
theorem doperators_112 : decode cX12_operators 112 = .ok (.iconst 1, 1) := by decide +kernel
theorem doperators_113 : decode cX12_operators 113 = .ok (.iload_n 2, 1) := by decide +kernel
theorem doperators_114 : decode cX12_operators 114 = .ok (.iconst 0, 1) := by decide +kernel
theorem doperators_115 : decode cX12_operators 115 = .ok (.iconst 0, 1) := by decide +kernel
theorem doperators_116 : decode cX12_operators 116 = .ok (.invokevirtual 790, 3) := by decide +kernel
theorem doperators_119 : decode cX12_operators 119 = .ok (.ireturn, 1) := by decide +kernel
section
variable {l : Launch} {D : va_G} {cA : Nat → ClassId} {ad : Nat → Nat}
theorem s_operators {a1 : Int} {R r ph q0 b : Int} {tf : mo_TF} {s : List mo_A} {ht st rg : Nat → Int} {tu : Int} {h : ja_H} {Q : Option ja_V → ja_H → Prop} (g : mo_G Zz h) (r1 : -2147483648 ≤ a1 ∧ a1 ≤ 2147483647) (p1 : pk_S h (h 0 17).toNat s) (p2 : piB h R r ph tf q0 ((2, a1, b) :: s) ht st rg tu) (k1 : ∀ (h' : ja_H), (pi_done h h' R r ph tf q0 (pi_mu h ((2, a1, b) :: s))) → mo_G Zz h' → Q (some (0, 1)) h') (k2 : ∀ (h' : ja_H), (0 < (h' 0 8) ∧ (h' 0 1) = (h 0 1) ∧ (h' 0 118) = (h 0 118) ∧ (h' 0 127) = (h 0 127)) → mo_G Zz h' → Q (some (0, 0)) h') : mM_operators l D cA ad a1 h Q := by
  show mJ l D cA ad 3 cX12_operators 5 (some .boolean) 0 [(0, (2, ((0 : Nat) : Int))), (1, (0, a1))] [] h Q
  have kn_at := gF_at g
  have kn_wTop := gF_wTop g
  have kn_words := gF_words g
  have kn_nest := gF_nest g
  have hN := piB_num g p1 p2
  obtain ⟨N1, N2, N3, N4, N5, N6, N7, N8, N9, N10, N11, N12, N13, ⟨NK1, NK2⟩, ND1, ND2, ND3, NU1, NU2⟩ := hN
  have hn1 : (h 0 18) = 1 + pk_sum pk_c s := p2.1.1
  refine ja_aload_n doperators_0 rfl rfl ?_
  refine t_strength (by decide) (show (0 : Nat) ≤ 8 by decide) doperators_1 g  ?_
  intro w1 k1_0
  refine ja_istore_n doperators_4 rfl (by decide) (L2 := [(2, (0, w1)), (0, (2, ((0 : Nat) : Int))), (1, (0, a1))]) rfl ?_
  refine ja_iload_n doperators_5 rfl rfl ?_
  refine ja_iload_n doperators_6 rfl rfl ?_
  refine ja_icmp_gt 22 doperators_7 rfl ⟨by omega, by omega⟩ ⟨by omega, by omega⟩ (fun c7 => ?_) (fun c7 => ?_)
  · refine ja_aload_n doperators_22 rfl rfl ?_
    refine fa_kinds doperators_23 ?_
    refine ja_aload_n doperators_26 rfl rfl ?_
    refine fg_at (v := h 0 7) rfl doperators_27 ?_
    have f2 := gF_at g
    refine il_kinds (v := h 2 (h 0 7).toNat) rfl ⟨by omega, by omega⟩ doperators_30 ?_
    have f3 := gC_kinds g (h 0 7).toNat
    refine ja_iconst doperators_31 ?_
    refine ja_icmp_ne 39 doperators_32 rfl ⟨by omega, by omega⟩ ⟨by decide, by decide⟩ (fun c32 => ?_) (fun c32 => ?_)
    · refine ja_aload_n doperators_39 rfl rfl ?_
      refine fa_worths doperators_40 ?_
      refine ja_aload_n doperators_43 rfl rfl ?_
      refine fg_at (v := h 0 7) rfl doperators_44 ?_
      refine il_worths (v := h 5 (h 0 7).toNat) rfl ⟨by omega, by omega⟩ doperators_47 ?_
      have f4 := gC_worths g (h 0 7).toNat
      refine ja_istore_n doperators_48 rfl (by decide) (L2 := [(3, (0, (h 5 (h 0 7).toNat))), (2, (0, w1)), (0, (2, ((0 : Nat) : Int))), (1, (0, a1))]) rfl ?_
      refine ja_aload_n doperators_49 rfl rfl ?_
      refine t_take (by decide) (show (0 : Nat) ≤ 8 by decide) doperators_50 g  ?_ ?_
      · intro k50_0 g5
        replace k50_0 : (h 0 7) < 900 := k50_0
        replace g5 : mo_G Zz (ja_up h 0 7 ((h 0 7) + 1)) := g5
        show mJ l D cA ad 3 cX12_operators 5 (some .boolean) 53 [(3, (0, (h 5 (h 0 7).toNat))), (2, (0, w1)), (0, (2, ((0 : Nat) : Int))), (1, (0, a1))] [(0, 1)] (ja_up h 0 7 ((h 0 7) + 1)) Q
        refine ja_if_ne 58 doperators_53 rfl ⟨by decide, by decide⟩ (fun c53 => ?_) (fun c53 => absurd c53 (by omega))
        refine ja_aload_n doperators_58 rfl rfl ?_
        refine ja_iconst doperators_59 ?_
        refine ja_iload_n doperators_60 rfl rfl ?_
        refine ja_iconst doperators_61 ?_
        refine ja_iconst doperators_62 ?_
        refine t_later (by decide) (show (0 : Nat) ≤ 8 by decide) doperators_63 g5 ⟨by decide, by decide⟩ ⟨by omega, by omega⟩ ⟨by decide, by decide⟩ ⟨by decide, by decide⟩ (show 0 ≤ 2 ∧ 2 ≤ 38 by omega) (show (h 0 17) < 2000 by omega) ?_
        intro g6
        replace g6 : mo_G Zz (ja_up (ja_up (ja_up (ja_up (ja_up (ja_up h 0 7 ((h 0 7) + 1)) 6 ((h 0 17).toNat) 2) 7 ((h 0 17).toNat) a1) 8 ((h 0 17).toNat) 0) 9 ((h 0 17).toNat) 0) 0 17 ((h 0 17) + 1)) := g6
        show mJ l D cA ad 3 cX12_operators 5 (some .boolean) 66 [(3, (0, (h 5 (h 0 7).toNat))), (2, (0, w1)), (0, (2, ((0 : Nat) : Int))), (1, (0, a1))] [(0, 1)] (ja_up (ja_up (ja_up (ja_up (ja_up (ja_up h 0 7 ((h 0 7) + 1)) 6 ((h 0 17).toNat) 2) 7 ((h 0 17).toNat) a1) 8 ((h 0 17).toNat) 0) 9 ((h 0 17).toNat) 0) 0 17 ((h 0 17) + 1)) Q
        refine ja_istore doperators_66 (by decide) (L2 := [(4, (0, 1)), (3, (0, (h 5 (h 0 7).toNat))), (2, (0, w1)), (0, (2, ((0 : Nat) : Int))), (1, (0, a1))]) rfl ?_
        refine ja_iload_n doperators_68 rfl rfl ?_
        refine ja_iconst doperators_69 ?_
        refine ja_icmp_gt 101 doperators_70 rfl ⟨by omega, by omega⟩ ⟨by decide, by decide⟩ (fun c70 => ?_) (fun c70 => ?_)
        · refine ja_aload_n doperators_101 rfl rfl ?_
          refine ja_iconst doperators_102 ?_
          refine ja_iload_n doperators_103 rfl rfl ?_
          refine ja_iconst doperators_104 ?_
          refine ja_iconst doperators_105 ?_
          refine t_later (by decide) (show (0 : Nat) ≤ 8 by decide) doperators_106 g6 ⟨by decide, by decide⟩ ⟨by omega, by omega⟩ ⟨by decide, by decide⟩ ⟨by decide, by decide⟩ (show 0 ≤ 3 ∧ 3 ≤ 38 by omega) (show ((h 0 17) + 1) < 2000 by omega) ?_
          intro g7
          replace g7 : mo_G Zz (ja_up (ja_up (ja_up (ja_up (ja_up (ja_up (ja_up (ja_up (ja_up (ja_up (ja_up h 0 7 ((h 0 7) + 1)) 6 ((h 0 17).toNat) 2) 7 ((h 0 17).toNat) a1) 8 ((h 0 17).toNat) 0) 9 ((h 0 17).toNat) 0) 0 17 ((h 0 17) + 1)) 6 (((h 0 17) + 1).toNat) 3) 7 (((h 0 17) + 1).toNat) (h 5 (h 0 7).toNat)) 8 (((h 0 17) + 1).toNat) 0) 9 (((h 0 17) + 1).toNat) 0) 0 17 (((h 0 17) + 1) + 1)) := g7
          show mJ l D cA ad 3 cX12_operators 5 (some .boolean) 109 [(4, (0, 1)), (3, (0, (h 5 (h 0 7).toNat))), (2, (0, w1)), (0, (2, ((0 : Nat) : Int))), (1, (0, a1))] [(0, 1)] (ja_up (ja_up (ja_up (ja_up (ja_up (ja_up (ja_up (ja_up (ja_up (ja_up (ja_up h 0 7 ((h 0 7) + 1)) 6 ((h 0 17).toNat) 2) 7 ((h 0 17).toNat) a1) 8 ((h 0 17).toNat) 0) 9 ((h 0 17).toNat) 0) 0 17 ((h 0 17) + 1)) 6 (((h 0 17) + 1).toNat) 3) 7 (((h 0 17) + 1).toNat) (h 5 (h 0 7).toNat)) 8 (((h 0 17) + 1).toNat) 0) 9 (((h 0 17) + 1).toNat) 0) 0 17 (((h 0 17) + 1) + 1)) Q
          refine ja_istore doperators_109 (by decide) (L2 := [(4, (0, 1)), (3, (0, (h 5 (h 0 7).toNat))), (2, (0, w1)), (0, (2, ((0 : Nat) : Int))), (1, (0, a1))]) rfl ?_
          refine ja_aload_n doperators_111 rfl rfl ?_
          refine ja_iconst doperators_112 ?_
          refine ja_iload_n doperators_113 rfl rfl ?_
          refine ja_iconst doperators_114 ?_
          refine ja_iconst doperators_115 ?_
          refine t_later (by decide) (show (0 : Nat) ≤ 8 by decide) doperators_116 g7 ⟨by decide, by decide⟩ ⟨by omega, by omega⟩ ⟨by decide, by decide⟩ ⟨by decide, by decide⟩ (show 0 ≤ 1 ∧ 1 ≤ 38 by omega) (show (((h 0 17) + 1) + 1) < 2000 by omega) ?_
          intro g8
          replace g8 : mo_G Zz (ja_up (ja_up (ja_up (ja_up (ja_up (ja_up (ja_up (ja_up (ja_up (ja_up (ja_up (ja_up (ja_up (ja_up (ja_up (ja_up h 0 7 ((h 0 7) + 1)) 6 ((h 0 17).toNat) 2) 7 ((h 0 17).toNat) a1) 8 ((h 0 17).toNat) 0) 9 ((h 0 17).toNat) 0) 0 17 ((h 0 17) + 1)) 6 (((h 0 17) + 1).toNat) 3) 7 (((h 0 17) + 1).toNat) (h 5 (h 0 7).toNat)) 8 (((h 0 17) + 1).toNat) 0) 9 (((h 0 17) + 1).toNat) 0) 0 17 (((h 0 17) + 1) + 1)) 6 ((((h 0 17) + 1) + 1).toNat) 1) 7 ((((h 0 17) + 1) + 1).toNat) w1) 8 ((((h 0 17) + 1) + 1).toNat) 0) 9 ((((h 0 17) + 1) + 1).toNat) 0) 0 17 ((((h 0 17) + 1) + 1) + 1)) := g8
          show mJ l D cA ad 3 cX12_operators 5 (some .boolean) 119 [(4, (0, 1)), (3, (0, (h 5 (h 0 7).toNat))), (2, (0, w1)), (0, (2, ((0 : Nat) : Int))), (1, (0, a1))] [(0, 1)] (ja_up (ja_up (ja_up (ja_up (ja_up (ja_up (ja_up (ja_up (ja_up (ja_up (ja_up (ja_up (ja_up (ja_up (ja_up (ja_up h 0 7 ((h 0 7) + 1)) 6 ((h 0 17).toNat) 2) 7 ((h 0 17).toNat) a1) 8 ((h 0 17).toNat) 0) 9 ((h 0 17).toNat) 0) 0 17 ((h 0 17) + 1)) 6 (((h 0 17) + 1).toNat) 3) 7 (((h 0 17) + 1).toNat) (h 5 (h 0 7).toNat)) 8 (((h 0 17) + 1).toNat) 0) 9 (((h 0 17) + 1).toNat) 0) 0 17 (((h 0 17) + 1) + 1)) 6 ((((h 0 17) + 1) + 1).toNat) 1) 7 ((((h 0 17) + 1) + 1).toNat) w1) 8 ((((h 0 17) + 1) + 1).toNat) 0) 9 ((((h 0 17) + 1) + 1).toNat) 0) 0 17 ((((h 0 17) + 1) + 1) + 1)) Q
          refine ja_zreturn doperators_119 rfl (by omega) ?_
          exact mo_fin (by omega) rfl (k1 (ja_up (ja_up (ja_up (ja_up (ja_up (ja_up (ja_up (ja_up (ja_up (ja_up (ja_up (ja_up (ja_up (ja_up (ja_up (ja_up h 0 7 ((h 0 7) + 1)) 6 ((h 0 17).toNat) 2) 7 ((h 0 17).toNat) a1) 8 ((h 0 17).toNat) 0) 9 ((h 0 17).toNat) 0) 0 17 ((h 0 17) + 1)) 6 (((h 0 17) + 1).toNat) 3) 7 (((h 0 17) + 1).toNat) (h 5 (h 0 7).toNat)) 8 (((h 0 17) + 1).toNat) 0) 9 (((h 0 17) + 1).toNat) 0) 0 17 (((h 0 17) + 1) + 1)) 6 ((((h 0 17) + 1) + 1).toNat) 1) 7 ((((h 0 17) + 1) + 1).toNat) w1) 8 ((((h 0 17) + 1) + 1).toNat) 0) 9 ((((h 0 17) + 1) + 1).toNat) 0) 0 17 ((((h 0 17) + 1) + 1) + 1)) (ab_ops_bin g p1 p2) g8)
        · refine ja_aload_n doperators_73 rfl rfl ?_
          refine ja_iconst doperators_74 ?_
          refine ja_aload_n doperators_75 rfl rfl ?_
          refine ja_iload_n doperators_76 rfl rfl ?_
          refine ja_iconst doperators_77 ?_
          refine ja_icmp_ne 86 doperators_78 rfl ⟨by omega, by omega⟩ ⟨by decide, by decide⟩ (fun c78 => ?_) (fun c78 => ?_)
          · refine ja_bipush 12 doperators_86 rfl ?_
            refine ja_iconst doperators_88 ?_
            refine ja_iconst doperators_89 ?_
            refine t_emit (by decide) (show (2 : Nat) ≤ 8 by decide) doperators_90 g6 ⟨by decide, by decide⟩ ⟨by decide, by decide⟩ ⟨by decide, by decide⟩ (show 0 ≤ 12 ∧ 12 ≤ 26 by omega) (show (h 0 113) < 5000 by omega) ?_
            intro g9
            replace g9 : mo_G Zz (ja_up (ja_up (ja_up (ja_up (ja_up (ja_up (ja_up (ja_up (ja_up (ja_up h 0 7 ((h 0 7) + 1)) 6 ((h 0 17).toNat) 2) 7 ((h 0 17).toNat) a1) 8 ((h 0 17).toNat) 0) 9 ((h 0 17).toNat) 0) 0 17 ((h 0 17) + 1)) 74 ((h 0 113).toNat) 12) 75 ((h 0 113).toNat) 0) 76 ((h 0 113).toNat) 0) 0 113 ((h 0 113) + 1)) := g9
            show mJ l D cA ad 3 cX12_operators 5 (some .boolean) 93 [(4, (0, 1)), (3, (0, (h 5 (h 0 7).toNat))), (2, (0, w1)), (0, (2, ((0 : Nat) : Int))), (1, (0, a1))] [(0, (h 0 113)), (0, 4), (2, ((0 : Nat) : Int))] (ja_up (ja_up (ja_up (ja_up (ja_up (ja_up (ja_up (ja_up (ja_up (ja_up h 0 7 ((h 0 7) + 1)) 6 ((h 0 17).toNat) 2) 7 ((h 0 17).toNat) a1) 8 ((h 0 17).toNat) 0) 9 ((h 0 17).toNat) 0) 0 17 ((h 0 17) + 1)) 74 ((h 0 113).toNat) 12) 75 ((h 0 113).toNat) 0) 76 ((h 0 113).toNat) 0) 0 113 ((h 0 113) + 1)) Q
            refine ja_iconst doperators_93 ?_
            refine ja_iconst doperators_94 ?_
            refine t_later (by decide) (show (0 : Nat) ≤ 8 by decide) doperators_95 g9 ⟨by decide, by decide⟩ ⟨by omega, by omega⟩ ⟨by decide, by decide⟩ ⟨by decide, by decide⟩ (show 0 ≤ 4 ∧ 4 ≤ 38 by omega) (show ((h 0 17) + 1) < 2000 by omega) ?_
            intro g10
            replace g10 : mo_G Zz (ja_up (ja_up (ja_up (ja_up (ja_up (ja_up (ja_up (ja_up (ja_up (ja_up (ja_up (ja_up (ja_up (ja_up (ja_up h 0 7 ((h 0 7) + 1)) 6 ((h 0 17).toNat) 2) 7 ((h 0 17).toNat) a1) 8 ((h 0 17).toNat) 0) 9 ((h 0 17).toNat) 0) 0 17 ((h 0 17) + 1)) 74 ((h 0 113).toNat) 12) 75 ((h 0 113).toNat) 0) 76 ((h 0 113).toNat) 0) 0 113 ((h 0 113) + 1)) 6 (((h 0 17) + 1).toNat) 4) 7 (((h 0 17) + 1).toNat) (h 0 113)) 8 (((h 0 17) + 1).toNat) 0) 9 (((h 0 17) + 1).toNat) 0) 0 17 (((h 0 17) + 1) + 1)) := g10
            show mJ l D cA ad 3 cX12_operators 5 (some .boolean) 98 [(4, (0, 1)), (3, (0, (h 5 (h 0 7).toNat))), (2, (0, w1)), (0, (2, ((0 : Nat) : Int))), (1, (0, a1))] [(0, 1)] (ja_up (ja_up (ja_up (ja_up (ja_up (ja_up (ja_up (ja_up (ja_up (ja_up (ja_up (ja_up (ja_up (ja_up (ja_up h 0 7 ((h 0 7) + 1)) 6 ((h 0 17).toNat) 2) 7 ((h 0 17).toNat) a1) 8 ((h 0 17).toNat) 0) 9 ((h 0 17).toNat) 0) 0 17 ((h 0 17) + 1)) 74 ((h 0 113).toNat) 12) 75 ((h 0 113).toNat) 0) 76 ((h 0 113).toNat) 0) 0 113 ((h 0 113) + 1)) 6 (((h 0 17) + 1).toNat) 4) 7 (((h 0 17) + 1).toNat) (h 0 113)) 8 (((h 0 17) + 1).toNat) 0) 9 (((h 0 17) + 1).toNat) 0) 0 17 (((h 0 17) + 1) + 1)) Q
            refine ja_goto 109 doperators_98 rfl ?_
            refine ja_istore doperators_109 (by decide) (L2 := [(4, (0, 1)), (3, (0, (h 5 (h 0 7).toNat))), (2, (0, w1)), (0, (2, ((0 : Nat) : Int))), (1, (0, a1))]) rfl ?_
            refine ja_aload_n doperators_111 rfl rfl ?_
            refine ja_iconst doperators_112 ?_
            refine ja_iload_n doperators_113 rfl rfl ?_
            refine ja_iconst doperators_114 ?_
            refine ja_iconst doperators_115 ?_
            refine t_later (by decide) (show (0 : Nat) ≤ 8 by decide) doperators_116 g10 ⟨by decide, by decide⟩ ⟨by omega, by omega⟩ ⟨by decide, by decide⟩ ⟨by decide, by decide⟩ (show 0 ≤ 1 ∧ 1 ≤ 38 by omega) (show (((h 0 17) + 1) + 1) < 2000 by omega) ?_
            intro g11
            replace g11 : mo_G Zz (ja_up (ja_up (ja_up (ja_up (ja_up (ja_up (ja_up (ja_up (ja_up (ja_up (ja_up (ja_up (ja_up (ja_up (ja_up (ja_up (ja_up (ja_up (ja_up (ja_up h 0 7 ((h 0 7) + 1)) 6 ((h 0 17).toNat) 2) 7 ((h 0 17).toNat) a1) 8 ((h 0 17).toNat) 0) 9 ((h 0 17).toNat) 0) 0 17 ((h 0 17) + 1)) 74 ((h 0 113).toNat) 12) 75 ((h 0 113).toNat) 0) 76 ((h 0 113).toNat) 0) 0 113 ((h 0 113) + 1)) 6 (((h 0 17) + 1).toNat) 4) 7 (((h 0 17) + 1).toNat) (h 0 113)) 8 (((h 0 17) + 1).toNat) 0) 9 (((h 0 17) + 1).toNat) 0) 0 17 (((h 0 17) + 1) + 1)) 6 ((((h 0 17) + 1) + 1).toNat) 1) 7 ((((h 0 17) + 1) + 1).toNat) w1) 8 ((((h 0 17) + 1) + 1).toNat) 0) 9 ((((h 0 17) + 1) + 1).toNat) 0) 0 17 ((((h 0 17) + 1) + 1) + 1)) := g11
            show mJ l D cA ad 3 cX12_operators 5 (some .boolean) 119 [(4, (0, 1)), (3, (0, (h 5 (h 0 7).toNat))), (2, (0, w1)), (0, (2, ((0 : Nat) : Int))), (1, (0, a1))] [(0, 1)] (ja_up (ja_up (ja_up (ja_up (ja_up (ja_up (ja_up (ja_up (ja_up (ja_up (ja_up (ja_up (ja_up (ja_up (ja_up (ja_up (ja_up (ja_up (ja_up (ja_up h 0 7 ((h 0 7) + 1)) 6 ((h 0 17).toNat) 2) 7 ((h 0 17).toNat) a1) 8 ((h 0 17).toNat) 0) 9 ((h 0 17).toNat) 0) 0 17 ((h 0 17) + 1)) 74 ((h 0 113).toNat) 12) 75 ((h 0 113).toNat) 0) 76 ((h 0 113).toNat) 0) 0 113 ((h 0 113) + 1)) 6 (((h 0 17) + 1).toNat) 4) 7 (((h 0 17) + 1).toNat) (h 0 113)) 8 (((h 0 17) + 1).toNat) 0) 9 (((h 0 17) + 1).toNat) 0) 0 17 (((h 0 17) + 1) + 1)) 6 ((((h 0 17) + 1) + 1).toNat) 1) 7 ((((h 0 17) + 1) + 1).toNat) w1) 8 ((((h 0 17) + 1) + 1).toNat) 0) 9 ((((h 0 17) + 1) + 1).toNat) 0) 0 17 ((((h 0 17) + 1) + 1) + 1)) Q
            refine ja_zreturn doperators_119 rfl (by omega) ?_
            exact mo_fin (by omega) rfl (k1 (ja_up (ja_up (ja_up (ja_up (ja_up (ja_up (ja_up (ja_up (ja_up (ja_up (ja_up (ja_up (ja_up (ja_up (ja_up (ja_up (ja_up (ja_up (ja_up (ja_up h 0 7 ((h 0 7) + 1)) 6 ((h 0 17).toNat) 2) 7 ((h 0 17).toNat) a1) 8 ((h 0 17).toNat) 0) 9 ((h 0 17).toNat) 0) 0 17 ((h 0 17) + 1)) 74 ((h 0 113).toNat) 12) 75 ((h 0 113).toNat) 0) 76 ((h 0 113).toNat) 0) 0 113 ((h 0 113) + 1)) 6 (((h 0 17) + 1).toNat) 4) 7 (((h 0 17) + 1).toNat) (h 0 113)) 8 (((h 0 17) + 1).toNat) 0) 9 (((h 0 17) + 1).toNat) 0) 0 17 (((h 0 17) + 1) + 1)) 6 ((((h 0 17) + 1) + 1).toNat) 1) 7 ((((h 0 17) + 1) + 1).toNat) w1) 8 ((((h 0 17) + 1) + 1).toNat) 0) 9 ((((h 0 17) + 1) + 1).toNat) 0) 0 17 ((((h 0 17) + 1) + 1) + 1)) (ab_ops_12 g p1 p2) g11)
          · refine ja_bipush 13 doperators_81 rfl ?_
            refine ja_goto 88 doperators_83 rfl ?_
            refine ja_iconst doperators_88 ?_
            refine ja_iconst doperators_89 ?_
            refine t_emit (by decide) (show (2 : Nat) ≤ 8 by decide) doperators_90 g6 ⟨by decide, by decide⟩ ⟨by decide, by decide⟩ ⟨by decide, by decide⟩ (show 0 ≤ 13 ∧ 13 ≤ 26 by omega) (show (h 0 113) < 5000 by omega) ?_
            intro g12
            replace g12 : mo_G Zz (ja_up (ja_up (ja_up (ja_up (ja_up (ja_up (ja_up (ja_up (ja_up (ja_up h 0 7 ((h 0 7) + 1)) 6 ((h 0 17).toNat) 2) 7 ((h 0 17).toNat) a1) 8 ((h 0 17).toNat) 0) 9 ((h 0 17).toNat) 0) 0 17 ((h 0 17) + 1)) 74 ((h 0 113).toNat) 13) 75 ((h 0 113).toNat) 0) 76 ((h 0 113).toNat) 0) 0 113 ((h 0 113) + 1)) := g12
            show mJ l D cA ad 3 cX12_operators 5 (some .boolean) 93 [(4, (0, 1)), (3, (0, (h 5 (h 0 7).toNat))), (2, (0, w1)), (0, (2, ((0 : Nat) : Int))), (1, (0, a1))] [(0, (h 0 113)), (0, 4), (2, ((0 : Nat) : Int))] (ja_up (ja_up (ja_up (ja_up (ja_up (ja_up (ja_up (ja_up (ja_up (ja_up h 0 7 ((h 0 7) + 1)) 6 ((h 0 17).toNat) 2) 7 ((h 0 17).toNat) a1) 8 ((h 0 17).toNat) 0) 9 ((h 0 17).toNat) 0) 0 17 ((h 0 17) + 1)) 74 ((h 0 113).toNat) 13) 75 ((h 0 113).toNat) 0) 76 ((h 0 113).toNat) 0) 0 113 ((h 0 113) + 1)) Q
            refine ja_iconst doperators_93 ?_
            refine ja_iconst doperators_94 ?_
            refine t_later (by decide) (show (0 : Nat) ≤ 8 by decide) doperators_95 g12 ⟨by decide, by decide⟩ ⟨by omega, by omega⟩ ⟨by decide, by decide⟩ ⟨by decide, by decide⟩ (show 0 ≤ 4 ∧ 4 ≤ 38 by omega) (show ((h 0 17) + 1) < 2000 by omega) ?_
            intro g13
            replace g13 : mo_G Zz (ja_up (ja_up (ja_up (ja_up (ja_up (ja_up (ja_up (ja_up (ja_up (ja_up (ja_up (ja_up (ja_up (ja_up (ja_up h 0 7 ((h 0 7) + 1)) 6 ((h 0 17).toNat) 2) 7 ((h 0 17).toNat) a1) 8 ((h 0 17).toNat) 0) 9 ((h 0 17).toNat) 0) 0 17 ((h 0 17) + 1)) 74 ((h 0 113).toNat) 13) 75 ((h 0 113).toNat) 0) 76 ((h 0 113).toNat) 0) 0 113 ((h 0 113) + 1)) 6 (((h 0 17) + 1).toNat) 4) 7 (((h 0 17) + 1).toNat) (h 0 113)) 8 (((h 0 17) + 1).toNat) 0) 9 (((h 0 17) + 1).toNat) 0) 0 17 (((h 0 17) + 1) + 1)) := g13
            show mJ l D cA ad 3 cX12_operators 5 (some .boolean) 98 [(4, (0, 1)), (3, (0, (h 5 (h 0 7).toNat))), (2, (0, w1)), (0, (2, ((0 : Nat) : Int))), (1, (0, a1))] [(0, 1)] (ja_up (ja_up (ja_up (ja_up (ja_up (ja_up (ja_up (ja_up (ja_up (ja_up (ja_up (ja_up (ja_up (ja_up (ja_up h 0 7 ((h 0 7) + 1)) 6 ((h 0 17).toNat) 2) 7 ((h 0 17).toNat) a1) 8 ((h 0 17).toNat) 0) 9 ((h 0 17).toNat) 0) 0 17 ((h 0 17) + 1)) 74 ((h 0 113).toNat) 13) 75 ((h 0 113).toNat) 0) 76 ((h 0 113).toNat) 0) 0 113 ((h 0 113) + 1)) 6 (((h 0 17) + 1).toNat) 4) 7 (((h 0 17) + 1).toNat) (h 0 113)) 8 (((h 0 17) + 1).toNat) 0) 9 (((h 0 17) + 1).toNat) 0) 0 17 (((h 0 17) + 1) + 1)) Q
            refine ja_goto 109 doperators_98 rfl ?_
            refine ja_istore doperators_109 (by decide) (L2 := [(4, (0, 1)), (3, (0, (h 5 (h 0 7).toNat))), (2, (0, w1)), (0, (2, ((0 : Nat) : Int))), (1, (0, a1))]) rfl ?_
            refine ja_aload_n doperators_111 rfl rfl ?_
            refine ja_iconst doperators_112 ?_
            refine ja_iload_n doperators_113 rfl rfl ?_
            refine ja_iconst doperators_114 ?_
            refine ja_iconst doperators_115 ?_
            refine t_later (by decide) (show (0 : Nat) ≤ 8 by decide) doperators_116 g13 ⟨by decide, by decide⟩ ⟨by omega, by omega⟩ ⟨by decide, by decide⟩ ⟨by decide, by decide⟩ (show 0 ≤ 1 ∧ 1 ≤ 38 by omega) (show (((h 0 17) + 1) + 1) < 2000 by omega) ?_
            intro g14
            replace g14 : mo_G Zz (ja_up (ja_up (ja_up (ja_up (ja_up (ja_up (ja_up (ja_up (ja_up (ja_up (ja_up (ja_up (ja_up (ja_up (ja_up (ja_up (ja_up (ja_up (ja_up (ja_up h 0 7 ((h 0 7) + 1)) 6 ((h 0 17).toNat) 2) 7 ((h 0 17).toNat) a1) 8 ((h 0 17).toNat) 0) 9 ((h 0 17).toNat) 0) 0 17 ((h 0 17) + 1)) 74 ((h 0 113).toNat) 13) 75 ((h 0 113).toNat) 0) 76 ((h 0 113).toNat) 0) 0 113 ((h 0 113) + 1)) 6 (((h 0 17) + 1).toNat) 4) 7 (((h 0 17) + 1).toNat) (h 0 113)) 8 (((h 0 17) + 1).toNat) 0) 9 (((h 0 17) + 1).toNat) 0) 0 17 (((h 0 17) + 1) + 1)) 6 ((((h 0 17) + 1) + 1).toNat) 1) 7 ((((h 0 17) + 1) + 1).toNat) w1) 8 ((((h 0 17) + 1) + 1).toNat) 0) 9 ((((h 0 17) + 1) + 1).toNat) 0) 0 17 ((((h 0 17) + 1) + 1) + 1)) := g14
            show mJ l D cA ad 3 cX12_operators 5 (some .boolean) 119 [(4, (0, 1)), (3, (0, (h 5 (h 0 7).toNat))), (2, (0, w1)), (0, (2, ((0 : Nat) : Int))), (1, (0, a1))] [(0, 1)] (ja_up (ja_up (ja_up (ja_up (ja_up (ja_up (ja_up (ja_up (ja_up (ja_up (ja_up (ja_up (ja_up (ja_up (ja_up (ja_up (ja_up (ja_up (ja_up (ja_up h 0 7 ((h 0 7) + 1)) 6 ((h 0 17).toNat) 2) 7 ((h 0 17).toNat) a1) 8 ((h 0 17).toNat) 0) 9 ((h 0 17).toNat) 0) 0 17 ((h 0 17) + 1)) 74 ((h 0 113).toNat) 13) 75 ((h 0 113).toNat) 0) 76 ((h 0 113).toNat) 0) 0 113 ((h 0 113) + 1)) 6 (((h 0 17) + 1).toNat) 4) 7 (((h 0 17) + 1).toNat) (h 0 113)) 8 (((h 0 17) + 1).toNat) 0) 9 (((h 0 17) + 1).toNat) 0) 0 17 (((h 0 17) + 1) + 1)) 6 ((((h 0 17) + 1) + 1).toNat) 1) 7 ((((h 0 17) + 1) + 1).toNat) w1) 8 ((((h 0 17) + 1) + 1).toNat) 0) 9 ((((h 0 17) + 1) + 1).toNat) 0) 0 17 ((((h 0 17) + 1) + 1) + 1)) Q
            refine ja_zreturn doperators_119 rfl (by omega) ?_
            exact mo_fin (by omega) rfl (k1 (ja_up (ja_up (ja_up (ja_up (ja_up (ja_up (ja_up (ja_up (ja_up (ja_up (ja_up (ja_up (ja_up (ja_up (ja_up (ja_up (ja_up (ja_up (ja_up (ja_up h 0 7 ((h 0 7) + 1)) 6 ((h 0 17).toNat) 2) 7 ((h 0 17).toNat) a1) 8 ((h 0 17).toNat) 0) 9 ((h 0 17).toNat) 0) 0 17 ((h 0 17) + 1)) 74 ((h 0 113).toNat) 13) 75 ((h 0 113).toNat) 0) 76 ((h 0 113).toNat) 0) 0 113 ((h 0 113) + 1)) 6 (((h 0 17) + 1).toNat) 4) 7 (((h 0 17) + 1).toNat) (h 0 113)) 8 (((h 0 17) + 1).toNat) 0) 9 (((h 0 17) + 1).toNat) 0) 0 17 (((h 0 17) + 1) + 1)) 6 ((((h 0 17) + 1) + 1).toNat) 1) 7 ((((h 0 17) + 1) + 1).toNat) w1) 8 ((((h 0 17) + 1) + 1).toNat) 0) 9 ((((h 0 17) + 1) + 1).toNat) 0) 0 17 ((((h 0 17) + 1) + 1) + 1)) (ab_ops_13 g p1 p2) g14)
      · intro h15 k50_1 g16
        refine ja_if_ne 58 doperators_53 rfl ⟨by decide, by decide⟩ (fun c53 => absurd c53 (by omega)) (fun c53 => ?_)
        refine ja_iconst doperators_56 ?_
        refine ja_zreturn doperators_57 rfl (by omega) ?_
        exact mo_fin (by omega) rfl (k2 h15 (by omega) g16)
    · refine ja_iconst doperators_35 ?_
      refine ja_goto 48 doperators_36 rfl ?_
      refine ja_istore_n doperators_48 rfl (by decide) (L2 := [(3, (0, 0)), (2, (0, w1)), (0, (2, ((0 : Nat) : Int))), (1, (0, a1))]) rfl ?_
      refine ja_aload_n doperators_49 rfl rfl ?_
      refine t_take (by decide) (show (0 : Nat) ≤ 8 by decide) doperators_50 g  ?_ ?_
      · intro k50_0 g17
        replace k50_0 : (h 0 7) < 900 := k50_0
        replace g17 : mo_G Zz (ja_up h 0 7 ((h 0 7) + 1)) := g17
        show mJ l D cA ad 3 cX12_operators 5 (some .boolean) 53 [(3, (0, 0)), (2, (0, w1)), (0, (2, ((0 : Nat) : Int))), (1, (0, a1))] [(0, 1)] (ja_up h 0 7 ((h 0 7) + 1)) Q
        refine ja_if_ne 58 doperators_53 rfl ⟨by decide, by decide⟩ (fun c53 => ?_) (fun c53 => absurd c53 (by omega))
        refine ja_aload_n doperators_58 rfl rfl ?_
        refine ja_iconst doperators_59 ?_
        refine ja_iload_n doperators_60 rfl rfl ?_
        refine ja_iconst doperators_61 ?_
        refine ja_iconst doperators_62 ?_
        refine t_later (by decide) (show (0 : Nat) ≤ 8 by decide) doperators_63 g17 ⟨by decide, by decide⟩ ⟨by omega, by omega⟩ ⟨by decide, by decide⟩ ⟨by decide, by decide⟩ (show 0 ≤ 2 ∧ 2 ≤ 38 by omega) (show (h 0 17) < 2000 by omega) ?_
        intro g18
        replace g18 : mo_G Zz (ja_up (ja_up (ja_up (ja_up (ja_up (ja_up h 0 7 ((h 0 7) + 1)) 6 ((h 0 17).toNat) 2) 7 ((h 0 17).toNat) a1) 8 ((h 0 17).toNat) 0) 9 ((h 0 17).toNat) 0) 0 17 ((h 0 17) + 1)) := g18
        show mJ l D cA ad 3 cX12_operators 5 (some .boolean) 66 [(3, (0, 0)), (2, (0, w1)), (0, (2, ((0 : Nat) : Int))), (1, (0, a1))] [(0, 1)] (ja_up (ja_up (ja_up (ja_up (ja_up (ja_up h 0 7 ((h 0 7) + 1)) 6 ((h 0 17).toNat) 2) 7 ((h 0 17).toNat) a1) 8 ((h 0 17).toNat) 0) 9 ((h 0 17).toNat) 0) 0 17 ((h 0 17) + 1)) Q
        refine ja_istore doperators_66 (by decide) (L2 := [(4, (0, 1)), (3, (0, 0)), (2, (0, w1)), (0, (2, ((0 : Nat) : Int))), (1, (0, a1))]) rfl ?_
        refine ja_iload_n doperators_68 rfl rfl ?_
        refine ja_iconst doperators_69 ?_
        refine ja_icmp_gt 101 doperators_70 rfl ⟨by omega, by omega⟩ ⟨by decide, by decide⟩ (fun c70 => ?_) (fun c70 => ?_)
        · refine ja_aload_n doperators_101 rfl rfl ?_
          refine ja_iconst doperators_102 ?_
          refine ja_iload_n doperators_103 rfl rfl ?_
          refine ja_iconst doperators_104 ?_
          refine ja_iconst doperators_105 ?_
          refine t_later (by decide) (show (0 : Nat) ≤ 8 by decide) doperators_106 g18 ⟨by decide, by decide⟩ ⟨by decide, by decide⟩ ⟨by decide, by decide⟩ ⟨by decide, by decide⟩ (show 0 ≤ 3 ∧ 3 ≤ 38 by omega) (show ((h 0 17) + 1) < 2000 by omega) ?_
          intro g19
          replace g19 : mo_G Zz (ja_up (ja_up (ja_up (ja_up (ja_up (ja_up (ja_up (ja_up (ja_up (ja_up (ja_up h 0 7 ((h 0 7) + 1)) 6 ((h 0 17).toNat) 2) 7 ((h 0 17).toNat) a1) 8 ((h 0 17).toNat) 0) 9 ((h 0 17).toNat) 0) 0 17 ((h 0 17) + 1)) 6 (((h 0 17) + 1).toNat) 3) 7 (((h 0 17) + 1).toNat) 0) 8 (((h 0 17) + 1).toNat) 0) 9 (((h 0 17) + 1).toNat) 0) 0 17 (((h 0 17) + 1) + 1)) := g19
          show mJ l D cA ad 3 cX12_operators 5 (some .boolean) 109 [(4, (0, 1)), (3, (0, 0)), (2, (0, w1)), (0, (2, ((0 : Nat) : Int))), (1, (0, a1))] [(0, 1)] (ja_up (ja_up (ja_up (ja_up (ja_up (ja_up (ja_up (ja_up (ja_up (ja_up (ja_up h 0 7 ((h 0 7) + 1)) 6 ((h 0 17).toNat) 2) 7 ((h 0 17).toNat) a1) 8 ((h 0 17).toNat) 0) 9 ((h 0 17).toNat) 0) 0 17 ((h 0 17) + 1)) 6 (((h 0 17) + 1).toNat) 3) 7 (((h 0 17) + 1).toNat) 0) 8 (((h 0 17) + 1).toNat) 0) 9 (((h 0 17) + 1).toNat) 0) 0 17 (((h 0 17) + 1) + 1)) Q
          refine ja_istore doperators_109 (by decide) (L2 := [(4, (0, 1)), (3, (0, 0)), (2, (0, w1)), (0, (2, ((0 : Nat) : Int))), (1, (0, a1))]) rfl ?_
          refine ja_aload_n doperators_111 rfl rfl ?_
          refine ja_iconst doperators_112 ?_
          refine ja_iload_n doperators_113 rfl rfl ?_
          refine ja_iconst doperators_114 ?_
          refine ja_iconst doperators_115 ?_
          refine t_later (by decide) (show (0 : Nat) ≤ 8 by decide) doperators_116 g19 ⟨by decide, by decide⟩ ⟨by omega, by omega⟩ ⟨by decide, by decide⟩ ⟨by decide, by decide⟩ (show 0 ≤ 1 ∧ 1 ≤ 38 by omega) (show (((h 0 17) + 1) + 1) < 2000 by omega) ?_
          intro g20
          replace g20 : mo_G Zz (ja_up (ja_up (ja_up (ja_up (ja_up (ja_up (ja_up (ja_up (ja_up (ja_up (ja_up (ja_up (ja_up (ja_up (ja_up (ja_up h 0 7 ((h 0 7) + 1)) 6 ((h 0 17).toNat) 2) 7 ((h 0 17).toNat) a1) 8 ((h 0 17).toNat) 0) 9 ((h 0 17).toNat) 0) 0 17 ((h 0 17) + 1)) 6 (((h 0 17) + 1).toNat) 3) 7 (((h 0 17) + 1).toNat) 0) 8 (((h 0 17) + 1).toNat) 0) 9 (((h 0 17) + 1).toNat) 0) 0 17 (((h 0 17) + 1) + 1)) 6 ((((h 0 17) + 1) + 1).toNat) 1) 7 ((((h 0 17) + 1) + 1).toNat) w1) 8 ((((h 0 17) + 1) + 1).toNat) 0) 9 ((((h 0 17) + 1) + 1).toNat) 0) 0 17 ((((h 0 17) + 1) + 1) + 1)) := g20
          show mJ l D cA ad 3 cX12_operators 5 (some .boolean) 119 [(4, (0, 1)), (3, (0, 0)), (2, (0, w1)), (0, (2, ((0 : Nat) : Int))), (1, (0, a1))] [(0, 1)] (ja_up (ja_up (ja_up (ja_up (ja_up (ja_up (ja_up (ja_up (ja_up (ja_up (ja_up (ja_up (ja_up (ja_up (ja_up (ja_up h 0 7 ((h 0 7) + 1)) 6 ((h 0 17).toNat) 2) 7 ((h 0 17).toNat) a1) 8 ((h 0 17).toNat) 0) 9 ((h 0 17).toNat) 0) 0 17 ((h 0 17) + 1)) 6 (((h 0 17) + 1).toNat) 3) 7 (((h 0 17) + 1).toNat) 0) 8 (((h 0 17) + 1).toNat) 0) 9 (((h 0 17) + 1).toNat) 0) 0 17 (((h 0 17) + 1) + 1)) 6 ((((h 0 17) + 1) + 1).toNat) 1) 7 ((((h 0 17) + 1) + 1).toNat) w1) 8 ((((h 0 17) + 1) + 1).toNat) 0) 9 ((((h 0 17) + 1) + 1).toNat) 0) 0 17 ((((h 0 17) + 1) + 1) + 1)) Q
          refine ja_zreturn doperators_119 rfl (by omega) ?_
          exact mo_fin (by omega) rfl (k1 (ja_up (ja_up (ja_up (ja_up (ja_up (ja_up (ja_up (ja_up (ja_up (ja_up (ja_up (ja_up (ja_up (ja_up (ja_up (ja_up h 0 7 ((h 0 7) + 1)) 6 ((h 0 17).toNat) 2) 7 ((h 0 17).toNat) a1) 8 ((h 0 17).toNat) 0) 9 ((h 0 17).toNat) 0) 0 17 ((h 0 17) + 1)) 6 (((h 0 17) + 1).toNat) 3) 7 (((h 0 17) + 1).toNat) 0) 8 (((h 0 17) + 1).toNat) 0) 9 (((h 0 17) + 1).toNat) 0) 0 17 (((h 0 17) + 1) + 1)) 6 ((((h 0 17) + 1) + 1).toNat) 1) 7 ((((h 0 17) + 1) + 1).toNat) w1) 8 ((((h 0 17) + 1) + 1).toNat) 0) 9 ((((h 0 17) + 1) + 1).toNat) 0) 0 17 ((((h 0 17) + 1) + 1) + 1)) (ab_ops_bin g p1 p2) g20)
        · refine ja_aload_n doperators_73 rfl rfl ?_
          refine ja_iconst doperators_74 ?_
          refine ja_aload_n doperators_75 rfl rfl ?_
          refine ja_iload_n doperators_76 rfl rfl ?_
          refine ja_iconst doperators_77 ?_
          refine ja_icmp_ne 86 doperators_78 rfl ⟨by omega, by omega⟩ ⟨by decide, by decide⟩ (fun c78 => ?_) (fun c78 => ?_)
          · refine ja_bipush 12 doperators_86 rfl ?_
            refine ja_iconst doperators_88 ?_
            refine ja_iconst doperators_89 ?_
            refine t_emit (by decide) (show (2 : Nat) ≤ 8 by decide) doperators_90 g18 ⟨by decide, by decide⟩ ⟨by decide, by decide⟩ ⟨by decide, by decide⟩ (show 0 ≤ 12 ∧ 12 ≤ 26 by omega) (show (h 0 113) < 5000 by omega) ?_
            intro g21
            replace g21 : mo_G Zz (ja_up (ja_up (ja_up (ja_up (ja_up (ja_up (ja_up (ja_up (ja_up (ja_up h 0 7 ((h 0 7) + 1)) 6 ((h 0 17).toNat) 2) 7 ((h 0 17).toNat) a1) 8 ((h 0 17).toNat) 0) 9 ((h 0 17).toNat) 0) 0 17 ((h 0 17) + 1)) 74 ((h 0 113).toNat) 12) 75 ((h 0 113).toNat) 0) 76 ((h 0 113).toNat) 0) 0 113 ((h 0 113) + 1)) := g21
            show mJ l D cA ad 3 cX12_operators 5 (some .boolean) 93 [(4, (0, 1)), (3, (0, 0)), (2, (0, w1)), (0, (2, ((0 : Nat) : Int))), (1, (0, a1))] [(0, (h 0 113)), (0, 4), (2, ((0 : Nat) : Int))] (ja_up (ja_up (ja_up (ja_up (ja_up (ja_up (ja_up (ja_up (ja_up (ja_up h 0 7 ((h 0 7) + 1)) 6 ((h 0 17).toNat) 2) 7 ((h 0 17).toNat) a1) 8 ((h 0 17).toNat) 0) 9 ((h 0 17).toNat) 0) 0 17 ((h 0 17) + 1)) 74 ((h 0 113).toNat) 12) 75 ((h 0 113).toNat) 0) 76 ((h 0 113).toNat) 0) 0 113 ((h 0 113) + 1)) Q
            refine ja_iconst doperators_93 ?_
            refine ja_iconst doperators_94 ?_
            refine t_later (by decide) (show (0 : Nat) ≤ 8 by decide) doperators_95 g21 ⟨by decide, by decide⟩ ⟨by omega, by omega⟩ ⟨by decide, by decide⟩ ⟨by decide, by decide⟩ (show 0 ≤ 4 ∧ 4 ≤ 38 by omega) (show ((h 0 17) + 1) < 2000 by omega) ?_
            intro g22
            replace g22 : mo_G Zz (ja_up (ja_up (ja_up (ja_up (ja_up (ja_up (ja_up (ja_up (ja_up (ja_up (ja_up (ja_up (ja_up (ja_up (ja_up h 0 7 ((h 0 7) + 1)) 6 ((h 0 17).toNat) 2) 7 ((h 0 17).toNat) a1) 8 ((h 0 17).toNat) 0) 9 ((h 0 17).toNat) 0) 0 17 ((h 0 17) + 1)) 74 ((h 0 113).toNat) 12) 75 ((h 0 113).toNat) 0) 76 ((h 0 113).toNat) 0) 0 113 ((h 0 113) + 1)) 6 (((h 0 17) + 1).toNat) 4) 7 (((h 0 17) + 1).toNat) (h 0 113)) 8 (((h 0 17) + 1).toNat) 0) 9 (((h 0 17) + 1).toNat) 0) 0 17 (((h 0 17) + 1) + 1)) := g22
            show mJ l D cA ad 3 cX12_operators 5 (some .boolean) 98 [(4, (0, 1)), (3, (0, 0)), (2, (0, w1)), (0, (2, ((0 : Nat) : Int))), (1, (0, a1))] [(0, 1)] (ja_up (ja_up (ja_up (ja_up (ja_up (ja_up (ja_up (ja_up (ja_up (ja_up (ja_up (ja_up (ja_up (ja_up (ja_up h 0 7 ((h 0 7) + 1)) 6 ((h 0 17).toNat) 2) 7 ((h 0 17).toNat) a1) 8 ((h 0 17).toNat) 0) 9 ((h 0 17).toNat) 0) 0 17 ((h 0 17) + 1)) 74 ((h 0 113).toNat) 12) 75 ((h 0 113).toNat) 0) 76 ((h 0 113).toNat) 0) 0 113 ((h 0 113) + 1)) 6 (((h 0 17) + 1).toNat) 4) 7 (((h 0 17) + 1).toNat) (h 0 113)) 8 (((h 0 17) + 1).toNat) 0) 9 (((h 0 17) + 1).toNat) 0) 0 17 (((h 0 17) + 1) + 1)) Q
            refine ja_goto 109 doperators_98 rfl ?_
            refine ja_istore doperators_109 (by decide) (L2 := [(4, (0, 1)), (3, (0, 0)), (2, (0, w1)), (0, (2, ((0 : Nat) : Int))), (1, (0, a1))]) rfl ?_
            refine ja_aload_n doperators_111 rfl rfl ?_
            refine ja_iconst doperators_112 ?_
            refine ja_iload_n doperators_113 rfl rfl ?_
            refine ja_iconst doperators_114 ?_
            refine ja_iconst doperators_115 ?_
            refine t_later (by decide) (show (0 : Nat) ≤ 8 by decide) doperators_116 g22 ⟨by decide, by decide⟩ ⟨by omega, by omega⟩ ⟨by decide, by decide⟩ ⟨by decide, by decide⟩ (show 0 ≤ 1 ∧ 1 ≤ 38 by omega) (show (((h 0 17) + 1) + 1) < 2000 by omega) ?_
            intro g23
            replace g23 : mo_G Zz (ja_up (ja_up (ja_up (ja_up (ja_up (ja_up (ja_up (ja_up (ja_up (ja_up (ja_up (ja_up (ja_up (ja_up (ja_up (ja_up (ja_up (ja_up (ja_up (ja_up h 0 7 ((h 0 7) + 1)) 6 ((h 0 17).toNat) 2) 7 ((h 0 17).toNat) a1) 8 ((h 0 17).toNat) 0) 9 ((h 0 17).toNat) 0) 0 17 ((h 0 17) + 1)) 74 ((h 0 113).toNat) 12) 75 ((h 0 113).toNat) 0) 76 ((h 0 113).toNat) 0) 0 113 ((h 0 113) + 1)) 6 (((h 0 17) + 1).toNat) 4) 7 (((h 0 17) + 1).toNat) (h 0 113)) 8 (((h 0 17) + 1).toNat) 0) 9 (((h 0 17) + 1).toNat) 0) 0 17 (((h 0 17) + 1) + 1)) 6 ((((h 0 17) + 1) + 1).toNat) 1) 7 ((((h 0 17) + 1) + 1).toNat) w1) 8 ((((h 0 17) + 1) + 1).toNat) 0) 9 ((((h 0 17) + 1) + 1).toNat) 0) 0 17 ((((h 0 17) + 1) + 1) + 1)) := g23
            show mJ l D cA ad 3 cX12_operators 5 (some .boolean) 119 [(4, (0, 1)), (3, (0, 0)), (2, (0, w1)), (0, (2, ((0 : Nat) : Int))), (1, (0, a1))] [(0, 1)] (ja_up (ja_up (ja_up (ja_up (ja_up (ja_up (ja_up (ja_up (ja_up (ja_up (ja_up (ja_up (ja_up (ja_up (ja_up (ja_up (ja_up (ja_up (ja_up (ja_up h 0 7 ((h 0 7) + 1)) 6 ((h 0 17).toNat) 2) 7 ((h 0 17).toNat) a1) 8 ((h 0 17).toNat) 0) 9 ((h 0 17).toNat) 0) 0 17 ((h 0 17) + 1)) 74 ((h 0 113).toNat) 12) 75 ((h 0 113).toNat) 0) 76 ((h 0 113).toNat) 0) 0 113 ((h 0 113) + 1)) 6 (((h 0 17) + 1).toNat) 4) 7 (((h 0 17) + 1).toNat) (h 0 113)) 8 (((h 0 17) + 1).toNat) 0) 9 (((h 0 17) + 1).toNat) 0) 0 17 (((h 0 17) + 1) + 1)) 6 ((((h 0 17) + 1) + 1).toNat) 1) 7 ((((h 0 17) + 1) + 1).toNat) w1) 8 ((((h 0 17) + 1) + 1).toNat) 0) 9 ((((h 0 17) + 1) + 1).toNat) 0) 0 17 ((((h 0 17) + 1) + 1) + 1)) Q
            refine ja_zreturn doperators_119 rfl (by omega) ?_
            exact mo_fin (by omega) rfl (k1 (ja_up (ja_up (ja_up (ja_up (ja_up (ja_up (ja_up (ja_up (ja_up (ja_up (ja_up (ja_up (ja_up (ja_up (ja_up (ja_up (ja_up (ja_up (ja_up (ja_up h 0 7 ((h 0 7) + 1)) 6 ((h 0 17).toNat) 2) 7 ((h 0 17).toNat) a1) 8 ((h 0 17).toNat) 0) 9 ((h 0 17).toNat) 0) 0 17 ((h 0 17) + 1)) 74 ((h 0 113).toNat) 12) 75 ((h 0 113).toNat) 0) 76 ((h 0 113).toNat) 0) 0 113 ((h 0 113) + 1)) 6 (((h 0 17) + 1).toNat) 4) 7 (((h 0 17) + 1).toNat) (h 0 113)) 8 (((h 0 17) + 1).toNat) 0) 9 (((h 0 17) + 1).toNat) 0) 0 17 (((h 0 17) + 1) + 1)) 6 ((((h 0 17) + 1) + 1).toNat) 1) 7 ((((h 0 17) + 1) + 1).toNat) w1) 8 ((((h 0 17) + 1) + 1).toNat) 0) 9 ((((h 0 17) + 1) + 1).toNat) 0) 0 17 ((((h 0 17) + 1) + 1) + 1)) (ab_ops_12 g p1 p2) g23)
          · refine ja_bipush 13 doperators_81 rfl ?_
            refine ja_goto 88 doperators_83 rfl ?_
            refine ja_iconst doperators_88 ?_
            refine ja_iconst doperators_89 ?_
            refine t_emit (by decide) (show (2 : Nat) ≤ 8 by decide) doperators_90 g18 ⟨by decide, by decide⟩ ⟨by decide, by decide⟩ ⟨by decide, by decide⟩ (show 0 ≤ 13 ∧ 13 ≤ 26 by omega) (show (h 0 113) < 5000 by omega) ?_
            intro g24
            replace g24 : mo_G Zz (ja_up (ja_up (ja_up (ja_up (ja_up (ja_up (ja_up (ja_up (ja_up (ja_up h 0 7 ((h 0 7) + 1)) 6 ((h 0 17).toNat) 2) 7 ((h 0 17).toNat) a1) 8 ((h 0 17).toNat) 0) 9 ((h 0 17).toNat) 0) 0 17 ((h 0 17) + 1)) 74 ((h 0 113).toNat) 13) 75 ((h 0 113).toNat) 0) 76 ((h 0 113).toNat) 0) 0 113 ((h 0 113) + 1)) := g24
            show mJ l D cA ad 3 cX12_operators 5 (some .boolean) 93 [(4, (0, 1)), (3, (0, 0)), (2, (0, w1)), (0, (2, ((0 : Nat) : Int))), (1, (0, a1))] [(0, (h 0 113)), (0, 4), (2, ((0 : Nat) : Int))] (ja_up (ja_up (ja_up (ja_up (ja_up (ja_up (ja_up (ja_up (ja_up (ja_up h 0 7 ((h 0 7) + 1)) 6 ((h 0 17).toNat) 2) 7 ((h 0 17).toNat) a1) 8 ((h 0 17).toNat) 0) 9 ((h 0 17).toNat) 0) 0 17 ((h 0 17) + 1)) 74 ((h 0 113).toNat) 13) 75 ((h 0 113).toNat) 0) 76 ((h 0 113).toNat) 0) 0 113 ((h 0 113) + 1)) Q
            refine ja_iconst doperators_93 ?_
            refine ja_iconst doperators_94 ?_
            refine t_later (by decide) (show (0 : Nat) ≤ 8 by decide) doperators_95 g24 ⟨by decide, by decide⟩ ⟨by omega, by omega⟩ ⟨by decide, by decide⟩ ⟨by decide, by decide⟩ (show 0 ≤ 4 ∧ 4 ≤ 38 by omega) (show ((h 0 17) + 1) < 2000 by omega) ?_
            intro g25
            replace g25 : mo_G Zz (ja_up (ja_up (ja_up (ja_up (ja_up (ja_up (ja_up (ja_up (ja_up (ja_up (ja_up (ja_up (ja_up (ja_up (ja_up h 0 7 ((h 0 7) + 1)) 6 ((h 0 17).toNat) 2) 7 ((h 0 17).toNat) a1) 8 ((h 0 17).toNat) 0) 9 ((h 0 17).toNat) 0) 0 17 ((h 0 17) + 1)) 74 ((h 0 113).toNat) 13) 75 ((h 0 113).toNat) 0) 76 ((h 0 113).toNat) 0) 0 113 ((h 0 113) + 1)) 6 (((h 0 17) + 1).toNat) 4) 7 (((h 0 17) + 1).toNat) (h 0 113)) 8 (((h 0 17) + 1).toNat) 0) 9 (((h 0 17) + 1).toNat) 0) 0 17 (((h 0 17) + 1) + 1)) := g25
            show mJ l D cA ad 3 cX12_operators 5 (some .boolean) 98 [(4, (0, 1)), (3, (0, 0)), (2, (0, w1)), (0, (2, ((0 : Nat) : Int))), (1, (0, a1))] [(0, 1)] (ja_up (ja_up (ja_up (ja_up (ja_up (ja_up (ja_up (ja_up (ja_up (ja_up (ja_up (ja_up (ja_up (ja_up (ja_up h 0 7 ((h 0 7) + 1)) 6 ((h 0 17).toNat) 2) 7 ((h 0 17).toNat) a1) 8 ((h 0 17).toNat) 0) 9 ((h 0 17).toNat) 0) 0 17 ((h 0 17) + 1)) 74 ((h 0 113).toNat) 13) 75 ((h 0 113).toNat) 0) 76 ((h 0 113).toNat) 0) 0 113 ((h 0 113) + 1)) 6 (((h 0 17) + 1).toNat) 4) 7 (((h 0 17) + 1).toNat) (h 0 113)) 8 (((h 0 17) + 1).toNat) 0) 9 (((h 0 17) + 1).toNat) 0) 0 17 (((h 0 17) + 1) + 1)) Q
            refine ja_goto 109 doperators_98 rfl ?_
            refine ja_istore doperators_109 (by decide) (L2 := [(4, (0, 1)), (3, (0, 0)), (2, (0, w1)), (0, (2, ((0 : Nat) : Int))), (1, (0, a1))]) rfl ?_
            refine ja_aload_n doperators_111 rfl rfl ?_
            refine ja_iconst doperators_112 ?_
            refine ja_iload_n doperators_113 rfl rfl ?_
            refine ja_iconst doperators_114 ?_
            refine ja_iconst doperators_115 ?_
            refine t_later (by decide) (show (0 : Nat) ≤ 8 by decide) doperators_116 g25 ⟨by decide, by decide⟩ ⟨by omega, by omega⟩ ⟨by decide, by decide⟩ ⟨by decide, by decide⟩ (show 0 ≤ 1 ∧ 1 ≤ 38 by omega) (show (((h 0 17) + 1) + 1) < 2000 by omega) ?_
            intro g26
            replace g26 : mo_G Zz (ja_up (ja_up (ja_up (ja_up (ja_up (ja_up (ja_up (ja_up (ja_up (ja_up (ja_up (ja_up (ja_up (ja_up (ja_up (ja_up (ja_up (ja_up (ja_up (ja_up h 0 7 ((h 0 7) + 1)) 6 ((h 0 17).toNat) 2) 7 ((h 0 17).toNat) a1) 8 ((h 0 17).toNat) 0) 9 ((h 0 17).toNat) 0) 0 17 ((h 0 17) + 1)) 74 ((h 0 113).toNat) 13) 75 ((h 0 113).toNat) 0) 76 ((h 0 113).toNat) 0) 0 113 ((h 0 113) + 1)) 6 (((h 0 17) + 1).toNat) 4) 7 (((h 0 17) + 1).toNat) (h 0 113)) 8 (((h 0 17) + 1).toNat) 0) 9 (((h 0 17) + 1).toNat) 0) 0 17 (((h 0 17) + 1) + 1)) 6 ((((h 0 17) + 1) + 1).toNat) 1) 7 ((((h 0 17) + 1) + 1).toNat) w1) 8 ((((h 0 17) + 1) + 1).toNat) 0) 9 ((((h 0 17) + 1) + 1).toNat) 0) 0 17 ((((h 0 17) + 1) + 1) + 1)) := g26
            show mJ l D cA ad 3 cX12_operators 5 (some .boolean) 119 [(4, (0, 1)), (3, (0, 0)), (2, (0, w1)), (0, (2, ((0 : Nat) : Int))), (1, (0, a1))] [(0, 1)] (ja_up (ja_up (ja_up (ja_up (ja_up (ja_up (ja_up (ja_up (ja_up (ja_up (ja_up (ja_up (ja_up (ja_up (ja_up (ja_up (ja_up (ja_up (ja_up (ja_up h 0 7 ((h 0 7) + 1)) 6 ((h 0 17).toNat) 2) 7 ((h 0 17).toNat) a1) 8 ((h 0 17).toNat) 0) 9 ((h 0 17).toNat) 0) 0 17 ((h 0 17) + 1)) 74 ((h 0 113).toNat) 13) 75 ((h 0 113).toNat) 0) 76 ((h 0 113).toNat) 0) 0 113 ((h 0 113) + 1)) 6 (((h 0 17) + 1).toNat) 4) 7 (((h 0 17) + 1).toNat) (h 0 113)) 8 (((h 0 17) + 1).toNat) 0) 9 (((h 0 17) + 1).toNat) 0) 0 17 (((h 0 17) + 1) + 1)) 6 ((((h 0 17) + 1) + 1).toNat) 1) 7 ((((h 0 17) + 1) + 1).toNat) w1) 8 ((((h 0 17) + 1) + 1).toNat) 0) 9 ((((h 0 17) + 1) + 1).toNat) 0) 0 17 ((((h 0 17) + 1) + 1) + 1)) Q
            refine ja_zreturn doperators_119 rfl (by omega) ?_
            exact mo_fin (by omega) rfl (k1 (ja_up (ja_up (ja_up (ja_up (ja_up (ja_up (ja_up (ja_up (ja_up (ja_up (ja_up (ja_up (ja_up (ja_up (ja_up (ja_up (ja_up (ja_up (ja_up (ja_up h 0 7 ((h 0 7) + 1)) 6 ((h 0 17).toNat) 2) 7 ((h 0 17).toNat) a1) 8 ((h 0 17).toNat) 0) 9 ((h 0 17).toNat) 0) 0 17 ((h 0 17) + 1)) 74 ((h 0 113).toNat) 13) 75 ((h 0 113).toNat) 0) 76 ((h 0 113).toNat) 0) 0 113 ((h 0 113) + 1)) 6 (((h 0 17) + 1).toNat) 4) 7 (((h 0 17) + 1).toNat) (h 0 113)) 8 (((h 0 17) + 1).toNat) 0) 9 (((h 0 17) + 1).toNat) 0) 0 17 (((h 0 17) + 1) + 1)) 6 ((((h 0 17) + 1) + 1).toNat) 1) 7 ((((h 0 17) + 1) + 1).toNat) w1) 8 ((((h 0 17) + 1) + 1).toNat) 0) 9 ((((h 0 17) + 1) + 1).toNat) 0) 0 17 ((((h 0 17) + 1) + 1) + 1)) (ab_ops_13 g p1 p2) g26)
      · intro h27 k50_1 g28
        refine ja_if_ne 58 doperators_53 rfl ⟨by decide, by decide⟩ (fun c53 => absurd c53 (by omega)) (fun c53 => ?_)
        refine ja_iconst doperators_56 ?_
        refine ja_zreturn doperators_57 rfl (by omega) ?_
        exact mo_fin (by omega) rfl (k2 h27 (by omega) g28)
  · refine ja_aload_n doperators_10 rfl rfl ?_
    refine ja_dup doperators_11 (by decide) ?_
    refine fg_nest (v := h 0 18) rfl doperators_12 ?_
    have f29 := gF_nest g
    refine ja_iconst doperators_15 ?_
    refine ja_isub doperators_16 ?_
    have g30 := gP_nest g (x := (h 0 18) - 1) ⟨by omega, by omega⟩
    refine fp_nest doperators_17 ?_
    refine ja_iconst doperators_20 ?_
    refine ja_zreturn doperators_21 rfl (by omega) ?_
    exact mo_fin (by omega) rfl (k1 (ja_up h 0 18 ((h 0 18) - 1)) (ab_ops_end g p1 p2) g30)
theorem t_operators {a1 : Int} {R r ph q0 b : Int} {tf : mo_TF} {s : List mo_A} {ht st rg : Nat → Int} {tu : Int} {d nL pc : Nat} {cc : ByteArray} {rt : Option FieldType} {L : List (Nat × ja_V)} {S : List ja_V} {h : ja_H} {Q : Option ja_V → ja_H → Prop} (hdd : 3 < d) (hwd : ja_wd S ≤ 8) (hd : decode cc pc = .ok (.invokevirtual 847, 3)) (g : mo_G Zz h) (r1 : -2147483648 ≤ a1 ∧ a1 ≤ 2147483647) (p1 : pk_S h (h 0 17).toNat s) (p2 : piB h R r ph tf q0 ((2, a1, b) :: s) ht st rg tu) (k1 : ∀ (h' : ja_H), (pi_done h h' R r ph tf q0 (pi_mu h ((2, a1, b) :: s))) → mo_G Zz h' → mJ l D cA ad d cc nL rt (pc + 3) L ((0, 1) :: S) h' Q) (k2 : ∀ (h' : ja_H), (0 < (h' 0 8) ∧ (h' 0 1) = (h 0 1) ∧ (h' 0 118) = (h 0 118) ∧ (h' 0 127) = (h 0 127)) → mo_G Zz h' → mJ l D cA ad d cc nL rt (pc + 3) L ((0, 0) :: S) h' Q) : mJ l D cA ad d cc nL rt pc L ((0, a1) :: (2, ((0 : Nat) : Int)) :: S) h Q :=
  mc_operators hdd hwd hd (s_operators g r1 p1 p2 k1 k2)
end
theorem dexpression_0 : decode cX12_expression 0 = .ok (.aload_n 0, 1) := by decide +kernel
theorem dexpression_1 : decode cX12_expression 1 = .ok (.invokevirtual 808, 3) := by decide +kernel
theorem dexpression_4 : decode cX12_expression 4 = .ok (.ifCond .ne 8, 3) := by decide +kernel
theorem dexpression_7 : decode cX12_expression 7 = .ok (.aload_n 0, 1) := by decide +kernel
theorem dexpression_8 : decode cX12_expression 8 = .ok (.invokevirtual 593, 3) := by decide +kernel
theorem dexpression_11 : decode cX12_expression 11 = .ok (.ireturn, 1) := by decide +kernel
theorem dexpression_12 : decode cX12_expression 12 = .ok (.aload_n 0, 1) := by decide +kernel
theorem dexpression_13 : decode cX12_expression 13 = .ok (.invokevirtual 814, 3) := by decide +kernel
theorem dexpression_16 : decode cX12_expression 16 = .ok (.ifCond .ne 5, 3) := by decide +kernel
theorem dexpression_19 : decode cX12_expression 19 = .ok (.iconst 0, 1) := by decide +kernel
theorem dexpression_20 : decode cX12_expression 20 = .ok (.ireturn, 1) := by decide +kernel
theorem dexpression_21 : decode cX12_expression 21 = .ok (.aload_n 0, 1) := by decide +kernel
theorem dexpression_22 : decode cX12_expression 22 = .ok (.iconst 2, 1) := by decide +kernel
theorem dexpression_23 : decode cX12_expression 23 = .ok (.iload_n 1, 1) := by decide +kernel
theorem dexpression_24 : decode cX12_expression 24 = .ok (.iconst 0, 1) := by decide +kernel
theorem dexpression_25 : decode cX12_expression 25 = .ok (.iconst 0, 1) := by decide +kernel
theorem dexpression_26 : decode cX12_expression 26 = .ok (.invokevirtual 790, 3) := by decide +kernel
theorem dexpression_29 : decode cX12_expression 29 = .ok (.istore_n 2, 1) := by decide +kernel
theorem dexpression_30 : decode cX12_expression 30 = .ok (.aload_n 0, 1) := by decide +kernel
theorem dexpression_31 : decode cX12_expression 31 = .ok (.bipush 45, 2) := by decide +kernel
theorem dexpression_33 : decode cX12_expression 33 = .ok (.invokevirtual 586, 3) := by decide +kernel
theorem dexpression_36 : decode cX12_expression 36 = .ok (.ifCond .ne 12, 3) := by decide +kernel
theorem dexpression_39 : decode cX12_expression 39 = .ok (.aload_n 0, 1) := by decide +kernel
theorem dexpression_40 : decode cX12_expression 40 = .ok (.bipush 28, 2) := by decide +kernel
theorem dexpression_42 : decode cX12_expression 42 = .ok (.invokevirtual 596, 3) := by decide +kernel
theorem dexpression_45 : decode cX12_expression 45 = .ok (.ifCond .eq 53, 3) := by decide +kernel
theorem dexpression_48 : decode cX12_expression 48 = .ok (.aload_n 0, 1) := by decide +kernel
theorem dexpression_49 : decode cX12_expression 49 = .ok (.bipush 45, 2) := by decide +kernel
theorem dexpression_51 : decode cX12_expression 51 = .ok (.invokevirtual 586, 3) := by decide +kernel
theorem dexpression_54 : decode cX12_expression 54 = .ok (.ifCond .eq 7, 3) := by decide +kernel
theorem dexpression_57 : decode cX12_expression 57 = .ok (.iconst 1, 1) := by decide +kernel
theorem dexpression_58 : decode cX12_expression 58 = .ok (.goto 4, 3) := by decide +kernel
theorem dexpression_61 : decode cX12_expression 61 = .ok (.iconst 0, 1) := by decide +kernel
theorem dexpression_62 : decode cX12_expression 62 = .ok (.istore_n 3, 1) := by decide +kernel
theorem dexpression_63 : decode cX12_expression 63 = .ok (.aload_n 0, 1) := by decide +kernel
theorem dexpression_64 : decode cX12_expression 64 = .ok (.invokevirtual 589, 3) := by decide +kernel
theorem dexpression_67 : decode cX12_expression 67 = .ok (.ifCond .eq 29, 3) := by decide +kernel
theorem dexpression_70 : decode cX12_expression 70 = .ok (.aload_n 0, 1) := by decide +kernel
theorem dexpression_71 : decode cX12_expression 71 = .ok (.iconst 5, 1) := by decide +kernel
theorem dexpression_72 : decode cX12_expression 72 = .ok (.iload_n 3, 1) := by decide +kernel
theorem dexpression_73 : decode cX12_expression 73 = .ok (.iconst 0, 1) := by decide +kernel
theorem dexpression_74 : decode cX12_expression 74 = .ok (.iconst 0, 1) := by decide +kernel
theorem dexpression_75 : decode cX12_expression 75 = .ok (.invokevirtual 790, 3) := by decide +kernel
theorem dexpression_78 : decode cX12_expression 78 = .ok (.ifCond .eq 18, 3) := by decide +kernel
theorem dexpression_81 : decode cX12_expression 81 = .ok (.aload_n 0, 1) := by decide +kernel
theorem dexpression_82 : decode cX12_expression 82 = .ok (.iconst 1, 1) := by decide +kernel
theorem dexpression_83 : decode cX12_expression 83 = .ok (.iconst 5, 1) := by decide +kernel
theorem dexpression_84 : decode cX12_expression 84 = .ok (.iconst 0, 1) := by decide +kernel
theorem dexpression_85 : decode cX12_expression 85 = .ok (.iconst 0, 1) := by decide +kernel
theorem dexpression_86 : decode cX12_expression 86 = .ok (.invokevirtual 790, 3) := by decide +kernel
theorem dexpression_89 : decode cX12_expression 89 = .ok (.ifCond .eq 7, 3) := by decide +kernel
theorem dexpression_92 : decode cX12_expression 92 = .ok (.iconst 1, 1) := by decide +kernel
theorem dexpression_93 : decode cX12_expression 93 = .ok (.goto 4, 3) := by decide +kernel
theorem dexpression_96 : decode cX12_expression 96 = .ok (.iconst 0, 1) := by decide +kernel
theorem dexpression_97 : decode cX12_expression 97 = .ok (.ireturn, 1) := by decide +kernel
theorem dexpression_98 : decode cX12_expression 98 = .ok (.aload_n 0, 1) := by decide +kernel
theorem dexpression_99 : decode cX12_expression 99 = .ok (.bipush 6, 2) := by decide +kernel
theorem dexpression_101 : decode cX12_expression 101 = .ok (.iconst 0, 1) := by decide +kernel
theorem dexpression_102 : decode cX12_expression 102 = .ok (.iconst 0, 1) := by decide +kernel
theorem dexpression_103 : decode cX12_expression 103 = .ok (.iconst 0, 1) := by decide +kernel
theorem dexpression_104 : decode cX12_expression 104 = .ok (.invokevirtual 790, 3) := by decide +kernel
theorem dexpression_107 : decode cX12_expression 107 = .ok (.ireturn, 1) := by decide +kernel
section
variable {l : Launch} {D : va_G} {cA : Nat → ClassId} {ad : Nat → Nat}
theorem s_expression {a1 : Int} {R r ph q0 b : Int} {tf : mo_TF} {s : List mo_A} {ht st rg : Nat → Int} {tu : Int} {h : ja_H} {Q : Option ja_V → ja_H → Prop} (g : mo_G Zz h) (r1 : -2147483648 ≤ a1 ∧ a1 ≤ 2147483647) (p1 : pk_S h (h 0 17).toNat s) (p2 : piB h R r ph tf q0 ((1, a1, b) :: s) ht st rg tu) (k1 : ∀ (h' : ja_H), (pi_done h h' R r ph tf q0 (pi_mu h ((1, a1, b) :: s))) → mo_G Zz h' → Q (some (0, 1)) h') (k2 : ∀ (h' : ja_H), (0 < (h' 0 8) ∧ (h' 0 1) = (h 0 1) ∧ (h' 0 118) = (h 0 118) ∧ (h' 0 127) = (h 0 127)) → mo_G Zz h' → Q (some (0, 0)) h') : mM_expression l D cA ad a1 h Q := by
  show mJ l D cA ad 3 cX12_expression 4 (some .boolean) 0 [(0, (2, ((0 : Nat) : Int))), (1, (0, a1))] [] h Q
  have kn_at := gF_at g
  have kn_wTop := gF_wTop g
  have kn_words := gF_words g
  have kn_nest := gF_nest g
  have hN := piB_num g p1 p2
  obtain ⟨N1, N2, N3, N4, N5, N6, N7, N8, N9, N10, N11, N12, N13, ⟨NK1, NK2⟩, ND1, ND2, ND3, NU1, NU2⟩ := hN
  have hn1 : (h 0 18) = 0 + pk_sum pk_c s := p2.1.1
  refine ja_aload_n dexpression_0 rfl rfl ?_
  refine t_beginsExpression (by decide) (show (0 : Nat) ≤ 8 by decide) dexpression_1 g  ?_
  intro w1 k1_0
  refine ja_if_ne 12 dexpression_4 rfl ⟨by omega, by omega⟩ (fun c4 => ?_) (fun c4 => ?_)
  · refine ja_aload_n dexpression_12 rfl rfl ?_
    refine t_enter (by decide) (show (0 : Nat) ≤ 8 by decide) dexpression_13 g  ?_ ?_
    · intro k13_0 g2
      replace k13_0 : (h 0 18) < 16 := k13_0
      replace g2 : mo_G Zz (ja_up h 0 18 ((h 0 18) + 1)) := g2
      show mJ l D cA ad 3 cX12_expression 4 (some .boolean) 16 [(0, (2, ((0 : Nat) : Int))), (1, (0, a1))] [(0, 1)] (ja_up h 0 18 ((h 0 18) + 1)) Q
      refine ja_if_ne 21 dexpression_16 rfl ⟨by decide, by decide⟩ (fun c16 => ?_) (fun c16 => absurd c16 (by omega))
      refine ja_aload_n dexpression_21 rfl rfl ?_
      refine ja_iconst dexpression_22 ?_
      refine ja_iload_n dexpression_23 rfl rfl ?_
      refine ja_iconst dexpression_24 ?_
      refine ja_iconst dexpression_25 ?_
      refine t_later (by decide) (show (0 : Nat) ≤ 8 by decide) dexpression_26 g2 ⟨by decide, by decide⟩ ⟨by omega, by omega⟩ ⟨by decide, by decide⟩ ⟨by decide, by decide⟩ (show 0 ≤ 2 ∧ 2 ≤ 38 by omega) (show (h 0 17) < 2000 by omega) ?_
      intro g3
      replace g3 : mo_G Zz (ja_up (ja_up (ja_up (ja_up (ja_up (ja_up h 0 18 ((h 0 18) + 1)) 6 ((h 0 17).toNat) 2) 7 ((h 0 17).toNat) a1) 8 ((h 0 17).toNat) 0) 9 ((h 0 17).toNat) 0) 0 17 ((h 0 17) + 1)) := g3
      show mJ l D cA ad 3 cX12_expression 4 (some .boolean) 29 [(0, (2, ((0 : Nat) : Int))), (1, (0, a1))] [(0, 1)] (ja_up (ja_up (ja_up (ja_up (ja_up (ja_up h 0 18 ((h 0 18) + 1)) 6 ((h 0 17).toNat) 2) 7 ((h 0 17).toNat) a1) 8 ((h 0 17).toNat) 0) 9 ((h 0 17).toNat) 0) 0 17 ((h 0 17) + 1)) Q
      refine ja_istore_n dexpression_29 rfl (by decide) (L2 := [(2, (0, 1)), (0, (2, ((0 : Nat) : Int))), (1, (0, a1))]) rfl ?_
      refine ja_aload_n dexpression_30 rfl rfl ?_
      refine ja_bipush 45 dexpression_31 rfl ?_
      refine t_isSign (by decide) (show (0 : Nat) ≤ 8 by decide) dexpression_33 g3 ⟨by decide, by decide⟩ ?_
      intro w4 k33_0
      replace k33_0 : (w4 = 1 ∧ (h 2 (h 0 7).toNat) = 5 ∧ (h 5 (h 0 7).toNat) = 45) ∨ (w4 = 0 ∧ ¬ ((h 2 (h 0 7).toNat) = 5 ∧ (h 5 (h 0 7).toNat) = 45)) := k33_0
      refine ja_if_ne 48 dexpression_36 rfl ⟨by omega, by omega⟩ (fun c36 => ?_) (fun c36 => ?_)
      · have z36 := is1v k33_0 c36
        replace k33_0 := is1 k33_0 c36
        refine ja_aload_n dexpression_48 rfl rfl ?_
        refine ja_bipush 45 dexpression_49 rfl ?_
        refine t_isSign (by decide) (show (0 : Nat) ≤ 8 by decide) dexpression_51 g3 ⟨by decide, by decide⟩ ?_
        intro w5 k51_0
        replace k51_0 : (w5 = 1 ∧ (h 2 (h 0 7).toNat) = 5 ∧ (h 5 (h 0 7).toNat) = 45) ∨ (w5 = 0 ∧ ¬ ((h 2 (h 0 7).toNat) = 5 ∧ (h 5 (h 0 7).toNat) = 45)) := k51_0
        refine ja_if_eq 61 dexpression_54 rfl ⟨by omega, by omega⟩ (fun c54 => ?_) (fun c54 => ?_)
        · replace k51_0 := is0 k51_0 c54
          refine ja_iconst dexpression_61 ?_
          refine ja_istore_n dexpression_62 rfl (by decide) (L2 := [(3, (0, 0)), (2, (0, 1)), (0, (2, ((0 : Nat) : Int))), (1, (0, a1))]) rfl ?_
          refine ja_aload_n dexpression_63 rfl rfl ?_
          refine t_take (by decide) (show (0 : Nat) ≤ 8 by decide) dexpression_64 g3  ?_ ?_
          · intro k64_0 g6
            replace k64_0 : (h 0 7) < 900 := k64_0
            replace g6 : mo_G Zz (ja_up (ja_up (ja_up (ja_up (ja_up (ja_up (ja_up h 0 18 ((h 0 18) + 1)) 6 ((h 0 17).toNat) 2) 7 ((h 0 17).toNat) a1) 8 ((h 0 17).toNat) 0) 9 ((h 0 17).toNat) 0) 0 17 ((h 0 17) + 1)) 0 7 ((h 0 7) + 1)) := g6
            show mJ l D cA ad 3 cX12_expression 4 (some .boolean) 67 [(3, (0, 0)), (2, (0, 1)), (0, (2, ((0 : Nat) : Int))), (1, (0, a1))] [(0, 1)] (ja_up (ja_up (ja_up (ja_up (ja_up (ja_up (ja_up h 0 18 ((h 0 18) + 1)) 6 ((h 0 17).toNat) 2) 7 ((h 0 17).toNat) a1) 8 ((h 0 17).toNat) 0) 9 ((h 0 17).toNat) 0) 0 17 ((h 0 17) + 1)) 0 7 ((h 0 7) + 1)) Q
            refine ja_if_eq 96 dexpression_67 rfl ⟨by decide, by decide⟩ (fun c67 => absurd c67 (by omega)) (fun c67 => ?_)
            refine ja_aload_n dexpression_70 rfl rfl ?_
            refine ja_iconst dexpression_71 ?_
            refine ja_iload_n dexpression_72 rfl rfl ?_
            refine ja_iconst dexpression_73 ?_
            refine ja_iconst dexpression_74 ?_
            refine t_later (by decide) (show (0 : Nat) ≤ 8 by decide) dexpression_75 g6 ⟨by decide, by decide⟩ ⟨by decide, by decide⟩ ⟨by decide, by decide⟩ ⟨by decide, by decide⟩ (show 0 ≤ 5 ∧ 5 ≤ 38 by omega) (show ((h 0 17) + 1) < 2000 by omega) ?_
            intro g7
            replace g7 : mo_G Zz (ja_up (ja_up (ja_up (ja_up (ja_up (ja_up (ja_up (ja_up (ja_up (ja_up (ja_up (ja_up h 0 18 ((h 0 18) + 1)) 6 ((h 0 17).toNat) 2) 7 ((h 0 17).toNat) a1) 8 ((h 0 17).toNat) 0) 9 ((h 0 17).toNat) 0) 0 17 ((h 0 17) + 1)) 0 7 ((h 0 7) + 1)) 6 (((h 0 17) + 1).toNat) 5) 7 (((h 0 17) + 1).toNat) 0) 8 (((h 0 17) + 1).toNat) 0) 9 (((h 0 17) + 1).toNat) 0) 0 17 (((h 0 17) + 1) + 1)) := g7
            show mJ l D cA ad 3 cX12_expression 4 (some .boolean) 78 [(3, (0, 0)), (2, (0, 1)), (0, (2, ((0 : Nat) : Int))), (1, (0, a1))] [(0, 1)] (ja_up (ja_up (ja_up (ja_up (ja_up (ja_up (ja_up (ja_up (ja_up (ja_up (ja_up (ja_up h 0 18 ((h 0 18) + 1)) 6 ((h 0 17).toNat) 2) 7 ((h 0 17).toNat) a1) 8 ((h 0 17).toNat) 0) 9 ((h 0 17).toNat) 0) 0 17 ((h 0 17) + 1)) 0 7 ((h 0 7) + 1)) 6 (((h 0 17) + 1).toNat) 5) 7 (((h 0 17) + 1).toNat) 0) 8 (((h 0 17) + 1).toNat) 0) 9 (((h 0 17) + 1).toNat) 0) 0 17 (((h 0 17) + 1) + 1)) Q
            refine ja_if_eq 96 dexpression_78 rfl ⟨by decide, by decide⟩ (fun c78 => absurd c78 (by omega)) (fun c78 => ?_)
            refine ja_aload_n dexpression_81 rfl rfl ?_
            refine ja_iconst dexpression_82 ?_
            refine ja_iconst dexpression_83 ?_
            refine ja_iconst dexpression_84 ?_
            refine ja_iconst dexpression_85 ?_
            refine t_later (by decide) (show (0 : Nat) ≤ 8 by decide) dexpression_86 g7 ⟨by decide, by decide⟩ ⟨by decide, by decide⟩ ⟨by decide, by decide⟩ ⟨by decide, by decide⟩ (show 0 ≤ 1 ∧ 1 ≤ 38 by omega) (show (((h 0 17) + 1) + 1) < 2000 by omega) ?_
            intro g8
            replace g8 : mo_G Zz (ja_up (ja_up (ja_up (ja_up (ja_up (ja_up (ja_up (ja_up (ja_up (ja_up (ja_up (ja_up (ja_up (ja_up (ja_up (ja_up (ja_up h 0 18 ((h 0 18) + 1)) 6 ((h 0 17).toNat) 2) 7 ((h 0 17).toNat) a1) 8 ((h 0 17).toNat) 0) 9 ((h 0 17).toNat) 0) 0 17 ((h 0 17) + 1)) 0 7 ((h 0 7) + 1)) 6 (((h 0 17) + 1).toNat) 5) 7 (((h 0 17) + 1).toNat) 0) 8 (((h 0 17) + 1).toNat) 0) 9 (((h 0 17) + 1).toNat) 0) 0 17 (((h 0 17) + 1) + 1)) 6 ((((h 0 17) + 1) + 1).toNat) 1) 7 ((((h 0 17) + 1) + 1).toNat) 5) 8 ((((h 0 17) + 1) + 1).toNat) 0) 9 ((((h 0 17) + 1) + 1).toNat) 0) 0 17 ((((h 0 17) + 1) + 1) + 1)) := g8
            show mJ l D cA ad 3 cX12_expression 4 (some .boolean) 89 [(3, (0, 0)), (2, (0, 1)), (0, (2, ((0 : Nat) : Int))), (1, (0, a1))] [(0, 1)] (ja_up (ja_up (ja_up (ja_up (ja_up (ja_up (ja_up (ja_up (ja_up (ja_up (ja_up (ja_up (ja_up (ja_up (ja_up (ja_up (ja_up h 0 18 ((h 0 18) + 1)) 6 ((h 0 17).toNat) 2) 7 ((h 0 17).toNat) a1) 8 ((h 0 17).toNat) 0) 9 ((h 0 17).toNat) 0) 0 17 ((h 0 17) + 1)) 0 7 ((h 0 7) + 1)) 6 (((h 0 17) + 1).toNat) 5) 7 (((h 0 17) + 1).toNat) 0) 8 (((h 0 17) + 1).toNat) 0) 9 (((h 0 17) + 1).toNat) 0) 0 17 (((h 0 17) + 1) + 1)) 6 ((((h 0 17) + 1) + 1).toNat) 1) 7 ((((h 0 17) + 1) + 1).toNat) 5) 8 ((((h 0 17) + 1) + 1).toNat) 0) 9 ((((h 0 17) + 1) + 1).toNat) 0) 0 17 ((((h 0 17) + 1) + 1) + 1)) Q
            refine ja_if_eq 96 dexpression_89 rfl ⟨by decide, by decide⟩ (fun c89 => absurd c89 (by omega)) (fun c89 => ?_)
            refine ja_iconst dexpression_92 ?_
            refine ja_goto 97 dexpression_93 rfl ?_
            refine ja_zreturn dexpression_97 rfl (by omega) ?_
            exact mo_fin (by omega) rfl (k1 (ja_up (ja_up (ja_up (ja_up (ja_up (ja_up (ja_up (ja_up (ja_up (ja_up (ja_up (ja_up (ja_up (ja_up (ja_up (ja_up (ja_up h 0 18 ((h 0 18) + 1)) 6 ((h 0 17).toNat) 2) 7 ((h 0 17).toNat) a1) 8 ((h 0 17).toNat) 0) 9 ((h 0 17).toNat) 0) 0 17 ((h 0 17) + 1)) 0 7 ((h 0 7) + 1)) 6 (((h 0 17) + 1).toNat) 5) 7 (((h 0 17) + 1).toNat) 0) 8 (((h 0 17) + 1).toNat) 0) 9 (((h 0 17) + 1).toNat) 0) 0 17 (((h 0 17) + 1) + 1)) 6 ((((h 0 17) + 1) + 1).toNat) 1) 7 ((((h 0 17) + 1) + 1).toNat) 5) 8 ((((h 0 17) + 1) + 1).toNat) 0) 9 ((((h 0 17) + 1) + 1).toNat) 0) 0 17 ((((h 0 17) + 1) + 1) + 1)) (ab_ex_un g p1 p2 (by exact k1_0.2.2.1 (by omega))) g8)
          · intro h9 k64_1 g10
            replace k64_1 : 0 < (h9 0 8) ∧ (h9 0 1) = (h 0 1) ∧ (h9 0 118) = (h 0 118) ∧ (h9 0 127) = (h 0 127) := k64_1
            refine ja_if_eq 96 dexpression_67 rfl ⟨by decide, by decide⟩ (fun c67 => ?_) (fun c67 => absurd c67 (by omega))
            refine ja_iconst dexpression_96 ?_
            refine ja_zreturn dexpression_97 rfl (by omega) ?_
            exact mo_fin (by omega) rfl (k2 h9 (by omega) g10)
        · have z54 := is1v k51_0 c54
          replace k51_0 := is1 k51_0 c54
          refine ja_iconst dexpression_57 ?_
          refine ja_goto 62 dexpression_58 rfl ?_
          refine ja_istore_n dexpression_62 rfl (by decide) (L2 := [(3, (0, 1)), (2, (0, 1)), (0, (2, ((0 : Nat) : Int))), (1, (0, a1))]) rfl ?_
          refine ja_aload_n dexpression_63 rfl rfl ?_
          refine t_take (by decide) (show (0 : Nat) ≤ 8 by decide) dexpression_64 g3  ?_ ?_
          · intro k64_0 g11
            replace k64_0 : (h 0 7) < 900 := k64_0
            replace g11 : mo_G Zz (ja_up (ja_up (ja_up (ja_up (ja_up (ja_up (ja_up h 0 18 ((h 0 18) + 1)) 6 ((h 0 17).toNat) 2) 7 ((h 0 17).toNat) a1) 8 ((h 0 17).toNat) 0) 9 ((h 0 17).toNat) 0) 0 17 ((h 0 17) + 1)) 0 7 ((h 0 7) + 1)) := g11
            show mJ l D cA ad 3 cX12_expression 4 (some .boolean) 67 [(3, (0, 1)), (2, (0, 1)), (0, (2, ((0 : Nat) : Int))), (1, (0, a1))] [(0, 1)] (ja_up (ja_up (ja_up (ja_up (ja_up (ja_up (ja_up h 0 18 ((h 0 18) + 1)) 6 ((h 0 17).toNat) 2) 7 ((h 0 17).toNat) a1) 8 ((h 0 17).toNat) 0) 9 ((h 0 17).toNat) 0) 0 17 ((h 0 17) + 1)) 0 7 ((h 0 7) + 1)) Q
            refine ja_if_eq 96 dexpression_67 rfl ⟨by decide, by decide⟩ (fun c67 => absurd c67 (by omega)) (fun c67 => ?_)
            refine ja_aload_n dexpression_70 rfl rfl ?_
            refine ja_iconst dexpression_71 ?_
            refine ja_iload_n dexpression_72 rfl rfl ?_
            refine ja_iconst dexpression_73 ?_
            refine ja_iconst dexpression_74 ?_
            refine t_later (by decide) (show (0 : Nat) ≤ 8 by decide) dexpression_75 g11 ⟨by decide, by decide⟩ ⟨by decide, by decide⟩ ⟨by decide, by decide⟩ ⟨by decide, by decide⟩ (show 0 ≤ 5 ∧ 5 ≤ 38 by omega) (show ((h 0 17) + 1) < 2000 by omega) ?_
            intro g12
            replace g12 : mo_G Zz (ja_up (ja_up (ja_up (ja_up (ja_up (ja_up (ja_up (ja_up (ja_up (ja_up (ja_up (ja_up h 0 18 ((h 0 18) + 1)) 6 ((h 0 17).toNat) 2) 7 ((h 0 17).toNat) a1) 8 ((h 0 17).toNat) 0) 9 ((h 0 17).toNat) 0) 0 17 ((h 0 17) + 1)) 0 7 ((h 0 7) + 1)) 6 (((h 0 17) + 1).toNat) 5) 7 (((h 0 17) + 1).toNat) 1) 8 (((h 0 17) + 1).toNat) 0) 9 (((h 0 17) + 1).toNat) 0) 0 17 (((h 0 17) + 1) + 1)) := g12
            show mJ l D cA ad 3 cX12_expression 4 (some .boolean) 78 [(3, (0, 1)), (2, (0, 1)), (0, (2, ((0 : Nat) : Int))), (1, (0, a1))] [(0, 1)] (ja_up (ja_up (ja_up (ja_up (ja_up (ja_up (ja_up (ja_up (ja_up (ja_up (ja_up (ja_up h 0 18 ((h 0 18) + 1)) 6 ((h 0 17).toNat) 2) 7 ((h 0 17).toNat) a1) 8 ((h 0 17).toNat) 0) 9 ((h 0 17).toNat) 0) 0 17 ((h 0 17) + 1)) 0 7 ((h 0 7) + 1)) 6 (((h 0 17) + 1).toNat) 5) 7 (((h 0 17) + 1).toNat) 1) 8 (((h 0 17) + 1).toNat) 0) 9 (((h 0 17) + 1).toNat) 0) 0 17 (((h 0 17) + 1) + 1)) Q
            refine ja_if_eq 96 dexpression_78 rfl ⟨by decide, by decide⟩ (fun c78 => absurd c78 (by omega)) (fun c78 => ?_)
            refine ja_aload_n dexpression_81 rfl rfl ?_
            refine ja_iconst dexpression_82 ?_
            refine ja_iconst dexpression_83 ?_
            refine ja_iconst dexpression_84 ?_
            refine ja_iconst dexpression_85 ?_
            refine t_later (by decide) (show (0 : Nat) ≤ 8 by decide) dexpression_86 g12 ⟨by decide, by decide⟩ ⟨by decide, by decide⟩ ⟨by decide, by decide⟩ ⟨by decide, by decide⟩ (show 0 ≤ 1 ∧ 1 ≤ 38 by omega) (show (((h 0 17) + 1) + 1) < 2000 by omega) ?_
            intro g13
            replace g13 : mo_G Zz (ja_up (ja_up (ja_up (ja_up (ja_up (ja_up (ja_up (ja_up (ja_up (ja_up (ja_up (ja_up (ja_up (ja_up (ja_up (ja_up (ja_up h 0 18 ((h 0 18) + 1)) 6 ((h 0 17).toNat) 2) 7 ((h 0 17).toNat) a1) 8 ((h 0 17).toNat) 0) 9 ((h 0 17).toNat) 0) 0 17 ((h 0 17) + 1)) 0 7 ((h 0 7) + 1)) 6 (((h 0 17) + 1).toNat) 5) 7 (((h 0 17) + 1).toNat) 1) 8 (((h 0 17) + 1).toNat) 0) 9 (((h 0 17) + 1).toNat) 0) 0 17 (((h 0 17) + 1) + 1)) 6 ((((h 0 17) + 1) + 1).toNat) 1) 7 ((((h 0 17) + 1) + 1).toNat) 5) 8 ((((h 0 17) + 1) + 1).toNat) 0) 9 ((((h 0 17) + 1) + 1).toNat) 0) 0 17 ((((h 0 17) + 1) + 1) + 1)) := g13
            show mJ l D cA ad 3 cX12_expression 4 (some .boolean) 89 [(3, (0, 1)), (2, (0, 1)), (0, (2, ((0 : Nat) : Int))), (1, (0, a1))] [(0, 1)] (ja_up (ja_up (ja_up (ja_up (ja_up (ja_up (ja_up (ja_up (ja_up (ja_up (ja_up (ja_up (ja_up (ja_up (ja_up (ja_up (ja_up h 0 18 ((h 0 18) + 1)) 6 ((h 0 17).toNat) 2) 7 ((h 0 17).toNat) a1) 8 ((h 0 17).toNat) 0) 9 ((h 0 17).toNat) 0) 0 17 ((h 0 17) + 1)) 0 7 ((h 0 7) + 1)) 6 (((h 0 17) + 1).toNat) 5) 7 (((h 0 17) + 1).toNat) 1) 8 (((h 0 17) + 1).toNat) 0) 9 (((h 0 17) + 1).toNat) 0) 0 17 (((h 0 17) + 1) + 1)) 6 ((((h 0 17) + 1) + 1).toNat) 1) 7 ((((h 0 17) + 1) + 1).toNat) 5) 8 ((((h 0 17) + 1) + 1).toNat) 0) 9 ((((h 0 17) + 1) + 1).toNat) 0) 0 17 ((((h 0 17) + 1) + 1) + 1)) Q
            refine ja_if_eq 96 dexpression_89 rfl ⟨by decide, by decide⟩ (fun c89 => absurd c89 (by omega)) (fun c89 => ?_)
            refine ja_iconst dexpression_92 ?_
            refine ja_goto 97 dexpression_93 rfl ?_
            refine ja_zreturn dexpression_97 rfl (by omega) ?_
            exact mo_fin (by omega) rfl (k1 (ja_up (ja_up (ja_up (ja_up (ja_up (ja_up (ja_up (ja_up (ja_up (ja_up (ja_up (ja_up (ja_up (ja_up (ja_up (ja_up (ja_up h 0 18 ((h 0 18) + 1)) 6 ((h 0 17).toNat) 2) 7 ((h 0 17).toNat) a1) 8 ((h 0 17).toNat) 0) 9 ((h 0 17).toNat) 0) 0 17 ((h 0 17) + 1)) 0 7 ((h 0 7) + 1)) 6 (((h 0 17) + 1).toNat) 5) 7 (((h 0 17) + 1).toNat) 1) 8 (((h 0 17) + 1).toNat) 0) 9 (((h 0 17) + 1).toNat) 0) 0 17 (((h 0 17) + 1) + 1)) 6 ((((h 0 17) + 1) + 1).toNat) 1) 7 ((((h 0 17) + 1) + 1).toNat) 5) 8 ((((h 0 17) + 1) + 1).toNat) 0) 9 ((((h 0 17) + 1) + 1).toNat) 0) 0 17 ((((h 0 17) + 1) + 1) + 1)) (ab_ex_un g p1 p2 (by exact k1_0.2.2.1 (by omega))) g13)
          · intro h14 k64_1 g15
            replace k64_1 : 0 < (h14 0 8) ∧ (h14 0 1) = (h 0 1) ∧ (h14 0 118) = (h 0 118) ∧ (h14 0 127) = (h 0 127) := k64_1
            refine ja_if_eq 96 dexpression_67 rfl ⟨by decide, by decide⟩ (fun c67 => ?_) (fun c67 => absurd c67 (by omega))
            refine ja_iconst dexpression_96 ?_
            refine ja_zreturn dexpression_97 rfl (by omega) ?_
            exact mo_fin (by omega) rfl (k2 h14 (by omega) g15)
      · replace k33_0 := is0 k33_0 c36
        refine ja_aload_n dexpression_39 rfl rfl ?_
        refine ja_bipush 28 dexpression_40 rfl ?_
        refine t_isWord (by decide) (show (0 : Nat) ≤ 8 by decide) dexpression_42 g3 ⟨by decide, by decide⟩ ?_
        intro w16 k42_0
        replace k42_0 : (w16 = 1 ∧ (h 2 (h 0 7).toNat) = 1 ∧ (h 5 (h 0 7).toNat) = 28) ∨ (w16 = 0 ∧ ¬ ((h 2 (h 0 7).toNat) = 1 ∧ (h 5 (h 0 7).toNat) = 28)) := k42_0
        refine ja_if_eq 98 dexpression_45 rfl ⟨by omega, by omega⟩ (fun c45 => ?_) (fun c45 => ?_)
        · replace k42_0 := is0 k42_0 c45
          refine ja_aload_n dexpression_98 rfl rfl ?_
          refine ja_bipush 6 dexpression_99 rfl ?_
          refine ja_iconst dexpression_101 ?_
          refine ja_iconst dexpression_102 ?_
          refine ja_iconst dexpression_103 ?_
          refine t_later (by decide) (show (0 : Nat) ≤ 8 by decide) dexpression_104 g3 ⟨by decide, by decide⟩ ⟨by decide, by decide⟩ ⟨by decide, by decide⟩ ⟨by decide, by decide⟩ (show 0 ≤ 6 ∧ 6 ≤ 38 by omega) (show ((h 0 17) + 1) < 2000 by omega) ?_
          intro g17
          replace g17 : mo_G Zz (ja_up (ja_up (ja_up (ja_up (ja_up (ja_up (ja_up (ja_up (ja_up (ja_up (ja_up h 0 18 ((h 0 18) + 1)) 6 ((h 0 17).toNat) 2) 7 ((h 0 17).toNat) a1) 8 ((h 0 17).toNat) 0) 9 ((h 0 17).toNat) 0) 0 17 ((h 0 17) + 1)) 6 (((h 0 17) + 1).toNat) 6) 7 (((h 0 17) + 1).toNat) 0) 8 (((h 0 17) + 1).toNat) 0) 9 (((h 0 17) + 1).toNat) 0) 0 17 (((h 0 17) + 1) + 1)) := g17
          show mJ l D cA ad 3 cX12_expression 4 (some .boolean) 107 [(2, (0, 1)), (0, (2, ((0 : Nat) : Int))), (1, (0, a1))] [(0, 1)] (ja_up (ja_up (ja_up (ja_up (ja_up (ja_up (ja_up (ja_up (ja_up (ja_up (ja_up h 0 18 ((h 0 18) + 1)) 6 ((h 0 17).toNat) 2) 7 ((h 0 17).toNat) a1) 8 ((h 0 17).toNat) 0) 9 ((h 0 17).toNat) 0) 0 17 ((h 0 17) + 1)) 6 (((h 0 17) + 1).toNat) 6) 7 (((h 0 17) + 1).toNat) 0) 8 (((h 0 17) + 1).toNat) 0) 9 (((h 0 17) + 1).toNat) 0) 0 17 (((h 0 17) + 1) + 1)) Q
          refine ja_zreturn dexpression_107 rfl (by omega) ?_
          exact mo_fin (by omega) rfl (k1 (ja_up (ja_up (ja_up (ja_up (ja_up (ja_up (ja_up (ja_up (ja_up (ja_up (ja_up h 0 18 ((h 0 18) + 1)) 6 ((h 0 17).toNat) 2) 7 ((h 0 17).toNat) a1) 8 ((h 0 17).toNat) 0) 9 ((h 0 17).toNat) 0) 0 17 ((h 0 17) + 1)) 6 (((h 0 17) + 1).toNat) 6) 7 (((h 0 17) + 1).toNat) 0) 8 (((h 0 17) + 1).toNat) 0) 9 (((h 0 17) + 1).toNat) 0) 0 17 (((h 0 17) + 1) + 1)) (ab_ex_op g p1 p2 (by exact k1_0.2.2.1 (by omega)) (by omega) (by omega)) g17)
        · have z45 := is1v k42_0 c45
          replace k42_0 := is1 k42_0 c45
          refine ja_aload_n dexpression_48 rfl rfl ?_
          refine ja_bipush 45 dexpression_49 rfl ?_
          refine t_isSign (by decide) (show (0 : Nat) ≤ 8 by decide) dexpression_51 g3 ⟨by decide, by decide⟩ ?_
          intro w18 k51_0
          replace k51_0 : (w18 = 1 ∧ (h 2 (h 0 7).toNat) = 5 ∧ (h 5 (h 0 7).toNat) = 45) ∨ (w18 = 0 ∧ ¬ ((h 2 (h 0 7).toNat) = 5 ∧ (h 5 (h 0 7).toNat) = 45)) := k51_0
          refine ja_if_eq 61 dexpression_54 rfl ⟨by omega, by omega⟩ (fun c54 => ?_) (fun c54 => ?_)
          · replace k51_0 := is0 k51_0 c54
            refine ja_iconst dexpression_61 ?_
            refine ja_istore_n dexpression_62 rfl (by decide) (L2 := [(3, (0, 0)), (2, (0, 1)), (0, (2, ((0 : Nat) : Int))), (1, (0, a1))]) rfl ?_
            refine ja_aload_n dexpression_63 rfl rfl ?_
            refine t_take (by decide) (show (0 : Nat) ≤ 8 by decide) dexpression_64 g3  ?_ ?_
            · intro k64_0 g19
              replace k64_0 : (h 0 7) < 900 := k64_0
              replace g19 : mo_G Zz (ja_up (ja_up (ja_up (ja_up (ja_up (ja_up (ja_up h 0 18 ((h 0 18) + 1)) 6 ((h 0 17).toNat) 2) 7 ((h 0 17).toNat) a1) 8 ((h 0 17).toNat) 0) 9 ((h 0 17).toNat) 0) 0 17 ((h 0 17) + 1)) 0 7 ((h 0 7) + 1)) := g19
              show mJ l D cA ad 3 cX12_expression 4 (some .boolean) 67 [(3, (0, 0)), (2, (0, 1)), (0, (2, ((0 : Nat) : Int))), (1, (0, a1))] [(0, 1)] (ja_up (ja_up (ja_up (ja_up (ja_up (ja_up (ja_up h 0 18 ((h 0 18) + 1)) 6 ((h 0 17).toNat) 2) 7 ((h 0 17).toNat) a1) 8 ((h 0 17).toNat) 0) 9 ((h 0 17).toNat) 0) 0 17 ((h 0 17) + 1)) 0 7 ((h 0 7) + 1)) Q
              refine ja_if_eq 96 dexpression_67 rfl ⟨by decide, by decide⟩ (fun c67 => absurd c67 (by omega)) (fun c67 => ?_)
              refine ja_aload_n dexpression_70 rfl rfl ?_
              refine ja_iconst dexpression_71 ?_
              refine ja_iload_n dexpression_72 rfl rfl ?_
              refine ja_iconst dexpression_73 ?_
              refine ja_iconst dexpression_74 ?_
              refine t_later (by decide) (show (0 : Nat) ≤ 8 by decide) dexpression_75 g19 ⟨by decide, by decide⟩ ⟨by decide, by decide⟩ ⟨by decide, by decide⟩ ⟨by decide, by decide⟩ (show 0 ≤ 5 ∧ 5 ≤ 38 by omega) (show ((h 0 17) + 1) < 2000 by omega) ?_
              intro g20
              replace g20 : mo_G Zz (ja_up (ja_up (ja_up (ja_up (ja_up (ja_up (ja_up (ja_up (ja_up (ja_up (ja_up (ja_up h 0 18 ((h 0 18) + 1)) 6 ((h 0 17).toNat) 2) 7 ((h 0 17).toNat) a1) 8 ((h 0 17).toNat) 0) 9 ((h 0 17).toNat) 0) 0 17 ((h 0 17) + 1)) 0 7 ((h 0 7) + 1)) 6 (((h 0 17) + 1).toNat) 5) 7 (((h 0 17) + 1).toNat) 0) 8 (((h 0 17) + 1).toNat) 0) 9 (((h 0 17) + 1).toNat) 0) 0 17 (((h 0 17) + 1) + 1)) := g20
              show mJ l D cA ad 3 cX12_expression 4 (some .boolean) 78 [(3, (0, 0)), (2, (0, 1)), (0, (2, ((0 : Nat) : Int))), (1, (0, a1))] [(0, 1)] (ja_up (ja_up (ja_up (ja_up (ja_up (ja_up (ja_up (ja_up (ja_up (ja_up (ja_up (ja_up h 0 18 ((h 0 18) + 1)) 6 ((h 0 17).toNat) 2) 7 ((h 0 17).toNat) a1) 8 ((h 0 17).toNat) 0) 9 ((h 0 17).toNat) 0) 0 17 ((h 0 17) + 1)) 0 7 ((h 0 7) + 1)) 6 (((h 0 17) + 1).toNat) 5) 7 (((h 0 17) + 1).toNat) 0) 8 (((h 0 17) + 1).toNat) 0) 9 (((h 0 17) + 1).toNat) 0) 0 17 (((h 0 17) + 1) + 1)) Q
              refine ja_if_eq 96 dexpression_78 rfl ⟨by decide, by decide⟩ (fun c78 => absurd c78 (by omega)) (fun c78 => ?_)
              refine ja_aload_n dexpression_81 rfl rfl ?_
              refine ja_iconst dexpression_82 ?_
              refine ja_iconst dexpression_83 ?_
              refine ja_iconst dexpression_84 ?_
              refine ja_iconst dexpression_85 ?_
              refine t_later (by decide) (show (0 : Nat) ≤ 8 by decide) dexpression_86 g20 ⟨by decide, by decide⟩ ⟨by decide, by decide⟩ ⟨by decide, by decide⟩ ⟨by decide, by decide⟩ (show 0 ≤ 1 ∧ 1 ≤ 38 by omega) (show (((h 0 17) + 1) + 1) < 2000 by omega) ?_
              intro g21
              replace g21 : mo_G Zz (ja_up (ja_up (ja_up (ja_up (ja_up (ja_up (ja_up (ja_up (ja_up (ja_up (ja_up (ja_up (ja_up (ja_up (ja_up (ja_up (ja_up h 0 18 ((h 0 18) + 1)) 6 ((h 0 17).toNat) 2) 7 ((h 0 17).toNat) a1) 8 ((h 0 17).toNat) 0) 9 ((h 0 17).toNat) 0) 0 17 ((h 0 17) + 1)) 0 7 ((h 0 7) + 1)) 6 (((h 0 17) + 1).toNat) 5) 7 (((h 0 17) + 1).toNat) 0) 8 (((h 0 17) + 1).toNat) 0) 9 (((h 0 17) + 1).toNat) 0) 0 17 (((h 0 17) + 1) + 1)) 6 ((((h 0 17) + 1) + 1).toNat) 1) 7 ((((h 0 17) + 1) + 1).toNat) 5) 8 ((((h 0 17) + 1) + 1).toNat) 0) 9 ((((h 0 17) + 1) + 1).toNat) 0) 0 17 ((((h 0 17) + 1) + 1) + 1)) := g21
              show mJ l D cA ad 3 cX12_expression 4 (some .boolean) 89 [(3, (0, 0)), (2, (0, 1)), (0, (2, ((0 : Nat) : Int))), (1, (0, a1))] [(0, 1)] (ja_up (ja_up (ja_up (ja_up (ja_up (ja_up (ja_up (ja_up (ja_up (ja_up (ja_up (ja_up (ja_up (ja_up (ja_up (ja_up (ja_up h 0 18 ((h 0 18) + 1)) 6 ((h 0 17).toNat) 2) 7 ((h 0 17).toNat) a1) 8 ((h 0 17).toNat) 0) 9 ((h 0 17).toNat) 0) 0 17 ((h 0 17) + 1)) 0 7 ((h 0 7) + 1)) 6 (((h 0 17) + 1).toNat) 5) 7 (((h 0 17) + 1).toNat) 0) 8 (((h 0 17) + 1).toNat) 0) 9 (((h 0 17) + 1).toNat) 0) 0 17 (((h 0 17) + 1) + 1)) 6 ((((h 0 17) + 1) + 1).toNat) 1) 7 ((((h 0 17) + 1) + 1).toNat) 5) 8 ((((h 0 17) + 1) + 1).toNat) 0) 9 ((((h 0 17) + 1) + 1).toNat) 0) 0 17 ((((h 0 17) + 1) + 1) + 1)) Q
              refine ja_if_eq 96 dexpression_89 rfl ⟨by decide, by decide⟩ (fun c89 => absurd c89 (by omega)) (fun c89 => ?_)
              refine ja_iconst dexpression_92 ?_
              refine ja_goto 97 dexpression_93 rfl ?_
              refine ja_zreturn dexpression_97 rfl (by omega) ?_
              exact mo_fin (by omega) rfl (k1 (ja_up (ja_up (ja_up (ja_up (ja_up (ja_up (ja_up (ja_up (ja_up (ja_up (ja_up (ja_up (ja_up (ja_up (ja_up (ja_up (ja_up h 0 18 ((h 0 18) + 1)) 6 ((h 0 17).toNat) 2) 7 ((h 0 17).toNat) a1) 8 ((h 0 17).toNat) 0) 9 ((h 0 17).toNat) 0) 0 17 ((h 0 17) + 1)) 0 7 ((h 0 7) + 1)) 6 (((h 0 17) + 1).toNat) 5) 7 (((h 0 17) + 1).toNat) 0) 8 (((h 0 17) + 1).toNat) 0) 9 (((h 0 17) + 1).toNat) 0) 0 17 (((h 0 17) + 1) + 1)) 6 ((((h 0 17) + 1) + 1).toNat) 1) 7 ((((h 0 17) + 1) + 1).toNat) 5) 8 ((((h 0 17) + 1) + 1).toNat) 0) 9 ((((h 0 17) + 1) + 1).toNat) 0) 0 17 ((((h 0 17) + 1) + 1) + 1)) (ab_ex_un g p1 p2 (by exact k1_0.2.2.1 (by omega))) g21)
            · intro h22 k64_1 g23
              replace k64_1 : 0 < (h22 0 8) ∧ (h22 0 1) = (h 0 1) ∧ (h22 0 118) = (h 0 118) ∧ (h22 0 127) = (h 0 127) := k64_1
              refine ja_if_eq 96 dexpression_67 rfl ⟨by decide, by decide⟩ (fun c67 => ?_) (fun c67 => absurd c67 (by omega))
              refine ja_iconst dexpression_96 ?_
              refine ja_zreturn dexpression_97 rfl (by omega) ?_
              exact mo_fin (by omega) rfl (k2 h22 (by omega) g23)
          · have z54 := is1v k51_0 c54
            replace k51_0 := is1 k51_0 c54
            refine ja_iconst dexpression_57 ?_
            refine ja_goto 62 dexpression_58 rfl ?_
            refine ja_istore_n dexpression_62 rfl (by decide) (L2 := [(3, (0, 1)), (2, (0, 1)), (0, (2, ((0 : Nat) : Int))), (1, (0, a1))]) rfl ?_
            refine ja_aload_n dexpression_63 rfl rfl ?_
            refine t_take (by decide) (show (0 : Nat) ≤ 8 by decide) dexpression_64 g3  ?_ ?_
            · intro k64_0 g24
              replace k64_0 : (h 0 7) < 900 := k64_0
              replace g24 : mo_G Zz (ja_up (ja_up (ja_up (ja_up (ja_up (ja_up (ja_up h 0 18 ((h 0 18) + 1)) 6 ((h 0 17).toNat) 2) 7 ((h 0 17).toNat) a1) 8 ((h 0 17).toNat) 0) 9 ((h 0 17).toNat) 0) 0 17 ((h 0 17) + 1)) 0 7 ((h 0 7) + 1)) := g24
              show mJ l D cA ad 3 cX12_expression 4 (some .boolean) 67 [(3, (0, 1)), (2, (0, 1)), (0, (2, ((0 : Nat) : Int))), (1, (0, a1))] [(0, 1)] (ja_up (ja_up (ja_up (ja_up (ja_up (ja_up (ja_up h 0 18 ((h 0 18) + 1)) 6 ((h 0 17).toNat) 2) 7 ((h 0 17).toNat) a1) 8 ((h 0 17).toNat) 0) 9 ((h 0 17).toNat) 0) 0 17 ((h 0 17) + 1)) 0 7 ((h 0 7) + 1)) Q
              refine ja_if_eq 96 dexpression_67 rfl ⟨by decide, by decide⟩ (fun c67 => absurd c67 (by omega)) (fun c67 => ?_)
              refine ja_aload_n dexpression_70 rfl rfl ?_
              refine ja_iconst dexpression_71 ?_
              refine ja_iload_n dexpression_72 rfl rfl ?_
              refine ja_iconst dexpression_73 ?_
              refine ja_iconst dexpression_74 ?_
              refine t_later (by decide) (show (0 : Nat) ≤ 8 by decide) dexpression_75 g24 ⟨by decide, by decide⟩ ⟨by decide, by decide⟩ ⟨by decide, by decide⟩ ⟨by decide, by decide⟩ (show 0 ≤ 5 ∧ 5 ≤ 38 by omega) (show ((h 0 17) + 1) < 2000 by omega) ?_
              intro g25
              replace g25 : mo_G Zz (ja_up (ja_up (ja_up (ja_up (ja_up (ja_up (ja_up (ja_up (ja_up (ja_up (ja_up (ja_up h 0 18 ((h 0 18) + 1)) 6 ((h 0 17).toNat) 2) 7 ((h 0 17).toNat) a1) 8 ((h 0 17).toNat) 0) 9 ((h 0 17).toNat) 0) 0 17 ((h 0 17) + 1)) 0 7 ((h 0 7) + 1)) 6 (((h 0 17) + 1).toNat) 5) 7 (((h 0 17) + 1).toNat) 1) 8 (((h 0 17) + 1).toNat) 0) 9 (((h 0 17) + 1).toNat) 0) 0 17 (((h 0 17) + 1) + 1)) := g25
              show mJ l D cA ad 3 cX12_expression 4 (some .boolean) 78 [(3, (0, 1)), (2, (0, 1)), (0, (2, ((0 : Nat) : Int))), (1, (0, a1))] [(0, 1)] (ja_up (ja_up (ja_up (ja_up (ja_up (ja_up (ja_up (ja_up (ja_up (ja_up (ja_up (ja_up h 0 18 ((h 0 18) + 1)) 6 ((h 0 17).toNat) 2) 7 ((h 0 17).toNat) a1) 8 ((h 0 17).toNat) 0) 9 ((h 0 17).toNat) 0) 0 17 ((h 0 17) + 1)) 0 7 ((h 0 7) + 1)) 6 (((h 0 17) + 1).toNat) 5) 7 (((h 0 17) + 1).toNat) 1) 8 (((h 0 17) + 1).toNat) 0) 9 (((h 0 17) + 1).toNat) 0) 0 17 (((h 0 17) + 1) + 1)) Q
              refine ja_if_eq 96 dexpression_78 rfl ⟨by decide, by decide⟩ (fun c78 => absurd c78 (by omega)) (fun c78 => ?_)
              refine ja_aload_n dexpression_81 rfl rfl ?_
              refine ja_iconst dexpression_82 ?_
              refine ja_iconst dexpression_83 ?_
              refine ja_iconst dexpression_84 ?_
              refine ja_iconst dexpression_85 ?_
              refine t_later (by decide) (show (0 : Nat) ≤ 8 by decide) dexpression_86 g25 ⟨by decide, by decide⟩ ⟨by decide, by decide⟩ ⟨by decide, by decide⟩ ⟨by decide, by decide⟩ (show 0 ≤ 1 ∧ 1 ≤ 38 by omega) (show (((h 0 17) + 1) + 1) < 2000 by omega) ?_
              intro g26
              replace g26 : mo_G Zz (ja_up (ja_up (ja_up (ja_up (ja_up (ja_up (ja_up (ja_up (ja_up (ja_up (ja_up (ja_up (ja_up (ja_up (ja_up (ja_up (ja_up h 0 18 ((h 0 18) + 1)) 6 ((h 0 17).toNat) 2) 7 ((h 0 17).toNat) a1) 8 ((h 0 17).toNat) 0) 9 ((h 0 17).toNat) 0) 0 17 ((h 0 17) + 1)) 0 7 ((h 0 7) + 1)) 6 (((h 0 17) + 1).toNat) 5) 7 (((h 0 17) + 1).toNat) 1) 8 (((h 0 17) + 1).toNat) 0) 9 (((h 0 17) + 1).toNat) 0) 0 17 (((h 0 17) + 1) + 1)) 6 ((((h 0 17) + 1) + 1).toNat) 1) 7 ((((h 0 17) + 1) + 1).toNat) 5) 8 ((((h 0 17) + 1) + 1).toNat) 0) 9 ((((h 0 17) + 1) + 1).toNat) 0) 0 17 ((((h 0 17) + 1) + 1) + 1)) := g26
              show mJ l D cA ad 3 cX12_expression 4 (some .boolean) 89 [(3, (0, 1)), (2, (0, 1)), (0, (2, ((0 : Nat) : Int))), (1, (0, a1))] [(0, 1)] (ja_up (ja_up (ja_up (ja_up (ja_up (ja_up (ja_up (ja_up (ja_up (ja_up (ja_up (ja_up (ja_up (ja_up (ja_up (ja_up (ja_up h 0 18 ((h 0 18) + 1)) 6 ((h 0 17).toNat) 2) 7 ((h 0 17).toNat) a1) 8 ((h 0 17).toNat) 0) 9 ((h 0 17).toNat) 0) 0 17 ((h 0 17) + 1)) 0 7 ((h 0 7) + 1)) 6 (((h 0 17) + 1).toNat) 5) 7 (((h 0 17) + 1).toNat) 1) 8 (((h 0 17) + 1).toNat) 0) 9 (((h 0 17) + 1).toNat) 0) 0 17 (((h 0 17) + 1) + 1)) 6 ((((h 0 17) + 1) + 1).toNat) 1) 7 ((((h 0 17) + 1) + 1).toNat) 5) 8 ((((h 0 17) + 1) + 1).toNat) 0) 9 ((((h 0 17) + 1) + 1).toNat) 0) 0 17 ((((h 0 17) + 1) + 1) + 1)) Q
              refine ja_if_eq 96 dexpression_89 rfl ⟨by decide, by decide⟩ (fun c89 => absurd c89 (by omega)) (fun c89 => ?_)
              refine ja_iconst dexpression_92 ?_
              refine ja_goto 97 dexpression_93 rfl ?_
              refine ja_zreturn dexpression_97 rfl (by omega) ?_
              exact mo_fin (by omega) rfl (k1 (ja_up (ja_up (ja_up (ja_up (ja_up (ja_up (ja_up (ja_up (ja_up (ja_up (ja_up (ja_up (ja_up (ja_up (ja_up (ja_up (ja_up h 0 18 ((h 0 18) + 1)) 6 ((h 0 17).toNat) 2) 7 ((h 0 17).toNat) a1) 8 ((h 0 17).toNat) 0) 9 ((h 0 17).toNat) 0) 0 17 ((h 0 17) + 1)) 0 7 ((h 0 7) + 1)) 6 (((h 0 17) + 1).toNat) 5) 7 (((h 0 17) + 1).toNat) 1) 8 (((h 0 17) + 1).toNat) 0) 9 (((h 0 17) + 1).toNat) 0) 0 17 (((h 0 17) + 1) + 1)) 6 ((((h 0 17) + 1) + 1).toNat) 1) 7 ((((h 0 17) + 1) + 1).toNat) 5) 8 ((((h 0 17) + 1) + 1).toNat) 0) 9 ((((h 0 17) + 1) + 1).toNat) 0) 0 17 ((((h 0 17) + 1) + 1) + 1)) (ab_ex_un g p1 p2 (by exact k1_0.2.2.1 (by omega))) g26)
            · intro h27 k64_1 g28
              replace k64_1 : 0 < (h27 0 8) ∧ (h27 0 1) = (h 0 1) ∧ (h27 0 118) = (h 0 118) ∧ (h27 0 127) = (h 0 127) := k64_1
              refine ja_if_eq 96 dexpression_67 rfl ⟨by decide, by decide⟩ (fun c67 => ?_) (fun c67 => absurd c67 (by omega))
              refine ja_iconst dexpression_96 ?_
              refine ja_zreturn dexpression_97 rfl (by omega) ?_
              exact mo_fin (by omega) rfl (k2 h27 (by omega) g28)
    · intro h29 k13_1 g30
      refine ja_if_ne 21 dexpression_16 rfl ⟨by decide, by decide⟩ (fun c16 => absurd c16 (by omega)) (fun c16 => ?_)
      refine ja_iconst dexpression_19 ?_
      refine ja_zreturn dexpression_20 rfl (by omega) ?_
      exact mo_fin (by omega) rfl (k2 h29 (by omega) g30)
  · refine ja_aload_n dexpression_7 rfl rfl ?_
    refine t_wrong (by decide) (show (0 : Nat) ≤ 8 by decide) dexpression_8 g  ?_
    intro h31 k8_0 g32
    refine ja_zreturn dexpression_11 rfl (by omega) ?_
    exact mo_fin (by omega) rfl (k2 h31 (by omega) g32)
theorem t_expression {a1 : Int} {R r ph q0 b : Int} {tf : mo_TF} {s : List mo_A} {ht st rg : Nat → Int} {tu : Int} {d nL pc : Nat} {cc : ByteArray} {rt : Option FieldType} {L : List (Nat × ja_V)} {S : List ja_V} {h : ja_H} {Q : Option ja_V → ja_H → Prop} (hdd : 3 < d) (hwd : ja_wd S ≤ 8) (hd : decode cc pc = .ok (.invokevirtual 844, 3)) (g : mo_G Zz h) (r1 : -2147483648 ≤ a1 ∧ a1 ≤ 2147483647) (p1 : pk_S h (h 0 17).toNat s) (p2 : piB h R r ph tf q0 ((1, a1, b) :: s) ht st rg tu) (k1 : ∀ (h' : ja_H), (pi_done h h' R r ph tf q0 (pi_mu h ((1, a1, b) :: s))) → mo_G Zz h' → mJ l D cA ad d cc nL rt (pc + 3) L ((0, 1) :: S) h' Q) (k2 : ∀ (h' : ja_H), (0 < (h' 0 8) ∧ (h' 0 1) = (h 0 1) ∧ (h' 0 118) = (h 0 118) ∧ (h' 0 127) = (h 0 127)) → mo_G Zz h' → mJ l D cA ad d cc nL rt (pc + 3) L ((0, 0) :: S) h' Q) : mJ l D cA ad d cc nL rt pc L ((0, a1) :: (2, ((0 : Nat) : Int)) :: S) h Q :=
  mc_expression hdd hwd hd (s_expression g r1 p1 p2 k1 k2)
end
theorem dargument_0 : decode cX12_argument 0 = .ok (.aload_n 0, 1) := by decide +kernel
theorem dargument_1 : decode cX12_argument 1 = .ok (.bipush 44, 2) := by decide +kernel
theorem dargument_3 : decode cX12_argument 3 = .ok (.invokevirtual 586, 3) := by decide +kernel
theorem dargument_6 : decode cX12_argument 6 = .ok (.ifCond .ne 15, 3) := by decide +kernel
theorem dargument_9 : decode cX12_argument 9 = .ok (.aload_n 0, 1) := by decide +kernel
theorem dargument_10 : decode cX12_argument 10 = .ok (.iload_n 1, 1) := by decide +kernel
theorem dargument_11 : decode cX12_argument 11 = .ok (.putfield 856, 3) := by decide +kernel
theorem dargument_14 : decode cX12_argument 14 = .ok (.aload_n 0, 1) := by decide +kernel
theorem dargument_15 : decode cX12_argument 15 = .ok (.bipush 41, 2) := by decide +kernel
theorem dargument_17 : decode cX12_argument 17 = .ok (.invokevirtual 742, 3) := by decide +kernel
theorem dargument_20 : decode cX12_argument 20 = .ok (.ireturn, 1) := by decide +kernel
theorem dargument_21 : decode cX12_argument 21 = .ok (.aload_n 0, 1) := by decide +kernel
theorem dargument_22 : decode cX12_argument 22 = .ok (.invokevirtual 589, 3) := by decide +kernel
theorem dargument_25 : decode cX12_argument 25 = .ok (.ifCond .ne 5, 3) := by decide +kernel
theorem dargument_28 : decode cX12_argument 28 = .ok (.iconst 0, 1) := by decide +kernel
theorem dargument_29 : decode cX12_argument 29 = .ok (.ireturn, 1) := by decide +kernel
theorem dargument_30 : decode cX12_argument 30 = .ok (.iload_n 1, 1) := by decide +kernel
theorem dargument_31 : decode cX12_argument 31 = .ok (.bipush 6, 2) := by decide +kernel
theorem dargument_33 : decode cX12_argument 33 = .ok (.if_icmp .ne 16, 3) := by decide +kernel
theorem dargument_36 : decode cX12_argument 36 = .ok (.aload_n 0, 1) := by decide +kernel
theorem dargument_37 : decode cX12_argument 37 = .ok (.invokevirtual 808, 3) := by decide +kernel
theorem dargument_40 : decode cX12_argument 40 = .ok (.ifCond .eq 9, 3) := by decide +kernel
theorem dargument_43 : decode cX12_argument 43 = .ok (.aload_n 0, 1) := by decide +kernel
theorem dargument_44 : decode cX12_argument 44 = .ok (.iconst 3, 1) := by decide +kernel
theorem dargument_45 : decode cX12_argument 45 = .ok (.invokevirtual 583, 3) := by decide +kernel
theorem dargument_48 : decode cX12_argument 48 = .ok (.ireturn, 1) := by decide +kernel
theorem dargument_49 : decode cX12_argument 49 = .ok (.aload_n 0, 1) := by decide +kernel
theorem dargument_50 : decode cX12_argument 50 = .ok (.bipush 9, 2) := by decide +kernel
theorem dargument_52 : decode cX12_argument 52 = .ok (.iload_n 1, 1) := by decide +kernel
theorem dargument_53 : decode cX12_argument 53 = .ok (.iconst 1, 1) := by decide +kernel
theorem dargument_54 : decode cX12_argument 54 = .ok (.iadd, 1) := by decide +kernel
theorem dargument_55 : decode cX12_argument 55 = .ok (.iconst 0, 1) := by decide +kernel
theorem dargument_56 : decode cX12_argument 56 = .ok (.iconst 0, 1) := by decide +kernel
theorem dargument_57 : decode cX12_argument 57 = .ok (.invokevirtual 790, 3) := by decide +kernel
theorem dargument_60 : decode cX12_argument 60 = .ok (.ifCond .eq 18, 3) := by decide +kernel
theorem dargument_63 : decode cX12_argument 63 = .ok (.aload_n 0, 1) := by decide +kernel
theorem dargument_64 : decode cX12_argument 64 = .ok (.iconst 1, 1) := by decide +kernel
theorem dargument_65 : decode cX12_argument 65 = .ok (.iconst 0, 1) := by decide +kernel
theorem dargument_66 : decode cX12_argument 66 = .ok (.iconst 0, 1) := by decide +kernel
theorem dargument_67 : decode cX12_argument 67 = .ok (.iconst 0, 1) := by decide +kernel
theorem dargument_68 : decode cX12_argument 68 = .ok (.invokevirtual 790, 3) := by decide +kernel
theorem dargument_71 : decode cX12_argument 71 = .ok (.ifCond .eq 7, 3) := by decide +kernel
theorem dargument_74 : decode cX12_argument 74 = .ok (.iconst 1, 1) := by decide +kernel
theorem dargument_75 : decode cX12_argument 75 = .ok (.goto 4, 3) := by decide +kernel
theorem dargument_78 : decode cX12_argument 78 = .ok (.iconst 0, 1) := by decide +kernel
theorem dargument_79 : decode cX12_argument 79 = .ok (.ireturn, 1) := by decide +kernel
section
variable {l : Launch} {D : va_G} {cA : Nat → ClassId} {ad : Nat → Nat}
theorem s_argument {a1 : Int} {R r ph q0 b : Int} {tf : mo_TF} {s : List mo_A} {ht st rg : Nat → Int} {tu : Int} {h : ja_H} {Q : Option ja_V → ja_H → Prop} (g : mo_G Zz h) (r1 : -2147483648 ≤ a1 ∧ a1 ≤ 2147483647) (p1 : pk_S h (h 0 17).toNat s) (p2 : piB h R r ph tf q0 ((9, a1, b) :: s) ht st rg tu) (k1 : ∀ (h' : ja_H), (pi_done h h' R r ph tf q0 (pi_mu h ((9, a1, b) :: s))) → mo_G Zz h' → Q (some (0, 1)) h') (k2 : ∀ (h' : ja_H), (0 < (h' 0 8) ∧ (h' 0 1) = (h 0 1) ∧ (h' 0 118) = (h 0 118) ∧ (h' 0 127) = (h 0 127)) → mo_G Zz h' → Q (some (0, 0)) h') : mM_argument l D cA ad a1 h Q := by
  show mJ l D cA ad 4 cX12_argument 2 (some .boolean) 0 [(0, (2, ((0 : Nat) : Int))), (1, (0, a1))] [] h Q
  have kn_at := gF_at g
  have kn_wTop := gF_wTop g
  have kn_words := gF_words g
  have kn_nest := gF_nest g
  have hN := piB_num g p1 p2
  obtain ⟨N1, N2, N3, N4, N5, N6, N7, N8, N9, N10, N11, N12, N13, ⟨NK1, NK2⟩, ND1, ND2, ND3, NU1, NU2⟩ := hN
  have hn1 : (h 0 18) = 0 + pk_sum pk_c s := p2.1.1
  obtain ⟨ha1, ha7⟩ : 1 ≤ a1 ∧ a1 ≤ 6 := arg_le p2
  refine ja_aload_n dargument_0 rfl rfl ?_
  refine ja_bipush 44 dargument_1 rfl ?_
  refine t_isSign (by decide) (show (0 : Nat) ≤ 8 by decide) dargument_3 g ⟨by decide, by decide⟩ ?_
  intro w1 k3_0
  refine ja_if_ne 21 dargument_6 rfl ⟨by omega, by omega⟩ (fun c6 => ?_) (fun c6 => ?_)
  · have z6 := is1v k3_0 c6
    replace k3_0 := is1 k3_0 c6
    refine ja_aload_n dargument_21 rfl rfl ?_
    refine t_take (by decide) (show (0 : Nat) ≤ 8 by decide) dargument_22 g  ?_ ?_
    · intro k22_0 g2
      replace k22_0 : (h 0 7) < 900 := k22_0
      replace g2 : mo_G Zz (ja_up h 0 7 ((h 0 7) + 1)) := g2
      show mJ l D cA ad 4 cX12_argument 2 (some .boolean) 25 [(0, (2, ((0 : Nat) : Int))), (1, (0, a1))] [(0, 1)] (ja_up h 0 7 ((h 0 7) + 1)) Q
      refine ja_if_ne 30 dargument_25 rfl ⟨by decide, by decide⟩ (fun c25 => ?_) (fun c25 => absurd c25 (by omega))
      refine ja_iload_n dargument_30 rfl rfl ?_
      refine ja_bipush 6 dargument_31 rfl ?_
      refine ja_icmp_ne 49 dargument_33 rfl ⟨by omega, by omega⟩ ⟨by decide, by decide⟩ (fun c33 => ?_) (fun c33 => ?_)
      · refine ja_aload_n dargument_49 rfl rfl ?_
        refine ja_bipush 9 dargument_50 rfl ?_
        refine ja_iload_n dargument_52 rfl rfl ?_
        refine ja_iconst dargument_53 ?_
        refine ja_iadd dargument_54 ?_
        refine ja_iconst dargument_55 ?_
        refine ja_iconst dargument_56 ?_
        refine t_later (by decide) (show (0 : Nat) ≤ 8 by decide) dargument_57 g2 ⟨by decide, by decide⟩ ⟨by omega, by omega⟩ ⟨by decide, by decide⟩ ⟨by decide, by decide⟩ (show 0 ≤ 9 ∧ 9 ≤ 38 by omega) (show (h 0 17) < 2000 by omega) ?_
        intro g3
        replace g3 : mo_G Zz (ja_up (ja_up (ja_up (ja_up (ja_up (ja_up h 0 7 ((h 0 7) + 1)) 6 ((h 0 17).toNat) 9) 7 ((h 0 17).toNat) (a1 + 1)) 8 ((h 0 17).toNat) 0) 9 ((h 0 17).toNat) 0) 0 17 ((h 0 17) + 1)) := g3
        show mJ l D cA ad 4 cX12_argument 2 (some .boolean) 60 [(0, (2, ((0 : Nat) : Int))), (1, (0, a1))] [(0, 1)] (ja_up (ja_up (ja_up (ja_up (ja_up (ja_up h 0 7 ((h 0 7) + 1)) 6 ((h 0 17).toNat) 9) 7 ((h 0 17).toNat) (a1 + 1)) 8 ((h 0 17).toNat) 0) 9 ((h 0 17).toNat) 0) 0 17 ((h 0 17) + 1)) Q
        refine ja_if_eq 78 dargument_60 rfl ⟨by decide, by decide⟩ (fun c60 => absurd c60 (by omega)) (fun c60 => ?_)
        refine ja_aload_n dargument_63 rfl rfl ?_
        refine ja_iconst dargument_64 ?_
        refine ja_iconst dargument_65 ?_
        refine ja_iconst dargument_66 ?_
        refine ja_iconst dargument_67 ?_
        refine t_later (by decide) (show (0 : Nat) ≤ 8 by decide) dargument_68 g3 ⟨by decide, by decide⟩ ⟨by decide, by decide⟩ ⟨by decide, by decide⟩ ⟨by decide, by decide⟩ (show 0 ≤ 1 ∧ 1 ≤ 38 by omega) (show ((h 0 17) + 1) < 2000 by omega) ?_
        intro g4
        replace g4 : mo_G Zz (ja_up (ja_up (ja_up (ja_up (ja_up (ja_up (ja_up (ja_up (ja_up (ja_up (ja_up h 0 7 ((h 0 7) + 1)) 6 ((h 0 17).toNat) 9) 7 ((h 0 17).toNat) (a1 + 1)) 8 ((h 0 17).toNat) 0) 9 ((h 0 17).toNat) 0) 0 17 ((h 0 17) + 1)) 6 (((h 0 17) + 1).toNat) 1) 7 (((h 0 17) + 1).toNat) 0) 8 (((h 0 17) + 1).toNat) 0) 9 (((h 0 17) + 1).toNat) 0) 0 17 (((h 0 17) + 1) + 1)) := g4
        show mJ l D cA ad 4 cX12_argument 2 (some .boolean) 71 [(0, (2, ((0 : Nat) : Int))), (1, (0, a1))] [(0, 1)] (ja_up (ja_up (ja_up (ja_up (ja_up (ja_up (ja_up (ja_up (ja_up (ja_up (ja_up h 0 7 ((h 0 7) + 1)) 6 ((h 0 17).toNat) 9) 7 ((h 0 17).toNat) (a1 + 1)) 8 ((h 0 17).toNat) 0) 9 ((h 0 17).toNat) 0) 0 17 ((h 0 17) + 1)) 6 (((h 0 17) + 1).toNat) 1) 7 (((h 0 17) + 1).toNat) 0) 8 (((h 0 17) + 1).toNat) 0) 9 (((h 0 17) + 1).toNat) 0) 0 17 (((h 0 17) + 1) + 1)) Q
        refine ja_if_eq 78 dargument_71 rfl ⟨by decide, by decide⟩ (fun c71 => absurd c71 (by omega)) (fun c71 => ?_)
        refine ja_iconst dargument_74 ?_
        refine ja_goto 79 dargument_75 rfl ?_
        refine ja_zreturn dargument_79 rfl (by omega) ?_
        exact mo_fin (by omega) rfl (k1 (ja_up (ja_up (ja_up (ja_up (ja_up (ja_up (ja_up (ja_up (ja_up (ja_up (ja_up h 0 7 ((h 0 7) + 1)) 6 ((h 0 17).toNat) 9) 7 ((h 0 17).toNat) (a1 + 1)) 8 ((h 0 17).toNat) 0) 9 ((h 0 17).toNat) 0) 0 17 ((h 0 17) + 1)) 6 (((h 0 17) + 1).toNat) 1) 7 (((h 0 17) + 1).toNat) 0) 8 (((h 0 17) + 1).toNat) 0) 9 (((h 0 17) + 1).toNat) 0) 0 17 (((h 0 17) + 1) + 1)) (ab_arg_more g p1 p2 (fun q => by first | exact absurd q c33 | exact k37_0.2.2.2 (by omega))) g4)
      · refine ja_aload_n dargument_36 rfl rfl ?_
        refine t_beginsExpression (by decide) (show (0 : Nat) ≤ 8 by decide) dargument_37 g2  ?_
        intro w5 k37_0
        replace k37_0 : 0 ≤ w5 ∧ w5 ≤ 1 ∧ (w5 = 1 → ((h 2 ((h 0 7) + 1).toNat) = 3 ∨ (h 2 ((h 0 7) + 1).toNat) = 2 ∨ ((h 2 ((h 0 7) + 1).toNat) = 5 ∧ ((h 5 ((h 0 7) + 1).toNat) = 40 ∨ (h 5 ((h 0 7) + 1).toNat) = 45)) ∨ ((h 2 ((h 0 7) + 1).toNat) = 1 ∧ ((h 5 ((h 0 7) + 1).toNat) = 28 ∨ (h 5 ((h 0 7) + 1).toNat) = 27)) ∨ ((h 0 86) = 0 ∧ (h 2 ((h 0 7) + 1).toNat) = 1 ∧ ((h 5 ((h 0 7) + 1).toNat) = 36 ∨ (h 5 ((h 0 7) + 1).toNat) = 26 ∨ (h 5 ((h 0 7) + 1).toNat) = 18)))) ∧ (w5 = 0 → ¬ ((h 2 ((h 0 7) + 1).toNat) = 3 ∨ (h 2 ((h 0 7) + 1).toNat) = 2 ∨ ((h 2 ((h 0 7) + 1).toNat) = 5 ∧ ((h 5 ((h 0 7) + 1).toNat) = 40 ∨ (h 5 ((h 0 7) + 1).toNat) = 45)) ∨ ((h 2 ((h 0 7) + 1).toNat) = 1 ∧ ((h 5 ((h 0 7) + 1).toNat) = 28 ∨ (h 5 ((h 0 7) + 1).toNat) = 27)) ∨ ((h 0 86) = 0 ∧ (h 2 ((h 0 7) + 1).toNat) = 1 ∧ ((h 5 ((h 0 7) + 1).toNat) = 36 ∨ (h 5 ((h 0 7) + 1).toNat) = 26 ∨ (h 5 ((h 0 7) + 1).toNat) = 18)))) := k37_0
        refine ja_if_eq 49 dargument_40 rfl ⟨by omega, by omega⟩ (fun c40 => ?_) (fun c40 => ?_)
        · refine ja_aload_n dargument_49 rfl rfl ?_
          refine ja_bipush 9 dargument_50 rfl ?_
          refine ja_iload_n dargument_52 rfl rfl ?_
          refine ja_iconst dargument_53 ?_
          refine ja_iadd dargument_54 ?_
          refine ja_iconst dargument_55 ?_
          refine ja_iconst dargument_56 ?_
          refine t_later (by decide) (show (0 : Nat) ≤ 8 by decide) dargument_57 g2 ⟨by decide, by decide⟩ ⟨by omega, by omega⟩ ⟨by decide, by decide⟩ ⟨by decide, by decide⟩ (show 0 ≤ 9 ∧ 9 ≤ 38 by omega) (show (h 0 17) < 2000 by omega) ?_
          intro g6
          replace g6 : mo_G Zz (ja_up (ja_up (ja_up (ja_up (ja_up (ja_up h 0 7 ((h 0 7) + 1)) 6 ((h 0 17).toNat) 9) 7 ((h 0 17).toNat) (a1 + 1)) 8 ((h 0 17).toNat) 0) 9 ((h 0 17).toNat) 0) 0 17 ((h 0 17) + 1)) := g6
          show mJ l D cA ad 4 cX12_argument 2 (some .boolean) 60 [(0, (2, ((0 : Nat) : Int))), (1, (0, a1))] [(0, 1)] (ja_up (ja_up (ja_up (ja_up (ja_up (ja_up h 0 7 ((h 0 7) + 1)) 6 ((h 0 17).toNat) 9) 7 ((h 0 17).toNat) (a1 + 1)) 8 ((h 0 17).toNat) 0) 9 ((h 0 17).toNat) 0) 0 17 ((h 0 17) + 1)) Q
          refine ja_if_eq 78 dargument_60 rfl ⟨by decide, by decide⟩ (fun c60 => absurd c60 (by omega)) (fun c60 => ?_)
          refine ja_aload_n dargument_63 rfl rfl ?_
          refine ja_iconst dargument_64 ?_
          refine ja_iconst dargument_65 ?_
          refine ja_iconst dargument_66 ?_
          refine ja_iconst dargument_67 ?_
          refine t_later (by decide) (show (0 : Nat) ≤ 8 by decide) dargument_68 g6 ⟨by decide, by decide⟩ ⟨by decide, by decide⟩ ⟨by decide, by decide⟩ ⟨by decide, by decide⟩ (show 0 ≤ 1 ∧ 1 ≤ 38 by omega) (show ((h 0 17) + 1) < 2000 by omega) ?_
          intro g7
          replace g7 : mo_G Zz (ja_up (ja_up (ja_up (ja_up (ja_up (ja_up (ja_up (ja_up (ja_up (ja_up (ja_up h 0 7 ((h 0 7) + 1)) 6 ((h 0 17).toNat) 9) 7 ((h 0 17).toNat) (a1 + 1)) 8 ((h 0 17).toNat) 0) 9 ((h 0 17).toNat) 0) 0 17 ((h 0 17) + 1)) 6 (((h 0 17) + 1).toNat) 1) 7 (((h 0 17) + 1).toNat) 0) 8 (((h 0 17) + 1).toNat) 0) 9 (((h 0 17) + 1).toNat) 0) 0 17 (((h 0 17) + 1) + 1)) := g7
          show mJ l D cA ad 4 cX12_argument 2 (some .boolean) 71 [(0, (2, ((0 : Nat) : Int))), (1, (0, a1))] [(0, 1)] (ja_up (ja_up (ja_up (ja_up (ja_up (ja_up (ja_up (ja_up (ja_up (ja_up (ja_up h 0 7 ((h 0 7) + 1)) 6 ((h 0 17).toNat) 9) 7 ((h 0 17).toNat) (a1 + 1)) 8 ((h 0 17).toNat) 0) 9 ((h 0 17).toNat) 0) 0 17 ((h 0 17) + 1)) 6 (((h 0 17) + 1).toNat) 1) 7 (((h 0 17) + 1).toNat) 0) 8 (((h 0 17) + 1).toNat) 0) 9 (((h 0 17) + 1).toNat) 0) 0 17 (((h 0 17) + 1) + 1)) Q
          refine ja_if_eq 78 dargument_71 rfl ⟨by decide, by decide⟩ (fun c71 => absurd c71 (by omega)) (fun c71 => ?_)
          refine ja_iconst dargument_74 ?_
          refine ja_goto 79 dargument_75 rfl ?_
          refine ja_zreturn dargument_79 rfl (by omega) ?_
          exact mo_fin (by omega) rfl (k1 (ja_up (ja_up (ja_up (ja_up (ja_up (ja_up (ja_up (ja_up (ja_up (ja_up (ja_up h 0 7 ((h 0 7) + 1)) 6 ((h 0 17).toNat) 9) 7 ((h 0 17).toNat) (a1 + 1)) 8 ((h 0 17).toNat) 0) 9 ((h 0 17).toNat) 0) 0 17 ((h 0 17) + 1)) 6 (((h 0 17) + 1).toNat) 1) 7 (((h 0 17) + 1).toNat) 0) 8 (((h 0 17) + 1).toNat) 0) 9 (((h 0 17) + 1).toNat) 0) 0 17 (((h 0 17) + 1) + 1)) (ab_arg_more g p1 p2 (fun q => by first | exact absurd q c33 | exact k37_0.2.2.2 (by omega))) g7)
        · refine ja_aload_n dargument_43 rfl rfl ?_
          refine ja_iconst dargument_44 ?_
          refine t_halt (by decide) (show (0 : Nat) ≤ 8 by decide) dargument_45 g2 ⟨by decide, by decide⟩ (show 1 ≤ 3 ∧ 3 ≤ 8 by omega) ?_
          intro h8 k45_0 g9
          replace k45_0 : 0 < (h8 0 8) ∧ (h8 0 1) = (h 0 1) ∧ (h8 0 118) = (h 0 118) ∧ (h8 0 127) = (h 0 127) ∧ (h8 0 41) = (h 0 41) := k45_0
          refine ja_zreturn dargument_48 rfl (by omega) ?_
          exact mo_fin (by omega) rfl (k2 h8 (by omega) g9)
    · intro h10 k22_1 g11
      refine ja_if_ne 30 dargument_25 rfl ⟨by decide, by decide⟩ (fun c25 => absurd c25 (by omega)) (fun c25 => ?_)
      refine ja_iconst dargument_28 ?_
      refine ja_zreturn dargument_29 rfl (by omega) ?_
      exact mo_fin (by omega) rfl (k2 h10 (by omega) g11)
  · replace k3_0 := is0 k3_0 c6
    refine ja_aload_n dargument_9 rfl rfl ?_
    refine ja_iload_n dargument_10 rfl rfl ?_
    have g12 := gP_given g (x := a1) ⟨by omega, by omega⟩
    refine fp_given dargument_11 ?_
    refine ja_aload_n dargument_14 rfl rfl ?_
    refine ja_bipush 41 dargument_15 rfl ?_
    refine t_sign (by decide) (show (0 : Nat) ≤ 8 by decide) dargument_17 g12 ⟨by decide, by decide⟩ ?_ ?_
    · intro k17_0 g13
      replace k17_0 : (h 0 7) < 900 ∧ (h 2 (h 0 7).toNat) = 5 ∧ (h 5 (h 0 7).toNat) = 41 := k17_0
      replace g13 : mo_G Zz (ja_up (ja_up h 0 21 a1) 0 7 ((h 0 7) + 1)) := g13
      show mJ l D cA ad 4 cX12_argument 2 (some .boolean) 20 [(0, (2, ((0 : Nat) : Int))), (1, (0, a1))] [(0, 1)] (ja_up (ja_up h 0 21 a1) 0 7 ((h 0 7) + 1)) Q
      refine ja_zreturn dargument_20 rfl (by omega) ?_
      exact mo_fin (by omega) rfl (k1 (ja_up (ja_up h 0 21 a1) 0 7 ((h 0 7) + 1)) (ab_arg_end g p1 p2) g13)
    · intro h14 k17_1 g15
      replace k17_1 : 0 < (h14 0 8) ∧ (h14 0 1) = (h 0 1) ∧ (h14 0 118) = (h 0 118) ∧ (h14 0 127) = (h 0 127) := k17_1
      refine ja_zreturn dargument_20 rfl (by omega) ?_
      exact mo_fin (by omega) rfl (k2 h14 (by omega) g15)
theorem t_argument {a1 : Int} {R r ph q0 b : Int} {tf : mo_TF} {s : List mo_A} {ht st rg : Nat → Int} {tu : Int} {d nL pc : Nat} {cc : ByteArray} {rt : Option FieldType} {L : List (Nat × ja_V)} {S : List ja_V} {h : ja_H} {Q : Option ja_V → ja_H → Prop} (hdd : 4 < d) (hwd : ja_wd S ≤ 8) (hd : decode cc pc = .ok (.invokevirtual 859, 3)) (g : mo_G Zz h) (r1 : -2147483648 ≤ a1 ∧ a1 ≤ 2147483647) (p1 : pk_S h (h 0 17).toNat s) (p2 : piB h R r ph tf q0 ((9, a1, b) :: s) ht st rg tu) (k1 : ∀ (h' : ja_H), (pi_done h h' R r ph tf q0 (pi_mu h ((9, a1, b) :: s))) → mo_G Zz h' → mJ l D cA ad d cc nL rt (pc + 3) L ((0, 1) :: S) h' Q) (k2 : ∀ (h' : ja_H), (0 < (h' 0 8) ∧ (h' 0 1) = (h 0 1) ∧ (h' 0 118) = (h 0 118) ∧ (h' 0 127) = (h 0 127)) → mo_G Zz h' → mJ l D cA ad d cc nL rt (pc + 3) L ((0, 0) :: S) h' Q) : mJ l D cA ad d cc nL rt pc L ((0, a1) :: (2, ((0 : Nat) : Int)) :: S) h Q :=
  mc_argument hdd hwd hd (s_argument g r1 p1 p2 k1 k2)
end
theorem dassigned_0 : decode cX12_assigned 0 = .ok (.iload_n 1, 1) := by decide +kernel
theorem dassigned_1 : decode cX12_assigned 1 = .ok (.iconst 2, 1) := by decide +kernel
theorem dassigned_2 : decode cX12_assigned 2 = .ok (.if_icmp .ne 31, 3) := by decide +kernel
theorem dassigned_5 : decode cX12_assigned 5 = .ok (.aload_n 0, 1) := by decide +kernel
theorem dassigned_6 : decode cX12_assigned 6 = .ok (.bipush 15, 2) := by decide +kernel
theorem dassigned_8 : decode cX12_assigned 8 = .ok (.iload_n 2, 1) := by decide +kernel
theorem dassigned_9 : decode cX12_assigned 9 = .ok (.iconst 0, 1) := by decide +kernel
theorem dassigned_10 : decode cX12_assigned 10 = .ok (.invokevirtual 732, 3) := by decide +kernel
theorem dassigned_13 : decode cX12_assigned 13 = .ok (.ifCond .lt 18, 3) := by decide +kernel
theorem dassigned_16 : decode cX12_assigned 16 = .ok (.aload_n 0, 1) := by decide +kernel
theorem dassigned_17 : decode cX12_assigned 17 = .ok (.bipush 17, 2) := by decide +kernel
theorem dassigned_19 : decode cX12_assigned 19 = .ok (.iconst 0, 1) := by decide +kernel
theorem dassigned_20 : decode cX12_assigned 20 = .ok (.iconst 0, 1) := by decide +kernel
theorem dassigned_21 : decode cX12_assigned 21 = .ok (.invokevirtual 732, 3) := by decide +kernel
theorem dassigned_24 : decode cX12_assigned 24 = .ok (.ifCond .lt 7, 3) := by decide +kernel
theorem dassigned_27 : decode cX12_assigned 27 = .ok (.iconst 1, 1) := by decide +kernel
theorem dassigned_28 : decode cX12_assigned 28 = .ok (.goto 4, 3) := by decide +kernel
theorem dassigned_31 : decode cX12_assigned 31 = .ok (.iconst 0, 1) := by decide +kernel
theorem dassigned_32 : decode cX12_assigned 32 = .ok (.ireturn, 1) := by decide +kernel
theorem dassigned_33 : decode cX12_assigned 33 = .ok (.aload_n 0, 1) := by decide +kernel
theorem dassigned_34 : decode cX12_assigned 34 = .ok (.iload_n 1, 1) := by decide +kernel
theorem dassigned_35 : decode cX12_assigned 35 = .ok (.iconst 1, 1) := by decide +kernel
theorem dassigned_36 : decode cX12_assigned 36 = .ok (.if_icmp .ne 8, 3) := by decide +kernel
theorem dassigned_39 : decode cX12_assigned 39 = .ok (.bipush 7, 2) := by decide +kernel
theorem dassigned_41 : decode cX12_assigned 41 = .ok (.goto 4, 3) := by decide +kernel
theorem dassigned_44 : decode cX12_assigned 44 = .ok (.iconst 5, 1) := by decide +kernel
theorem dassigned_45 : decode cX12_assigned 45 = .ok (.iload_n 2, 1) := by decide +kernel
theorem dassigned_46 : decode cX12_assigned 46 = .ok (.aload_n 0, 1) := by decide +kernel
theorem dassigned_47 : decode cX12_assigned 47 = .ok (.getfield 760, 3) := by decide +kernel
theorem dassigned_50 : decode cX12_assigned 50 = .ok (.invokevirtual 732, 3) := by decide +kernel
theorem dassigned_53 : decode cX12_assigned 53 = .ok (.ifCond .lt 7, 3) := by decide +kernel
theorem dassigned_56 : decode cX12_assigned 56 = .ok (.iconst 1, 1) := by decide +kernel
theorem dassigned_57 : decode cX12_assigned 57 = .ok (.goto 4, 3) := by decide +kernel
theorem dassigned_60 : decode cX12_assigned 60 = .ok (.iconst 0, 1) := by decide +kernel
theorem dassigned_61 : decode cX12_assigned 61 = .ok (.ireturn, 1) := by decide +kernel
section
variable {l : Launch} {D : va_G} {cA : Nat → ClassId} {ad : Nat → Nat}
theorem s_assigned {a1 a2 : Int} {R r ph q0 : Int} {tf : mo_TF} {s : List mo_A} {ht st rg : Nat → Int} {tu : Int} {h : ja_H} {Q : Option ja_V → ja_H → Prop} (g : mo_G Zz h) (r1 : -2147483648 ≤ a1 ∧ a1 ≤ 2147483647) (r2 : -2147483648 ≤ a2 ∧ a2 ≤ 2147483647) (p1 : pk_S h (h 0 17).toNat s) (p2 : piB h R r ph tf q0 ((19, a1, a2) :: s) ht st rg tu) (k1 : ∀ (h' : ja_H), (pi_done h h' R r ph tf q0 (pi_mu h ((19, a1, a2) :: s))) → mo_G Zz h' → Q (some (0, 1)) h') (k2 : ∀ (h' : ja_H), (0 < (h' 0 8) ∧ (h' 0 1) = (h 0 1) ∧ (h' 0 118) = (h 0 118) ∧ (h' 0 127) = (h 0 127)) → mo_G Zz h' → Q (some (0, 0)) h') : mM_assigned l D cA ad a1 a2 h Q := by
  show mJ l D cA ad 2 cX12_assigned 3 (some .boolean) 0 [(0, (2, ((0 : Nat) : Int))), (1, (0, a1)), (2, (0, a2))] [] h Q
  have kn_at := gF_at g
  have kn_wTop := gF_wTop g
  have kn_words := gF_words g
  have kn_nest := gF_nest g
  have hN := piB_num g p1 p2
  obtain ⟨N1, N2, N3, N4, N5, N6, N7, N8, N9, N10, N11, N12, N13, ⟨NK1, NK2⟩, ND1, ND2, ND3, NU1, NU2⟩ := hN
  have hn1 : (h 0 18) = 0 + pk_sum pk_c s := p2.1.1
  have hk := kind_19 p2
  refine ja_iload_n dassigned_0 rfl rfl ?_
  refine ja_iconst dassigned_1 ?_
  refine ja_icmp_ne 33 dassigned_2 rfl ⟨by omega, by omega⟩ ⟨by decide, by decide⟩ (fun c2 => ?_) (fun c2 => ?_)
  · refine ja_aload_n dassigned_33 rfl rfl ?_
    refine ja_iload_n dassigned_34 rfl rfl ?_
    refine ja_iconst dassigned_35 ?_
    refine ja_icmp_ne 44 dassigned_36 rfl ⟨by omega, by omega⟩ ⟨by decide, by decide⟩ (fun c36 => ?_) (fun c36 => ?_)
    · refine ja_iconst dassigned_44 ?_
      refine ja_iload_n dassigned_45 rfl rfl ?_
      refine ja_aload_n dassigned_46 rfl rfl ?_
      refine fg_inAspect (v := h 0 76) rfl dassigned_47 ?_
      have f1 := gF_inAspect g
      refine t_emit (by decide) (show (0 : Nat) ≤ 8 by decide) dassigned_50 g ⟨by decide, by decide⟩ ⟨by omega, by omega⟩ ⟨by omega, by omega⟩ (show 0 ≤ 5 ∧ 5 ≤ 26 by omega) (show (h 0 113) < 5000 by omega) ?_
      intro g2
      replace g2 : mo_G Zz (ja_up (ja_up (ja_up (ja_up h 74 ((h 0 113).toNat) 5) 75 ((h 0 113).toNat) a2) 76 ((h 0 113).toNat) (h 0 76)) 0 113 ((h 0 113) + 1)) := g2
      show mJ l D cA ad 2 cX12_assigned 3 (some .boolean) 53 [(0, (2, ((0 : Nat) : Int))), (1, (0, a1)), (2, (0, a2))] [(0, (h 0 113))] (ja_up (ja_up (ja_up (ja_up h 74 ((h 0 113).toNat) 5) 75 ((h 0 113).toNat) a2) 76 ((h 0 113).toNat) (h 0 76)) 0 113 ((h 0 113) + 1)) Q
      refine ja_if_lt 60 dassigned_53 rfl ⟨by omega, by omega⟩ (fun c53 => ?_) (fun c53 => ?_)
      · refine ja_iconst dassigned_60 ?_
        refine ja_zreturn dassigned_61 rfl (by omega) ?_
        exact mo_fin (by omega) rfl (k2 (ja_up (ja_up (ja_up (ja_up h 74 ((h 0 113).toNat) 5) 75 ((h 0 113).toNat) a2) 76 ((h 0 113).toNat) (h 0 76)) 0 113 ((h 0 113) + 1)) (show 0 < (h 0 8) ∧ (h 0 1) = (h 0 1) ∧ (h 0 118) = (h 0 118) ∧ (h 0 127) = (h 0 127) by omega) g2)
      · refine ja_iconst dassigned_56 ?_
        refine ja_goto 61 dassigned_57 rfl ?_
        refine ja_zreturn dassigned_61 rfl (by omega) ?_
        exact mo_fin (by omega) rfl (k1 (ja_up (ja_up (ja_up (ja_up h 74 ((h 0 113).toNat) 5) 75 ((h 0 113).toNat) a2) 76 ((h 0 113).toNat) (h 0 76)) 0 113 ((h 0 113) + 1)) ((by have e : a1 = 0 := (by omega); (subst e; exact ab_as0 (a := 0) g p1 p2))) g2)
    · refine ja_bipush 7 dassigned_39 rfl ?_
      refine ja_goto 45 dassigned_41 rfl ?_
      refine ja_iload_n dassigned_45 rfl rfl ?_
      refine ja_aload_n dassigned_46 rfl rfl ?_
      refine fg_inAspect (v := h 0 76) rfl dassigned_47 ?_
      have f3 := gF_inAspect g
      refine t_emit (by decide) (show (0 : Nat) ≤ 8 by decide) dassigned_50 g ⟨by decide, by decide⟩ ⟨by omega, by omega⟩ ⟨by omega, by omega⟩ (show 0 ≤ 7 ∧ 7 ≤ 26 by omega) (show (h 0 113) < 5000 by omega) ?_
      intro g4
      replace g4 : mo_G Zz (ja_up (ja_up (ja_up (ja_up h 74 ((h 0 113).toNat) 7) 75 ((h 0 113).toNat) a2) 76 ((h 0 113).toNat) (h 0 76)) 0 113 ((h 0 113) + 1)) := g4
      show mJ l D cA ad 2 cX12_assigned 3 (some .boolean) 53 [(0, (2, ((0 : Nat) : Int))), (1, (0, a1)), (2, (0, a2))] [(0, (h 0 113))] (ja_up (ja_up (ja_up (ja_up h 74 ((h 0 113).toNat) 7) 75 ((h 0 113).toNat) a2) 76 ((h 0 113).toNat) (h 0 76)) 0 113 ((h 0 113) + 1)) Q
      refine ja_if_lt 60 dassigned_53 rfl ⟨by omega, by omega⟩ (fun c53 => ?_) (fun c53 => ?_)
      · refine ja_iconst dassigned_60 ?_
        refine ja_zreturn dassigned_61 rfl (by omega) ?_
        exact mo_fin (by omega) rfl (k2 (ja_up (ja_up (ja_up (ja_up h 74 ((h 0 113).toNat) 7) 75 ((h 0 113).toNat) a2) 76 ((h 0 113).toNat) (h 0 76)) 0 113 ((h 0 113) + 1)) (show 0 < (h 0 8) ∧ (h 0 1) = (h 0 1) ∧ (h 0 118) = (h 0 118) ∧ (h 0 127) = (h 0 127) by omega) g4)
      · refine ja_iconst dassigned_56 ?_
        refine ja_goto 61 dassigned_57 rfl ?_
        refine ja_zreturn dassigned_61 rfl (by omega) ?_
        exact mo_fin (by omega) rfl (k1 (ja_up (ja_up (ja_up (ja_up h 74 ((h 0 113).toNat) 7) 75 ((h 0 113).toNat) a2) 76 ((h 0 113).toNat) (h 0 76)) 0 113 ((h 0 113) + 1)) ((by have e : a1 = 1 := (by omega); (subst e; exact ab_as1 (a := 0) g p1 p2))) g4)
  · refine ja_aload_n dassigned_5 rfl rfl ?_
    refine ja_bipush 15 dassigned_6 rfl ?_
    refine ja_iload_n dassigned_8 rfl rfl ?_
    refine ja_iconst dassigned_9 ?_
    refine t_emit (by decide) (show (0 : Nat) ≤ 8 by decide) dassigned_10 g ⟨by decide, by decide⟩ ⟨by omega, by omega⟩ ⟨by decide, by decide⟩ (show 0 ≤ 15 ∧ 15 ≤ 26 by omega) (show (h 0 113) < 5000 by omega) ?_
    intro g5
    replace g5 : mo_G Zz (ja_up (ja_up (ja_up (ja_up h 74 ((h 0 113).toNat) 15) 75 ((h 0 113).toNat) a2) 76 ((h 0 113).toNat) 0) 0 113 ((h 0 113) + 1)) := g5
    show mJ l D cA ad 2 cX12_assigned 3 (some .boolean) 13 [(0, (2, ((0 : Nat) : Int))), (1, (0, a1)), (2, (0, a2))] [(0, (h 0 113))] (ja_up (ja_up (ja_up (ja_up h 74 ((h 0 113).toNat) 15) 75 ((h 0 113).toNat) a2) 76 ((h 0 113).toNat) 0) 0 113 ((h 0 113) + 1)) Q
    refine ja_if_lt 31 dassigned_13 rfl ⟨by omega, by omega⟩ (fun c13 => ?_) (fun c13 => ?_)
    · refine ja_iconst dassigned_31 ?_
      refine ja_zreturn dassigned_32 rfl (by omega) ?_
      exact mo_fin (by omega) rfl (k2 (ja_up (ja_up (ja_up (ja_up h 74 ((h 0 113).toNat) 15) 75 ((h 0 113).toNat) a2) 76 ((h 0 113).toNat) 0) 0 113 ((h 0 113) + 1)) (show 0 < (h 0 8) ∧ (h 0 1) = (h 0 1) ∧ (h 0 118) = (h 0 118) ∧ (h 0 127) = (h 0 127) by omega) g5)
    · refine ja_aload_n dassigned_16 rfl rfl ?_
      refine ja_bipush 17 dassigned_17 rfl ?_
      refine ja_iconst dassigned_19 ?_
      refine ja_iconst dassigned_20 ?_
      refine t_emit (by decide) (show (0 : Nat) ≤ 8 by decide) dassigned_21 g5 ⟨by decide, by decide⟩ ⟨by decide, by decide⟩ ⟨by decide, by decide⟩ (show 0 ≤ 17 ∧ 17 ≤ 26 by omega) (show ((h 0 113) + 1) < 5000 by omega) ?_
      intro g6
      replace g6 : mo_G Zz (ja_up (ja_up (ja_up (ja_up (ja_up (ja_up (ja_up (ja_up h 74 ((h 0 113).toNat) 15) 75 ((h 0 113).toNat) a2) 76 ((h 0 113).toNat) 0) 0 113 ((h 0 113) + 1)) 74 (((h 0 113) + 1).toNat) 17) 75 (((h 0 113) + 1).toNat) 0) 76 (((h 0 113) + 1).toNat) 0) 0 113 (((h 0 113) + 1) + 1)) := g6
      show mJ l D cA ad 2 cX12_assigned 3 (some .boolean) 24 [(0, (2, ((0 : Nat) : Int))), (1, (0, a1)), (2, (0, a2))] [(0, ((h 0 113) + 1))] (ja_up (ja_up (ja_up (ja_up (ja_up (ja_up (ja_up (ja_up h 74 ((h 0 113).toNat) 15) 75 ((h 0 113).toNat) a2) 76 ((h 0 113).toNat) 0) 0 113 ((h 0 113) + 1)) 74 (((h 0 113) + 1).toNat) 17) 75 (((h 0 113) + 1).toNat) 0) 76 (((h 0 113) + 1).toNat) 0) 0 113 (((h 0 113) + 1) + 1)) Q
      refine ja_if_lt 31 dassigned_24 rfl ⟨by omega, by omega⟩ (fun c24 => ?_) (fun c24 => ?_)
      · refine ja_iconst dassigned_31 ?_
        refine ja_zreturn dassigned_32 rfl (by omega) ?_
        exact mo_fin (by omega) rfl (k2 (ja_up (ja_up (ja_up (ja_up (ja_up (ja_up (ja_up (ja_up h 74 ((h 0 113).toNat) 15) 75 ((h 0 113).toNat) a2) 76 ((h 0 113).toNat) 0) 0 113 ((h 0 113) + 1)) 74 (((h 0 113) + 1).toNat) 17) 75 (((h 0 113) + 1).toNat) 0) 76 (((h 0 113) + 1).toNat) 0) 0 113 (((h 0 113) + 1) + 1)) (show 0 < (h 0 8) ∧ (h 0 1) = (h 0 1) ∧ (h 0 118) = (h 0 118) ∧ (h 0 127) = (h 0 127) by omega) g6)
      · refine ja_iconst dassigned_27 ?_
        refine ja_goto 32 dassigned_28 rfl ?_
        refine ja_zreturn dassigned_32 rfl (by omega) ?_
        exact mo_fin (by omega) rfl (k1 (ja_up (ja_up (ja_up (ja_up (ja_up (ja_up (ja_up (ja_up h 74 ((h 0 113).toNat) 15) 75 ((h 0 113).toNat) a2) 76 ((h 0 113).toNat) 0) 0 113 ((h 0 113) + 1)) 74 (((h 0 113) + 1).toNat) 17) 75 (((h 0 113) + 1).toNat) 0) 76 (((h 0 113) + 1).toNat) 0) 0 113 (((h 0 113) + 1) + 1)) ((by have e : a1 = 2 := (by omega); (subst e; exact ab_as2 g p1 p2))) g6)
theorem t_assigned {a1 a2 : Int} {R r ph q0 : Int} {tf : mo_TF} {s : List mo_A} {ht st rg : Nat → Int} {tu : Int} {d nL pc : Nat} {cc : ByteArray} {rt : Option FieldType} {L : List (Nat × ja_V)} {S : List ja_V} {h : ja_H} {Q : Option ja_V → ja_H → Prop} (hdd : 2 < d) (hwd : ja_wd S ≤ 8) (hd : decode cc pc = .ok (.invokevirtual 826, 3)) (g : mo_G Zz h) (r1 : -2147483648 ≤ a1 ∧ a1 ≤ 2147483647) (r2 : -2147483648 ≤ a2 ∧ a2 ≤ 2147483647) (p1 : pk_S h (h 0 17).toNat s) (p2 : piB h R r ph tf q0 ((19, a1, a2) :: s) ht st rg tu) (k1 : ∀ (h' : ja_H), (pi_done h h' R r ph tf q0 (pi_mu h ((19, a1, a2) :: s))) → mo_G Zz h' → mJ l D cA ad d cc nL rt (pc + 3) L ((0, 1) :: S) h' Q) (k2 : ∀ (h' : ja_H), (0 < (h' 0 8) ∧ (h' 0 1) = (h 0 1) ∧ (h' 0 118) = (h 0 118) ∧ (h' 0 127) = (h 0 127)) → mo_G Zz h' → mJ l D cA ad d cc nL rt (pc + 3) L ((0, 0) :: S) h' Q) : mJ l D cA ad d cc nL rt pc L ((0, a2) :: (0, a1) :: (2, ((0 : Nat) : Int)) :: S) h Q :=
  mc_assigned hdd hwd hd (s_assigned g r1 r2 p1 p2 k1 k2)
end
