/-! the reference's parser: acts of a P -/
variable {Zz : Zc}
def mo_z (f : Nat → Int) (W v : Int) : Nat → Int := fun i => if i = W.toNat then v else f i
theorem mo_zo {f : Nat → Int} {W v : Int} {j : Nat} (hj : (j : Int) < W) : mo_z f W v j = f j := by
  unfold mo_z; rw [if_neg (by omega)]
theorem mo_zn {f : Nat → Int} {W v : Int} : mo_z f W v W.toNat = v := by
  unfold mo_z; rw [if_pos rfl]
/-- behind an END the region may be another -/
theorem pi_C_re {h : ja_H} {ht st rg : Nat → Int} {W v : Int} {s : List mo_A} (h0 : 0 ≤ W) (hC : pi_C h ht st rg W s) (h200 : rg W.toNat = 200) : pi_C h (mo_z ht W 0) (mo_z st W 0) (mo_z rg W v) W s := by
  intro w hw
  obtain ⟨c1, c2, c3, c4, c5, c6, c7, c8, c9, c10, c11, c12, c13, c14, c15, c16⟩ := hC w hw
  have a1 : mo_z ht W 0 w = ht w := mo_zo hw
  have a2 : mo_z st W 0 w = st w := mo_zo hw
  have a3 : mo_z rg W v w = rg w := mo_zo hw
  have t1 : -1 ≤ pw_tr ((h 74) w) ∧ pw_tr ((h 74) w) ≤ 1 := by unfold pw_tr; (repeat' split) <;> omega
  have t2 : -1 ≤ pw_tj ((h 74) w) ∧ pw_tj ((h 74) w) ≤ 0 := by unfold pw_tj; (repeat' split) <;> omega
  by_cases hl : (w : Int) + 1 = W
  · have e : w + 1 = W.toNat := by omega
    have o26 : (h 74) w = 26 := by
      by_cases z : (h 74) w = 26
      · exact z
      · have := (c7 z).2.1
        rw [e, h200] at this; omega
    unfold pw
    rw [a1, a2, a3, e, mo_zn, mo_zn, mo_zn]
    refine ⟨c1, c2, c3, c4, c5, fun _ => ⟨rfl, rfl⟩, fun z => absurd o26 z, fun z => ?_, c9, fun z => ?_, c11, c12, c13, c14, c15, c16⟩
    · rw [o26] at z; exact absurd z (by decide)
    · rw [o26] at z; exact absurd z (by unfold pw_jmp; decide)
  · have b1 : mo_z ht W 0 (w + 1) = ht (w + 1) := mo_zo (by omega)
    have b2 : mo_z st W 0 (w + 1) = st (w + 1) := mo_zo (by omega)
    have b3 : mo_z rg W v (w + 1) = rg (w + 1) := mo_zo (by omega)
    unfold pw
    rw [a1, a2, a3, b1, b2, b3]
    refine ⟨c1, c2, c3, c4, c5, c6, c7, c8, c9, fun z => ?_, c11, c12, c13, c14, c15, c16⟩
    rcases c10 z with q | ⟨q1, q2, q3, q4, q5, q6⟩
    · exact Or.inl q
    · have hA : (h 75) w ≠ W := fun e => by
        rw [e, h200] at q4; omega
      have d1 : mo_z ht W 0 ((h 75) w).toNat = ht ((h 75) w).toNat := mo_zo (by omega)
      have d2 : mo_z st W 0 ((h 75) w).toNat = st ((h 75) w).toNat := mo_zo (by omega)
      have d3 : mo_z rg W v ((h 75) w).toNat = rg ((h 75) w).toNat := mo_zo (by omega)
      rw [d1, d2, d3]
      refine Or.inr ⟨q1, q2, q3, q4, q5, ?_⟩
      rcases q6 with q6 | ⟨q6, q7, q8⟩
      · exact Or.inl q6
      · exact Or.inr ⟨q6, q7, by rw [mo_zo (by omega)]; exact q8⟩
theorem pi_N_re {h : ja_H} {ht st rg : Nat → Int} {W v : Int} (hN : pi_N h ht st rg W) : pi_N h (mo_z ht W 0) (mo_z st W 0) (mo_z rg W v) W := by
  refine ⟨fun n hn => ?_, hN.2⟩
  obtain ⟨c1, c2, c3, c4, c5, c6⟩ := hN.1 n hn
  refine ⟨c1, c2, fun z => ?_, c4, c5, c6⟩
  obtain ⟨a1, a2, a3, a4⟩ := c3 z
  exact ⟨a1, a2, (mo_zo (by omega)).trans a3, (mo_zo (by omega)).trans a4⟩
theorem noS {a k : Int} (h : a ≤ 12 ∨ 31 ≤ a) (hk : 13 ≤ k ∧ k ≤ 30) (z : a = k) : False := by omega
theorem at_lt {a W : Int} (h0 : 0 ≤ a) (h1 : a < W) : ((a.toNat : Nat) : Int) < W := by omega
theorem pt_re {op ht st rg : Nat → Int} {W P lo r v : Int} {tf : mo_TF} {wn : Int → Prop} (hW0 : tf.2.1 < W) : ∀ {s : List mo_A} {c t e tu : Int}, (∀ y ∈ s, y.1 ≤ 12 ∨ 31 ≤ y.1) → ¬ pi_if s → pt op ht st rg W P lo r tf wn s c t e tu → pt op (mo_z ht W 0) (mo_z st W 0) (mo_z rg W v) W P lo r tf wn s c t e tu
  | [], _, _, _, _, _, _, q => ⟨q.1, q.2.1, q.2.2.1, q.2.2.2.1, q.2.2.2.2.1, fun j hj => by
    obtain ⟨z1, z2, z3⟩ := q.2.2.2.2.2.1 j hj
    have l : (j : Int) < W := by omega
    exact ⟨(mo_zo l).trans z1, (mo_zo l).trans z2, (mo_zo l).trans z3⟩, q.2.2.2.2.2.2⟩
  | x :: s, c, t, e, tu, ha, hn, q => by
    obtain ⟨q1, q2, q3, q4⟩ := q
    refine ⟨q1, q2, ?_, pt_re hW0 (fun y hy => ha y (List.mem_cons_of_mem _ hy)) (fun ⟨y, hy, e⟩ => hn ⟨y, List.mem_cons_of_mem _ hy, e⟩) q4⟩
    have hx := ha x List.mem_cons_self
    have hx2 : x.1 ≠ 36 := fun e => hn ⟨x, List.mem_cons_self, e⟩
    obtain ⟨b1, b2, b3, b4, o1, o2, o3, o4, o5, o6, o7, o8, o9, o10, o11, o12, o14, o16, o17, o17b, o19, o21, o22, o23, o24, o28, o31, o32, o33, o34, o36, o18⟩ := q3
    refine ⟨b1, b2, b3, b4, o1, o2, o3, fun z => ?_, o5, o6, o7, o8, o9, o10, o11, o12, o14, o16, o17, o17b, o19, fun z => ?_, fun z => ?_, fun z => ?_, fun z => ?_, fun z => ?_, o31, o32, o33, o34, fun z => ?_, o18⟩
    · obtain ⟨a1, ⟨z1, z2, z3, z4, z5⟩, a3⟩ := o4 z
      have l := at_lt z1 z2
      exact ⟨a1, ⟨z1, z2, (mo_zo l).trans z3, (mo_zo l).trans z4, (mo_zo l).trans z5⟩, a3⟩
    · exact (noS hx (by decide) z).elim
    · exact (noS hx (by decide) z).elim
    · exact (noS hx (by decide) z).elim
    · exact (noS hx (by decide) z).elim
    · exact (noS hx (by decide) z).elim
    · exact absurd z hx2

theorem bs_p {h : ja_H} {R r ph q0 : Int} {tf : mo_TF} {s : List mo_A} {ht st rg : Nat → Int} {tu a b : Int} (g : mo_G Zz h) (hB : piB h R r ph tf q0 ((31, a, b) :: s) ht st rg tu) : piB (mo_L (ja_up h 0 18 ((h 0 18) + 1)) 32 a 0 0) R r ph tf q0 ((31, 0, 0) :: (32, a, 0) :: s) ht st rg tu := by
  obtain ⟨N2, N3, N4, N5, N6, N7, N8, N9, N10, N11, N12, N13, ⟨NK1, NK2⟩, ND1, ND2, ND3, NU1, NU2⟩ := piB_numv g hB
  obtain ⟨hni, hph, hr, htu, hal, hin, hin36⟩ := pif_31 hB (by dsimp only; omega)
  obtain ⟨⟨n1, n2, n3, n4, n5, n6, n7, n8, n9⟩, ⟨b1, b2, b3, b4⟩, reg, hpt, ⟨hC, hU⟩, hNo, hP, hT, top⟩ := id hB
  obtain ⟨⟨⟨p1, p1'⟩, p1u⟩, ⟨p2, p2'⟩, p3, p4⟩ := hpt
  simp only [pk_sum] at n1 n2 n3 n6 n7
  dsimp only at p2 p2' N6
  have gt := gF_treeTop g
  have gn := gF_nodes g
  have W0 : 0 ≤ (h 0 113) := (gF_words g).1
  have ec31 : pk_c 31 = 0 := rfl
  have ev31 : pk_v 31 = 0 := rfl
  have ed31 : pk_d 31 = 0 := rfl
  have eq31 : pk_q 31 = 0 := rfl
  have ef31 : pk_f 31 = 0 := rfl
  have em31 : pk_m 31 = 1 := rfl
  have eoff31 : pk_off 31 = 7 := rfl
  have ek31 : pk_k r 31 = 0 := rfl
  have ec32 : pk_c 32 = 1 := rfl
  have ev32 : pk_v 32 = 0 := rfl
  have ed32 : pk_d 32 = 0 := rfl
  have eq32 : pk_q 32 = 0 := rfl
  have ef32 : pk_f 32 = 0 := rfl
  have em32 : pk_m 32 = 1 := rfl
  have eoff32 : pk_off 32 = 7 := rfl
  have ek32 : pk_k r 32 = pk_D r := rfl
  replace p3 : pt_ok (h 74) ht st rg (h 0 113) (h 0 88) (h 0 77) r (pi_wn h r) (31, a, b) s (ht (h 0 113).toNat - 0) (h 0 109) (st (h 0 113).toNat) tu := p3
  unfold pt_ok at p3; dsimp only at p3
  replace p4 : pt (h 74) ht st rg (h 0 113) (h 0 88) (h 0 77) r tf (pi_wn h r) s (0) ((h 0 109) + 1) (st (h 0 113).toNat) (tu) := p4
  obtain ⟨-, xc, xt, ⟨xe, xu1, xu2⟩, -, -, -, -, -, -, -, -, -, -, -, -, -, -, -, -, -, -, -, -, -, -, xo31, -, -, -, -, -⟩ := p3
  replace xo31 := xo31 (by omega)
  refine piBN hB (by unfold mo_L; (repeat (refine ag_up rfl ?_)); exact ag_refl) (fun z => z) (fun _ _ _ z => z) (pi_N_ag (by unfold mo_L; (repeat (refine ag_up rfl ?_)); exact ag_refl) hNo) (pi_T_ag (by unfold mo_L; (repeat (refine ag_up rfl ?_)); exact ag_refl) hT) (fun n hn => ⟨hn, rfl⟩) (show (h 0 72) ≤ (h 0 95) from n5) (fun w q => ?_) (fun p q z => q ?_) ?_ ?_ ?_ ?_ ?_ ?_ ⟨b2, b3, fun q => ?_⟩ (Or.inr ⟨hph, ⟨hr, htu⟩, fun y hy => by
      simp only [List.mem_cons] at hy; rcases hy with rfl | rfl | hy
      · first | exact Or.inl (by dsimp only; decide) | exact Or.inr (by dsimp only; decide)
      · first | exact Or.inl (by dsimp only; decide) | exact Or.inr (by dsimp only; decide)
      · exact hal y hy, Or.inr ⟨?_, (hin (show (31 : Int) ≠ 36 by decide)).1, (hin (show (31 : Int) ≠ 36 by decide)).2⟩⟩) ?_ (⟨fun e => absurd e (by dsimp only; omega), fun e => absurd e (by dsimp only; omega), fun e => absurd e (by dsimp only; omega), fun e => absurd e (by dsimp only; omega)⟩)
  · simp only [pj_cons] at q ⊢
    rcases q with q | q
    · exact absurd q ((idle_of (show (31 : Int) ≠ 4 ∧ (31 : Int) ≠ 21 ∧ (31 : Int) ≠ 22 ∧ (31 : Int) ≠ 28 ∧ (31 : Int) ≠ 24 by decide)) w)
    · exact Or.inr (Or.inr q)
  · simp only [pp_cons] at z ⊢
    rcases z with z | z | z
    · simp [pp] at z
    · simp [pp] at z
    · exact Or.inr z
  · show (h 0 18) + 1 = _; simp only [pk_sum]; omega
  · show (h 0 113) + _ < 5 * (h 0 7); simp only [pk_sum]; omega
  · show (h 0 95) + _ < (h 0 7); simp only [pk_sum]; omega
  · show (h 0 68) < (h 0 7); omega
  · show (h 0 84) = _; simp only [pk_sum]; omega
  · show (h 0 87) = _; simp only [pk_sum]; omega
  · show ph = 1 ∨ (h 0 77) ≤ 9; refine b4 (fun z => q ?_); intro y hy; simp only [List.mem_cons] at hy; rcases hy with rfl | rfl | hy
    · show (31 : Int) ≠ 17; decide
    · show (32 : Int) ≠ 17; decide
    · exact z y (List.mem_cons_of_mem _ hy)
  · rintro ⟨y, hy, e⟩
    simp only [List.mem_cons] at hy
    rcases hy with rfl | rfl | hy
    · exact absurd e (show (31 : Int) ≠ 36 by decide)
    · exact absurd e (show (32 : Int) ≠ 36 by decide)
    · exact hni ⟨y, hy, e⟩
  · exact ⟨⟨⟨by (try simp only [pk_sum]); omega, by (try simp only [pk_sum]); omega⟩, (fun p q => absurd q (by simp [pp]))⟩, ⟨by (try simp only [pk_sum, List.length_cons]); (try dsimp only); omega, (by intro y z e; cases e; dsimp only; omega)⟩, (show pt_ok (h 74) ht st rg (h 0 113) (h 0 88) (h 0 77) r (pi_wn h r) (31, 0, 0) ((32, a, 0) :: s) (ht (h 0 113).toNat - 0) ((h 0 109)) (st (h 0 113).toNat) (tu) from by unfold pt_ok; (try dsimp only); (try simp only [pk_sum]); exact ⟨⟨by omega, by omega, by omega, by omega⟩, by omega, by omega, ⟨by first | omega | simp, by omega, by omega⟩, fun z => absurd z (by omega), fun z => absurd z (by omega), fun z => absurd z (by omega), fun z => absurd z (by omega), fun z => absurd z (by omega), fun z => absurd z (by omega), fun z => absurd z (by omega), fun z => absurd z (by omega), fun z => absurd z (by omega), fun z => absurd z (by omega), fun z => absurd z (by omega), fun z => absurd z (by omega), fun z => absurd z (by omega), fun z => absurd z (by omega), fun z => absurd z (by omega), fun z => absurd z (by omega), fun z => absurd z (by omega), fun z => absurd z (by omega), fun z => absurd z (by omega), fun z => absurd z (by omega), fun z => absurd z (by omega), fun z => absurd z (by omega), fun _ => by first | omega | trivial | (simp only [true_and, and_true]; omega), fun z => absurd z (by omega), fun z => absurd z (by omega), fun z => absurd z (by omega), fun z => absurd z (by omega), fun z => absurd z (by omega)⟩), ⟨⟨⟨by (try simp only [pk_sum]); omega, by (try simp only [pk_sum]); omega⟩, (fun p q => absurd q (by simp [pp]))⟩, ⟨by (try simp only [pk_sum, List.length_cons]); (try dsimp only); omega, (by intro y z e; have q := p2' y z e; dsimp only at q ⊢; omega)⟩, (show pt_ok (h 74) ht st rg (h 0 113) (h 0 88) (h 0 77) r (pi_wn h r) (32, a, 0) (s) (0) ((h 0 109) + 1) (st (h 0 113).toNat) (tu) from by unfold pt_ok; (try dsimp only); (try simp only [pk_sum]); exact ⟨⟨by omega, by omega, by omega, by omega⟩, by omega, by omega, ⟨by first | omega | simp, by omega, by omega⟩, fun z => absurd z (by omega), fun z => absurd z (by omega), fun z => absurd z (by omega), fun z => absurd z (by omega), fun z => absurd z (by omega), fun z => absurd z (by omega), fun z => absurd z (by omega), fun z => absurd z (by omega), fun z => absurd z (by omega), fun z => absurd z (by omega), fun z => absurd z (by omega), fun z => absurd z (by omega), fun z => absurd z (by omega), fun z => absurd z (by omega), fun z => absurd z (by omega), fun z => absurd z (by omega), fun z => absurd z (by omega), fun z => absurd z (by omega), fun z => absurd z (by omega), fun z => absurd z (by omega), fun z => absurd z (by omega), fun z => absurd z (by omega), fun z => absurd z (by omega), fun _ => by first | omega | trivial | (simp only [true_and, and_true]; omega), fun z => absurd z (by omega), fun z => absurd z (by omega), fun z => absurd z (by omega), fun z => absurd z (by omega)⟩), (pt_eq (show _ = 0 by omega) (show _ = (h 0 109) + 1 by omega) (show _ = st (h 0 113).toNat by omega) p4)⟩⟩

theorem bs_plen {h : ja_H} {R r ph q0 a b : Int} {tf : mo_TF} {s : List mo_A} {ht st rg : Nat → Int} {tu : Int} (hB : piB h R r ph tf q0 ((31, a, b) :: s) ht st rg tu) : (((32, a, (0 : Int)) :: s : List mo_A).length : Int) ≤ 6 * pk_sum pk_c ((32, a, (0 : Int)) :: s) + 2 := by
  obtain ⟨-, -, -, hpt, -⟩ := hB
  obtain ⟨-, ⟨p2, -⟩, -⟩ := hpt
  have e1 : pk_off (31, a, b).1 = 7 := rfl
  have e2 : pk_sum pk_c ((32, a, (0 : Int)) :: s) = 1 + pk_sum pk_c s := rfl
  rw [e2, List.length_cons]
  omega
theorem ab_if {h : ja_H} {R r ph q0 : Int} {tf : mo_TF} {s : List mo_A} {ht st rg : Nat → Int} {tu a b : Int} (g : mo_G Zz h) (hS : pk_S h (h 0 17).toNat s) (hB : piB h R r ph tf q0 ((31, a, b) :: s) ht st rg tu) (hlen : (s.length : Int) ≤ 6 * pk_sum pk_c s + 2) (htf : tf_ok ph tf) : pi_done h (mo_L (mo_L (mo_L (ja_up (mo_tk (mo_tk h)) 0 86 1) 36 ((h 0 113)) 0 0) 37 41 0 0) 1 0 0 0) R r ph tf q0 (pi_mu h s) := by
  obtain ⟨N2, N3, N4, N5, N6, N7, N8, N9, N10, N11, N12, N13, ⟨NK1, NK2⟩, ND1, ND2, ND3, NU1, NU2⟩ := piB_numv g hB
  obtain ⟨hni, hph, hr, htu, hal, hin, hin36⟩ := pif_31 hB (by dsimp only; omega)
  obtain ⟨⟨n1, n2, n3, n4, n5, n6, n7, n8, n9⟩, ⟨b1, b2, b3, b4⟩, reg, hpt, ⟨hC, hU⟩, hNo, hP, hT, top⟩ := id hB
  obtain ⟨⟨⟨p1, p1'⟩, p1u⟩, ⟨p2, p2'⟩, p3, p4⟩ := hpt
  simp only [pk_sum] at n1 n2 n3 n6 n7
  dsimp only at p2 p2' N6
  have gt := gF_treeTop g
  have gn := gF_nodes g
  have W0 : 0 ≤ (h 0 113) := (gF_words g).1
  have ec1 : pk_c 1 = 0 := rfl
  have ev1 : pk_v 1 = (-4) := rfl
  have ed1 : pk_d 1 = 0 := rfl
  have eq1 : pk_q 1 = 0 := rfl
  have ef1 : pk_f 1 = 0 := rfl
  have em1 : pk_m 1 = (-10) := rfl
  have eoff1 : pk_off 1 = 7 := rfl
  have ek1 : pk_k r 1 = 0 := rfl
  have ec31 : pk_c 31 = 0 := rfl
  have ev31 : pk_v 31 = 0 := rfl
  have ed31 : pk_d 31 = 0 := rfl
  have eq31 : pk_q 31 = 0 := rfl
  have ef31 : pk_f 31 = 0 := rfl
  have em31 : pk_m 31 = 1 := rfl
  have eoff31 : pk_off 31 = 7 := rfl
  have ek31 : pk_k r 31 = 0 := rfl
  have ec36 : pk_c 36 = 0 := rfl
  have ev36 : pk_v 36 = 1 := rfl
  have ed36 : pk_d 36 = 1 := rfl
  have eq36 : pk_q 36 = 0 := rfl
  have ef36 : pk_f 36 = 0 := rfl
  have em36 : pk_m 36 = 1 := rfl
  have eoff36 : pk_off 36 = 2 := rfl
  have ek36 : pk_k r 36 = 0 := rfl
  have ec37 : pk_c 37 = 0 := rfl
  have ev37 : pk_v 37 = 0 := rfl
  have ed37 : pk_d 37 = 0 := rfl
  have eq37 : pk_q 37 = 0 := rfl
  have ef37 : pk_f 37 = 0 := rfl
  have em37 : pk_m 37 = 1 := rfl
  have eoff37 : pk_off 37 = 3 := rfl
  have ek37 : pk_k r 37 = 0 := rfl
  replace p3 : pt_ok (h 74) ht st rg (h 0 113) (h 0 88) (h 0 77) r (pi_wn h r) (31, a, b) s (ht (h 0 113).toNat - 0) (h 0 109) (st (h 0 113).toNat) tu := p3
  unfold pt_ok at p3; dsimp only at p3
  replace p4 : pt (h 74) ht st rg (h 0 113) (h 0 88) (h 0 77) r tf (pi_wn h r) s (0) ((h 0 109) + 1) (st (h 0 113).toNat) (tu) := p4
  obtain ⟨-, xc, xt, ⟨xe, xu1, xu2⟩, -, -, -, -, -, -, -, -, -, -, -, -, -, -, -, -, -, -, -, -, -, -, xo31, -, -, -, -, -⟩ := p3
  replace xo31 := xo31 (by omega)
  have w0 := (gF_wTop g).1
  obtain ⟨hi0, h200⟩ := hin (show (31 : Int) ≠ 36 by decide)
  have hC2 := pi_C_re (v := 4) W0 hC h200
  have hN2 := pi_N_re (v := 4) hNo
  have hW0 : tf.2.1 < (h 0 113) := by
    have z := pt_base p4
    rcases Int.lt_or_eq_of_le z.1 with l | l
    · exact l
    · exfalso
      rcases htf.2 hph with y | y
      · omega
      · have z3 := (z.2.1 (h 0 113).toNat (by omega)).2.2
        rw [h200] at z3
        rw [l] at y
        exact y z3.symm
  have p42 := pt_re (v := 4) hW0 hal hni p4
  generalize hH : mo_L (mo_L (mo_L (ja_up (mo_tk (mo_tk h)) 0 86 1) 36 ((h 0 113)) 0 0) 37 41 0 0) 1 0 0 0 = H
  have e1 : (H 0 18) = (h 0 18) ∧ (H 0 113) = (h 0 113) ∧ (H 0 7) = (h 0 7) + 1 + 1 ∧ (H 0 95) = (h 0 95) ∧ (H 0 68) = (h 0 68) ∧ (H 0 72) = (h 0 72) ∧ (H 0 84) = (h 0 84) ∧ (H 0 87) = (h 0 87) ∧ (H 0 74) = (h 0 74) ∧ (H 0 79) = (h 0 79) ∧ (H 0 77) = (h 0 77) ∧ (H 0 86) = 1 ∧ (H 0 109) = (h 0 109) ∧ (H 0 88) = (h 0 88) := by
    subst hH; exact ⟨rfl, rfl, rfl, rfl, rfl, rfl, rfl, rfl, rfl, rfl, rfl, rfl, rfl, rfl⟩
  have f1 : (H 74) = (h 74) := by subst hH; rfl
  have agC : mo_ag FC h H := by subst hH; unfold mo_L mo_tk; (repeat (refine ag_up rfl ?_)); exact ag_refl
  have agN : mo_ag FN h H := by subst hH; unfold mo_L mo_tk; (repeat (refine ag_up rfl ?_)); exact ag_refl
  have agP : mo_ag FP h H := by subst hH; unfold mo_L mo_tk; (repeat (refine ag_up rfl ?_)); exact ag_refl
  have agT : mo_ag FT h H := by subst hH; unfold mo_L mo_tk; (repeat (refine ag_up rfl ?_)); exact ag_refl
  have agk : mo_ag FK h H := by subst hH; unfold mo_L mo_tk; (repeat (refine ag_up rfl ?_)); exact ag_refl
  have hwn : ∀ y, pi_wn h r y → pi_wn H r y := by subst hH; exact fun _ z => z
  have hS' : pk_S H (H 0 17).toNat ((1, 0, 0) :: (37, 41, 0) :: (36, (h 0 113), 0) :: s) := by
    subst hH; exact (pk_S_L (show 0 ≤ (h 0 17) + 1 + 1 by omega) (pk_S_L (show 0 ≤ (h 0 17) + 1 by omega) (pk_S_L (show 0 ≤ (h 0 17) by omega) (pk_S_ag (ag_up rfl ag_refl) (pk_S_ag (ag_up rfl ag_refl) (pk_S_ag (ag_up rfl ag_refl) hS))))))
  clear hH
  obtain ⟨v1, v2, v3, v4, v5, v6, v7, v8, v9, v10, v11, v12, v13, v14⟩ := e1
  refine ⟨⟨(1, 0, 0) :: (37, 41, 0) :: (36, (h 0 113), 0) :: s, mo_z ht (h 0 113) 0, mo_z st (h 0 113) 0, mo_z rg (h 0 113) 4, tu, ⟨hS', ⟨?_, ?_, ?_, ?_, ?_, ?_, ?_, n8, n9⟩, ⟨v9.trans b1, by omega, by omega, fun q => ?_⟩, ?_, ?_, ⟨?_, ?_⟩, ?_, pi_P_ag agP hP, pi_T_ag agT hT, ⟨fun e => absurd e (by dsimp only; omega), fun e => absurd e (by dsimp only; omega), fun _ y z e => by cases e; intro q; exact absurd q (by dsimp only; omega), fun e => absurd e (by dsimp only; omega)⟩⟩, ?_⟩, agk⟩
  · rw [v1]; simp only [pk_sum]; omega
  · rw [v2, v3]; simp only [pk_sum]; omega
  · rw [v4, v3]; simp only [pk_sum]; omega
  · omega
  · omega
  · rw [v7]; simp only [pk_sum]; omega
  · rw [v8]; simp only [pk_sum]; omega
  · rw [v11]; refine b4 (fun z => q ?_); intro y hy; simp only [List.mem_cons] at hy; rcases hy with rfl | rfl | rfl | hy
    · show (1 : Int) ≠ 17; decide
    · show (37 : Int) ≠ 17; decide
    · show (36 : Int) ≠ 17; decide
    · exact z y (List.mem_cons_of_mem _ hy)
  · rw [v12, v2, mo_zn]
    exact Or.inr ⟨hph, ⟨hr, htu⟩, fun y hy => by
        simp only [List.mem_cons] at hy; rcases hy with rfl | rfl | rfl | hy
        · first | exact Or.inl (by dsimp only; decide) | exact Or.inr (by dsimp only; decide)
        · first | exact Or.inl (by dsimp only; decide) | exact Or.inr (by dsimp only; decide)
        · first | exact Or.inl (by dsimp only; decide) | exact Or.inr (by dsimp only; decide)
        · exact hal y hy, Or.inl ⟨⟨_, List.mem_cons_of_mem _ (List.mem_cons_of_mem _ List.mem_cons_self), rfl⟩, rfl, rfl⟩⟩
  · rw [f1, v2, v14, v11, v13, mo_zn, mo_zn]
    exact ⟨⟨⟨by (try simp only [pk_sum]); omega, by (try simp only [pk_sum]); omega⟩, (fun p q => absurd q (by simp [pp]))⟩, ⟨by (try simp only [pk_sum, List.length_cons]); (try dsimp only); omega, (by intro y z e; cases e; dsimp only; omega)⟩, (show pt_ok (h 74) (mo_z ht (h 0 113) 0) (mo_z st (h 0 113) 0) (mo_z rg (h 0 113) 4) (h 0 113) (h 0 88) (h 0 77) r (pi_wn H r) (1, 0, 0) ((37, 41, 0) :: (36, (h 0 113), 0) :: s) (0 - 0) ((h 0 109)) (0) (tu) from by unfold pt_ok; (try dsimp only); (try simp only [pk_sum]); exact ⟨⟨by omega, by omega, by omega, by omega⟩, by omega, by omega, ⟨by first | omega | simp, by omega, by omega⟩, fun _ => by first | omega | trivial | (simp only [true_and, and_true]; omega), fun z => absurd z (by omega), fun z => absurd z (by omega), fun z => absurd z (by omega), fun z => absurd z (by omega), fun z => absurd z (by omega), fun z => absurd z (by omega), fun z => absurd z (by omega), fun z => absurd z (by omega), fun z => absurd z (by omega), fun z => absurd z (by omega), fun z => absurd z (by omega), fun z => absurd z (by omega), fun z => absurd z (by omega), fun z => absurd z (by omega), fun z => absurd z (by omega), fun z => absurd z (by omega), fun z => absurd z (by omega), fun z => absurd z (by omega), fun z => absurd z (by omega), fun z => absurd z (by omega), fun z => absurd z (by omega), fun z => absurd z (by omega), fun z => absurd z (by omega), fun z => absurd z (by omega), fun z => absurd z (by omega), fun z => absurd z (by omega), fun z => absurd z (by omega)⟩), ⟨⟨⟨by (try simp only [pk_sum]); omega, by (try simp only [pk_sum]); omega⟩, (fun p q => absurd q (by simp [pp]))⟩, ⟨by (try simp only [pk_sum, List.length_cons]); (try dsimp only); omega, (by intro y z e; cases e; dsimp only; omega)⟩, (show pt_ok (h 74) (mo_z ht (h 0 113) 0) (mo_z st (h 0 113) 0) (mo_z rg (h 0 113) 4) (h 0 113) (h 0 88) (h 0 77) r (pi_wn H r) (37, 41, 0) ((36, (h 0 113), 0) :: s) (0 - 0 + 1) ((h 0 109)) (0) (tu) from by unfold pt_ok; (try dsimp only); (try simp only [pk_sum]); exact ⟨⟨by omega, by omega, by omega, by omega⟩, by omega, by omega, ⟨by first | omega | simp, by omega, by omega⟩, fun z => absurd z (by omega), fun z => absurd z (by omega), fun z => absurd z (by omega), fun z => absurd z (by omega), fun z => absurd z (by omega), fun z => absurd z (by omega), fun z => absurd z (by omega), fun z => absurd z (by omega), fun z => absurd z (by omega), fun z => absurd z (by omega), fun z => absurd z (by omega), fun z => absurd z (by omega), fun z => absurd z (by omega), fun z => absurd z (by omega), fun z => absurd z (by omega), fun z => absurd z (by omega), fun z => absurd z (by omega), fun z => absurd z (by omega), fun z => absurd z (by omega), fun z => absurd z (by omega), fun z => absurd z (by omega), fun z => absurd z (by omega), fun z => absurd z (by omega), fun z => absurd z (by omega), fun z => absurd z (by omega), fun z => absurd z (by omega), fun z => absurd z (by omega), fun z => absurd z (by omega)⟩), ⟨⟨⟨by (try simp only [pk_sum]); omega, by (try simp only [pk_sum]); omega⟩, (fun p q => absurd q (by simp [pp]))⟩, ⟨by (try simp only [pk_sum, List.length_cons]); (try dsimp only); omega, (by intro y z e; have q := p2' y z e; dsimp only at q ⊢; omega)⟩, (show pt_ok (h 74) (mo_z ht (h 0 113) 0) (mo_z st (h 0 113) 0) (mo_z rg (h 0 113) 4) (h 0 113) (h 0 88) (h 0 77) r (pi_wn H r) (36, (h 0 113), 0) (s) (0 - 0 + 1) ((h 0 109)) (0) (tu) from by unfold pt_ok; (try dsimp only); (try simp only [pk_sum]); exact ⟨⟨by omega, by omega, by omega, by omega⟩, by omega, by omega, ⟨by first | omega | simp, by omega, by omega⟩, fun z => absurd z (by omega), fun z => absurd z (by omega), fun z => absurd z (by omega), fun z => absurd z (by omega), fun z => absurd z (by omega), fun z => absurd z (by omega), fun z => absurd z (by omega), fun z => absurd z (by omega), fun z => absurd z (by omega), fun z => absurd z (by omega), fun z => absurd z (by omega), fun z => absurd z (by omega), fun z => absurd z (by omega), fun z => absurd z (by omega), fun z => absurd z (by omega), fun z => absurd z (by omega), fun z => absurd z (by omega), fun z => absurd z (by omega), fun z => absurd z (by omega), fun z => absurd z (by omega), fun z => absurd z (by omega), fun z => absurd z (by omega), fun z => absurd z (by omega), fun z => absurd z (by omega), fun z => absurd z (by omega), fun z => absurd z (by omega), fun _ => ⟨by first | trivial | omega, by first | trivial | omega, ⟨W0, (show (h 0 113) < (h 0 113) + 1 by omega), mo_zn, mo_zn.trans (show (4 : Int) = r + 8 * tu by omega), mo_zn⟩, (show (h 0 109) ≤ pk_sum pk_c s by omega)⟩, fun z => absurd z (by omega)⟩), (pt_eq (show _ = 0 by omega) (show _ = (h 0 109) + 1 by omega) (show _ = 0 by omega) (pt_ext (Int.le_refl _) (Int.le_refl _) (Int.le_refl _) hwn (fun j hj => ⟨fun _ => rfl, rfl, rfl, rfl⟩) (pt_eq (show _ = (0 : Int) by omega) (show _ = (h 0 109) + 1 by omega) (show _ = (0 : Int) by omega) p42)))⟩⟩⟩
  · rw [v2]
    refine pi_C_ag agC (pi_C_stack hC2 (fun w _ => (idle_of (show (31 : Int) ≠ 4 ∧ (31 : Int) ≠ 21 ∧ (31 : Int) ≠ 22 ∧ (31 : Int) ≠ 28 ∧ (31 : Int) ≠ 24 by decide)) w) (fun _ q => List.mem_cons_of_mem _ (List.mem_cons_of_mem _ (List.mem_cons_of_mem _ q))) (fun w hw z q y => q ?_))
    simp only [pp_cons] at y ⊢
    rcases y with y | y | y | y
    · simp [pp] at y
    · simp [pp] at y
    · simp [pp] at y
    · exact Or.inr y
  · rw [v2]; exact pi_U_ag agC hU
  · rw [v2]; exact pi_N_ag agN hN2
  · show 40 * (900 - (H 0 7)) + pk_sum pk_m ((1, 0, 0) :: (37, 41, 0) :: (36, (h 0 113), 0) :: s) + 13 < 40 * (900 - (h 0 7)) + pk_sum pk_m s + 13
    rw [v3]; simp only [pk_sum]; omega

theorem ab_not_n {h : ja_H} {R r ph q0 : Int} {tf : mo_TF} {s : List mo_A} {ht st rg : Nat → Int} {tu a b : Int} (g : mo_G Zz h) (hS : pk_S h (h 0 17).toNat s) (hB : piB h R r ph tf q0 ((34, a, b) :: s) ht st rg tu) {tw ip : Int} (hip : ip = (h 0 85)) : pi_done h (ja_up (ja_up (mo_N (ja_up (ja_up h 0 84 ((h 0 84) - 1)) 0 87 (h 0 87)) 15 ((h 70) ((h 0 109) - 1).toNat) 0 ((h 0 7)) ip) 66 ((h 0 95)).toNat tw) 70 ((h 0 109) - 1).toNat ((h 0 95))) R r ph tf q0 (pi_mu h ((34, a, b) :: s)) := by
  obtain ⟨N2, N3, N4, N5, N6, N7, N8, N9, N10, N11, N12, N13, ⟨NK1, NK2⟩, ND1, ND2, ND3, NU1, NU2⟩ := piB_numv g hB
  obtain ⟨hni, hph, hr, htu, hal, hin, hin36⟩ := pif_31 hB (by dsimp only; omega)
  obtain ⟨⟨n1, n2, n3, n4, n5, n6, n7, n8, n9⟩, ⟨b1, b2, b3, b4⟩, reg, hpt, ⟨hC, hU⟩, hNo, hP, hT, top⟩ := id hB
  obtain ⟨⟨⟨p1, p1'⟩, p1u⟩, ⟨p2, p2'⟩, p3, p4⟩ := hpt
  simp only [pk_sum] at n1 n2 n3 n6 n7
  dsimp only at p2 p2' N6
  have gt := gF_treeTop g
  have gn := gF_nodes g
  have W0 : 0 ≤ (h 0 113) := (gF_words g).1
  have ec34 : pk_c 34 = 0 := rfl
  have ev34 : pk_v 34 = 0 := rfl
  have ed34 : pk_d 34 = 1 := rfl
  have eq34 : pk_q 34 = 1 := rfl
  have ef34 : pk_f 34 = 0 := rfl
  have em34 : pk_m 34 = 1 := rfl
  have eoff34 : pk_off 34 = 2 := rfl
  have ek34 : pk_k r 34 = 0 := rfl
  replace p3 : pt_ok (h 74) ht st rg (h 0 113) (h 0 88) (h 0 77) r (pi_wn h r) (34, a, b) s (ht (h 0 113).toNat - 0) (h 0 109) (st (h 0 113).toNat) tu := p3
  unfold pt_ok at p3; dsimp only at p3
  replace p4 : pt (h 74) ht st rg (h 0 113) (h 0 88) (h 0 77) r tf (pi_wn h r) s (0) ((h 0 109)) (st (h 0 113).toNat) (tu) := p4
  obtain ⟨-, xc, xt, ⟨xe, xu1, xu2⟩, -, -, -, -, -, -, -, -, -, -, -, -, -, -, -, -, -, -, -, -, -, -, -, -, -, xo34, -, -⟩ := p3
  replace xo34 := xo34 (by omega)
  have w0 := (gF_wTop g).1
  obtain ⟨hi0, h200⟩ := hin (show (34 : Int) ≠ 36 by decide)
  have hcd : (h 70) ((h 0 109) - 1).toNat < (h 0 95) ∧ (h 67) ((h 70) ((h 0 109) - 1).toNat).toNat = (h 0 85) := hT ((h 0 109) - 1).toNat (by omega)
  have gc := gC_treePile g ((h 0 109) - 1).toNat
  generalize hH : ja_up (ja_up (mo_N (ja_up (ja_up h 0 84 ((h 0 84) - 1)) 0 87 (h 0 87)) 15 ((h 70) ((h 0 109) - 1).toNat) 0 ((h 0 7)) ip) 66 ((h 0 95)).toNat tw) 70 ((h 0 109) - 1).toNat ((h 0 95)) = H
  have e1 : (H 0 18) = (h 0 18) ∧ (H 0 113) = (h 0 113) ∧ (H 0 7) = (h 0 7) ∧ (H 0 95) = (h 0 95) + 1 ∧ (H 0 68) = (h 0 68) ∧ (H 0 72) = (h 0 72) ∧ (H 0 84) = (h 0 84) - 1 ∧ (H 0 87) = (h 0 87) ∧ (H 0 74) = (h 0 74) ∧ (H 0 79) = (h 0 79) ∧ (H 0 77) = (h 0 77) ∧ (H 0 86) = (h 0 86) ∧ (H 0 109) = (h 0 109) ∧ (H 0 88) = (h 0 88) ∧ (H 0 85) = (h 0 85) := by
    subst hH; exact ⟨rfl, rfl, rfl, rfl, rfl, rfl, rfl, rfl, rfl, rfl, rfl, rfl, rfl, rfl, rfl⟩
  have agN : mo_ag FNN h H := by subst hH; unfold mo_N; (repeat (refine ag_up rfl ?_)); exact ag_refl
  have agk : mo_ag FK h H := by subst hH; unfold mo_N; (repeat (refine ag_up rfl ?_)); exact ag_refl
  have hf : (H 0 11) = (h 0 11) := by subst hH; rfl
  have hv : ∀ k a b, pw_wt h k a b → pw_wt H k a b := by subst hH; exact fun _ _ _ z => z
  have hS' : pk_S H (H 0 17).toNat s := by subst hH; exact pk_S_ag (by unfold mo_N; (repeat (refine ag_up rfl ?_)); exact ag_refl) hS
  have old : nd_old h H := by
    subst hH
    refine ⟨fun j hj => ⟨?_, ?_, ?_, ?_, ?_⟩, fun j hj => rfl, fun j hj => rfl, us_same rfl⟩ <;> simp [mo_N, ja_up] <;> (intros; omega)
  have nw : (H 58) (h 0 95).toNat = 15 ∧ (H 59) (h 0 95).toNat = (h 70) ((h 0 109) - 1).toNat ∧ (H 60) (h 0 95).toNat = 0 ∧ (H 67) (h 0 95).toNat = ip := by
    subst hH; refine ⟨?_, ?_, ?_, ?_⟩ <;> simp [mo_N, ja_up]
  have htp : ∀ k : Nat, (k : Int) < (H 0 109) → ((k : Int) < (h 0 109) ∧ (H 70) k = (h 70) k) ∨ (H 70) k = (h 0 95) := by
    intro k hk
    rw [e1.2.2.2.2.2.2.2.2.2.2.2.2.1] at hk
    subst hH
    by_cases e : k = ((h 0 109) - 1).toNat
    · right; simp [mo_N, ja_up, e]
    · left
      refine ⟨by omega, ?_⟩
      simp [mo_N, ja_up, e] <;> (intros; omega)
  clear hH
  obtain ⟨v1, v2, v3, v4, v5, v6, v7, v8, v9, v10, v11, v12, v13, v14, v15⟩ := e1
  have hpn : pn H ht st rg (h 0 113) (h 0 95).toNat := by
    obtain ⟨w1, w2, w3, w4⟩ := nw
    unfold pn
    rw [w1, w2, w3, w4]
    exact ⟨fun z => absurd z (by decide), fun _ => ⟨by omega, by omega, by rw [(old.1 _ (by omega)).2.2.2.2, hcd.2, hip]⟩, fun z => absurd z (by decide), fun z => absurd z (by decide), fun z => absurd z (by decide), fun z => absurd z (by decide)⟩
  refine ⟨⟨s, ht, st, rg, tu, ⟨hS', ?_⟩, ?_⟩, agk⟩
  · refine piBN hB agN (fun z => by rw [← hf]; exact z) hv (pi_N_new g hNo v4 old (fun z => by rw [← hf]; exact z) hv hpn) (pi_T_new hT v4 old v15 (nw.2.2.2.trans hip) g htp) (fun n hn => ⟨by omega, (old.1 n hn).2.2.2.2⟩) (by omega) (fun w q => ?_) (fun p q z => q (pp_cons.mpr (Or.inr z))) (by omega) (by omega) (by omega) (by omega) (by omega) (by omega) ⟨by omega, by omega, fun q => ?_⟩ (Or.inr ⟨hph, ⟨hr, htu⟩, hal, Or.inr ⟨hni, by omega, h200⟩⟩) ?_ (fin_top0 (show (34 : Int) ≠ 1 by decide) p2' (fun q => absurd q (by dsimp only; omega)))
    · rcases pj_cons.mp q with q | q
      · exact absurd q ((idle_of (show (34 : Int) ≠ 4 ∧ (34 : Int) ≠ 21 ∧ (34 : Int) ≠ 22 ∧ (34 : Int) ≠ 28 ∧ (34 : Int) ≠ 24 by decide)) w)
      · exact q
    · rw [v11]; exact b4 (fun z => q (fun y hy => z y (List.mem_cons_of_mem _ hy)))
    · rw [v11, v13, fin_adj p2' (show (34 : Int) ≠ 8 ∧ (34 : Int) ≠ 9 by decide)]
      exact pt_eq (by omega) (by omega) (by omega) p4
  · show 40 * (900 - (H 0 7)) + pk_sum pk_m s + 13 < 40 * (900 - (h 0 7)) + (pk_m 34 + pk_sum pk_m s) + 13
    rw [v3]; omega

theorem ab_flow_n {h : ja_H} {R r ph q0 : Int} {tf : mo_TF} {s : List mo_A} {ht st rg : Nat → Int} {tu a b : Int} (g : mo_G Zz h) (hS : pk_S h (h 0 17).toNat s) (hB : piB h R r ph tf q0 ((35, a, b) :: s) ht st rg tu) {tw ip : Int} (hip : ip = (h 0 85)) : pi_done h (ja_up (ja_up (mo_N (ja_up (ja_up h 0 84 ((h 0 84) - 1)) 0 87 ((h 0 87) - 1)) 11 ((h 70) ((h 0 109) - 1).toNat) 0 ((h 0 7)) ip) 66 ((h 0 95)).toNat tw) 70 ((h 0 109) - 1).toNat ((h 0 95))) R r ph tf q0 (pi_mu h ((35, a, b) :: s)) := by
  obtain ⟨N2, N3, N4, N5, N6, N7, N8, N9, N10, N11, N12, N13, ⟨NK1, NK2⟩, ND1, ND2, ND3, NU1, NU2⟩ := piB_numv g hB
  obtain ⟨hni, hph, hr, htu, hal, hin, hin36⟩ := pif_31 hB (by dsimp only; omega)
  obtain ⟨⟨n1, n2, n3, n4, n5, n6, n7, n8, n9⟩, ⟨b1, b2, b3, b4⟩, reg, hpt, ⟨hC, hU⟩, hNo, hP, hT, top⟩ := id hB
  obtain ⟨⟨⟨p1, p1'⟩, p1u⟩, ⟨p2, p2'⟩, p3, p4⟩ := hpt
  simp only [pk_sum] at n1 n2 n3 n6 n7
  dsimp only at p2 p2' N6
  have gt := gF_treeTop g
  have gn := gF_nodes g
  have W0 : 0 ≤ (h 0 113) := (gF_words g).1
  have ec35 : pk_c 35 = 0 := rfl
  have ev35 : pk_v 35 = 0 := rfl
  have ed35 : pk_d 35 = 1 := rfl
  have eq35 : pk_q 35 = 1 := rfl
  have ef35 : pk_f 35 = 1 := rfl
  have em35 : pk_m 35 = 1 := rfl
  have eoff35 : pk_off 35 = 2 := rfl
  have ek35 : pk_k r 35 = 0 := rfl
  replace p3 : pt_ok (h 74) ht st rg (h 0 113) (h 0 88) (h 0 77) r (pi_wn h r) (35, a, b) s (ht (h 0 113).toNat - 0) (h 0 109) (st (h 0 113).toNat) tu := p3
  unfold pt_ok at p3; dsimp only at p3
  replace p4 : pt (h 74) ht st rg (h 0 113) (h 0 88) (h 0 77) r tf (pi_wn h r) s (0) ((h 0 109)) (st (h 0 113).toNat) (tu) := p4
  obtain ⟨-, xc, xt, ⟨xe, xu1, xu2⟩, -, -, -, -, -, -, -, -, -, -, -, -, -, -, -, -, -, -, -, -, -, -, -, -, -, xo34, -, -⟩ := p3
  replace xo34 := xo34 (by omega)
  have w0 := (gF_wTop g).1
  obtain ⟨hi0, h200⟩ := hin (show (35 : Int) ≠ 36 by decide)
  have hcd : (h 70) ((h 0 109) - 1).toNat < (h 0 95) ∧ (h 67) ((h 70) ((h 0 109) - 1).toNat).toNat = (h 0 85) := hT ((h 0 109) - 1).toNat (by omega)
  have gc := gC_treePile g ((h 0 109) - 1).toNat
  generalize hH : ja_up (ja_up (mo_N (ja_up (ja_up h 0 84 ((h 0 84) - 1)) 0 87 ((h 0 87) - 1)) 11 ((h 70) ((h 0 109) - 1).toNat) 0 ((h 0 7)) ip) 66 ((h 0 95)).toNat tw) 70 ((h 0 109) - 1).toNat ((h 0 95)) = H
  have e1 : (H 0 18) = (h 0 18) ∧ (H 0 113) = (h 0 113) ∧ (H 0 7) = (h 0 7) ∧ (H 0 95) = (h 0 95) + 1 ∧ (H 0 68) = (h 0 68) ∧ (H 0 72) = (h 0 72) ∧ (H 0 84) = (h 0 84) - 1 ∧ (H 0 87) = (h 0 87) - 1 ∧ (H 0 74) = (h 0 74) ∧ (H 0 79) = (h 0 79) ∧ (H 0 77) = (h 0 77) ∧ (H 0 86) = (h 0 86) ∧ (H 0 109) = (h 0 109) ∧ (H 0 88) = (h 0 88) ∧ (H 0 85) = (h 0 85) := by
    subst hH; exact ⟨rfl, rfl, rfl, rfl, rfl, rfl, rfl, rfl, rfl, rfl, rfl, rfl, rfl, rfl, rfl⟩
  have agN : mo_ag FNN h H := by subst hH; unfold mo_N; (repeat (refine ag_up rfl ?_)); exact ag_refl
  have agk : mo_ag FK h H := by subst hH; unfold mo_N; (repeat (refine ag_up rfl ?_)); exact ag_refl
  have hf : (H 0 11) = (h 0 11) := by subst hH; rfl
  have hv : ∀ k a b, pw_wt h k a b → pw_wt H k a b := by subst hH; exact fun _ _ _ z => z
  have hS' : pk_S H (H 0 17).toNat s := by subst hH; exact pk_S_ag (by unfold mo_N; (repeat (refine ag_up rfl ?_)); exact ag_refl) hS
  have old : nd_old h H := by
    subst hH
    refine ⟨fun j hj => ⟨?_, ?_, ?_, ?_, ?_⟩, fun j hj => rfl, fun j hj => rfl, us_same rfl⟩ <;> simp [mo_N, ja_up] <;> (intros; omega)
  have nw : (H 58) (h 0 95).toNat = 11 ∧ (H 59) (h 0 95).toNat = (h 70) ((h 0 109) - 1).toNat ∧ (H 60) (h 0 95).toNat = 0 ∧ (H 67) (h 0 95).toNat = ip := by
    subst hH; refine ⟨?_, ?_, ?_, ?_⟩ <;> simp [mo_N, ja_up]
  have htp : ∀ k : Nat, (k : Int) < (H 0 109) → ((k : Int) < (h 0 109) ∧ (H 70) k = (h 70) k) ∨ (H 70) k = (h 0 95) := by
    intro k hk
    rw [e1.2.2.2.2.2.2.2.2.2.2.2.2.1] at hk
    subst hH
    by_cases e : k = ((h 0 109) - 1).toNat
    · right; simp [mo_N, ja_up, e]
    · left
      refine ⟨by omega, ?_⟩
      simp [mo_N, ja_up, e] <;> (intros; omega)
  clear hH
  obtain ⟨v1, v2, v3, v4, v5, v6, v7, v8, v9, v10, v11, v12, v13, v14, v15⟩ := e1
  have hpn : pn H ht st rg (h 0 113) (h 0 95).toNat := by
    obtain ⟨w1, w2, w3, w4⟩ := nw
    unfold pn
    rw [w1, w2, w3, w4]
    exact ⟨fun z => absurd z (by decide), fun _ => ⟨by omega, by omega, by rw [(old.1 _ (by omega)).2.2.2.2, hcd.2, hip]⟩, fun z => absurd z (by decide), fun z => absurd z (by decide), fun z => absurd z (by decide), fun z => absurd z (by decide)⟩
  refine ⟨⟨s, ht, st, rg, tu, ⟨hS', ?_⟩, ?_⟩, agk⟩
  · refine piBN hB agN (fun z => by rw [← hf]; exact z) hv (pi_N_new g hNo v4 old (fun z => by rw [← hf]; exact z) hv hpn) (pi_T_new hT v4 old v15 (nw.2.2.2.trans hip) g htp) (fun n hn => ⟨by omega, (old.1 n hn).2.2.2.2⟩) (by omega) (fun w q => ?_) (fun p q z => q (pp_cons.mpr (Or.inr z))) (by omega) (by omega) (by omega) (by omega) (by omega) (by omega) ⟨by omega, by omega, fun q => ?_⟩ (Or.inr ⟨hph, ⟨hr, htu⟩, hal, Or.inr ⟨hni, by omega, h200⟩⟩) ?_ (fin_top0 (show (35 : Int) ≠ 1 by decide) p2' (fun q => absurd q (by dsimp only; omega)))
    · rcases pj_cons.mp q with q | q
      · exact absurd q ((idle_of (show (35 : Int) ≠ 4 ∧ (35 : Int) ≠ 21 ∧ (35 : Int) ≠ 22 ∧ (35 : Int) ≠ 28 ∧ (35 : Int) ≠ 24 by decide)) w)
      · exact q
    · rw [v11]; exact b4 (fun z => q (fun y hy => z y (List.mem_cons_of_mem _ hy)))
    · rw [v11, v13, fin_adj p2' (show (35 : Int) ≠ 8 ∧ (35 : Int) ≠ 9 by decide)]
      exact pt_eq (by omega) (by omega) (by omega) p4
  · show 40 * (900 - (H 0 7)) + pk_sum pk_m s + 13 < 40 * (900 - (h 0 7)) + (pk_m 35 + pk_sum pk_m s) + 13
    rw [v3]; omega

theorem ab_and_n {h : ja_H} {R r ph q0 : Int} {tf : mo_TF} {s : List mo_A} {ht st rg : Nat → Int} {tu a b : Int} (g : mo_G Zz h) (hS : pk_S h (h 0 17).toNat s) (hB : piB h R r ph tf q0 ((33, a, b) :: s) ht st rg tu) {tw bi ip : Int} (hip : ip = (h 0 85)) : pi_done h (ja_up (ja_up (ja_up (mo_N (ja_up h 0 109 ((h 0 109) - 1)) 13 ((h 70) ((h 0 109) - 1 - 1).toNat) ((h 70) ((h 0 109) - 1).toNat) ((h 0 7)) ip) 66 ((h 0 95)).toNat tw) 65 ((h 0 95)).toNat bi) 70 ((h 0 109) - 1 - 1).toNat ((h 0 95))) R r ph tf q0 (pi_mu h ((33, a, b) :: s)) := by
  obtain ⟨N2, N3, N4, N5, N6, N7, N8, N9, N10, N11, N12, N13, ⟨NK1, NK2⟩, ND1, ND2, ND3, NU1, NU2⟩ := piB_numv g hB
  obtain ⟨hni, hph, hr, htu, hal, hin, hin36⟩ := pif_31 hB (by dsimp only; omega)
  obtain ⟨⟨n1, n2, n3, n4, n5, n6, n7, n8, n9⟩, ⟨b1, b2, b3, b4⟩, reg, hpt, ⟨hC, hU⟩, hNo, hP, hT, top⟩ := id hB
  obtain ⟨⟨⟨p1, p1'⟩, p1u⟩, ⟨p2, p2'⟩, p3, p4⟩ := hpt
  simp only [pk_sum] at n1 n2 n3 n6 n7
  dsimp only at p2 p2' N6
  have gt := gF_treeTop g
  have gn := gF_nodes g
  have W0 : 0 ≤ (h 0 113) := (gF_words g).1
  have ec33 : pk_c 33 = 0 := rfl
  have ev33 : pk_v 33 = 0 := rfl
  have ed33 : pk_d 33 = 1 := rfl
  have eq33 : pk_q 33 = 0 := rfl
  have ef33 : pk_f 33 = 0 := rfl
  have em33 : pk_m 33 = 1 := rfl
  have eoff33 : pk_off 33 = 2 := rfl
  have ek33 : pk_k r 33 = 0 := rfl
  replace p3 : pt_ok (h 74) ht st rg (h 0 113) (h 0 88) (h 0 77) r (pi_wn h r) (33, a, b) s (ht (h 0 113).toNat - 0) (h 0 109) (st (h 0 113).toNat) tu := p3
  unfold pt_ok at p3; dsimp only at p3
  replace p4 : pt (h 74) ht st rg (h 0 113) (h 0 88) (h 0 77) r tf (pi_wn h r) s (0) ((h 0 109) - 1) (st (h 0 113).toNat) (tu) := p4
  obtain ⟨-, xc, xt, ⟨xe, xu1, xu2⟩, -, -, -, -, -, -, -, -, -, -, -, -, -, -, -, -, -, -, -, -, -, -, -, -, xo33, -, -, -⟩ := p3
  replace xo33 := xo33 (by omega)
  have w0 := (gF_wTop g).1
  obtain ⟨hi0, h200⟩ := hin (show (33 : Int) ≠ 36 by decide)
  have hcd : (h 70) ((h 0 109) - 1).toNat < (h 0 95) ∧ (h 67) ((h 70) ((h 0 109) - 1).toNat).toNat = (h 0 85) := hT ((h 0 109) - 1).toNat (by omega)
  have gc := gC_treePile g ((h 0 109) - 1).toNat
  have hcd2 : (h 70) ((h 0 109) - 1 - 1).toNat < (h 0 95) ∧ (h 67) ((h 70) ((h 0 109) - 1 - 1).toNat).toNat = (h 0 85) := hT ((h 0 109) - 1 - 1).toNat (by omega)
  have gc2 := gC_treePile g ((h 0 109) - 1 - 1).toNat
  generalize hH : ja_up (ja_up (ja_up (mo_N (ja_up h 0 109 ((h 0 109) - 1)) 13 ((h 70) ((h 0 109) - 1 - 1).toNat) ((h 70) ((h 0 109) - 1).toNat) ((h 0 7)) ip) 66 ((h 0 95)).toNat tw) 65 ((h 0 95)).toNat bi) 70 ((h 0 109) - 1 - 1).toNat ((h 0 95)) = H
  have e1 : (H 0 18) = (h 0 18) ∧ (H 0 113) = (h 0 113) ∧ (H 0 7) = (h 0 7) ∧ (H 0 95) = (h 0 95) + 1 ∧ (H 0 68) = (h 0 68) ∧ (H 0 72) = (h 0 72) ∧ (H 0 84) = (h 0 84) ∧ (H 0 87) = (h 0 87) ∧ (H 0 74) = (h 0 74) ∧ (H 0 79) = (h 0 79) ∧ (H 0 77) = (h 0 77) ∧ (H 0 86) = (h 0 86) ∧ (H 0 109) = (h 0 109) - 1 ∧ (H 0 88) = (h 0 88) ∧ (H 0 85) = (h 0 85) := by
    subst hH; exact ⟨rfl, rfl, rfl, rfl, rfl, rfl, rfl, rfl, rfl, rfl, rfl, rfl, rfl, rfl, rfl⟩
  have agN : mo_ag FNN h H := by subst hH; unfold mo_N; (repeat (refine ag_up rfl ?_)); exact ag_refl
  have agk : mo_ag FK h H := by subst hH; unfold mo_N; (repeat (refine ag_up rfl ?_)); exact ag_refl
  have hf : (H 0 11) = (h 0 11) := by subst hH; rfl
  have hv : ∀ k a b, pw_wt h k a b → pw_wt H k a b := by subst hH; exact fun _ _ _ z => z
  have hS' : pk_S H (H 0 17).toNat s := by subst hH; exact pk_S_ag (by unfold mo_N; (repeat (refine ag_up rfl ?_)); exact ag_refl) hS
  have old : nd_old h H := by
    subst hH
    refine ⟨fun j hj => ⟨?_, ?_, ?_, ?_, ?_⟩, fun j hj => rfl, fun j hj => rfl, us_same rfl⟩ <;> simp [mo_N, ja_up] <;> (intros; omega)
  have nw : (H 58) (h 0 95).toNat = 13 ∧ (H 59) (h 0 95).toNat = (h 70) ((h 0 109) - 1 - 1).toNat ∧ (H 60) (h 0 95).toNat = (h 70) ((h 0 109) - 1).toNat ∧ (H 67) (h 0 95).toNat = ip := by
    subst hH; refine ⟨?_, ?_, ?_, ?_⟩ <;> simp [mo_N, ja_up]
  have htp : ∀ k : Nat, (k : Int) < (H 0 109) → ((k : Int) < (h 0 109) ∧ (H 70) k = (h 70) k) ∨ (H 70) k = (h 0 95) := by
    intro k hk
    rw [e1.2.2.2.2.2.2.2.2.2.2.2.2.1] at hk
    subst hH
    by_cases e : k = ((h 0 109) - 1 - 1).toNat
    · right; simp [mo_N, ja_up, e]
    · left
      refine ⟨by omega, ?_⟩
      simp [mo_N, ja_up, e] <;> (intros; omega)
  clear hH
  obtain ⟨v1, v2, v3, v4, v5, v6, v7, v8, v9, v10, v11, v12, v13, v14, v15⟩ := e1
  have hpn : pn H ht st rg (h 0 113) (h 0 95).toNat := by
    obtain ⟨w1, w2, w3, w4⟩ := nw
    unfold pn
    rw [w1, w2, w3, w4]
    exact ⟨fun _ => ⟨by omega, by omega, by omega, by omega, by rw [(old.1 _ (by omega)).2.2.2.2, hcd2.2, hip], by rw [(old.1 _ (by omega)).2.2.2.2, hcd.2, hip]⟩, fun z => absurd z (by decide), fun z => absurd z (by decide), fun z => absurd z (by decide), fun z => absurd z (by decide), fun z => absurd z (by decide)⟩
  refine ⟨⟨s, ht, st, rg, tu, ⟨hS', ?_⟩, ?_⟩, agk⟩
  · refine piBN hB agN (fun z => by rw [← hf]; exact z) hv (pi_N_new g hNo v4 old (fun z => by rw [← hf]; exact z) hv hpn) (pi_T_new hT v4 old v15 (nw.2.2.2.trans hip) g htp) (fun n hn => ⟨by omega, (old.1 n hn).2.2.2.2⟩) (by omega) (fun w q => ?_) (fun p q z => q (pp_cons.mpr (Or.inr z))) (by omega) (by omega) (by omega) (by omega) (by omega) (by omega) ⟨by omega, by omega, fun q => ?_⟩ (Or.inr ⟨hph, ⟨hr, htu⟩, hal, Or.inr ⟨hni, by omega, h200⟩⟩) ?_ (fin_top0 (show (33 : Int) ≠ 1 by decide) p2' (fun q => absurd q (by dsimp only; omega)))
    · rcases pj_cons.mp q with q | q
      · exact absurd q ((idle_of (show (33 : Int) ≠ 4 ∧ (33 : Int) ≠ 21 ∧ (33 : Int) ≠ 22 ∧ (33 : Int) ≠ 28 ∧ (33 : Int) ≠ 24 by decide)) w)
      · exact q
    · rw [v11]; exact b4 (fun z => q (fun y hy => z y (List.mem_cons_of_mem _ hy)))
    · rw [v11, v13, fin_adj p2' (show (33 : Int) ≠ 8 ∧ (33 : Int) ≠ 9 by decide)]
      exact pt_eq (by omega) (by omega) (by omega) p4
  · show 40 * (900 - (H 0 7)) + pk_sum pk_m s + 13 < 40 * (900 - (h 0 7)) + (pk_m 33 + pk_sum pk_m s) + 13
    rw [v3]; omega

theorem ab_or_n {h : ja_H} {R r ph q0 : Int} {tf : mo_TF} {s : List mo_A} {ht st rg : Nat → Int} {tu a b : Int} (g : mo_G Zz h) (hS : pk_S h (h 0 17).toNat s) (hB : piB h R r ph tf q0 ((33, a, b) :: s) ht st rg tu) {tw bi ip : Int} (hip : ip = (h 0 85)) : pi_done h (ja_up (ja_up (ja_up (mo_N (ja_up h 0 109 ((h 0 109) - 1)) 14 ((h 70) ((h 0 109) - 1 - 1).toNat) ((h 70) ((h 0 109) - 1).toNat) ((h 0 7)) ip) 66 ((h 0 95)).toNat tw) 65 ((h 0 95)).toNat bi) 70 ((h 0 109) - 1 - 1).toNat ((h 0 95))) R r ph tf q0 (pi_mu h ((33, a, b) :: s)) := by
  obtain ⟨N2, N3, N4, N5, N6, N7, N8, N9, N10, N11, N12, N13, ⟨NK1, NK2⟩, ND1, ND2, ND3, NU1, NU2⟩ := piB_numv g hB
  obtain ⟨hni, hph, hr, htu, hal, hin, hin36⟩ := pif_31 hB (by dsimp only; omega)
  obtain ⟨⟨n1, n2, n3, n4, n5, n6, n7, n8, n9⟩, ⟨b1, b2, b3, b4⟩, reg, hpt, ⟨hC, hU⟩, hNo, hP, hT, top⟩ := id hB
  obtain ⟨⟨⟨p1, p1'⟩, p1u⟩, ⟨p2, p2'⟩, p3, p4⟩ := hpt
  simp only [pk_sum] at n1 n2 n3 n6 n7
  dsimp only at p2 p2' N6
  have gt := gF_treeTop g
  have gn := gF_nodes g
  have W0 : 0 ≤ (h 0 113) := (gF_words g).1
  have ec33 : pk_c 33 = 0 := rfl
  have ev33 : pk_v 33 = 0 := rfl
  have ed33 : pk_d 33 = 1 := rfl
  have eq33 : pk_q 33 = 0 := rfl
  have ef33 : pk_f 33 = 0 := rfl
  have em33 : pk_m 33 = 1 := rfl
  have eoff33 : pk_off 33 = 2 := rfl
  have ek33 : pk_k r 33 = 0 := rfl
  replace p3 : pt_ok (h 74) ht st rg (h 0 113) (h 0 88) (h 0 77) r (pi_wn h r) (33, a, b) s (ht (h 0 113).toNat - 0) (h 0 109) (st (h 0 113).toNat) tu := p3
  unfold pt_ok at p3; dsimp only at p3
  replace p4 : pt (h 74) ht st rg (h 0 113) (h 0 88) (h 0 77) r tf (pi_wn h r) s (0) ((h 0 109) - 1) (st (h 0 113).toNat) (tu) := p4
  obtain ⟨-, xc, xt, ⟨xe, xu1, xu2⟩, -, -, -, -, -, -, -, -, -, -, -, -, -, -, -, -, -, -, -, -, -, -, -, -, xo33, -, -, -⟩ := p3
  replace xo33 := xo33 (by omega)
  have w0 := (gF_wTop g).1
  obtain ⟨hi0, h200⟩ := hin (show (33 : Int) ≠ 36 by decide)
  have hcd : (h 70) ((h 0 109) - 1).toNat < (h 0 95) ∧ (h 67) ((h 70) ((h 0 109) - 1).toNat).toNat = (h 0 85) := hT ((h 0 109) - 1).toNat (by omega)
  have gc := gC_treePile g ((h 0 109) - 1).toNat
  have hcd2 : (h 70) ((h 0 109) - 1 - 1).toNat < (h 0 95) ∧ (h 67) ((h 70) ((h 0 109) - 1 - 1).toNat).toNat = (h 0 85) := hT ((h 0 109) - 1 - 1).toNat (by omega)
  have gc2 := gC_treePile g ((h 0 109) - 1 - 1).toNat
  generalize hH : ja_up (ja_up (ja_up (mo_N (ja_up h 0 109 ((h 0 109) - 1)) 14 ((h 70) ((h 0 109) - 1 - 1).toNat) ((h 70) ((h 0 109) - 1).toNat) ((h 0 7)) ip) 66 ((h 0 95)).toNat tw) 65 ((h 0 95)).toNat bi) 70 ((h 0 109) - 1 - 1).toNat ((h 0 95)) = H
  have e1 : (H 0 18) = (h 0 18) ∧ (H 0 113) = (h 0 113) ∧ (H 0 7) = (h 0 7) ∧ (H 0 95) = (h 0 95) + 1 ∧ (H 0 68) = (h 0 68) ∧ (H 0 72) = (h 0 72) ∧ (H 0 84) = (h 0 84) ∧ (H 0 87) = (h 0 87) ∧ (H 0 74) = (h 0 74) ∧ (H 0 79) = (h 0 79) ∧ (H 0 77) = (h 0 77) ∧ (H 0 86) = (h 0 86) ∧ (H 0 109) = (h 0 109) - 1 ∧ (H 0 88) = (h 0 88) ∧ (H 0 85) = (h 0 85) := by
    subst hH; exact ⟨rfl, rfl, rfl, rfl, rfl, rfl, rfl, rfl, rfl, rfl, rfl, rfl, rfl, rfl, rfl⟩
  have agN : mo_ag FNN h H := by subst hH; unfold mo_N; (repeat (refine ag_up rfl ?_)); exact ag_refl
  have agk : mo_ag FK h H := by subst hH; unfold mo_N; (repeat (refine ag_up rfl ?_)); exact ag_refl
  have hf : (H 0 11) = (h 0 11) := by subst hH; rfl
  have hv : ∀ k a b, pw_wt h k a b → pw_wt H k a b := by subst hH; exact fun _ _ _ z => z
  have hS' : pk_S H (H 0 17).toNat s := by subst hH; exact pk_S_ag (by unfold mo_N; (repeat (refine ag_up rfl ?_)); exact ag_refl) hS
  have old : nd_old h H := by
    subst hH
    refine ⟨fun j hj => ⟨?_, ?_, ?_, ?_, ?_⟩, fun j hj => rfl, fun j hj => rfl, us_same rfl⟩ <;> simp [mo_N, ja_up] <;> (intros; omega)
  have nw : (H 58) (h 0 95).toNat = 14 ∧ (H 59) (h 0 95).toNat = (h 70) ((h 0 109) - 1 - 1).toNat ∧ (H 60) (h 0 95).toNat = (h 70) ((h 0 109) - 1).toNat ∧ (H 67) (h 0 95).toNat = ip := by
    subst hH; refine ⟨?_, ?_, ?_, ?_⟩ <;> simp [mo_N, ja_up]
  have htp : ∀ k : Nat, (k : Int) < (H 0 109) → ((k : Int) < (h 0 109) ∧ (H 70) k = (h 70) k) ∨ (H 70) k = (h 0 95) := by
    intro k hk
    rw [e1.2.2.2.2.2.2.2.2.2.2.2.2.1] at hk
    subst hH
    by_cases e : k = ((h 0 109) - 1 - 1).toNat
    · right; simp [mo_N, ja_up, e]
    · left
      refine ⟨by omega, ?_⟩
      simp [mo_N, ja_up, e] <;> (intros; omega)
  clear hH
  obtain ⟨v1, v2, v3, v4, v5, v6, v7, v8, v9, v10, v11, v12, v13, v14, v15⟩ := e1
  have hpn : pn H ht st rg (h 0 113) (h 0 95).toNat := by
    obtain ⟨w1, w2, w3, w4⟩ := nw
    unfold pn
    rw [w1, w2, w3, w4]
    exact ⟨fun _ => ⟨by omega, by omega, by omega, by omega, by rw [(old.1 _ (by omega)).2.2.2.2, hcd2.2, hip], by rw [(old.1 _ (by omega)).2.2.2.2, hcd.2, hip]⟩, fun z => absurd z (by decide), fun z => absurd z (by decide), fun z => absurd z (by decide), fun z => absurd z (by decide), fun z => absurd z (by decide)⟩
  refine ⟨⟨s, ht, st, rg, tu, ⟨hS', ?_⟩, ?_⟩, agk⟩
  · refine piBN hB agN (fun z => by rw [← hf]; exact z) hv (pi_N_new g hNo v4 old (fun z => by rw [← hf]; exact z) hv hpn) (pi_T_new hT v4 old v15 (nw.2.2.2.trans hip) g htp) (fun n hn => ⟨by omega, (old.1 n hn).2.2.2.2⟩) (by omega) (fun w q => ?_) (fun p q z => q (pp_cons.mpr (Or.inr z))) (by omega) (by omega) (by omega) (by omega) (by omega) (by omega) ⟨by omega, by omega, fun q => ?_⟩ (Or.inr ⟨hph, ⟨hr, htu⟩, hal, Or.inr ⟨hni, by omega, h200⟩⟩) ?_ (fin_top0 (show (33 : Int) ≠ 1 by decide) p2' (fun q => absurd q (by dsimp only; omega)))
    · rcases pj_cons.mp q with q | q
      · exact absurd q ((idle_of (show (33 : Int) ≠ 4 ∧ (33 : Int) ≠ 21 ∧ (33 : Int) ≠ 22 ∧ (33 : Int) ≠ 28 ∧ (33 : Int) ≠ 24 by decide)) w)
      · exact q
    · rw [v11]; exact b4 (fun z => q (fun y hy => z y (List.mem_cons_of_mem _ hy)))
    · rw [v11, v13, fin_adj p2' (show (33 : Int) ≠ 8 ∧ (33 : Int) ≠ 9 by decide)]
      exact pt_eq (by omega) (by omega) (by omega) p4
  · show 40 * (900 - (H 0 7)) + pk_sum pk_m s + 13 < 40 * (900 - (h 0 7)) + (pk_m 33 + pk_sum pk_m s) + 13
    rw [v3]; omega

theorem ab_pif {h : ja_H} {R r ph q0 : Int} {tf : mo_TF} {s : List mo_A} {ht st rg : Nat → Int} {tu a b : Int} (g : mo_G Zz h) (hS : pk_S h (h 0 17).toNat s) (hB : piB h R r ph tf q0 ((36, a, b) :: s) ht st rg tu) {ip : Int} (hip : ip = (h 0 85)) : pi_done h (ja_up (ja_up (mo_N (mo_E (ja_up h 0 86 0) 26 0 0) 10 a 0 ((h 0 7)) ip) 70 ((h 0 109)).toNat ((h 0 95))) 0 109 ((h 0 109) + 1)) R r ph tf q0 (pi_mu h ((36, a, b) :: s)) := by
  obtain ⟨N2, N3, N4, N5, N6, N7, N8, N9, N10, N11, N12, N13, ⟨NK1, NK2⟩, ND1, ND2, ND3, NU1, NU2⟩ := piB_numv g hB
  obtain ⟨hni, hph, hr, htu, hal, hin, hin36⟩ := pif_31 hB (by dsimp only; omega)
  obtain ⟨⟨n1, n2, n3, n4, n5, n6, n7, n8, n9⟩, ⟨b1, b2, b3, b4⟩, reg, hpt, ⟨hC, hU⟩, hNo, hP, hT, top⟩ := id hB
  obtain ⟨⟨⟨p1, p1'⟩, p1u⟩, ⟨p2, p2'⟩, p3, p4⟩ := hpt
  simp only [pk_sum] at n1 n2 n3 n6 n7
  dsimp only at p2 p2' N6
  have gt := gF_treeTop g
  have gn := gF_nodes g
  have W0 : 0 ≤ (h 0 113) := (gF_words g).1
  have ec36 : pk_c 36 = 0 := rfl
  have ev36 : pk_v 36 = 1 := rfl
  have ed36 : pk_d 36 = 1 := rfl
  have eq36 : pk_q 36 = 0 := rfl
  have ef36 : pk_f 36 = 0 := rfl
  have em36 : pk_m 36 = 1 := rfl
  have eoff36 : pk_off 36 = 2 := rfl
  have ek36 : pk_k r 36 = 0 := rfl
  replace p3 : pt_ok (h 74) ht st rg (h 0 113) (h 0 88) (h 0 77) r (pi_wn h r) (36, a, b) s (ht (h 0 113).toNat - 0) (h 0 109) (st (h 0 113).toNat) tu := p3
  unfold pt_ok at p3; dsimp only at p3
  replace p4 : pt (h 74) ht st rg (h 0 113) (h 0 88) (h 0 77) r tf (pi_wn h r) s (0) ((h 0 109) + 1) (st (h 0 113).toNat) (tu) := p4
  obtain ⟨-, xc, xt, ⟨xe, xu1, xu2⟩, -, -, -, -, -, -, -, -, -, -, -, -, -, -, -, -, -, -, -, -, -, -, -, -, -, -, xo36, -⟩ := p3
  replace xo36 := xo36 (by omega)
  have w0 := (gF_wTop g).1
  obtain ⟨hi1, h4⟩ := hin36 rfl
  obtain ⟨z1, z2, z3, z4, z5⟩ := xo36.2.2.1
  generalize hH : ja_up (ja_up (mo_N (mo_E (ja_up h 0 86 0) 26 0 0) 10 a 0 ((h 0 7)) ip) 70 ((h 0 109)).toNat ((h 0 95))) 0 109 ((h 0 109) + 1) = H
  have e1 : (H 0 18) = (h 0 18) ∧ (H 0 113) = (h 0 113) + 1 ∧ (H 0 7) = (h 0 7) ∧ (H 0 95) = (h 0 95) + 1 ∧ (H 0 68) = (h 0 68) ∧ (H 0 72) = (h 0 72) ∧ (H 0 84) = (h 0 84) ∧ (H 0 87) = (h 0 87) ∧ (H 0 74) = (h 0 74) ∧ (H 0 79) = (h 0 79) ∧ (H 0 77) = (h 0 77) ∧ (H 0 86) = 0 ∧ (H 0 109) = (h 0 109) + 1 ∧ (H 0 88) = (h 0 88) ∧ (H 0 85) = (h 0 85) := by
    subst hH; exact ⟨rfl, rfl, rfl, rfl, rfl, rfl, rfl, rfl, rfl, rfl, rfl, rfl, rfl, rfl, rfl⟩
  have agk : mo_ag FK h H := by subst hH; unfold mo_N mo_E; (repeat (refine ag_up rfl ?_)); exact ag_refl
  have agP : mo_ag FP h H := by subst hH; unfold mo_N mo_E; (repeat (refine ag_up rfl ?_)); exact ag_refl
  have hf : (H 0 11) = (h 0 11) := by subst hH; rfl
  have hasp : (H 0 76) = (h 0 76) := by subst hH; rfl
  have hv : ∀ k a b, pw_wt h k a b → pw_wt H k a b := by subst hH; exact fun _ _ _ z => z
  have hS' : pk_S H (H 0 17).toNat s := by subst hH; exact pk_S_ag (by unfold mo_N mo_E; (repeat (refine ag_up rfl ?_)); exact ag_refl) hS
  have k1 : (H 52) = (h 52) := by subst hH; rfl
  have k2 : (H 55) = (h 55) := by subst hH; rfl
  have old : nd_old h H := by
    subst hH
    refine ⟨fun j hj => ⟨?_, ?_, ?_, ?_, ?_⟩, fun j hj => rfl, fun j hj => rfl, us_same rfl⟩ <;> simp [mo_N, mo_E, ja_up] <;> (intros; omega)
  have nw : (H 58) (h 0 95).toNat = 10 ∧ (H 59) (h 0 95).toNat = a ∧ (H 60) (h 0 95).toNat = 0 ∧ (H 67) (h 0 95).toNat = ip := by
    subst hH; refine ⟨?_, ?_, ?_, ?_⟩ <;> simp [mo_N, mo_E, ja_up]
  have hpo : ∀ w : Nat, (w : Int) < (h 0 113) → (H 74) w = (h 74) w ∧ (H 76) w = (h 76) w ∧ (H 75) w = (h 75) w := by
    intro w hw; subst hH; refine ⟨?_, ?_, ?_⟩ <;> simp [mo_N, mo_E, ja_up] <;> (intros; omega)
  have ho : (H 74) (h 0 113).toNat = 26 ∧ (H 75) (h 0 113).toNat = 0 ∧ (H 76) (h 0 113).toNat = 0 := by
    subst hH; refine ⟨?_, ?_, ?_⟩ <;> simp [mo_N, mo_E, ja_up]
  have htp : ∀ k : Nat, (k : Int) < (H 0 109) → ((k : Int) < (h 0 109) ∧ (H 70) k = (h 70) k) ∨ (H 70) k = (h 0 95) := by
    intro k hk
    rw [e1.2.2.2.2.2.2.2.2.2.2.2.2.1] at hk
    subst hH
    by_cases e : k = ((h 0 109)).toNat
    · right; simp [mo_N, mo_E, ja_up, e]
    · left
      refine ⟨by omega, ?_⟩
      simp [mo_N, mo_E, ja_up, e] <;> (intros; omega)
  clear hH
  obtain ⟨v1, v2, v3, v4, v5, v6, v7, v8, v9, v10, v11, v12, v13, v14, v15⟩ := e1
  have hwn : ∀ y, pi_wn h r y → pi_wn H r y := by
    intro y z
    unfold pi_wn at z ⊢
    rw [hf, v14, k1, k2, hasp]
    exact ⟨⟨z.1.1, nf_more (fun n hn => ⟨by omega, (old.1 n hn).2.2.2.2⟩) z.1.2⟩, fun u e => ⟨(z.2.1 u e).1, hv _ _ _ (z.2.1 u e).2⟩, z.2.2⟩
  have ex : ∀ j : Nat, (j : Int) ≤ (h 0 113) → mo_x ht (h 0 113) 0 j = ht j ∧ mo_x st (h 0 113) 0 j = st j ∧ mo_x rg (h 0 113) 200 j = rg j := fun j hj => ⟨mo_xo W0 hj, mo_xo W0 hj, mo_xo W0 hj⟩
  have hpn : pn H (mo_x ht (h 0 113) 0) (mo_x st (h 0 113) 0) (mo_x rg (h 0 113) 200) (H 0 113) (h 0 95).toNat := by
    obtain ⟨w1, w2, w3, w4⟩ := nw
    unfold pn
    rw [w1, w2, w3, w4, v2]
    exact ⟨(fun z => absurd z (by decide)), (fun z => absurd z (by decide)), fun _ => ⟨z1, by omega, (mo_xo W0 (by omega)).trans z3, (mo_xo W0 (by omega)).trans (by omega)⟩, (fun z => absurd z (by decide)), (fun z => absurd z (by decide)), (fun z => absurd z (by decide))⟩
  have hN1 : pi_N h (mo_x ht (h 0 113) 0) (mo_x st (h 0 113) 0) (mo_x rg (h 0 113) 200) (H 0 113) := pi_N_ext (by omega) (fun j hj => ⟨(ex j (by omega)).1, (ex j (by omega)).2.2⟩) ag_refl hNo
  refine ⟨⟨s, mo_x ht (h 0 113) 0, mo_x st (h 0 113) 0, mo_x rg (h 0 113) 200, tu, ⟨hS', ⟨by omega, by omega, by omega, by omega, by omega, by omega, by omega, n8, n9⟩, ⟨v9.trans b1, by omega, by omega, fun q => ?_⟩, ?_, ?_, ⟨?_, ?_⟩, pi_N_new g hN1 v4 old (fun z => by rw [← hf]; exact z) hv hpn, pi_P_ag agP hP, pi_T_new hT v4 old v15 (nw.2.2.2.trans hip) g htp, fin_top0 (show (36 : Int) ≠ 1 by decide) p2' (fun q => absurd q (by dsimp only; omega))⟩, ?_⟩, agk⟩
  · rw [v11]; exact b4 (fun z => q (fun y hy => z y (List.mem_cons_of_mem _ hy)))
  · rw [v2, v12, mo_xn W0]
    exact Or.inr ⟨hph, ⟨hr, htu⟩, hal, Or.inr ⟨hni, rfl, rfl⟩⟩
  · rw [v2, v11, v13, v14, mo_xn W0, mo_xn W0, fin_adj p2' (show (36 : Int) ≠ 8 ∧ (36 : Int) ≠ 9 by decide)]
    exact pt_ext (show (h 0 113) ≤ (h 0 113) + 1 by omega) (Int.le_refl _) (Int.le_refl _) hwn (fun j hj => ⟨fun q => (hpo j q).1, (ex j hj).1, (ex j hj).2.1, (ex j hj).2.2⟩) (pt_eq (show _ = (0 : Int) - 0 by omega) (show _ = (h 0 109) + 1 by omega) (show _ = (0 : Int) by omega) p4)
  · refine pi_C_X hC (fun z => by rw [← hf]; exact z) hv (by omega) (fun w hw z _ _ q => ⟨by unfold pw_pop; rw [k1, k2], fun y => q (pp_cons.mpr (Or.inr y))⟩) (by omega) ex (fun w hw => ⟨(hpo w hw).1, (hpo w hw).2.1, Or.inl ⟨(hpo w hw).2.2, fun q => ?_⟩⟩) (fun w h1 h2 => ?_)
    · rcases pj_cons.mp q with q | q
      · exact absurd q ((idle_of (show (36 : Int) ≠ 4 ∧ (36 : Int) ≠ 21 ∧ (36 : Int) ≠ 22 ∧ (36 : Int) ≠ 28 ∧ (36 : Int) ≠ 24 by decide)) w)
      · exact q
    · have e : w = (h 0 113).toNat := by omega
      subst e
      unfold pw
      rw [ho.1, ho.2.1, ho.2.2, v2, mo_xw, mo_xw, mo_xw, mo_xn', mo_xn', mo_xn']
      exact ⟨⟨by decide, by decide⟩, ⟨by omega, by omega⟩, ⟨by omega, by omega, by omega⟩, by omega, (show (0 : Int) ≤ _ by omega), fun _ => ⟨rfl, rfl⟩, fun z => absurd rfl z, (fun z => absurd z (by decide)), (fun z => absurd z (by decide)), fun z => absurd z (by unfold pw_jmp; decide), (fun z => absurd z (by decide)), (fun z => absurd z (by decide)), (fun z => absurd z (by decide)), (fun z => absurd z (by decide)), (fun z => absurd z (by decide)), fun _ => ⟨⟨h4, by omega, fun z => absurd z (by decide)⟩, Or.inr (Or.inr (Or.inr (Or.inr (Or.inr rfl))))⟩⟩
  · refine pi_U_X hU (fun w hw => ⟨(hpo w hw).1, fun _ => (hpo w hw).2.2⟩) (fun w v h0 h1 h2 _ z => ?_)
    have e : v = (h 0 113).toNat := by omega
    rw [e, ho.1] at z; exact absurd z (by decide)
  · show 40 * (900 - (H 0 7)) + pk_sum pk_m s + 13 < 40 * (900 - (h 0 7)) + (pk_m 36 + pk_sum pk_m s) + 13
    rw [v3]; omega
