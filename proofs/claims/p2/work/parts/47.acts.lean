/-! the reference's parser: what keeps a value -/
variable {Zz : Zc}
theorem ab_ev_pop {h : ja_H} {R r ph q0 : Int} {tf : mo_TF} {s : List mo_A} {ht st rg : Nat → Int} {tu a b : Int} (g : mo_G Zz h) (hS : pk_S h (h 0 17).toNat s) (hB : piB h R r ph tf q0 ((18, a, b) :: s) ht st rg tu)  : pi_done h (mo_E (mo_tk (h)) 17 0 0) R r ph tf q0 (pi_mu h ((18, a, b) :: s)) := by
  have hN := piB_num g hS hB
  obtain ⟨N1, N2, N3, N4, N5, N6, N7, N8, N9, N10, N11, N12, N13, ⟨NK1, NK2⟩, ND1, ND2, ND3, NU1, NU2⟩ := hN
  obtain ⟨⟨n1, n2, n3, n4, n5, n6, n7, n8, n9⟩, ⟨b1, b2, b3, b4⟩, reg, hpt, ⟨hC, hU⟩, hNo, hP, hT, top⟩ := id hB
  obtain ⟨⟨⟨p1, p1'⟩, p1u⟩, ⟨p2, p2'⟩, p3, p4⟩ := hpt
  have w0 := (gF_wTop g).1
  simp only [pk_sum] at n1 n2 n3 n6 n7
  dsimp only at p2 p2' N6
  have ec18 : pk_c 18 = 0 := rfl
  have ev18 : pk_v 18 = 1 := rfl
  have ed18 : pk_d 18 = 0 := rfl
  have eq18 : pk_q 18 = 0 := rfl
  have ef18 : pk_f 18 = 0 := rfl
  have em18 : pk_m 18 = 1 := rfl
  have eoff18 : pk_off 18 = 1 := rfl
  have ek18 : pk_k r 18 = 0 := rfl
  replace p3 : pt_ok (h 74) ht st rg (h 0 113) (h 0 88) (h 0 77) r (pi_wn h r) (18, a, b) s (ht (h 0 113).toNat - 0) (h 0 109) (st (h 0 113).toNat) tu := p3
  unfold pt_ok at p3; dsimp only at p3
  replace p4 : pt (h 74) ht st rg (h 0 113) (h 0 88) (h 0 77) r tf (pi_wn h r) s (0) ((h 0 109)) (0) (tu) := p4
  obtain ⟨-, xc, xt, ⟨xe, xu1, xu2⟩, -, -, -, -, -, -, -, -, -, -, -, -, -, -, xo17, -, -, -, -, -, -, -, -, -, -, -, -, xo18⟩ := p3
  replace xo17 := xo17 (by omega)
  have xq1o17 := xo17.1
  have xq2o17 := xo17.2.1
  replace xo18 := xo18 (by omega)
  have hr := reg_of hB (by dsimp only; omega) (by dsimp only; omega)
  have hbo := gF_body g
  have w0 := (gF_wTop g).1
  have W0 : 0 ≤ (h 0 113) := (gF_words g).1
  have hr4 : 0 ≤ r ∧ r ≤ 3 ∧ (r = 4 → tu = 0) := by
    rcases reg with ⟨q1, q2, -⟩ | ⟨q1, q2, q3, -⟩
    · omega
    · have := q3 _ List.mem_cons_self; dsimp only at this; omega
  have ho : (mo_E (mo_tk (h)) 17 0 0) 74 (h 0 113).toNat = 17 := by simp [mo_L, mo_E, mo_tk, ja_up]
  have hA : (mo_E (mo_tk (h)) 17 0 0) 75 (h 0 113).toNat = 0 := by simp [mo_L, mo_E, mo_tk, ja_up]
  have hBB : (mo_E (mo_tk (h)) 17 0 0) 76 (h 0 113).toNat = 0 := by simp [mo_L, mo_E, mo_tk, ja_up]
  have hold : ∀ w : Nat, (w : Int) < (h 0 113) → (mo_E (mo_tk (h)) 17 0 0) 74 w = (h 74) w ∧ (mo_E (mo_tk (h)) 17 0 0) 75 w = (h 75) w ∧ (mo_E (mo_tk (h)) 17 0 0) 76 w = (h 76) w := by
    intro w hw; refine ⟨?_, ?_, ?_⟩ <;> simp [mo_L, mo_E, mo_tk, ja_up] <;> (intros; omega)
  have hext : ∀ j : Nat, (j : Int) ≤ (h 0 113) → ((j : Int) < (h 0 113) → (mo_E (mo_tk (h)) 17 0 0) 74 j = (h 74) j) ∧ mo_x ht (h 0 113) (0) j = ht j ∧ mo_x st (h 0 113) (0) j = st j ∧ mo_x rg (h 0 113) (r + 8 * tu) j = rg j := fun j hj => ⟨fun q => (hold j q).1, mo_xo W0 (by omega), mo_xo W0 (by omega), mo_xo W0 (by omega)⟩
  refine fin1 (c1 := 0) (e1 := 0) (tu1 := tu) (Or.inl rfl) g hB (by dsimp only; omega) (pk_S_E (pk_S_ag (ag_up rfl ag_refl) hS)) (by (try unfold mo_L); (try unfold mo_E); (try unfold mo_tk); (repeat (refine ag_up rfl ?_)); exact ag_refl) rfl hold (by rw [ho]; decide) (idle_of (show (18 : Int) ≠ 4 ∧ (18 : Int) ≠ 21 ∧ (18 : Int) ≠ 22 ∧ (18 : Int) ≠ 28 ∧ (18 : Int) ≠ 24 by decide)) (fun _ q => q) (fun p q => pp_cons.mpr (Or.inr q)) ?_ ?_ ?_ ?_ ?_ ?_ ⟨?_, ?_, ?_⟩ (pi_if_tail (show (18 : Int) ≠ 36 by decide)) ⟨(fun q y hy => q y (List.mem_cons_of_mem _ hy)), (fun q y hy => q y (List.mem_cons_of_mem _ hy))⟩ ?_ ?_ (fin_top0 (show (18 : Int) ≠ 1 by decide) p2' (fun q => absurd q (by dsimp only; omega))) ?_ (by (try unfold mo_L); (try unfold mo_E); (try unfold mo_tk); (repeat (refine ag_up rfl ?_)); exact ag_refl)
  · show (h 0 18) = _; (try simp only [pk_sum]); omega
  · show (h 0 113) + 1 + _ < 5 * ((h 0 7) + 1); (try simp only [pk_sum]); omega
  · show (h 0 95) + _ < (h 0 7) + 1; (try simp only [pk_sum]); omega
  · show (h 0 7) ≤ (h 0 7) + 1; omega
  · show (h 0 84) = _; (try simp only [pk_sum]); omega
  · show (h 0 87) = _; (try simp only [pk_sum]); omega
  · show ph = 1 ∨ (h 0 79) ≤ (h 0 77); omega
  · show ph = 1 ∨ (h 0 77) ≤ 10; omega
  · intro q; show ph = 1 ∨ (h 0 77) ≤ 9; exact b4 (fun z => q (fun y hy => z y (List.mem_cons_of_mem _ hy)))
  · unfold pw; rw [ho, hA, hBB, mo_xw, mo_xw, mo_xw, mo_xn', mo_xn', mo_xn']; exact ⟨⟨by decide, by decide⟩, ⟨by omega, by omega⟩, ⟨by omega, by omega, by omega⟩, by omega, (show (1 : Int) ≤ ht (h 0 113).toNat by omega), fun z => absurd z (by decide), fun _ => ⟨(show 0 = ht (h 0 113).toNat + (-1) by omega), (show r + 8 * tu = rg (h 0 113).toNat + 8 * 0 by omega), by omega, fun _ => by omega⟩, fun z => absurd z (by decide), fun z => absurd z (by decide), fun z => absurd z (by unfold pw_jmp; decide), fun z => absurd z (by decide), fun z => absurd z (by decide), fun z => absurd z (by decide), fun z => absurd z (by decide), fun z => absurd z (by decide), fun z => ⟨⟨by omega, by omega, fun z => absurd z (by decide)⟩, by first | decide | (exfalso; omega)⟩⟩
  · rw [fin_adj p2' (show (18 : Int) ≠ 8 ∧ (18 : Int) ≠ 9 by decide)]; exact pt_eq (show _ = 0 - 0 by omega) (show _ = (h 0 109) by omega) (show _ = 0 by omega) (pt_ext (show (h 0 113) ≤ (h 0 113) + 1 by omega) (Int.le_refl _) (show (h 0 77) ≤ (h 0 77) by omega) (fun _ q => q) hext p4)
  · show 40 * (900 - ((h 0 7) + 1)) + pk_sum pk_m (s) + 13 < 40 * (900 - (h 0 7)) + pk_sum pk_m ((18, a, b) :: s) + 13; (try simp only [pk_sum]); omega

theorem ab_pop25 {h : ja_H} {R r ph q0 : Int} {tf : mo_TF} {s : List mo_A} {ht st rg : Nat → Int} {tu a b : Int} (g : mo_G Zz h) (hS : pk_S h (h 0 17).toNat s) (hB : piB h R r ph tf q0 ((25, a, b) :: s) ht st rg tu)  : pi_done h (mo_E (h) 17 0 0) R r ph tf q0 (pi_mu h ((25, a, b) :: s)) := by
  have hN := piB_num g hS hB
  obtain ⟨N1, N2, N3, N4, N5, N6, N7, N8, N9, N10, N11, N12, N13, ⟨NK1, NK2⟩, ND1, ND2, ND3, NU1, NU2⟩ := hN
  obtain ⟨⟨n1, n2, n3, n4, n5, n6, n7, n8, n9⟩, ⟨b1, b2, b3, b4⟩, reg, hpt, ⟨hC, hU⟩, hNo, hP, hT, top⟩ := id hB
  obtain ⟨⟨⟨p1, p1'⟩, p1u⟩, ⟨p2, p2'⟩, p3, p4⟩ := hpt
  have w0 := (gF_wTop g).1
  simp only [pk_sum] at n1 n2 n3 n6 n7
  dsimp only at p2 p2' N6
  have ec25 : pk_c 25 = 0 := rfl
  have ev25 : pk_v 25 = 1 := rfl
  have ed25 : pk_d 25 = 0 := rfl
  have eq25 : pk_q 25 = 0 := rfl
  have ef25 : pk_f 25 = 0 := rfl
  have em25 : pk_m 25 = 1 := rfl
  have eoff25 : pk_off 25 = 1 := rfl
  have ek25 : pk_k r 25 = 0 := rfl
  replace p3 : pt_ok (h 74) ht st rg (h 0 113) (h 0 88) (h 0 77) r (pi_wn h r) (25, a, b) s (ht (h 0 113).toNat - 0) (h 0 109) (st (h 0 113).toNat) tu := p3
  unfold pt_ok at p3; dsimp only at p3
  replace p4 : pt (h 74) ht st rg (h 0 113) (h 0 88) (h 0 77) r tf (pi_wn h r) s (0) ((h 0 109)) (0) (tu) := p4
  obtain ⟨-, xc, xt, ⟨xe, xu1, xu2⟩, -, -, -, -, -, -, -, -, -, -, -, -, -, -, xo17, -, -, -, -, -, -, -, -, -, -, -, -, -⟩ := p3
  replace xo17 := xo17 (by omega)
  have xq1o17 := xo17.1
  have xq2o17 := xo17.2.1
  have hr := reg_of hB (by dsimp only; omega) (by dsimp only; omega)
  have hbo := gF_body g
  have w0 := (gF_wTop g).1
  have W0 : 0 ≤ (h 0 113) := (gF_words g).1
  have hr4 : 0 ≤ r ∧ r ≤ 3 ∧ (r = 4 → tu = 0) := by
    rcases reg with ⟨q1, q2, -⟩ | ⟨q1, q2, q3, -⟩
    · omega
    · have := q3 _ List.mem_cons_self; dsimp only at this; omega
  have ho : (mo_E (h) 17 0 0) 74 (h 0 113).toNat = 17 := by simp [mo_L, mo_E, mo_tk, ja_up]
  have hA : (mo_E (h) 17 0 0) 75 (h 0 113).toNat = 0 := by simp [mo_L, mo_E, mo_tk, ja_up]
  have hBB : (mo_E (h) 17 0 0) 76 (h 0 113).toNat = 0 := by simp [mo_L, mo_E, mo_tk, ja_up]
  have hold : ∀ w : Nat, (w : Int) < (h 0 113) → (mo_E (h) 17 0 0) 74 w = (h 74) w ∧ (mo_E (h) 17 0 0) 75 w = (h 75) w ∧ (mo_E (h) 17 0 0) 76 w = (h 76) w := by
    intro w hw; refine ⟨?_, ?_, ?_⟩ <;> simp [mo_L, mo_E, mo_tk, ja_up] <;> (intros; omega)
  have hext : ∀ j : Nat, (j : Int) ≤ (h 0 113) → ((j : Int) < (h 0 113) → (mo_E (h) 17 0 0) 74 j = (h 74) j) ∧ mo_x ht (h 0 113) (0) j = ht j ∧ mo_x st (h 0 113) (0) j = st j ∧ mo_x rg (h 0 113) (r + 8 * tu) j = rg j := fun j hj => ⟨fun q => (hold j q).1, mo_xo W0 (by omega), mo_xo W0 (by omega), mo_xo W0 (by omega)⟩
  refine fin1 (c1 := 0) (e1 := 0) (tu1 := tu) (Or.inl rfl) g hB (by dsimp only; omega) (pk_S_E hS) (by (try unfold mo_L); (try unfold mo_E); (try unfold mo_tk); (repeat (refine ag_up rfl ?_)); exact ag_refl) rfl hold (by rw [ho]; decide) (idle_of (show (25 : Int) ≠ 4 ∧ (25 : Int) ≠ 21 ∧ (25 : Int) ≠ 22 ∧ (25 : Int) ≠ 28 ∧ (25 : Int) ≠ 24 by decide)) (fun _ q => q) (fun p q => pp_cons.mpr (Or.inr q)) ?_ ?_ ?_ ?_ ?_ ?_ ⟨?_, ?_, ?_⟩ (pi_if_tail (show (25 : Int) ≠ 36 by decide)) ⟨(fun q y hy => q y (List.mem_cons_of_mem _ hy)), (fun q y hy => q y (List.mem_cons_of_mem _ hy))⟩ ?_ ?_ (fin_top0 (show (25 : Int) ≠ 1 by decide) p2' (fun q => absurd q (by dsimp only; omega))) ?_ (by (try unfold mo_L); (try unfold mo_E); (try unfold mo_tk); (repeat (refine ag_up rfl ?_)); exact ag_refl)
  · show (h 0 18) = _; (try simp only [pk_sum]); omega
  · show (h 0 113) + 1 + _ < 5 * ((h 0 7)); (try simp only [pk_sum]); omega
  · show (h 0 95) + _ < (h 0 7); (try simp only [pk_sum]); omega
  · show (h 0 7) ≤ (h 0 7); omega
  · show (h 0 84) = _; (try simp only [pk_sum]); omega
  · show (h 0 87) = _; (try simp only [pk_sum]); omega
  · show ph = 1 ∨ (h 0 79) ≤ (h 0 77); omega
  · show ph = 1 ∨ (h 0 77) ≤ 10; omega
  · intro q; show ph = 1 ∨ (h 0 77) ≤ 9; exact b4 (fun z => q (fun y hy => z y (List.mem_cons_of_mem _ hy)))
  · unfold pw; rw [ho, hA, hBB, mo_xw, mo_xw, mo_xw, mo_xn', mo_xn', mo_xn']; exact ⟨⟨by decide, by decide⟩, ⟨by omega, by omega⟩, ⟨by omega, by omega, by omega⟩, by omega, (show (1 : Int) ≤ ht (h 0 113).toNat by omega), fun z => absurd z (by decide), fun _ => ⟨(show 0 = ht (h 0 113).toNat + (-1) by omega), (show r + 8 * tu = rg (h 0 113).toNat + 8 * 0 by omega), by omega, fun _ => by omega⟩, fun z => absurd z (by decide), fun z => absurd z (by decide), fun z => absurd z (by unfold pw_jmp; decide), fun z => absurd z (by decide), fun z => absurd z (by decide), fun z => absurd z (by decide), fun z => absurd z (by decide), fun z => absurd z (by decide), fun z => ⟨⟨by omega, by omega, fun z => absurd z (by decide)⟩, by first | decide | (exfalso; omega)⟩⟩
  · rw [fin_adj p2' (show (25 : Int) ≠ 8 ∧ (25 : Int) ≠ 9 by decide)]; exact pt_eq (show _ = 0 - 0 by omega) (show _ = (h 0 109) by omega) (show _ = 0 by omega) (pt_ext (show (h 0 113) ≤ (h 0 113) + 1 by omega) (Int.le_refl _) (show (h 0 77) ≤ (h 0 77) by omega) (fun _ q => q) hext p4)
  · show 40 * (900 - ((h 0 7))) + pk_sum pk_m (s) + 13 < 40 * (900 - (h 0 7)) + pk_sum pk_m ((25, a, b) :: s) + 13; (try simp only [pk_sum]); omega

theorem ab_as0 {h : ja_H} {R r ph q0 : Int} {tf : mo_TF} {s : List mo_A} {ht st rg : Nat → Int} {tu a b : Int} (g : mo_G Zz h) (hS : pk_S h (h 0 17).toNat s) (hB : piB h R r ph tf q0 ((19, 0, b) :: s) ht st rg tu)  : pi_done h (mo_E (h) 5 b (h 0 76)) R r ph tf q0 (pi_mu h ((19, 0, b) :: s)) := by
  have hN := piB_num g hS hB
  obtain ⟨N1, N2, N3, N4, N5, N6, N7, N8, N9, N10, N11, N12, N13, ⟨NK1, NK2⟩, ND1, ND2, ND3, NU1, NU2⟩ := hN
  obtain ⟨⟨n1, n2, n3, n4, n5, n6, n7, n8, n9⟩, ⟨b1, b2, b3, b4⟩, reg, hpt, ⟨hC, hU⟩, hNo, hP, hT, top⟩ := id hB
  obtain ⟨⟨⟨p1, p1'⟩, p1u⟩, ⟨p2, p2'⟩, p3, p4⟩ := hpt
  have w0 := (gF_wTop g).1
  simp only [pk_sum] at n1 n2 n3 n6 n7
  dsimp only at p2 p2' N6
  have ec19 : pk_c 19 = 0 := rfl
  have ev19 : pk_v 19 = 2 := rfl
  have ed19 : pk_d 19 = 0 := rfl
  have eq19 : pk_q 19 = 0 := rfl
  have ef19 : pk_f 19 = 0 := rfl
  have em19 : pk_m 19 = 1 := rfl
  have eoff19 : pk_off 19 = 1 := rfl
  have ek19 : pk_k r 19 = 0 := rfl
  replace p3 : pt_ok (h 74) ht st rg (h 0 113) (h 0 88) (h 0 77) r (pi_wn h r) (19, 0, b) s (ht (h 0 113).toNat - 0) (h 0 109) (st (h 0 113).toNat) tu := p3
  unfold pt_ok at p3; dsimp only at p3
  replace p4 : pt (h 74) ht st rg (h 0 113) (h 0 88) (h 0 77) r tf (pi_wn h r) s (0) ((h 0 109)) (0) (tu) := p4
  obtain ⟨-, xc, xt, ⟨xe, xu1, xu2⟩, -, -, -, -, -, -, -, -, -, -, -, -, -, -, -, -, xo19, -, -, -, -, -, -, -, -, -, -, -⟩ := p3
  replace xo19 := xo19 (by omega)
  have xq1o19 := xo19.1
  have hr := reg_of hB (by dsimp only; omega) (by dsimp only; omega)
  have hbo := gF_body g
  have w0 := (gF_wTop g).1
  have W0 : 0 ≤ (h 0 113) := (gF_words g).1
  have hr4 : 0 ≤ r ∧ r ≤ 3 ∧ (r = 4 → tu = 0) := by
    rcases reg with ⟨q1, q2, -⟩ | ⟨q1, q2, q3, -⟩
    · omega
    · have := q3 _ List.mem_cons_self; dsimp only at this; omega
  have ho : (mo_E (h) 5 b (h 0 76)) 74 (h 0 113).toNat = 5 := by simp [mo_L, mo_E, mo_tk, ja_up]
  have hA : (mo_E (h) 5 b (h 0 76)) 75 (h 0 113).toNat = b := by simp [mo_L, mo_E, mo_tk, ja_up]
  have hBB : (mo_E (h) 5 b (h 0 76)) 76 (h 0 113).toNat = (h 0 76) := by simp [mo_L, mo_E, mo_tk, ja_up]
  have hold : ∀ w : Nat, (w : Int) < (h 0 113) → (mo_E (h) 5 b (h 0 76)) 74 w = (h 74) w ∧ (mo_E (h) 5 b (h 0 76)) 75 w = (h 75) w ∧ (mo_E (h) 5 b (h 0 76)) 76 w = (h 76) w := by
    intro w hw; refine ⟨?_, ?_, ?_⟩ <;> simp [mo_L, mo_E, mo_tk, ja_up] <;> (intros; omega)
  have hext : ∀ j : Nat, (j : Int) ≤ (h 0 113) → ((j : Int) < (h 0 113) → (mo_E (h) 5 b (h 0 76)) 74 j = (h 74) j) ∧ mo_x ht (h 0 113) (0) j = ht j ∧ mo_x st (h 0 113) (0) j = st j ∧ mo_x rg (h 0 113) (r + 8 * tu) j = rg j := fun j hj => ⟨fun q => (hold j q).1, mo_xo W0 (by omega), mo_xo W0 (by omega), mo_xo W0 (by omega)⟩
  have h19 : ht (h 0 113).toNat - 0 = 1 ∧ 0 ≤ b ∧ b ≤ 15 := by
    rcases xo19.2.2 with ⟨q, -⟩ | ⟨q, q1, q2, q3, -⟩ | ⟨q, q1, q2, q3⟩
    · exact absurd q (by decide)
    · first | exact ⟨q1, q2, q3⟩ | exact absurd q (by decide)
    · first | exact ⟨q1, q2, q3⟩ | exact absurd q (by decide)
  have ga := gF_inAspect g
  refine fin1 (c1 := 0) (e1 := 0) (tu1 := tu) (Or.inl rfl) g hB (by dsimp only; omega) (pk_S_E hS) (by (try unfold mo_L); (try unfold mo_E); (try unfold mo_tk); (repeat (refine ag_up rfl ?_)); exact ag_refl) rfl hold (by rw [ho]; decide) (idle_of (show (19 : Int) ≠ 4 ∧ (19 : Int) ≠ 21 ∧ (19 : Int) ≠ 22 ∧ (19 : Int) ≠ 28 ∧ (19 : Int) ≠ 24 by decide)) (fun _ q => q) (fun p q => pp_cons.mpr (Or.inr q)) ?_ ?_ ?_ ?_ ?_ ?_ ⟨?_, ?_, ?_⟩ (pi_if_tail (show (19 : Int) ≠ 36 by decide)) ⟨(fun q y hy => q y (List.mem_cons_of_mem _ hy)), (fun q y hy => q y (List.mem_cons_of_mem _ hy))⟩ ?_ ?_ (fin_top0 (show (19 : Int) ≠ 1 by decide) p2' (fun q => absurd q (by dsimp only; omega))) ?_ (by (try unfold mo_L); (try unfold mo_E); (try unfold mo_tk); (repeat (refine ag_up rfl ?_)); exact ag_refl)
  · show (h 0 18) = _; (try simp only [pk_sum]); omega
  · show (h 0 113) + 1 + _ < 5 * ((h 0 7)); (try simp only [pk_sum]); omega
  · show (h 0 95) + _ < (h 0 7); (try simp only [pk_sum]); omega
  · show (h 0 7) ≤ (h 0 7); omega
  · show (h 0 84) = _; (try simp only [pk_sum]); omega
  · show (h 0 87) = _; (try simp only [pk_sum]); omega
  · show ph = 1 ∨ (h 0 79) ≤ (h 0 77); omega
  · show ph = 1 ∨ (h 0 77) ≤ 10; omega
  · intro q; show ph = 1 ∨ (h 0 77) ≤ 9; exact b4 (fun z => q (fun y hy => z y (List.mem_cons_of_mem _ hy)))
  · unfold pw; rw [ho, hA, hBB, mo_xw, mo_xw, mo_xw, mo_xn', mo_xn', mo_xn']; exact ⟨⟨by decide, by decide⟩, ⟨by omega, by omega⟩, ⟨by omega, by omega, by omega⟩, by omega, (show (1 : Int) ≤ ht (h 0 113).toNat by omega), fun z => absurd z (by decide), fun _ => ⟨(show 0 = ht (h 0 113).toNat + (-1) by omega), (show r + 8 * tu = rg (h 0 113).toNat + 8 * 0 by omega), by omega, fun _ => by omega⟩, fun z => absurd z (by decide), fun z => absurd z (by decide), fun z => absurd z (by unfold pw_jmp; decide), fun _ => h19.2, fun z => absurd z (by decide), fun z => absurd z (by decide), fun z => absurd z (by decide), fun z => absurd z (by decide), fun z => ⟨⟨by omega, by omega, fun z => absurd z (by decide)⟩, by first | decide | (exfalso; omega)⟩⟩
  · rw [fin_adj p2' (show (19 : Int) ≠ 8 ∧ (19 : Int) ≠ 9 by decide)]; exact pt_eq (show _ = 0 - 0 by omega) (show _ = (h 0 109) by omega) (show _ = 0 by omega) (pt_ext (show (h 0 113) ≤ (h 0 113) + 1 by omega) (Int.le_refl _) (show (h 0 77) ≤ (h 0 77) by omega) (fun _ q => q) hext p4)
  · show 40 * (900 - ((h 0 7))) + pk_sum pk_m (s) + 13 < 40 * (900 - (h 0 7)) + pk_sum pk_m ((19, 0, b) :: s) + 13; (try simp only [pk_sum]); omega

theorem ab_as1 {h : ja_H} {R r ph q0 : Int} {tf : mo_TF} {s : List mo_A} {ht st rg : Nat → Int} {tu a b : Int} (g : mo_G Zz h) (hS : pk_S h (h 0 17).toNat s) (hB : piB h R r ph tf q0 ((19, 1, b) :: s) ht st rg tu)  : pi_done h (mo_E (h) 7 b (h 0 76)) R r ph tf q0 (pi_mu h ((19, 1, b) :: s)) := by
  have hN := piB_num g hS hB
  obtain ⟨N1, N2, N3, N4, N5, N6, N7, N8, N9, N10, N11, N12, N13, ⟨NK1, NK2⟩, ND1, ND2, ND3, NU1, NU2⟩ := hN
  obtain ⟨⟨n1, n2, n3, n4, n5, n6, n7, n8, n9⟩, ⟨b1, b2, b3, b4⟩, reg, hpt, ⟨hC, hU⟩, hNo, hP, hT, top⟩ := id hB
  obtain ⟨⟨⟨p1, p1'⟩, p1u⟩, ⟨p2, p2'⟩, p3, p4⟩ := hpt
  have w0 := (gF_wTop g).1
  simp only [pk_sum] at n1 n2 n3 n6 n7
  dsimp only at p2 p2' N6
  have ec19 : pk_c 19 = 0 := rfl
  have ev19 : pk_v 19 = 2 := rfl
  have ed19 : pk_d 19 = 0 := rfl
  have eq19 : pk_q 19 = 0 := rfl
  have ef19 : pk_f 19 = 0 := rfl
  have em19 : pk_m 19 = 1 := rfl
  have eoff19 : pk_off 19 = 1 := rfl
  have ek19 : pk_k r 19 = 0 := rfl
  replace p3 : pt_ok (h 74) ht st rg (h 0 113) (h 0 88) (h 0 77) r (pi_wn h r) (19, 1, b) s (ht (h 0 113).toNat - 0) (h 0 109) (st (h 0 113).toNat) tu := p3
  unfold pt_ok at p3; dsimp only at p3
  replace p4 : pt (h 74) ht st rg (h 0 113) (h 0 88) (h 0 77) r tf (pi_wn h r) s (0) ((h 0 109)) (0) (tu) := p4
  obtain ⟨-, xc, xt, ⟨xe, xu1, xu2⟩, -, -, -, -, -, -, -, -, -, -, -, -, -, -, -, -, xo19, -, -, -, -, -, -, -, -, -, -, -⟩ := p3
  replace xo19 := xo19 (by omega)
  have xq1o19 := xo19.1
  have hr := reg_of hB (by dsimp only; omega) (by dsimp only; omega)
  have hbo := gF_body g
  have w0 := (gF_wTop g).1
  have W0 : 0 ≤ (h 0 113) := (gF_words g).1
  have hr4 : 0 ≤ r ∧ r ≤ 3 ∧ (r = 4 → tu = 0) := by
    rcases reg with ⟨q1, q2, -⟩ | ⟨q1, q2, q3, -⟩
    · omega
    · have := q3 _ List.mem_cons_self; dsimp only at this; omega
  have ho : (mo_E (h) 7 b (h 0 76)) 74 (h 0 113).toNat = 7 := by simp [mo_L, mo_E, mo_tk, ja_up]
  have hA : (mo_E (h) 7 b (h 0 76)) 75 (h 0 113).toNat = b := by simp [mo_L, mo_E, mo_tk, ja_up]
  have hBB : (mo_E (h) 7 b (h 0 76)) 76 (h 0 113).toNat = (h 0 76) := by simp [mo_L, mo_E, mo_tk, ja_up]
  have hold : ∀ w : Nat, (w : Int) < (h 0 113) → (mo_E (h) 7 b (h 0 76)) 74 w = (h 74) w ∧ (mo_E (h) 7 b (h 0 76)) 75 w = (h 75) w ∧ (mo_E (h) 7 b (h 0 76)) 76 w = (h 76) w := by
    intro w hw; refine ⟨?_, ?_, ?_⟩ <;> simp [mo_L, mo_E, mo_tk, ja_up] <;> (intros; omega)
  have hext : ∀ j : Nat, (j : Int) ≤ (h 0 113) → ((j : Int) < (h 0 113) → (mo_E (h) 7 b (h 0 76)) 74 j = (h 74) j) ∧ mo_x ht (h 0 113) (0) j = ht j ∧ mo_x st (h 0 113) (0) j = st j ∧ mo_x rg (h 0 113) (r + 8 * tu) j = rg j := fun j hj => ⟨fun q => (hold j q).1, mo_xo W0 (by omega), mo_xo W0 (by omega), mo_xo W0 (by omega)⟩
  have h19 : ht (h 0 113).toNat - 0 = 1 ∧ 0 ≤ b ∧ b ≤ 900 := by
    rcases xo19.2.2 with ⟨q, -⟩ | ⟨q, q1, q2, q3, -⟩ | ⟨q, q1, q2, q3⟩
    · exact absurd q (by decide)
    · first | exact ⟨q1, q2, q3⟩ | exact absurd q (by decide)
    · first | exact ⟨q1, q2, q3⟩ | exact absurd q (by decide)
  have ga := gF_inAspect g
  have w19 : pi_wn h r b := by
    rcases xo19.2.2 with ⟨q, -⟩ | ⟨-, -, -, -, q⟩ | ⟨q, -⟩
    · exact absurd q (by decide)
    · exact q
    · exact absurd q (by decide)
  refine fin1 (c1 := 0) (e1 := 0) (tu1 := tu) (Or.inl rfl) g hB (by dsimp only; omega) (pk_S_E hS) (by (try unfold mo_L); (try unfold mo_E); (try unfold mo_tk); (repeat (refine ag_up rfl ?_)); exact ag_refl) rfl hold (by rw [ho]; decide) (idle_of (show (19 : Int) ≠ 4 ∧ (19 : Int) ≠ 21 ∧ (19 : Int) ≠ 22 ∧ (19 : Int) ≠ 28 ∧ (19 : Int) ≠ 24 by decide)) (fun _ q => q) (fun p q => pp_cons.mpr (Or.inr q)) ?_ ?_ ?_ ?_ ?_ ?_ ⟨?_, ?_, ?_⟩ (pi_if_tail (show (19 : Int) ≠ 36 by decide)) ⟨(fun q y hy => q y (List.mem_cons_of_mem _ hy)), (fun q y hy => q y (List.mem_cons_of_mem _ hy))⟩ ?_ ?_ (fin_top0 (show (19 : Int) ≠ 1 by decide) p2' (fun q => absurd q (by dsimp only; omega))) ?_ (by (try unfold mo_L); (try unfold mo_E); (try unfold mo_tk); (repeat (refine ag_up rfl ?_)); exact ag_refl)
  · show (h 0 18) = _; (try simp only [pk_sum]); omega
  · show (h 0 113) + 1 + _ < 5 * ((h 0 7)); (try simp only [pk_sum]); omega
  · show (h 0 95) + _ < (h 0 7); (try simp only [pk_sum]); omega
  · show (h 0 7) ≤ (h 0 7); omega
  · show (h 0 84) = _; (try simp only [pk_sum]); omega
  · show (h 0 87) = _; (try simp only [pk_sum]); omega
  · show ph = 1 ∨ (h 0 79) ≤ (h 0 77); omega
  · show ph = 1 ∨ (h 0 77) ≤ 10; omega
  · intro q; show ph = 1 ∨ (h 0 77) ≤ 9; exact b4 (fun z => q (fun y hy => z y (List.mem_cons_of_mem _ hy)))
  · unfold pw; rw [ho, hA, hBB, mo_xw, mo_xw, mo_xw, mo_xn', mo_xn', mo_xn']; exact ⟨⟨by decide, by decide⟩, ⟨by omega, by omega⟩, ⟨by omega, by omega, by omega⟩, by omega, (show (1 : Int) ≤ ht (h 0 113).toNat by omega), fun z => absurd z (by decide), fun _ => ⟨(show 0 = ht (h 0 113).toNat + (-1) by omega), (show r + 8 * tu = rg (h 0 113).toNat + 8 * 0 by omega), by omega, fun _ => by omega⟩, fun z => absurd z (by decide), fun z => absurd z (by decide), fun z => absurd z (by unfold pw_jmp; decide), fun z => absurd z (by decide), fun z => absurd z (by decide), fun z => absurd z (by decide), fun _ => ⟨h19.2.1, h19.2.2, ga.1, ga.2, fun z => ⟨by have := (w19.2.1 (by omega) z).1; omega, (w19.2.1 (by omega) z).2⟩⟩, fun z => absurd z (by decide), fun z => ⟨⟨by omega, by omega, fun z => absurd z (by decide)⟩, by first | decide | (exfalso; omega)⟩⟩
  · rw [fin_adj p2' (show (19 : Int) ≠ 8 ∧ (19 : Int) ≠ 9 by decide)]; exact pt_eq (show _ = 0 - 0 by omega) (show _ = (h 0 109) by omega) (show _ = 0 by omega) (pt_ext (show (h 0 113) ≤ (h 0 113) + 1 by omega) (Int.le_refl _) (show (h 0 77) ≤ (h 0 77) by omega) (fun _ q => q) hext p4)
  · show 40 * (900 - ((h 0 7))) + pk_sum pk_m (s) + 13 < 40 * (900 - (h 0 7)) + pk_sum pk_m ((19, 1, b) :: s) + 13; (try simp only [pk_sum]); omega
