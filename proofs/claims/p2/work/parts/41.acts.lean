/-! the reference's parser: the ends of acts that write a word -/
variable {Zz : Zc}
theorem pk_S_E {h : ja_H} {s : List mo_A} {a b c : Int} (q : pk_S h (h 0 17).toNat s) : pk_S (mo_E h a b c) (mo_E h a b c 0 17).toNat s := pk_S_ag (H := mo_E h a b c) (ag_up rfl (ag_up rfl (ag_up rfl (ag_up rfl ag_refl)))) q
theorem ab_bin {h : ja_H} {R r ph q0 : Int} {tf : mo_TF} {s : List mo_A} {ht st rg : Nat → Int} {tu a b : Int} (g : mo_G Zz h) (hS : pk_S h (h 0 17).toNat s) (hB : piB h R r ph tf q0 ((3, a, b) :: s) ht st rg tu)  : pi_done h (mo_E (ja_up (h) 0 19 (0)) 9 a 0) R r ph tf q0 (pi_mu h ((3, a, b) :: s)) := by
  have hN := piB_num g hS hB
  obtain ⟨N1, N2, N3, N4, N5, N6, N7, N8, N9, N10, N11, N12, N13, ⟨NK1, NK2⟩, ND1, ND2, ND3, NU1, NU2⟩ := hN
  obtain ⟨⟨n1, n2, n3, n4, n5, n6, n7, n8, n9⟩, ⟨b1, b2, b3, b4⟩, reg, hpt, ⟨hC, hU⟩, hNo, hP, hT, top⟩ := id hB
  obtain ⟨⟨⟨p1, p1'⟩, p1u⟩, ⟨p2, p2'⟩, p3, p4⟩ := hpt
  have w0 := (gF_wTop g).1
  simp only [pk_sum] at n1 n2 n3 n6 n7
  dsimp only at p2 p2' N6
  have ec3 : pk_c 3 = 0 := rfl
  have ev3 : pk_v 3 = 1 := rfl
  have ed3 : pk_d 3 = 0 := rfl
  have eq3 : pk_q 3 = 0 := rfl
  have ef3 : pk_f 3 = 0 := rfl
  have em3 : pk_m 3 = 1 := rfl
  have eoff3 : pk_off 3 = 2 := rfl
  have ek3 : pk_k r 3 = 0 := rfl
  replace p3 : pt_ok (h 74) ht st rg (h 0 113) (h 0 88) (h 0 77) r (pi_wn h r) (3, a, b) s (ht (h 0 113).toNat - 0) (h 0 109) (st (h 0 113).toNat) tu := p3
  unfold pt_ok at p3; dsimp only at p3
  replace p4 : pt (h 74) ht st rg (h 0 113) (h 0 88) (h 0 77) r tf (pi_wn h r) s ((ht (h 0 113).toNat - 0) - 1) ((h 0 109)) (st (h 0 113).toNat) (tu) := p4
  obtain ⟨-, xc, xt, ⟨xe, xu1, xu2⟩, -, -, xo3, -, -, -, -, -, -, -, -, -, -, -, -, -, -, -, -, -, -, -, -, -, -, -, -, -⟩ := p3
  replace xo3 := xo3 (by omega)
  have hr := reg_of hB (by dsimp only; omega) (by dsimp only; omega)
  have hbo := gF_body g
  have w0 := (gF_wTop g).1
  have W0 : 0 ≤ (h 0 113) := (gF_words g).1
  have hr4 : 0 ≤ r ∧ r ≤ 4 ∧ (r = 4 → tu = 0) := by
    rcases reg with ⟨q1, q2, -⟩ | ⟨q1, q2, q3, -⟩
    · omega
    · omega
  have ho : (mo_E (ja_up (h) 0 19 (0)) 9 a 0) 74 (h 0 113).toNat = 9 := by simp [mo_L, mo_E, mo_tk, ja_up]
  have hA : (mo_E (ja_up (h) 0 19 (0)) 9 a 0) 75 (h 0 113).toNat = a := by simp [mo_L, mo_E, mo_tk, ja_up]
  have hBB : (mo_E (ja_up (h) 0 19 (0)) 9 a 0) 76 (h 0 113).toNat = 0 := by simp [mo_L, mo_E, mo_tk, ja_up]
  have hold : ∀ w : Nat, (w : Int) < (h 0 113) → (mo_E (ja_up (h) 0 19 (0)) 9 a 0) 74 w = (h 74) w ∧ (mo_E (ja_up (h) 0 19 (0)) 9 a 0) 75 w = (h 75) w ∧ (mo_E (ja_up (h) 0 19 (0)) 9 a 0) 76 w = (h 76) w := by
    intro w hw; refine ⟨?_, ?_, ?_⟩ <;> simp [mo_L, mo_E, mo_tk, ja_up] <;> (intros; omega)
  have hext : ∀ j : Nat, (j : Int) ≤ (h 0 113) → ((j : Int) < (h 0 113) → (mo_E (ja_up (h) 0 19 (0)) 9 a 0) 74 j = (h 74) j) ∧ mo_x ht (h 0 113) ((ht (h 0 113).toNat - 1)) j = ht j ∧ mo_x st (h 0 113) ((st (h 0 113).toNat)) j = st j ∧ mo_x rg (h 0 113) (r + 8 * tu) j = rg j := fun j hj => ⟨fun q => (hold j q).1, mo_xo W0 (by omega), mo_xo W0 (by omega), mo_xo W0 (by omega)⟩
  refine fin1 (c1 := (ht (h 0 113).toNat - 1)) (e1 := (st (h 0 113).toNat)) (tu1 := tu) (Or.inl rfl) g hB (by dsimp only; omega) (pk_S_E (pk_S_ag (ag_up rfl ag_refl) hS)) (by (try unfold mo_L); (try unfold mo_E); (try unfold mo_tk); (repeat (refine ag_up rfl ?_)); exact ag_refl) rfl hold (by rw [ho]; decide) (idle_of (show (3 : Int) ≠ 4 ∧ (3 : Int) ≠ 21 ∧ (3 : Int) ≠ 22 ∧ (3 : Int) ≠ 28 ∧ (3 : Int) ≠ 24 by decide)) (fun _ q => q) (fun p q => pp_cons.mpr (Or.inr q)) ?_ ?_ ?_ ?_ ?_ ?_ ⟨?_, ?_, ?_⟩ (pi_if_tail (show (3 : Int) ≠ 36 by decide)) ⟨(fun q y hy => q y (List.mem_cons_of_mem _ hy)), (fun q y hy => q y (List.mem_cons_of_mem _ hy))⟩ ?_ ?_ (fin_top0 (show (3 : Int) ≠ 1 by decide) p2' (fun _ => form_0 ⟨by show (0 : Int) ≠ 1; decide, by show (0 : Int) ≠ 2; decide⟩)) ?_ (by (try unfold mo_L); (try unfold mo_E); (try unfold mo_tk); (repeat (refine ag_up rfl ?_)); exact ag_refl)
  · show (h 0 18) = _; (try simp only [pk_sum]); omega
  · show (h 0 113) + 1 + _ < 5 * ((h 0 7)); (try simp only [pk_sum]); omega
  · show (h 0 95) + _ < (h 0 7); (try simp only [pk_sum]); omega
  · show (h 0 7) ≤ (h 0 7); omega
  · show (h 0 84) = _; (try simp only [pk_sum]); omega
  · show (h 0 87) = _; (try simp only [pk_sum]); omega
  · show ph = 1 ∨ (h 0 79) ≤ (h 0 77); omega
  · show ph = 1 ∨ (h 0 77) ≤ 10; omega
  · intro q; show ph = 1 ∨ (h 0 77) ≤ 9; exact b4 (fun z => q (fun y hy => z y (List.mem_cons_of_mem _ hy)))
  · unfold pw; rw [ho, hA, hBB, mo_xw, mo_xw, mo_xw, mo_xn', mo_xn', mo_xn']; exact ⟨⟨by decide, by decide⟩, ⟨by omega, by omega⟩, ⟨by omega, by omega, by omega⟩, by omega, (show (2 : Int) ≤ ht (h 0 113).toNat by omega), fun z => absurd z (by decide), fun _ => ⟨(show (ht (h 0 113).toNat - 1) = ht (h 0 113).toNat + (-1) by omega), (show r + 8 * tu = rg (h 0 113).toNat + 8 * 0 by omega), by omega, fun _ => by omega⟩, fun z => absurd z (by decide), fun z => absurd z (by decide), fun z => absurd z (by unfold pw_jmp; decide), fun z => absurd z (by decide), fun z => absurd z (by decide), fun z => absurd z (by decide), fun z => absurd z (by decide), fun z => absurd z (by decide), fun z => ⟨⟨by omega, by omega, fun z => absurd z (by decide)⟩, by first | decide | (exfalso; omega)⟩⟩
  · rw [fin_adj p2' (show (3 : Int) ≠ 8 ∧ (3 : Int) ≠ 9 by decide)]; exact pt_eq (show _ = (ht (h 0 113).toNat - 1) - 0 by omega) (show _ = (h 0 109) by omega) (show _ = (st (h 0 113).toNat) by omega) (pt_ext (show (h 0 113) ≤ (h 0 113) + 1 by omega) (Int.le_refl _) (show (h 0 77) ≤ (h 0 77) by omega) (fun _ q => q) hext p4)
  · show 40 * (900 - ((h 0 7))) + pk_sum pk_m (s) + 13 < 40 * (900 - (h 0 7)) + pk_sum pk_m ((3, a, b) :: s) + 13; (try simp only [pk_sum]); omega

theorem ab_neg {h : ja_H} {R r ph q0 : Int} {tf : mo_TF} {s : List mo_A} {ht st rg : Nat → Int} {tu a b : Int} (g : mo_G Zz h) (hS : pk_S h (h 0 17).toNat s) (hB : piB h R r ph tf q0 ((5, a, b) :: s) ht st rg tu)  : pi_done h (mo_E (ja_up (h) 0 19 (0)) 11 0 0) R r ph tf q0 (pi_mu h ((5, a, b) :: s)) := by
  have hN := piB_num g hS hB
  obtain ⟨N1, N2, N3, N4, N5, N6, N7, N8, N9, N10, N11, N12, N13, ⟨NK1, NK2⟩, ND1, ND2, ND3, NU1, NU2⟩ := hN
  obtain ⟨⟨n1, n2, n3, n4, n5, n6, n7, n8, n9⟩, ⟨b1, b2, b3, b4⟩, reg, hpt, ⟨hC, hU⟩, hNo, hP, hT, top⟩ := id hB
  obtain ⟨⟨⟨p1, p1'⟩, p1u⟩, ⟨p2, p2'⟩, p3, p4⟩ := hpt
  have w0 := (gF_wTop g).1
  simp only [pk_sum] at n1 n2 n3 n6 n7
  dsimp only at p2 p2' N6
  have ec5 : pk_c 5 = 0 := rfl
  have ev5 : pk_v 5 = 1 := rfl
  have ed5 : pk_d 5 = 0 := rfl
  have eq5 : pk_q 5 = 0 := rfl
  have ef5 : pk_f 5 = 0 := rfl
  have em5 : pk_m 5 = 1 := rfl
  have eoff5 : pk_off 5 = 2 := rfl
  have ek5 : pk_k r 5 = 0 := rfl
  replace p3 : pt_ok (h 74) ht st rg (h 0 113) (h 0 88) (h 0 77) r (pi_wn h r) (5, a, b) s (ht (h 0 113).toNat - 0) (h 0 109) (st (h 0 113).toNat) tu := p3
  unfold pt_ok at p3; dsimp only at p3
  replace p4 : pt (h 74) ht st rg (h 0 113) (h 0 88) (h 0 77) r tf (pi_wn h r) s ((ht (h 0 113).toNat - 0)) ((h 0 109)) (st (h 0 113).toNat) (tu) := p4
  obtain ⟨-, xc, xt, ⟨xe, xu1, xu2⟩, -, -, -, -, xo5, -, -, -, -, -, -, -, -, -, -, -, -, -, -, -, -, -, -, -, -, -, -, -⟩ := p3
  replace xo5 := xo5 (by omega)
  have hr := reg_of hB (by dsimp only; omega) (by dsimp only; omega)
  have hbo := gF_body g
  have w0 := (gF_wTop g).1
  have W0 : 0 ≤ (h 0 113) := (gF_words g).1
  have hr4 : 0 ≤ r ∧ r ≤ 4 ∧ (r = 4 → tu = 0) := by
    rcases reg with ⟨q1, q2, -⟩ | ⟨q1, q2, q3, -⟩
    · omega
    · omega
  have ho : (mo_E (ja_up (h) 0 19 (0)) 11 0 0) 74 (h 0 113).toNat = 11 := by simp [mo_L, mo_E, mo_tk, ja_up]
  have hA : (mo_E (ja_up (h) 0 19 (0)) 11 0 0) 75 (h 0 113).toNat = 0 := by simp [mo_L, mo_E, mo_tk, ja_up]
  have hBB : (mo_E (ja_up (h) 0 19 (0)) 11 0 0) 76 (h 0 113).toNat = 0 := by simp [mo_L, mo_E, mo_tk, ja_up]
  have hold : ∀ w : Nat, (w : Int) < (h 0 113) → (mo_E (ja_up (h) 0 19 (0)) 11 0 0) 74 w = (h 74) w ∧ (mo_E (ja_up (h) 0 19 (0)) 11 0 0) 75 w = (h 75) w ∧ (mo_E (ja_up (h) 0 19 (0)) 11 0 0) 76 w = (h 76) w := by
    intro w hw; refine ⟨?_, ?_, ?_⟩ <;> simp [mo_L, mo_E, mo_tk, ja_up] <;> (intros; omega)
  have hext : ∀ j : Nat, (j : Int) ≤ (h 0 113) → ((j : Int) < (h 0 113) → (mo_E (ja_up (h) 0 19 (0)) 11 0 0) 74 j = (h 74) j) ∧ mo_x ht (h 0 113) ((ht (h 0 113).toNat)) j = ht j ∧ mo_x st (h 0 113) ((st (h 0 113).toNat)) j = st j ∧ mo_x rg (h 0 113) (r + 8 * tu) j = rg j := fun j hj => ⟨fun q => (hold j q).1, mo_xo W0 (by omega), mo_xo W0 (by omega), mo_xo W0 (by omega)⟩
  refine fin1 (c1 := (ht (h 0 113).toNat)) (e1 := (st (h 0 113).toNat)) (tu1 := tu) (Or.inl rfl) g hB (by dsimp only; omega) (pk_S_E (pk_S_ag (ag_up rfl ag_refl) hS)) (by (try unfold mo_L); (try unfold mo_E); (try unfold mo_tk); (repeat (refine ag_up rfl ?_)); exact ag_refl) rfl hold (by rw [ho]; decide) (idle_of (show (5 : Int) ≠ 4 ∧ (5 : Int) ≠ 21 ∧ (5 : Int) ≠ 22 ∧ (5 : Int) ≠ 28 ∧ (5 : Int) ≠ 24 by decide)) (fun _ q => q) (fun p q => pp_cons.mpr (Or.inr q)) ?_ ?_ ?_ ?_ ?_ ?_ ⟨?_, ?_, ?_⟩ (pi_if_tail (show (5 : Int) ≠ 36 by decide)) ⟨(fun q y hy => q y (List.mem_cons_of_mem _ hy)), (fun q y hy => q y (List.mem_cons_of_mem _ hy))⟩ ?_ ?_ (fin_top0 (show (5 : Int) ≠ 1 by decide) p2' (fun _ => form_0 ⟨by show (0 : Int) ≠ 1; decide, by show (0 : Int) ≠ 2; decide⟩)) ?_ (by (try unfold mo_L); (try unfold mo_E); (try unfold mo_tk); (repeat (refine ag_up rfl ?_)); exact ag_refl)
  · show (h 0 18) = _; (try simp only [pk_sum]); omega
  · show (h 0 113) + 1 + _ < 5 * ((h 0 7)); (try simp only [pk_sum]); omega
  · show (h 0 95) + _ < (h 0 7); (try simp only [pk_sum]); omega
  · show (h 0 7) ≤ (h 0 7); omega
  · show (h 0 84) = _; (try simp only [pk_sum]); omega
  · show (h 0 87) = _; (try simp only [pk_sum]); omega
  · show ph = 1 ∨ (h 0 79) ≤ (h 0 77); omega
  · show ph = 1 ∨ (h 0 77) ≤ 10; omega
  · intro q; show ph = 1 ∨ (h 0 77) ≤ 9; exact b4 (fun z => q (fun y hy => z y (List.mem_cons_of_mem _ hy)))
  · unfold pw; rw [ho, hA, hBB, mo_xw, mo_xw, mo_xw, mo_xn', mo_xn', mo_xn']; exact ⟨⟨by decide, by decide⟩, ⟨by omega, by omega⟩, ⟨by omega, by omega, by omega⟩, by omega, (show (1 : Int) ≤ ht (h 0 113).toNat by omega), fun z => absurd z (by decide), fun _ => ⟨(show (ht (h 0 113).toNat) = ht (h 0 113).toNat + (0) by omega), (show r + 8 * tu = rg (h 0 113).toNat + 8 * 0 by omega), by omega, fun _ => by omega⟩, fun z => absurd z (by decide), fun z => absurd z (by decide), fun z => absurd z (by unfold pw_jmp; decide), fun z => absurd z (by decide), fun z => absurd z (by decide), fun z => absurd z (by decide), fun z => absurd z (by decide), fun z => absurd z (by decide), fun z => ⟨⟨by omega, by omega, fun z => absurd z (by decide)⟩, by first | decide | (exfalso; omega)⟩⟩
  · rw [fin_adj p2' (show (5 : Int) ≠ 8 ∧ (5 : Int) ≠ 9 by decide)]; exact pt_eq (show _ = (ht (h 0 113).toNat) - 0 by omega) (show _ = (h 0 109) by omega) (show _ = (st (h 0 113).toNat) by omega) (pt_ext (show (h 0 113) ≤ (h 0 113) + 1 by omega) (Int.le_refl _) (show (h 0 77) ≤ (h 0 77) by omega) (fun _ q => q) hext p4)
  · show 40 * (900 - ((h 0 7))) + pk_sum pk_m (s) + 13 < 40 * (900 - (h 0 7)) + pk_sum pk_m ((5, a, b) :: s) + 13; (try simp only [pk_sum]); omega

theorem ab_not {h : ja_H} {R r ph q0 : Int} {tf : mo_TF} {s : List mo_A} {ht st rg : Nat → Int} {tu a b : Int} (g : mo_G Zz h) (hS : pk_S h (h 0 17).toNat s) (hB : piB h R r ph tf q0 ((5, a, b) :: s) ht st rg tu)  : pi_done h (mo_E (ja_up (h) 0 19 (0)) 10 0 0) R r ph tf q0 (pi_mu h ((5, a, b) :: s)) := by
  have hN := piB_num g hS hB
  obtain ⟨N1, N2, N3, N4, N5, N6, N7, N8, N9, N10, N11, N12, N13, ⟨NK1, NK2⟩, ND1, ND2, ND3, NU1, NU2⟩ := hN
  obtain ⟨⟨n1, n2, n3, n4, n5, n6, n7, n8, n9⟩, ⟨b1, b2, b3, b4⟩, reg, hpt, ⟨hC, hU⟩, hNo, hP, hT, top⟩ := id hB
  obtain ⟨⟨⟨p1, p1'⟩, p1u⟩, ⟨p2, p2'⟩, p3, p4⟩ := hpt
  have w0 := (gF_wTop g).1
  simp only [pk_sum] at n1 n2 n3 n6 n7
  dsimp only at p2 p2' N6
  have ec5 : pk_c 5 = 0 := rfl
  have ev5 : pk_v 5 = 1 := rfl
  have ed5 : pk_d 5 = 0 := rfl
  have eq5 : pk_q 5 = 0 := rfl
  have ef5 : pk_f 5 = 0 := rfl
  have em5 : pk_m 5 = 1 := rfl
  have eoff5 : pk_off 5 = 2 := rfl
  have ek5 : pk_k r 5 = 0 := rfl
  replace p3 : pt_ok (h 74) ht st rg (h 0 113) (h 0 88) (h 0 77) r (pi_wn h r) (5, a, b) s (ht (h 0 113).toNat - 0) (h 0 109) (st (h 0 113).toNat) tu := p3
  unfold pt_ok at p3; dsimp only at p3
  replace p4 : pt (h 74) ht st rg (h 0 113) (h 0 88) (h 0 77) r tf (pi_wn h r) s ((ht (h 0 113).toNat - 0)) ((h 0 109)) (st (h 0 113).toNat) (tu) := p4
  obtain ⟨-, xc, xt, ⟨xe, xu1, xu2⟩, -, -, -, -, xo5, -, -, -, -, -, -, -, -, -, -, -, -, -, -, -, -, -, -, -, -, -, -, -⟩ := p3
  replace xo5 := xo5 (by omega)
  have hr := reg_of hB (by dsimp only; omega) (by dsimp only; omega)
  have hbo := gF_body g
  have w0 := (gF_wTop g).1
  have W0 : 0 ≤ (h 0 113) := (gF_words g).1
  have hr4 : 0 ≤ r ∧ r ≤ 4 ∧ (r = 4 → tu = 0) := by
    rcases reg with ⟨q1, q2, -⟩ | ⟨q1, q2, q3, -⟩
    · omega
    · omega
  have ho : (mo_E (ja_up (h) 0 19 (0)) 10 0 0) 74 (h 0 113).toNat = 10 := by simp [mo_L, mo_E, mo_tk, ja_up]
  have hA : (mo_E (ja_up (h) 0 19 (0)) 10 0 0) 75 (h 0 113).toNat = 0 := by simp [mo_L, mo_E, mo_tk, ja_up]
  have hBB : (mo_E (ja_up (h) 0 19 (0)) 10 0 0) 76 (h 0 113).toNat = 0 := by simp [mo_L, mo_E, mo_tk, ja_up]
  have hold : ∀ w : Nat, (w : Int) < (h 0 113) → (mo_E (ja_up (h) 0 19 (0)) 10 0 0) 74 w = (h 74) w ∧ (mo_E (ja_up (h) 0 19 (0)) 10 0 0) 75 w = (h 75) w ∧ (mo_E (ja_up (h) 0 19 (0)) 10 0 0) 76 w = (h 76) w := by
    intro w hw; refine ⟨?_, ?_, ?_⟩ <;> simp [mo_L, mo_E, mo_tk, ja_up] <;> (intros; omega)
  have hext : ∀ j : Nat, (j : Int) ≤ (h 0 113) → ((j : Int) < (h 0 113) → (mo_E (ja_up (h) 0 19 (0)) 10 0 0) 74 j = (h 74) j) ∧ mo_x ht (h 0 113) ((ht (h 0 113).toNat)) j = ht j ∧ mo_x st (h 0 113) ((st (h 0 113).toNat)) j = st j ∧ mo_x rg (h 0 113) (r + 8 * tu) j = rg j := fun j hj => ⟨fun q => (hold j q).1, mo_xo W0 (by omega), mo_xo W0 (by omega), mo_xo W0 (by omega)⟩
  refine fin1 (c1 := (ht (h 0 113).toNat)) (e1 := (st (h 0 113).toNat)) (tu1 := tu) (Or.inl rfl) g hB (by dsimp only; omega) (pk_S_E (pk_S_ag (ag_up rfl ag_refl) hS)) (by (try unfold mo_L); (try unfold mo_E); (try unfold mo_tk); (repeat (refine ag_up rfl ?_)); exact ag_refl) rfl hold (by rw [ho]; decide) (idle_of (show (5 : Int) ≠ 4 ∧ (5 : Int) ≠ 21 ∧ (5 : Int) ≠ 22 ∧ (5 : Int) ≠ 28 ∧ (5 : Int) ≠ 24 by decide)) (fun _ q => q) (fun p q => pp_cons.mpr (Or.inr q)) ?_ ?_ ?_ ?_ ?_ ?_ ⟨?_, ?_, ?_⟩ (pi_if_tail (show (5 : Int) ≠ 36 by decide)) ⟨(fun q y hy => q y (List.mem_cons_of_mem _ hy)), (fun q y hy => q y (List.mem_cons_of_mem _ hy))⟩ ?_ ?_ (fin_top0 (show (5 : Int) ≠ 1 by decide) p2' (fun _ => form_0 ⟨by show (0 : Int) ≠ 1; decide, by show (0 : Int) ≠ 2; decide⟩)) ?_ (by (try unfold mo_L); (try unfold mo_E); (try unfold mo_tk); (repeat (refine ag_up rfl ?_)); exact ag_refl)
  · show (h 0 18) = _; (try simp only [pk_sum]); omega
  · show (h 0 113) + 1 + _ < 5 * ((h 0 7)); (try simp only [pk_sum]); omega
  · show (h 0 95) + _ < (h 0 7); (try simp only [pk_sum]); omega
  · show (h 0 7) ≤ (h 0 7); omega
  · show (h 0 84) = _; (try simp only [pk_sum]); omega
  · show (h 0 87) = _; (try simp only [pk_sum]); omega
  · show ph = 1 ∨ (h 0 79) ≤ (h 0 77); omega
  · show ph = 1 ∨ (h 0 77) ≤ 10; omega
  · intro q; show ph = 1 ∨ (h 0 77) ≤ 9; exact b4 (fun z => q (fun y hy => z y (List.mem_cons_of_mem _ hy)))
  · unfold pw; rw [ho, hA, hBB, mo_xw, mo_xw, mo_xw, mo_xn', mo_xn', mo_xn']; exact ⟨⟨by decide, by decide⟩, ⟨by omega, by omega⟩, ⟨by omega, by omega, by omega⟩, by omega, (show (1 : Int) ≤ ht (h 0 113).toNat by omega), fun z => absurd z (by decide), fun _ => ⟨(show (ht (h 0 113).toNat) = ht (h 0 113).toNat + (0) by omega), (show r + 8 * tu = rg (h 0 113).toNat + 8 * 0 by omega), by omega, fun _ => by omega⟩, fun z => absurd z (by decide), fun z => absurd z (by decide), fun z => absurd z (by unfold pw_jmp; decide), fun z => absurd z (by decide), fun z => absurd z (by decide), fun z => absurd z (by decide), fun z => absurd z (by decide), fun z => absurd z (by decide), fun z => ⟨⟨by omega, by omega, fun z => absurd z (by decide)⟩, by first | decide | (exfalso; omega)⟩⟩
  · rw [fin_adj p2' (show (5 : Int) ≠ 8 ∧ (5 : Int) ≠ 9 by decide)]; exact pt_eq (show _ = (ht (h 0 113).toNat) - 0 by omega) (show _ = (h 0 109) by omega) (show _ = (st (h 0 113).toNat) by omega) (pt_ext (show (h 0 113) ≤ (h 0 113) + 1 by omega) (Int.le_refl _) (show (h 0 77) ≤ (h 0 77) by omega) (fun _ q => q) hext p4)
  · show 40 * (900 - ((h 0 7))) + pk_sum pk_m (s) + 13 < 40 * (900 - (h 0 7)) + pk_sum pk_m ((5, a, b) :: s) + 13; (try simp only [pk_sum]); omega

theorem ab_ret {h : ja_H} {R r ph q0 : Int} {tf : mo_TF} {s : List mo_A} {ht st rg : Nat → Int} {tu a b : Int} (g : mo_G Zz h) (hS : pk_S h (h 0 17).toNat s) (hB : piB h R r ph tf q0 ((25, a, b) :: s) ht st rg tu)  : pi_done h (mo_E (h) 19 0 0) R r ph tf q0 (pi_mu h ((25, a, b) :: s)) := by
  have hN := piB_num g hS hB
  obtain ⟨N1, N2, N3, N4, N5, N6, N7, N8, N9, N10, N11, N12, N13, ⟨NK1, NK2⟩, ND1, ND2, ND3, NU1, NU2⟩ := hN
  obtain ⟨⟨n1, n2, n3, n4, n5, n6, n7, n8, n9⟩, ⟨b1, b2, b3, b4⟩, reg, hpt, ⟨hC, hU⟩, hNo, hP, hT, top⟩ := id hB
  obtain ⟨⟨⟨p1, p1'⟩, p1u⟩, ⟨p2, p2'⟩, p3, p4⟩ := hpt
  have w0 := (gF_wTop g).1
  simp only [pk_sum] at n1 n2 n3 n6 n7
  dsimp only at p2 p2' N6
  have ec25 : pk_c 25 = 0 := rfl
  have ev25 : pk_v 25 = 1 := rfl
  have ed25 : pk_d 25 = 0 := rfl
  have eq25 : pk_q 25 = 0 := rfl
  have ef25 : pk_f 25 = 0 := rfl
  have em25 : pk_m 25 = 1 := rfl
  have eoff25 : pk_off 25 = 1 := rfl
  have ek25 : pk_k r 25 = 0 := rfl
  replace p3 : pt_ok (h 74) ht st rg (h 0 113) (h 0 88) (h 0 77) r (pi_wn h r) (25, a, b) s (ht (h 0 113).toNat - 0) (h 0 109) (st (h 0 113).toNat) tu := p3
  unfold pt_ok at p3; dsimp only at p3
  replace p4 : pt (h 74) ht st rg (h 0 113) (h 0 88) (h 0 77) r tf (pi_wn h r) s (0) ((h 0 109)) (0) (tu) := p4
  obtain ⟨-, xc, xt, ⟨xe, xu1, xu2⟩, -, -, -, -, -, -, -, -, -, -, -, -, -, -, xo17, -, -, -, -, -, -, -, -, -, -, -, -, -⟩ := p3
  replace xo17 := xo17 (by omega)
  have xq1o17 := xo17.1
  have xq2o17 := xo17.2.1
  have hr := reg_of hB (by dsimp only; omega) (by dsimp only; omega)
  have hbo := gF_body g
  have w0 := (gF_wTop g).1
  have W0 : 0 ≤ (h 0 113) := (gF_words g).1
  have hr4 : 0 ≤ r ∧ r ≤ 3 ∧ (r = 4 → tu = 0) := by
    rcases reg with ⟨q1, q2, -⟩ | ⟨q1, q2, q3, -⟩
    · omega
    · have := q3 _ List.mem_cons_self; dsimp only at this; omega
  have ho : (mo_E (h) 19 0 0) 74 (h 0 113).toNat = 19 := by simp [mo_L, mo_E, mo_tk, ja_up]
  have hA : (mo_E (h) 19 0 0) 75 (h 0 113).toNat = 0 := by simp [mo_L, mo_E, mo_tk, ja_up]
  have hBB : (mo_E (h) 19 0 0) 76 (h 0 113).toNat = 0 := by simp [mo_L, mo_E, mo_tk, ja_up]
  have hold : ∀ w : Nat, (w : Int) < (h 0 113) → (mo_E (h) 19 0 0) 74 w = (h 74) w ∧ (mo_E (h) 19 0 0) 75 w = (h 75) w ∧ (mo_E (h) 19 0 0) 76 w = (h 76) w := by
    intro w hw; refine ⟨?_, ?_, ?_⟩ <;> simp [mo_L, mo_E, mo_tk, ja_up] <;> (intros; omega)
  have hext : ∀ j : Nat, (j : Int) ≤ (h 0 113) → ((j : Int) < (h 0 113) → (mo_E (h) 19 0 0) 74 j = (h 74) j) ∧ mo_x ht (h 0 113) (0) j = ht j ∧ mo_x st (h 0 113) (0) j = st j ∧ mo_x rg (h 0 113) (r + 8 * tu) j = rg j := fun j hj => ⟨fun q => (hold j q).1, mo_xo W0 (by omega), mo_xo W0 (by omega), mo_xo W0 (by omega)⟩
  refine fin1 (c1 := 0) (e1 := 0) (tu1 := tu) (Or.inl rfl) g hB (by dsimp only; omega) (pk_S_E hS) (by (try unfold mo_L); (try unfold mo_E); (try unfold mo_tk); (repeat (refine ag_up rfl ?_)); exact ag_refl) rfl hold (by rw [ho]; decide) (idle_of (show (25 : Int) ≠ 4 ∧ (25 : Int) ≠ 21 ∧ (25 : Int) ≠ 22 ∧ (25 : Int) ≠ 28 ∧ (25 : Int) ≠ 24 by decide)) (fun _ q => q) (fun p q => pp_cons.mpr (Or.inr q)) ?_ ?_ ?_ ?_ ?_ ?_ ⟨?_, ?_, ?_⟩ (pi_if_tail (show (25 : Int) ≠ 36 by decide)) ⟨(fun q y hy => q y (List.mem_cons_of_mem _ hy)), (fun q y hy => q y (List.mem_cons_of_mem _ hy))⟩ ?_ ?_ (fin_top0 (show (25 : Int) ≠ 1 by decide) p2' (fun q => absurd q (by dsimp only; omega))) ?_ (by (try unfold mo_L); (try unfold mo_E); (try unfold mo_tk); (repeat (refine ag_up rfl ?_)); exact ag_refl)
  · show (h 0 18) = _; (try simp only [pk_sum]); omega
  · show (h 0 113) + 1 + _ < 5 * ((h 0 7)); (try simp only [pk_sum]); omega
  · show (h 0 95) + _ < (h 0 7); (try simp only [pk_sum]); omega
  · show (h 0 7) ≤ (h 0 7); omega
  · show (h 0 84) = _; (try simp only [pk_sum]); omega
  · show (h 0 87) = _; (try simp only [pk_sum]); omega
  · show ph = 1 ∨ (h 0 79) ≤ (h 0 77); omega
  · show ph = 1 ∨ (h 0 77) ≤ 10; omega
  · intro q; show ph = 1 ∨ (h 0 77) ≤ 9; exact b4 (fun z => q (fun y hy => z y (List.mem_cons_of_mem _ hy)))
  · unfold pw; rw [ho, hA, hBB, mo_xw, mo_xw, mo_xw, mo_xn', mo_xn', mo_xn']; exact ⟨⟨by decide, by decide⟩, ⟨by omega, by omega⟩, ⟨by omega, by omega, by omega⟩, by omega, (show (1 : Int) ≤ ht (h 0 113).toNat by omega), fun z => absurd z (by decide), fun _ => ⟨(show 0 = ht (h 0 113).toNat + (-1) by omega), (show r + 8 * tu = rg (h 0 113).toNat + 8 * 0 by omega), by omega, fun _ => by omega⟩, fun z => absurd z (by decide), fun z => absurd z (by decide), fun z => absurd z (by unfold pw_jmp; decide), fun z => absurd z (by decide), fun z => absurd z (by decide), fun z => absurd z (by decide), fun z => absurd z (by decide), fun z => absurd z (by decide), fun z => ⟨⟨by omega, by omega, fun z => absurd z (by decide)⟩, by first | decide | (exfalso; omega)⟩⟩
  · rw [fin_adj p2' (show (25 : Int) ≠ 8 ∧ (25 : Int) ≠ 9 by decide)]; exact pt_eq (show _ = 0 - 0 by omega) (show _ = (h 0 109) by omega) (show _ = 0 by omega) (pt_ext (show (h 0 113) ≤ (h 0 113) + 1 by omega) (Int.le_refl _) (show (h 0 77) ≤ (h 0 77) by omega) (fun _ q => q) hext p4)
  · show 40 * (900 - ((h 0 7))) + pk_sum pk_m (s) + 13 < 40 * (900 - (h 0 7)) + pk_sum pk_m ((25, a, b) :: s) + 13; (try simp only [pk_sum]); omega

theorem ab_thr {h : ja_H} {R r ph q0 : Int} {tf : mo_TF} {s : List mo_A} {ht st rg : Nat → Int} {tu a b : Int} (g : mo_G Zz h) (hS : pk_S h (h 0 17).toNat s) (hB : piB h R r ph tf q0 ((26, a, b) :: s) ht st rg tu)  : pi_done h (mo_E (h) 20 0 0) R r ph tf q0 (pi_mu h ((26, a, b) :: s)) := by
  have hN := piB_num g hS hB
  obtain ⟨N1, N2, N3, N4, N5, N6, N7, N8, N9, N10, N11, N12, N13, ⟨NK1, NK2⟩, ND1, ND2, ND3, NU1, NU2⟩ := hN
  obtain ⟨⟨n1, n2, n3, n4, n5, n6, n7, n8, n9⟩, ⟨b1, b2, b3, b4⟩, reg, hpt, ⟨hC, hU⟩, hNo, hP, hT, top⟩ := id hB
  obtain ⟨⟨⟨p1, p1'⟩, p1u⟩, ⟨p2, p2'⟩, p3, p4⟩ := hpt
  have w0 := (gF_wTop g).1
  simp only [pk_sum] at n1 n2 n3 n6 n7
  dsimp only at p2 p2' N6
  have ec26 : pk_c 26 = 0 := rfl
  have ev26 : pk_v 26 = 1 := rfl
  have ed26 : pk_d 26 = 0 := rfl
  have eq26 : pk_q 26 = 0 := rfl
  have ef26 : pk_f 26 = 0 := rfl
  have em26 : pk_m 26 = 1 := rfl
  have eoff26 : pk_off 26 = 1 := rfl
  have ek26 : pk_k r 26 = 0 := rfl
  replace p3 : pt_ok (h 74) ht st rg (h 0 113) (h 0 88) (h 0 77) r (pi_wn h r) (26, a, b) s (ht (h 0 113).toNat - 0) (h 0 109) (st (h 0 113).toNat) tu := p3
  unfold pt_ok at p3; dsimp only at p3
  replace p4 : pt (h 74) ht st rg (h 0 113) (h 0 88) (h 0 77) r tf (pi_wn h r) s (0) ((h 0 109)) (0) (tu) := p4
  obtain ⟨-, xc, xt, ⟨xe, xu1, xu2⟩, -, -, -, -, -, -, -, -, -, -, -, -, -, -, xo17, -, -, -, -, -, -, -, -, -, -, -, -, -⟩ := p3
  replace xo17 := xo17 (by omega)
  have xq1o17 := xo17.1
  have xq2o17 := xo17.2.1
  have hr := reg_of hB (by dsimp only; omega) (by dsimp only; omega)
  have hbo := gF_body g
  have w0 := (gF_wTop g).1
  have W0 : 0 ≤ (h 0 113) := (gF_words g).1
  have hr4 : 0 ≤ r ∧ r ≤ 3 ∧ (r = 4 → tu = 0) := by
    rcases reg with ⟨q1, q2, -⟩ | ⟨q1, q2, q3, -⟩
    · omega
    · have := q3 _ List.mem_cons_self; dsimp only at this; omega
  have ho : (mo_E (h) 20 0 0) 74 (h 0 113).toNat = 20 := by simp [mo_L, mo_E, mo_tk, ja_up]
  have hA : (mo_E (h) 20 0 0) 75 (h 0 113).toNat = 0 := by simp [mo_L, mo_E, mo_tk, ja_up]
  have hBB : (mo_E (h) 20 0 0) 76 (h 0 113).toNat = 0 := by simp [mo_L, mo_E, mo_tk, ja_up]
  have hold : ∀ w : Nat, (w : Int) < (h 0 113) → (mo_E (h) 20 0 0) 74 w = (h 74) w ∧ (mo_E (h) 20 0 0) 75 w = (h 75) w ∧ (mo_E (h) 20 0 0) 76 w = (h 76) w := by
    intro w hw; refine ⟨?_, ?_, ?_⟩ <;> simp [mo_L, mo_E, mo_tk, ja_up] <;> (intros; omega)
  have hext : ∀ j : Nat, (j : Int) ≤ (h 0 113) → ((j : Int) < (h 0 113) → (mo_E (h) 20 0 0) 74 j = (h 74) j) ∧ mo_x ht (h 0 113) (0) j = ht j ∧ mo_x st (h 0 113) (0) j = st j ∧ mo_x rg (h 0 113) (r + 8 * tu) j = rg j := fun j hj => ⟨fun q => (hold j q).1, mo_xo W0 (by omega), mo_xo W0 (by omega), mo_xo W0 (by omega)⟩
  refine fin1 (c1 := 0) (e1 := 0) (tu1 := tu) (Or.inl rfl) g hB (by dsimp only; omega) (pk_S_E hS) (by (try unfold mo_L); (try unfold mo_E); (try unfold mo_tk); (repeat (refine ag_up rfl ?_)); exact ag_refl) rfl hold (by rw [ho]; decide) (idle_of (show (26 : Int) ≠ 4 ∧ (26 : Int) ≠ 21 ∧ (26 : Int) ≠ 22 ∧ (26 : Int) ≠ 28 ∧ (26 : Int) ≠ 24 by decide)) (fun _ q => q) (fun p q => pp_cons.mpr (Or.inr q)) ?_ ?_ ?_ ?_ ?_ ?_ ⟨?_, ?_, ?_⟩ (pi_if_tail (show (26 : Int) ≠ 36 by decide)) ⟨(fun q y hy => q y (List.mem_cons_of_mem _ hy)), (fun q y hy => q y (List.mem_cons_of_mem _ hy))⟩ ?_ ?_ (fin_top0 (show (26 : Int) ≠ 1 by decide) p2' (fun q => absurd q (by dsimp only; omega))) ?_ (by (try unfold mo_L); (try unfold mo_E); (try unfold mo_tk); (repeat (refine ag_up rfl ?_)); exact ag_refl)
  · show (h 0 18) = _; (try simp only [pk_sum]); omega
  · show (h 0 113) + 1 + _ < 5 * ((h 0 7)); (try simp only [pk_sum]); omega
  · show (h 0 95) + _ < (h 0 7); (try simp only [pk_sum]); omega
  · show (h 0 7) ≤ (h 0 7); omega
  · show (h 0 84) = _; (try simp only [pk_sum]); omega
  · show (h 0 87) = _; (try simp only [pk_sum]); omega
  · show ph = 1 ∨ (h 0 79) ≤ (h 0 77); omega
  · show ph = 1 ∨ (h 0 77) ≤ 10; omega
  · intro q; show ph = 1 ∨ (h 0 77) ≤ 9; exact b4 (fun z => q (fun y hy => z y (List.mem_cons_of_mem _ hy)))
  · unfold pw; rw [ho, hA, hBB, mo_xw, mo_xw, mo_xw, mo_xn', mo_xn', mo_xn']; exact ⟨⟨by decide, by decide⟩, ⟨by omega, by omega⟩, ⟨by omega, by omega, by omega⟩, by omega, (show (1 : Int) ≤ ht (h 0 113).toNat by omega), fun z => absurd z (by decide), fun _ => ⟨(show 0 = ht (h 0 113).toNat + (-1) by omega), (show r + 8 * tu = rg (h 0 113).toNat + 8 * 0 by omega), by omega, fun _ => by omega⟩, fun z => absurd z (by decide), fun z => absurd z (by decide), fun z => absurd z (by unfold pw_jmp; decide), fun z => absurd z (by decide), fun z => absurd z (by decide), fun z => absurd z (by decide), fun z => absurd z (by decide), fun z => absurd z (by decide), fun z => ⟨⟨by omega, by omega, fun z => absurd z (by decide)⟩, by first | decide | (exfalso; omega)⟩⟩
  · rw [fin_adj p2' (show (26 : Int) ≠ 8 ∧ (26 : Int) ≠ 9 by decide)]; exact pt_eq (show _ = 0 - 0 by omega) (show _ = (h 0 109) by omega) (show _ = 0 by omega) (pt_ext (show (h 0 113) ≤ (h 0 113) + 1 by omega) (Int.le_refl _) (show (h 0 77) ≤ (h 0 77) by omega) (fun _ q => q) hext p4)
  · show 40 * (900 - ((h 0 7))) + pk_sum pk_m (s) + 13 < 40 * (900 - (h 0 7)) + pk_sum pk_m ((26, a, b) :: s) + 13; (try simp only [pk_sum]); omega

theorem ab_prt {h : ja_H} {R r ph q0 : Int} {tf : mo_TF} {s : List mo_A} {ht st rg : Nat → Int} {tu a b : Int} (g : mo_G Zz h) (hS : pk_S h (h 0 17).toNat s) (hB : piB h R r ph tf q0 ((27, a, b) :: s) ht st rg tu)  : pi_done h (mo_E (h) 18 0 0) R r ph tf q0 (pi_mu h ((27, a, b) :: s)) := by
  have hN := piB_num g hS hB
  obtain ⟨N1, N2, N3, N4, N5, N6, N7, N8, N9, N10, N11, N12, N13, ⟨NK1, NK2⟩, ND1, ND2, ND3, NU1, NU2⟩ := hN
  obtain ⟨⟨n1, n2, n3, n4, n5, n6, n7, n8, n9⟩, ⟨b1, b2, b3, b4⟩, reg, hpt, ⟨hC, hU⟩, hNo, hP, hT, top⟩ := id hB
  obtain ⟨⟨⟨p1, p1'⟩, p1u⟩, ⟨p2, p2'⟩, p3, p4⟩ := hpt
  have w0 := (gF_wTop g).1
  simp only [pk_sum] at n1 n2 n3 n6 n7
  dsimp only at p2 p2' N6
  have ec27 : pk_c 27 = 0 := rfl
  have ev27 : pk_v 27 = 1 := rfl
  have ed27 : pk_d 27 = 0 := rfl
  have eq27 : pk_q 27 = 0 := rfl
  have ef27 : pk_f 27 = 0 := rfl
  have em27 : pk_m 27 = 1 := rfl
  have eoff27 : pk_off 27 = 1 := rfl
  have ek27 : pk_k r 27 = 0 := rfl
  replace p3 : pt_ok (h 74) ht st rg (h 0 113) (h 0 88) (h 0 77) r (pi_wn h r) (27, a, b) s (ht (h 0 113).toNat - 0) (h 0 109) (st (h 0 113).toNat) tu := p3
  unfold pt_ok at p3; dsimp only at p3
  replace p4 : pt (h 74) ht st rg (h 0 113) (h 0 88) (h 0 77) r tf (pi_wn h r) s (0) ((h 0 109)) (0) (tu) := p4
  obtain ⟨-, xc, xt, ⟨xe, xu1, xu2⟩, -, -, -, -, -, -, -, -, -, -, -, -, -, -, xo17, -, -, -, -, -, -, -, -, -, -, -, -, -⟩ := p3
  replace xo17 := xo17 (by omega)
  have xq1o17 := xo17.1
  have xq2o17 := xo17.2.1
  have hr := reg_of hB (by dsimp only; omega) (by dsimp only; omega)
  have hbo := gF_body g
  have w0 := (gF_wTop g).1
  have W0 : 0 ≤ (h 0 113) := (gF_words g).1
  have hr4 : 0 ≤ r ∧ r ≤ 3 ∧ (r = 4 → tu = 0) := by
    rcases reg with ⟨q1, q2, -⟩ | ⟨q1, q2, q3, -⟩
    · omega
    · have := q3 _ List.mem_cons_self; dsimp only at this; omega
  have ho : (mo_E (h) 18 0 0) 74 (h 0 113).toNat = 18 := by simp [mo_L, mo_E, mo_tk, ja_up]
  have hA : (mo_E (h) 18 0 0) 75 (h 0 113).toNat = 0 := by simp [mo_L, mo_E, mo_tk, ja_up]
  have hBB : (mo_E (h) 18 0 0) 76 (h 0 113).toNat = 0 := by simp [mo_L, mo_E, mo_tk, ja_up]
  have hold : ∀ w : Nat, (w : Int) < (h 0 113) → (mo_E (h) 18 0 0) 74 w = (h 74) w ∧ (mo_E (h) 18 0 0) 75 w = (h 75) w ∧ (mo_E (h) 18 0 0) 76 w = (h 76) w := by
    intro w hw; refine ⟨?_, ?_, ?_⟩ <;> simp [mo_L, mo_E, mo_tk, ja_up] <;> (intros; omega)
  have hext : ∀ j : Nat, (j : Int) ≤ (h 0 113) → ((j : Int) < (h 0 113) → (mo_E (h) 18 0 0) 74 j = (h 74) j) ∧ mo_x ht (h 0 113) (0) j = ht j ∧ mo_x st (h 0 113) (0) j = st j ∧ mo_x rg (h 0 113) (r + 8 * tu) j = rg j := fun j hj => ⟨fun q => (hold j q).1, mo_xo W0 (by omega), mo_xo W0 (by omega), mo_xo W0 (by omega)⟩
  refine fin1 (c1 := 0) (e1 := 0) (tu1 := tu) (Or.inl rfl) g hB (by dsimp only; omega) (pk_S_E hS) (by (try unfold mo_L); (try unfold mo_E); (try unfold mo_tk); (repeat (refine ag_up rfl ?_)); exact ag_refl) rfl hold (by rw [ho]; decide) (idle_of (show (27 : Int) ≠ 4 ∧ (27 : Int) ≠ 21 ∧ (27 : Int) ≠ 22 ∧ (27 : Int) ≠ 28 ∧ (27 : Int) ≠ 24 by decide)) (fun _ q => q) (fun p q => pp_cons.mpr (Or.inr q)) ?_ ?_ ?_ ?_ ?_ ?_ ⟨?_, ?_, ?_⟩ (pi_if_tail (show (27 : Int) ≠ 36 by decide)) ⟨(fun q y hy => q y (List.mem_cons_of_mem _ hy)), (fun q y hy => q y (List.mem_cons_of_mem _ hy))⟩ ?_ ?_ (fin_top0 (show (27 : Int) ≠ 1 by decide) p2' (fun q => absurd q (by dsimp only; omega))) ?_ (by (try unfold mo_L); (try unfold mo_E); (try unfold mo_tk); (repeat (refine ag_up rfl ?_)); exact ag_refl)
  · show (h 0 18) = _; (try simp only [pk_sum]); omega
  · show (h 0 113) + 1 + _ < 5 * ((h 0 7)); (try simp only [pk_sum]); omega
  · show (h 0 95) + _ < (h 0 7); (try simp only [pk_sum]); omega
  · show (h 0 7) ≤ (h 0 7); omega
  · show (h 0 84) = _; (try simp only [pk_sum]); omega
  · show (h 0 87) = _; (try simp only [pk_sum]); omega
  · show ph = 1 ∨ (h 0 79) ≤ (h 0 77); omega
  · show ph = 1 ∨ (h 0 77) ≤ 10; omega
  · intro q; show ph = 1 ∨ (h 0 77) ≤ 9; exact b4 (fun z => q (fun y hy => z y (List.mem_cons_of_mem _ hy)))
  · unfold pw; rw [ho, hA, hBB, mo_xw, mo_xw, mo_xw, mo_xn', mo_xn', mo_xn']; exact ⟨⟨by decide, by decide⟩, ⟨by omega, by omega⟩, ⟨by omega, by omega, by omega⟩, by omega, (show (1 : Int) ≤ ht (h 0 113).toNat by omega), fun z => absurd z (by decide), fun _ => ⟨(show 0 = ht (h 0 113).toNat + (-1) by omega), (show r + 8 * tu = rg (h 0 113).toNat + 8 * 0 by omega), by omega, fun _ => by omega⟩, fun _ => ⟨by omega, rfl⟩, fun z => absurd z (by decide), fun z => absurd z (by unfold pw_jmp; decide), fun z => absurd z (by decide), fun z => absurd z (by decide), fun z => absurd z (by decide), fun z => absurd z (by decide), fun z => absurd z (by decide), fun z => ⟨⟨by omega, by omega, fun z => absurd z (by decide)⟩, by first | decide | (exfalso; omega)⟩⟩
  · rw [fin_adj p2' (show (27 : Int) ≠ 8 ∧ (27 : Int) ≠ 9 by decide)]; exact pt_eq (show _ = 0 - 0 by omega) (show _ = (h 0 109) by omega) (show _ = 0 by omega) (pt_ext (show (h 0 113) ≤ (h 0 113) + 1 by omega) (Int.le_refl _) (show (h 0 77) ≤ (h 0 77) by omega) (fun _ q => q) hext p4)
  · show 40 * (900 - ((h 0 7))) + pk_sum pk_m (s) + 13 < 40 * (900 - (h 0 7)) + pk_sum pk_m ((27, a, b) :: s) + 13; (try simp only [pk_sum]); omega

theorem ab_iftest {h : ja_H} {R r ph q0 : Int} {tf : mo_TF} {s : List mo_A} {ht st rg : Nat → Int} {tu a b : Int} (g : mo_G Zz h) (hS : pk_S h (h 0 17).toNat s) (hB : piB h R r ph tf q0 ((20, a, b) :: s) ht st rg tu)  : pi_done h (mo_L (mo_L (mo_E (h) 22 0 0) 21 (h 0 113) 0 0) 14 0 0 0) R r ph tf q0 (pi_mu h ((20, a, b) :: s)) := by
  have hN := piB_num g hS hB
  obtain ⟨N1, N2, N3, N4, N5, N6, N7, N8, N9, N10, N11, N12, N13, ⟨NK1, NK2⟩, ND1, ND2, ND3, NU1, NU2⟩ := hN
  obtain ⟨⟨n1, n2, n3, n4, n5, n6, n7, n8, n9⟩, ⟨b1, b2, b3, b4⟩, reg, hpt, ⟨hC, hU⟩, hNo, hP, hT, top⟩ := id hB
  obtain ⟨⟨⟨p1, p1'⟩, p1u⟩, ⟨p2, p2'⟩, p3, p4⟩ := hpt
  have w0 := (gF_wTop g).1
  simp only [pk_sum] at n1 n2 n3 n6 n7
  dsimp only at p2 p2' N6
  have ec14 : pk_c 14 = 0 := rfl
  have ev14 : pk_v 14 = 0 := rfl
  have ed14 : pk_d 14 = 0 := rfl
  have eq14 : pk_q 14 = 0 := rfl
  have ef14 : pk_f 14 = 0 := rfl
  have em14 : pk_m 14 = 1 := rfl
  have eoff14 : pk_off 14 = 4 := rfl
  have ek14 : pk_k r 14 = 0 := rfl
  have ec20 : pk_c 20 = 0 := rfl
  have ev20 : pk_v 20 = 1 := rfl
  have ed20 : pk_d 20 = 0 := rfl
  have eq20 : pk_q 20 = 0 := rfl
  have ef20 : pk_f 20 = 0 := rfl
  have em20 : pk_m 20 = 3 := rfl
  have eoff20 : pk_off 20 = 1 := rfl
  have ek20 : pk_k r 20 = 0 := rfl
  have ec21 : pk_c 21 = 0 := rfl
  have ev21 : pk_v 21 = 0 := rfl
  have ed21 : pk_d 21 = 0 := rfl
  have eq21 : pk_q 21 = 0 := rfl
  have ef21 : pk_f 21 = 0 := rfl
  have em21 : pk_m 21 = 1 := rfl
  have eoff21 : pk_off 21 = 1 := rfl
  have ek21 : pk_k r 21 = 0 := rfl
  replace p3 : pt_ok (h 74) ht st rg (h 0 113) (h 0 88) (h 0 77) r (pi_wn h r) (20, a, b) s (ht (h 0 113).toNat - 0) (h 0 109) (st (h 0 113).toNat) tu := p3
  unfold pt_ok at p3; dsimp only at p3
  replace p4 : pt (h 74) ht st rg (h 0 113) (h 0 88) (h 0 77) r tf (pi_wn h r) s (0) ((h 0 109)) (0) (tu) := p4
  obtain ⟨-, xc, xt, ⟨xe, xu1, xu2⟩, -, -, -, -, -, -, -, -, -, -, -, -, -, -, xo17, -, -, -, -, -, -, -, -, -, -, -, -, -⟩ := p3
  replace xo17 := xo17 (by omega)
  have xq1o17 := xo17.1
  have xq2o17 := xo17.2.1
  have hr := reg_of hB (by dsimp only; omega) (by dsimp only; omega)
  have hbo := gF_body g
  have w0 := (gF_wTop g).1
  have W0 : 0 ≤ (h 0 113) := (gF_words g).1
  have hr4 : 0 ≤ r ∧ r ≤ 3 ∧ (r = 4 → tu = 0) := by
    rcases reg with ⟨q1, q2, -⟩ | ⟨q1, q2, q3, -⟩
    · omega
    · have := q3 _ List.mem_cons_self; dsimp only at this; omega
  have ho : (mo_L (mo_L (mo_E (h) 22 0 0) 21 (h 0 113) 0 0) 14 0 0 0) 74 (h 0 113).toNat = 22 := by simp [mo_L, mo_E, mo_tk, ja_up]
  have hA : (mo_L (mo_L (mo_E (h) 22 0 0) 21 (h 0 113) 0 0) 14 0 0 0) 75 (h 0 113).toNat = 0 := by simp [mo_L, mo_E, mo_tk, ja_up]
  have hBB : (mo_L (mo_L (mo_E (h) 22 0 0) 21 (h 0 113) 0 0) 14 0 0 0) 76 (h 0 113).toNat = 0 := by simp [mo_L, mo_E, mo_tk, ja_up]
  have hold : ∀ w : Nat, (w : Int) < (h 0 113) → (mo_L (mo_L (mo_E (h) 22 0 0) 21 (h 0 113) 0 0) 14 0 0 0) 74 w = (h 74) w ∧ (mo_L (mo_L (mo_E (h) 22 0 0) 21 (h 0 113) 0 0) 14 0 0 0) 75 w = (h 75) w ∧ (mo_L (mo_L (mo_E (h) 22 0 0) 21 (h 0 113) 0 0) 14 0 0 0) 76 w = (h 76) w := by
    intro w hw; refine ⟨?_, ?_, ?_⟩ <;> simp [mo_L, mo_E, mo_tk, ja_up] <;> (intros; omega)
  have hext : ∀ j : Nat, (j : Int) ≤ (h 0 113) → ((j : Int) < (h 0 113) → (mo_L (mo_L (mo_E (h) 22 0 0) 21 (h 0 113) 0 0) 14 0 0 0) 74 j = (h 74) j) ∧ mo_x ht (h 0 113) (0) j = ht j ∧ mo_x st (h 0 113) (0) j = st j ∧ mo_x rg (h 0 113) (r + 8 * tu) j = rg j := fun j hj => ⟨fun q => (hold j q).1, mo_xo W0 (by omega), mo_xo W0 (by omega), mo_xo W0 (by omega)⟩
  refine fin1 (c1 := 0) (e1 := 0) (tu1 := tu) (Or.inl rfl) g hB (by dsimp only; omega) (pk_S_L (show 0 ≤ (h 0 17) + 1 by omega) (pk_S_L (show 0 ≤ (h 0 17) by omega) (pk_S_E hS))) (by (try unfold mo_L); (try unfold mo_E); (try unfold mo_tk); (repeat (refine ag_up rfl ?_)); exact ag_refl) rfl hold (by rw [ho]; decide) (idle_of (show (20 : Int) ≠ 4 ∧ (20 : Int) ≠ 21 ∧ (20 : Int) ≠ 22 ∧ (20 : Int) ≠ 28 ∧ (20 : Int) ≠ 24 by decide)) (fun _ q => List.mem_cons_of_mem _ (List.mem_cons_of_mem _ (q))) (fun p q => by simp only [pp_cons] at q ⊢; rcases q with q | q | q <;> first | (exact Or.inr q) | (exfalso; simp [pp] at q)) ?_ ?_ ?_ ?_ ?_ ?_ ⟨?_, ?_, ?_⟩ (by simp only [pi_if, List.mem_cons, exists_eq_or_imp]; simp) ⟨(fun q y hy => by (try simp only [List.mem_cons] at hy); (rcases hy with rfl | rfl | hy) <;> first | (exact q _ (List.mem_cons_of_mem _ hy)) | (have := q _ List.mem_cons_self; dsimp only at this ⊢; omega)), (fun q y hy => by (try simp only [List.mem_cons] at hy); (rcases hy with rfl | rfl | hy) <;> first | (exact q _ (List.mem_cons_of_mem _ hy)) | (have := q _ List.mem_cons_self; dsimp only at this ⊢; omega))⟩ ?_ ?_ ⟨fun e => absurd e (by dsimp only; omega), fun e => absurd e (by dsimp only; omega), fun e => absurd e (by dsimp only; omega), fun e => absurd e (by dsimp only; omega)⟩ ?_ (by (try unfold mo_L); (try unfold mo_E); (try unfold mo_tk); (repeat (refine ag_up rfl ?_)); exact ag_refl)
  · show (h 0 18) = _; (try simp only [pk_sum]); omega
  · show (h 0 113) + 1 + _ < 5 * ((h 0 7)); (try simp only [pk_sum]); omega
  · show (h 0 95) + _ < (h 0 7); (try simp only [pk_sum]); omega
  · show (h 0 7) ≤ (h 0 7); omega
  · show (h 0 84) = _; (try simp only [pk_sum]); omega
  · show (h 0 87) = _; (try simp only [pk_sum]); omega
  · show ph = 1 ∨ (h 0 79) ≤ (h 0 77); omega
  · show ph = 1 ∨ (h 0 77) ≤ 10; omega
  · intro q; show ph = 1 ∨ (h 0 77) ≤ 9; refine b4 (fun z => q ?_); intro y hy; simp only [List.mem_cons] at hy; rcases hy with rfl | rfl | hy
    · show (14 : Int) ≠ 17; decide
    · show (21 : Int) ≠ 17; decide
    · exact z y (List.mem_cons_of_mem _ hy)
  · unfold pw; rw [ho, hA, hBB, mo_xw, mo_xw, mo_xw, mo_xn', mo_xn', mo_xn']; exact ⟨⟨by decide, by decide⟩, ⟨by omega, by omega⟩, ⟨by omega, by omega, by omega⟩, by omega, (show (1 : Int) ≤ ht (h 0 113).toNat by omega), fun z => absurd z (by decide), fun _ => ⟨(show 0 = ht (h 0 113).toNat + (-1) by omega), (show r + 8 * tu = rg (h 0 113).toNat + 8 * 0 by omega), by omega, fun _ => by omega⟩, fun z => absurd z (by decide), fun z => absurd z (by decide), fun _ => Or.inl ⟨_, List.mem_cons_of_mem _ (List.mem_cons_self), Or.inl ⟨Or.inr (Or.inl rfl), (show (h 0 113) = (((h 0 113).toNat : Nat) : Int) by omega)⟩⟩, fun z => absurd z (by decide), fun z => absurd z (by decide), fun z => absurd z (by decide), fun z => absurd z (by decide), fun z => absurd z (by decide), fun z => ⟨⟨by omega, by omega, fun z => absurd z (by decide)⟩, by first | decide | (exfalso; omega)⟩⟩
  · exact ⟨⟨⟨by (try simp only [pk_sum]); omega, by (try simp only [pk_sum]); omega⟩, (fun p q => absurd q (by simp [pp]))⟩, ⟨by (try simp only [pk_sum, List.length_cons]); (try dsimp only); omega, (by intro y z e; cases e; dsimp only; omega)⟩, (show pt_ok ((mo_L (mo_L (mo_E (h) 22 0 0) 21 (h 0 113) 0 0) 14 0 0 0) 74) (mo_x ht (h 0 113) (0)) (mo_x st (h 0 113) (0)) (mo_x rg (h 0 113) (r + 8 * tu)) ((h 0 113) + 1) (h 0 88) ((h 0 77)) r (pi_wn h r) (14, 0, 0) ((21, (h 0 113), 0) :: s) (0 - 0) ((h 0 109)) (0) (tu) from by unfold pt_ok; (try dsimp only); (try simp only [pk_sum]); exact ⟨⟨by omega, by omega, by omega, by omega⟩, by omega, by omega, ⟨by first | omega | simp, by omega, by omega⟩, fun z => absurd z (by omega), fun z => absurd z (by omega), fun z => absurd z (by omega), fun z => absurd z (by omega), fun z => absurd z (by omega), fun z => absurd z (by omega), fun z => absurd z (by omega), fun z => absurd z (by omega), fun z => absurd z (by omega), fun z => absurd z (by omega), fun z => absurd z (by omega), fun z => absurd z (by omega), fun _ => ⟨by first | trivial | omega, by first | trivial | omega, (pt_let_cons (show (21 : Int) ≠ 17 by decide)).mpr xo17.2.2⟩, fun z => absurd z (by omega), fun z => absurd z (by omega), fun z => absurd z (by omega), fun z => absurd z (by omega), fun z => absurd z (by omega), fun z => absurd z (by omega), fun z => absurd z (by omega), fun z => absurd z (by omega), fun z => absurd z (by omega), fun z => absurd z (by omega), fun z => absurd z (by omega), fun z => absurd z (by omega), fun z => absurd z (by omega), fun z => absurd z (by omega), fun z => absurd z (by omega)⟩), ⟨⟨⟨by (try simp only [pk_sum]); omega, by (try simp only [pk_sum]); omega⟩, (fun p q => absurd q (by simp [pp]))⟩, ⟨by (try simp only [pk_sum, List.length_cons]); (try dsimp only); omega, (by intro y z e; have q := p2' y z e; dsimp only at q ⊢; omega)⟩, (show pt_ok ((mo_L (mo_L (mo_E (h) 22 0 0) 21 (h 0 113) 0 0) 14 0 0 0) 74) (mo_x ht (h 0 113) (0)) (mo_x st (h 0 113) (0)) (mo_x rg (h 0 113) (r + 8 * tu)) ((h 0 113) + 1) (h 0 88) ((h 0 77)) r (pi_wn h r) (21, (h 0 113), 0) (s) (0) ((h 0 109)) (0) (tu) from by unfold pt_ok; (try dsimp only); (try simp only [pk_sum]); exact ⟨⟨by omega, by omega, by omega, by omega⟩, by omega, by omega, ⟨by first | omega | simp, by omega, by omega⟩, fun z => absurd z (by omega), fun z => absurd z (by omega), fun z => absurd z (by omega), fun z => absurd z (by omega), fun z => absurd z (by omega), fun z => absurd z (by omega), fun z => absurd z (by omega), fun z => absurd z (by omega), fun z => absurd z (by omega), fun z => absurd z (by omega), fun z => absurd z (by omega), fun z => absurd z (by omega), fun _ => ⟨by first | trivial | omega, by first | trivial | omega, xo17.2.2⟩, fun z => absurd z (by omega), fun z => absurd z (by omega), fun z => absurd z (by omega), fun z => absurd z (by omega), fun _ => ⟨⟨W0, by omega, (mo_xw).trans (by omega), (mo_xw).trans hr.1, (mo_xw).trans (by omega)⟩, ho⟩, fun z => absurd z (by omega), fun z => absurd z (by omega), fun z => absurd z (by omega), fun z => absurd z (by omega), fun z => absurd z (by omega), fun z => absurd z (by omega), fun z => absurd z (by omega), fun z => absurd z (by omega), fun z => absurd z (by omega), fun z => absurd z (by omega)⟩), (pt_eq (show _ = 0 by omega) (show _ = (h 0 109) by omega) (show _ = 0 by omega) (pt_ext (show (h 0 113) ≤ (h 0 113) + 1 by omega) (Int.le_refl _) (show (h 0 77) ≤ (h 0 77) by omega) (fun _ q => q) hext p4))⟩⟩
  · show 40 * (900 - ((h 0 7))) + pk_sum pk_m ((14, 0, 0) :: (21, (h 0 113), 0) :: s) + 13 < 40 * (900 - (h 0 7)) + pk_sum pk_m ((20, a, b) :: s) + 13; (try simp only [pk_sum]); omega

theorem ab_while {h : ja_H} {R r ph q0 : Int} {tf : mo_TF} {s : List mo_A} {ht st rg : Nat → Int} {tu a b : Int} (g : mo_G Zz h) (hS : pk_S h (h 0 17).toNat s) (hB : piB h R r ph tf q0 ((23, a, b) :: s) ht st rg tu)  : pi_done h (mo_L (mo_L (mo_E (h) 22 0 0) 24 a (h 0 113) 0) 14 0 0 0) R r ph tf q0 (pi_mu h ((23, a, b) :: s)) := by
  have hN := piB_num g hS hB
  obtain ⟨N1, N2, N3, N4, N5, N6, N7, N8, N9, N10, N11, N12, N13, ⟨NK1, NK2⟩, ND1, ND2, ND3, NU1, NU2⟩ := hN
  obtain ⟨⟨n1, n2, n3, n4, n5, n6, n7, n8, n9⟩, ⟨b1, b2, b3, b4⟩, reg, hpt, ⟨hC, hU⟩, hNo, hP, hT, top⟩ := id hB
  obtain ⟨⟨⟨p1, p1'⟩, p1u⟩, ⟨p2, p2'⟩, p3, p4⟩ := hpt
  have w0 := (gF_wTop g).1
  simp only [pk_sum] at n1 n2 n3 n6 n7
  dsimp only at p2 p2' N6
  have ec14 : pk_c 14 = 0 := rfl
  have ev14 : pk_v 14 = 0 := rfl
  have ed14 : pk_d 14 = 0 := rfl
  have eq14 : pk_q 14 = 0 := rfl
  have ef14 : pk_f 14 = 0 := rfl
  have em14 : pk_m 14 = 1 := rfl
  have eoff14 : pk_off 14 = 4 := rfl
  have ek14 : pk_k r 14 = 0 := rfl
  have ec23 : pk_c 23 = 0 := rfl
  have ev23 : pk_v 23 = 2 := rfl
  have ed23 : pk_d 23 = 0 := rfl
  have eq23 : pk_q 23 = 0 := rfl
  have ef23 : pk_f 23 = 0 := rfl
  have em23 : pk_m 23 = 3 := rfl
  have eoff23 : pk_off 23 = 1 := rfl
  have ek23 : pk_k r 23 = 0 := rfl
  have ec24 : pk_c 24 = 0 := rfl
  have ev24 : pk_v 24 = 1 := rfl
  have ed24 : pk_d 24 = 0 := rfl
  have eq24 : pk_q 24 = 0 := rfl
  have ef24 : pk_f 24 = 0 := rfl
  have em24 : pk_m 24 = 1 := rfl
  have eoff24 : pk_off 24 = 1 := rfl
  have ek24 : pk_k r 24 = 0 := rfl
  replace p3 : pt_ok (h 74) ht st rg (h 0 113) (h 0 88) (h 0 77) r (pi_wn h r) (23, a, b) s (ht (h 0 113).toNat - 0) (h 0 109) (st (h 0 113).toNat) tu := p3
  unfold pt_ok at p3; dsimp only at p3
  replace p4 : pt (h 74) ht st rg (h 0 113) (h 0 88) (h 0 77) r tf (pi_wn h r) s (0) ((h 0 109)) (0) (tu) := p4
  obtain ⟨-, xc, xt, ⟨xe, xu1, xu2⟩, -, -, -, -, -, -, -, -, -, -, -, -, -, -, xo17, -, -, -, -, xo23, -, -, -, -, -, -, -, -⟩ := p3
  replace xo17 := xo17 (by omega)
  have xq1o17 := xo17.1
  have xq2o17 := xo17.2.1
  replace xo23 := xo23 (by omega)
  have hr := reg_of hB (by dsimp only; omega) (by dsimp only; omega)
  have hbo := gF_body g
  have w0 := (gF_wTop g).1
  have W0 : 0 ≤ (h 0 113) := (gF_words g).1
  have hr4 : 0 ≤ r ∧ r ≤ 3 ∧ (r = 4 → tu = 0) := by
    rcases reg with ⟨q1, q2, -⟩ | ⟨q1, q2, q3, -⟩
    · omega
    · have := q3 _ List.mem_cons_self; dsimp only at this; omega
  have ho : (mo_L (mo_L (mo_E (h) 22 0 0) 24 a (h 0 113) 0) 14 0 0 0) 74 (h 0 113).toNat = 22 := by simp [mo_L, mo_E, mo_tk, ja_up]
  have hA : (mo_L (mo_L (mo_E (h) 22 0 0) 24 a (h 0 113) 0) 14 0 0 0) 75 (h 0 113).toNat = 0 := by simp [mo_L, mo_E, mo_tk, ja_up]
  have hBB : (mo_L (mo_L (mo_E (h) 22 0 0) 24 a (h 0 113) 0) 14 0 0 0) 76 (h 0 113).toNat = 0 := by simp [mo_L, mo_E, mo_tk, ja_up]
  have hold : ∀ w : Nat, (w : Int) < (h 0 113) → (mo_L (mo_L (mo_E (h) 22 0 0) 24 a (h 0 113) 0) 14 0 0 0) 74 w = (h 74) w ∧ (mo_L (mo_L (mo_E (h) 22 0 0) 24 a (h 0 113) 0) 14 0 0 0) 75 w = (h 75) w ∧ (mo_L (mo_L (mo_E (h) 22 0 0) 24 a (h 0 113) 0) 14 0 0 0) 76 w = (h 76) w := by
    intro w hw; refine ⟨?_, ?_, ?_⟩ <;> simp [mo_L, mo_E, mo_tk, ja_up] <;> (intros; omega)
  have hext : ∀ j : Nat, (j : Int) ≤ (h 0 113) → ((j : Int) < (h 0 113) → (mo_L (mo_L (mo_E (h) 22 0 0) 24 a (h 0 113) 0) 14 0 0 0) 74 j = (h 74) j) ∧ mo_x ht (h 0 113) (0) j = ht j ∧ mo_x st (h 0 113) (0) j = st j ∧ mo_x rg (h 0 113) (r + 8 * tu) j = rg j := fun j hj => ⟨fun q => (hold j q).1, mo_xo W0 (by omega), mo_xo W0 (by omega), mo_xo W0 (by omega)⟩
  refine fin1 (c1 := 0) (e1 := 0) (tu1 := tu) (Or.inl rfl) g hB (by dsimp only; omega) (pk_S_L (show 0 ≤ (h 0 17) + 1 by omega) (pk_S_L (show 0 ≤ (h 0 17) by omega) (pk_S_E hS))) (by (try unfold mo_L); (try unfold mo_E); (try unfold mo_tk); (repeat (refine ag_up rfl ?_)); exact ag_refl) rfl hold (by rw [ho]; decide) (idle_of (show (23 : Int) ≠ 4 ∧ (23 : Int) ≠ 21 ∧ (23 : Int) ≠ 22 ∧ (23 : Int) ≠ 28 ∧ (23 : Int) ≠ 24 by decide)) (fun _ q => List.mem_cons_of_mem _ (List.mem_cons_of_mem _ (q))) (fun p q => by simp only [pp_cons] at q ⊢; rcases q with q | q | q <;> first | (exact Or.inr q) | (exfalso; simp [pp] at q)) ?_ ?_ ?_ ?_ ?_ ?_ ⟨?_, ?_, ?_⟩ (by simp only [pi_if, List.mem_cons, exists_eq_or_imp]; simp) ⟨(fun q y hy => by (try simp only [List.mem_cons] at hy); (rcases hy with rfl | rfl | hy) <;> first | (exact q _ (List.mem_cons_of_mem _ hy)) | (have := q _ List.mem_cons_self; dsimp only at this ⊢; omega)), (fun q y hy => by (try simp only [List.mem_cons] at hy); (rcases hy with rfl | rfl | hy) <;> first | (exact q _ (List.mem_cons_of_mem _ hy)) | (have := q _ List.mem_cons_self; dsimp only at this ⊢; omega))⟩ ?_ ?_ ⟨fun e => absurd e (by dsimp only; omega), fun e => absurd e (by dsimp only; omega), fun e => absurd e (by dsimp only; omega), fun e => absurd e (by dsimp only; omega)⟩ ?_ (by (try unfold mo_L); (try unfold mo_E); (try unfold mo_tk); (repeat (refine ag_up rfl ?_)); exact ag_refl)
  · show (h 0 18) = _; (try simp only [pk_sum]); omega
  · show (h 0 113) + 1 + _ < 5 * ((h 0 7)); (try simp only [pk_sum]); omega
  · show (h 0 95) + _ < (h 0 7); (try simp only [pk_sum]); omega
  · show (h 0 7) ≤ (h 0 7); omega
  · show (h 0 84) = _; (try simp only [pk_sum]); omega
  · show (h 0 87) = _; (try simp only [pk_sum]); omega
  · show ph = 1 ∨ (h 0 79) ≤ (h 0 77); omega
  · show ph = 1 ∨ (h 0 77) ≤ 10; omega
  · intro q; show ph = 1 ∨ (h 0 77) ≤ 9; refine b4 (fun z => q ?_); intro y hy; simp only [List.mem_cons] at hy; rcases hy with rfl | rfl | hy
    · show (14 : Int) ≠ 17; decide
    · show (24 : Int) ≠ 17; decide
    · exact z y (List.mem_cons_of_mem _ hy)
  · unfold pw; rw [ho, hA, hBB, mo_xw, mo_xw, mo_xw, mo_xn', mo_xn', mo_xn']; exact ⟨⟨by decide, by decide⟩, ⟨by omega, by omega⟩, ⟨by omega, by omega, by omega⟩, by omega, (show (1 : Int) ≤ ht (h 0 113).toNat by omega), fun z => absurd z (by decide), fun _ => ⟨(show 0 = ht (h 0 113).toNat + (-1) by omega), (show r + 8 * tu = rg (h 0 113).toNat + 8 * 0 by omega), by omega, fun _ => by omega⟩, fun z => absurd z (by decide), fun z => absurd z (by decide), fun _ => Or.inl ⟨_, List.mem_cons_of_mem _ (List.mem_cons_self), Or.inr ⟨rfl, (show (h 0 113) = (((h 0 113).toNat : Nat) : Int) by omega)⟩⟩, fun z => absurd z (by decide), fun z => absurd z (by decide), fun z => absurd z (by decide), fun z => absurd z (by decide), fun z => absurd z (by decide), fun z => ⟨⟨by omega, by omega, fun z => absurd z (by decide)⟩, by first | decide | (exfalso; omega)⟩⟩
  · exact ⟨⟨⟨by (try simp only [pk_sum]); omega, by (try simp only [pk_sum]); omega⟩, (fun p q => absurd q (by simp [pp]))⟩, ⟨by (try simp only [pk_sum, List.length_cons]); (try dsimp only); omega, (by intro y z e; cases e; dsimp only; omega)⟩, (show pt_ok ((mo_L (mo_L (mo_E (h) 22 0 0) 24 a (h 0 113) 0) 14 0 0 0) 74) (mo_x ht (h 0 113) (0)) (mo_x st (h 0 113) (0)) (mo_x rg (h 0 113) (r + 8 * tu)) ((h 0 113) + 1) (h 0 88) ((h 0 77)) r (pi_wn h r) (14, 0, 0) ((24, a, (h 0 113)) :: s) (0 - 0) ((h 0 109)) (0) (tu) from by unfold pt_ok; (try dsimp only); (try simp only [pk_sum]); exact ⟨⟨by omega, by omega, by omega, by omega⟩, by omega, by omega, ⟨by first | omega | simp, by omega, by omega⟩, fun z => absurd z (by omega), fun z => absurd z (by omega), fun z => absurd z (by omega), fun z => absurd z (by omega), fun z => absurd z (by omega), fun z => absurd z (by omega), fun z => absurd z (by omega), fun z => absurd z (by omega), fun z => absurd z (by omega), fun z => absurd z (by omega), fun z => absurd z (by omega), fun z => absurd z (by omega), fun _ => ⟨by first | trivial | omega, by first | trivial | omega, (pt_let_cons (show (24 : Int) ≠ 17 by decide)).mpr xo17.2.2⟩, fun z => absurd z (by omega), fun z => absurd z (by omega), fun z => absurd z (by omega), fun z => absurd z (by omega), fun z => absurd z (by omega), fun z => absurd z (by omega), fun z => absurd z (by omega), fun z => absurd z (by omega), fun z => absurd z (by omega), fun z => absurd z (by omega), fun z => absurd z (by omega), fun z => absurd z (by omega), fun z => absurd z (by omega), fun z => absurd z (by omega), fun z => absurd z (by omega)⟩), ⟨⟨⟨by (try simp only [pk_sum]); omega, by (try simp only [pk_sum]); omega⟩, (fun p q => absurd q (by simp [pp]))⟩, ⟨by (try simp only [pk_sum, List.length_cons]); (try dsimp only); omega, (by intro y z e; have q := p2' y z e; dsimp only at q ⊢; omega)⟩, (show pt_ok ((mo_L (mo_L (mo_E (h) 22 0 0) 24 a (h 0 113) 0) 14 0 0 0) 74) (mo_x ht (h 0 113) (0)) (mo_x st (h 0 113) (0)) (mo_x rg (h 0 113) (r + 8 * tu)) ((h 0 113) + 1) (h 0 88) ((h 0 77)) r (pi_wn h r) (24, a, (h 0 113)) (s) (0) ((h 0 109)) (0) (tu) from by unfold pt_ok; (try dsimp only); (try simp only [pk_sum]); exact ⟨⟨by omega, by omega, by omega, by omega⟩, by omega, by omega, ⟨by first | omega | simp, by omega, by omega⟩, fun z => absurd z (by omega), fun z => absurd z (by omega), fun z => absurd z (by omega), fun z => absurd z (by omega), fun z => absurd z (by omega), fun z => absurd z (by omega), fun z => absurd z (by omega), fun z => absurd z (by omega), fun z => absurd z (by omega), fun z => absurd z (by omega), fun z => absurd z (by omega), fun z => absurd z (by omega), fun _ => ⟨by first | trivial | omega, by first | trivial | omega, xo17.2.2⟩, fun z => absurd z (by omega), fun z => absurd z (by omega), fun z => absurd z (by omega), fun z => absurd z (by omega), fun z => absurd z (by omega), fun z => absurd z (by omega), fun z => absurd z (by omega), fun _ => ⟨⟨pt_at_ext (show (h 0 113) ≤ (h 0 113) + 1 by omega) (fun j hj => (hext j hj).2) xo23.1, ((hext (a.toNat + 1) (by have := xo23.1.1; have := xo23.1.2.1; omega)).2.2.1).trans xo23.2⟩, ⟨W0, by omega, (mo_xw).trans (by omega), (mo_xw).trans hr.1, (mo_xw).trans (by omega)⟩, ho⟩, fun z => absurd z (by omega), fun z => absurd z (by omega), fun z => absurd z (by omega), fun z => absurd z (by omega), fun z => absurd z (by omega), fun z => absurd z (by omega), fun z => absurd z (by omega)⟩), (pt_eq (show _ = 0 by omega) (show _ = (h 0 109) by omega) (show _ = 0 by omega) (pt_ext (show (h 0 113) ≤ (h 0 113) + 1 by omega) (Int.le_refl _) (show (h 0 77) ≤ (h 0 77) by omega) (fun _ q => q) hext p4))⟩⟩
  · show 40 * (900 - ((h 0 7))) + pk_sum pk_m ((14, 0, 0) :: (24, a, (h 0 113)) :: s) + 13 < 40 * (900 - (h 0 7)) + pk_sum pk_m ((23, a, b) :: s) + 13; (try simp only [pk_sum]); omega

theorem ab_ops_12 {h : ja_H} {R r ph q0 : Int} {tf : mo_TF} {s : List mo_A} {ht st rg : Nat → Int} {tu a b : Int} (g : mo_G Zz h) (hS : pk_S h (h 0 17).toNat s) (hB : piB h R r ph tf q0 ((2, a, b) :: s) ht st rg tu) {v : Int} : pi_done h (mo_L (mo_L (mo_E (mo_L (mo_tk (h)) 2 a 0 0) 12 0 0) 4 (h 0 113) 0 0) 1 v 0 0) R r ph tf q0 (pi_mu h ((2, a, b) :: s)) := by
  have hN := piB_num g hS hB
  obtain ⟨N1, N2, N3, N4, N5, N6, N7, N8, N9, N10, N11, N12, N13, ⟨NK1, NK2⟩, ND1, ND2, ND3, NU1, NU2⟩ := hN
  obtain ⟨⟨n1, n2, n3, n4, n5, n6, n7, n8, n9⟩, ⟨b1, b2, b3, b4⟩, reg, hpt, ⟨hC, hU⟩, hNo, hP, hT, top⟩ := id hB
  obtain ⟨⟨⟨p1, p1'⟩, p1u⟩, ⟨p2, p2'⟩, p3, p4⟩ := hpt
  have w0 := (gF_wTop g).1
  simp only [pk_sum] at n1 n2 n3 n6 n7
  dsimp only at p2 p2' N6
  have ec1 : pk_c 1 = 0 := rfl
  have ev1 : pk_v 1 = (-4) := rfl
  have ed1 : pk_d 1 = 0 := rfl
  have eq1 : pk_q 1 = 0 := rfl
  have ef1 : pk_f 1 = 0 := rfl
  have em1 : pk_m 1 = (-10) := rfl
  have eoff1 : pk_off 1 = 7 := rfl
  have ek1 : pk_k r 1 = 0 := rfl
  have ec2 : pk_c 2 = 1 := rfl
  have ev2 : pk_v 2 = 0 := rfl
  have ed2 : pk_d 2 = 0 := rfl
  have eq2 : pk_q 2 = 0 := rfl
  have ef2 : pk_f 2 = 0 := rfl
  have em2 : pk_m 2 = 1 := rfl
  have eoff2 : pk_off 2 = 7 := rfl
  have ek2 : pk_k r 2 = pk_D r := rfl
  have ec4 : pk_c 4 = 0 := rfl
  have ev4 : pk_v 4 = 1 := rfl
  have ed4 : pk_d 4 = 0 := rfl
  have eq4 : pk_q 4 = 0 := rfl
  have ef4 : pk_f 4 = 0 := rfl
  have em4 : pk_m 4 = 1 := rfl
  have eoff4 : pk_off 4 = 2 := rfl
  have ek4 : pk_k r 4 = 0 := rfl
  replace p3 : pt_ok (h 74) ht st rg (h 0 113) (h 0 88) (h 0 77) r (pi_wn h r) (2, a, b) s (ht (h 0 113).toNat - 0) (h 0 109) (st (h 0 113).toNat) tu := p3
  unfold pt_ok at p3; dsimp only at p3
  replace p4 : pt (h 74) ht st rg (h 0 113) (h 0 88) (h 0 77) r tf (pi_wn h r) s ((ht (h 0 113).toNat - 0)) ((h 0 109)) (st (h 0 113).toNat) (tu) := p4
  obtain ⟨-, xc, xt, ⟨xe, xu1, xu2⟩, -, xo2, -, -, -, -, -, -, -, -, -, -, -, -, -, -, -, -, -, -, -, -, -, -, -, -, -, -⟩ := p3
  replace xo2 := xo2 (by omega)
  have hr := reg_of hB (by dsimp only; omega) (by dsimp only; omega)
  have hbo := gF_body g
  have w0 := (gF_wTop g).1
  have W0 : 0 ≤ (h 0 113) := (gF_words g).1
  have hr4 : 0 ≤ r ∧ r ≤ 4 ∧ (r = 4 → tu = 0) := by
    rcases reg with ⟨q1, q2, -⟩ | ⟨q1, q2, q3, -⟩
    · omega
    · omega
  have ho : (mo_L (mo_L (mo_E (mo_L (mo_tk (h)) 2 a 0 0) 12 0 0) 4 (h 0 113) 0 0) 1 v 0 0) 74 (h 0 113).toNat = 12 := by simp [mo_L, mo_E, mo_tk, ja_up]
  have hA : (mo_L (mo_L (mo_E (mo_L (mo_tk (h)) 2 a 0 0) 12 0 0) 4 (h 0 113) 0 0) 1 v 0 0) 75 (h 0 113).toNat = 0 := by simp [mo_L, mo_E, mo_tk, ja_up]
  have hBB : (mo_L (mo_L (mo_E (mo_L (mo_tk (h)) 2 a 0 0) 12 0 0) 4 (h 0 113) 0 0) 1 v 0 0) 76 (h 0 113).toNat = 0 := by simp [mo_L, mo_E, mo_tk, ja_up]
  have hold : ∀ w : Nat, (w : Int) < (h 0 113) → (mo_L (mo_L (mo_E (mo_L (mo_tk (h)) 2 a 0 0) 12 0 0) 4 (h 0 113) 0 0) 1 v 0 0) 74 w = (h 74) w ∧ (mo_L (mo_L (mo_E (mo_L (mo_tk (h)) 2 a 0 0) 12 0 0) 4 (h 0 113) 0 0) 1 v 0 0) 75 w = (h 75) w ∧ (mo_L (mo_L (mo_E (mo_L (mo_tk (h)) 2 a 0 0) 12 0 0) 4 (h 0 113) 0 0) 1 v 0 0) 76 w = (h 76) w := by
    intro w hw; refine ⟨?_, ?_, ?_⟩ <;> simp [mo_L, mo_E, mo_tk, ja_up] <;> (intros; omega)
  have hext : ∀ j : Nat, (j : Int) ≤ (h 0 113) → ((j : Int) < (h 0 113) → (mo_L (mo_L (mo_E (mo_L (mo_tk (h)) 2 a 0 0) 12 0 0) 4 (h 0 113) 0 0) 1 v 0 0) 74 j = (h 74) j) ∧ mo_x ht (h 0 113) ((ht (h 0 113).toNat - 1)) j = ht j ∧ mo_x st (h 0 113) ((st (h 0 113).toNat)) j = st j ∧ mo_x rg (h 0 113) (r + 8 * tu) j = rg j := fun j hj => ⟨fun q => (hold j q).1, mo_xo W0 (by omega), mo_xo W0 (by omega), mo_xo W0 (by omega)⟩
  refine fin1 (c1 := (ht (h 0 113).toNat - 1)) (e1 := (st (h 0 113).toNat)) (tu1 := tu) (Or.inl rfl) g hB (by dsimp only; omega) (pk_S_L (show 0 ≤ (h 0 17) + 1 + 1 by omega) (pk_S_L (show 0 ≤ (h 0 17) + 1 by omega) (pk_S_E (pk_S_L (show 0 ≤ (h 0 17) by omega) (pk_S_ag (ag_up rfl ag_refl) hS))))) (by (try unfold mo_L); (try unfold mo_E); (try unfold mo_tk); (repeat (refine ag_up rfl ?_)); exact ag_refl) rfl hold (by rw [ho]; decide) (idle_of (show (2 : Int) ≠ 4 ∧ (2 : Int) ≠ 21 ∧ (2 : Int) ≠ 22 ∧ (2 : Int) ≠ 28 ∧ (2 : Int) ≠ 24 by decide)) (fun _ q => List.mem_cons_of_mem _ (List.mem_cons_of_mem _ (List.mem_cons_of_mem _ (q)))) (fun p q => by simp only [pp_cons] at q ⊢; rcases q with q | q | q | q <;> first | (exact Or.inr q) | (exfalso; simp [pp] at q)) ?_ ?_ ?_ ?_ ?_ ?_ ⟨?_, ?_, ?_⟩ (by simp only [pi_if, List.mem_cons, exists_eq_or_imp]; simp) ⟨(fun q y hy => by (try simp only [List.mem_cons] at hy); (rcases hy with rfl | rfl | rfl | hy) <;> first | (exact q _ (List.mem_cons_of_mem _ hy)) | (have := q _ List.mem_cons_self; dsimp only at this ⊢; omega)), (fun q y hy => by (try simp only [List.mem_cons] at hy); (rcases hy with rfl | rfl | rfl | hy) <;> first | (exact q _ (List.mem_cons_of_mem _ hy)) | (have := q _ List.mem_cons_self; dsimp only at this ⊢; omega))⟩ ?_ ?_ ⟨fun e => absurd e (by dsimp only; omega), fun e => absurd e (by dsimp only; omega), fun _ y z e => by cases e; intro q; exact absurd q (by dsimp only; omega), fun e => absurd e (by dsimp only; omega)⟩ ?_ (by (try unfold mo_L); (try unfold mo_E); (try unfold mo_tk); (repeat (refine ag_up rfl ?_)); exact ag_refl)
  · show (h 0 18) = _; (try simp only [pk_sum]); omega
  · show (h 0 113) + 1 + _ < 5 * ((h 0 7) + 1); (try simp only [pk_sum]); omega
  · show (h 0 95) + _ < (h 0 7) + 1; (try simp only [pk_sum]); omega
  · show (h 0 7) ≤ (h 0 7) + 1; omega
  · show (h 0 84) = _; (try simp only [pk_sum]); omega
  · show (h 0 87) = _; (try simp only [pk_sum]); omega
  · show ph = 1 ∨ (h 0 79) ≤ (h 0 77); omega
  · show ph = 1 ∨ (h 0 77) ≤ 10; omega
  · intro q; show ph = 1 ∨ (h 0 77) ≤ 9; refine b4 (fun z => q ?_); intro y hy; simp only [List.mem_cons] at hy; rcases hy with rfl | rfl | rfl | hy
    · show (1 : Int) ≠ 17; decide
    · show (4 : Int) ≠ 17; decide
    · show (2 : Int) ≠ 17; decide
    · exact z y (List.mem_cons_of_mem _ hy)
  · unfold pw; rw [ho, hA, hBB, mo_xw, mo_xw, mo_xw, mo_xn', mo_xn', mo_xn']; exact ⟨⟨by decide, by decide⟩, ⟨by omega, by omega⟩, ⟨by omega, by omega, by omega⟩, by omega, (show (1 : Int) ≤ ht (h 0 113).toNat by omega), fun z => absurd z (by decide), fun _ => ⟨(show (ht (h 0 113).toNat - 1) = ht (h 0 113).toNat + (-1) by omega), (show r + 8 * tu = rg (h 0 113).toNat + 8 * 0 by omega), by omega, fun _ => by omega⟩, fun z => absurd z (by decide), fun z => absurd z (by decide), fun _ => Or.inl ⟨_, List.mem_cons_of_mem _ (List.mem_cons_self), Or.inl ⟨Or.inl rfl, (show (h 0 113) = (((h 0 113).toNat : Nat) : Int) by omega)⟩⟩, fun z => absurd z (by decide), fun z => absurd z (by decide), fun z => absurd z (by decide), fun z => absurd z (by decide), fun z => absurd z (by decide), fun z => ⟨⟨by omega, by omega, fun z => absurd z (by decide)⟩, by first | decide | (exfalso; omega)⟩⟩
  · exact ⟨⟨⟨by (try simp only [pk_sum]); omega, by (try simp only [pk_sum]); omega⟩, (fun p q => absurd q (by simp [pp]))⟩, ⟨by (try simp only [pk_sum, List.length_cons]); (try dsimp only); omega, (by intro y z e; cases e; dsimp only; omega)⟩, (show pt_ok ((mo_L (mo_L (mo_E (mo_L (mo_tk (h)) 2 a 0 0) 12 0 0) 4 (h 0 113) 0 0) 1 v 0 0) 74) (mo_x ht (h 0 113) ((ht (h 0 113).toNat - 1))) (mo_x st (h 0 113) ((st (h 0 113).toNat))) (mo_x rg (h 0 113) (r + 8 * tu)) ((h 0 113) + 1) (h 0 88) ((h 0 77)) r (pi_wn h r) (1, v, 0) ((4, (h 0 113), 0) :: (2, a, 0) :: s) ((ht (h 0 113).toNat - 1) - 0) ((h 0 109)) ((st (h 0 113).toNat)) (tu) from by unfold pt_ok; (try dsimp only); (try simp only [pk_sum]); exact ⟨⟨by omega, by omega, by omega, by omega⟩, by omega, by omega, ⟨by first | omega | simp, by omega, by omega⟩, fun _ => by first | omega | trivial | (simp only [true_and, and_true]; omega), fun z => absurd z (by omega), fun z => absurd z (by omega), fun z => absurd z (by omega), fun z => absurd z (by omega), fun z => absurd z (by omega), fun z => absurd z (by omega), fun z => absurd z (by omega), fun z => absurd z (by omega), fun z => absurd z (by omega), fun z => absurd z (by omega), fun z => absurd z (by omega), fun z => absurd z (by omega), fun z => absurd z (by omega), fun z => absurd z (by omega), fun z => absurd z (by omega), fun z => absurd z (by omega), fun z => absurd z (by omega), fun z => absurd z (by omega), fun z => absurd z (by omega), fun z => absurd z (by omega), fun z => absurd z (by omega), fun z => absurd z (by omega), fun z => absurd z (by omega), fun z => absurd z (by omega), fun z => absurd z (by omega), fun z => absurd z (by omega), fun z => absurd z (by omega)⟩), ⟨⟨⟨by (try simp only [pk_sum]); omega, by (try simp only [pk_sum]); omega⟩, (fun p q => absurd q (by simp [pp]))⟩, ⟨by (try simp only [pk_sum, List.length_cons]); (try dsimp only); omega, (by intro y z e; cases e; dsimp only; omega)⟩, (show pt_ok ((mo_L (mo_L (mo_E (mo_L (mo_tk (h)) 2 a 0 0) 12 0 0) 4 (h 0 113) 0 0) 1 v 0 0) 74) (mo_x ht (h 0 113) ((ht (h 0 113).toNat - 1))) (mo_x st (h 0 113) ((st (h 0 113).toNat))) (mo_x rg (h 0 113) (r + 8 * tu)) ((h 0 113) + 1) (h 0 88) ((h 0 77)) r (pi_wn h r) (4, (h 0 113), 0) ((2, a, 0) :: s) ((ht (h 0 113).toNat - 1) - 0 + 1) ((h 0 109)) ((st (h 0 113).toNat)) (tu) from by unfold pt_ok; (try dsimp only); (try simp only [pk_sum]); exact ⟨⟨by omega, by omega, by omega, by omega⟩, by omega, by omega, ⟨by first | omega | simp, by omega, by omega⟩, fun z => absurd z (by omega), fun z => absurd z (by omega), fun z => absurd z (by omega), fun _ => ⟨by omega, ⟨W0, by omega, (mo_xw).trans (by omega), (mo_xw).trans hr.1, (mo_xw).trans (by omega)⟩, Or.inl ho⟩, fun z => absurd z (by omega), fun z => absurd z (by omega), fun z => absurd z (by omega), fun z => absurd z (by omega), fun z => absurd z (by omega), fun z => absurd z (by omega), fun z => absurd z (by omega), fun z => absurd z (by omega), fun z => absurd z (by omega), fun z => absurd z (by omega), fun z => absurd z (by omega), fun z => absurd z (by omega), fun z => absurd z (by omega), fun z => absurd z (by omega), fun z => absurd z (by omega), fun z => absurd z (by omega), fun z => absurd z (by omega), fun z => absurd z (by omega), fun z => absurd z (by omega), fun z => absurd z (by omega), fun z => absurd z (by omega), fun z => absurd z (by omega), fun z => absurd z (by omega), fun z => absurd z (by omega)⟩), ⟨⟨⟨by (try simp only [pk_sum]); omega, by (try simp only [pk_sum]); omega⟩, (fun p q => absurd q (by simp [pp]))⟩, ⟨by (try simp only [pk_sum, List.length_cons]); (try dsimp only); omega, (by intro y z e; have q := p2' y z e; dsimp only at q ⊢; omega)⟩, (show pt_ok ((mo_L (mo_L (mo_E (mo_L (mo_tk (h)) 2 a 0 0) 12 0 0) 4 (h 0 113) 0 0) 1 v 0 0) 74) (mo_x ht (h 0 113) ((ht (h 0 113).toNat - 1))) (mo_x st (h 0 113) ((st (h 0 113).toNat))) (mo_x rg (h 0 113) (r + 8 * tu)) ((h 0 113) + 1) (h 0 88) ((h 0 77)) r (pi_wn h r) (2, a, 0) (s) ((ht (h 0 113).toNat - 1) - 0 + 1) ((h 0 109)) ((st (h 0 113).toNat)) (tu) from by unfold pt_ok; (try dsimp only); (try simp only [pk_sum]); exact ⟨⟨by omega, by omega, by omega, by omega⟩, by omega, by omega, ⟨by first | omega | simp, by omega, by omega⟩, fun z => absurd z (by omega), fun _ => by first | omega | trivial | (simp only [true_and, and_true]; omega), fun z => absurd z (by omega), fun z => absurd z (by omega), fun z => absurd z (by omega), fun z => absurd z (by omega), fun z => absurd z (by omega), fun z => absurd z (by omega), fun z => absurd z (by omega), fun z => absurd z (by omega), fun z => absurd z (by omega), fun z => absurd z (by omega), fun z => absurd z (by omega), fun z => absurd z (by omega), fun z => absurd z (by omega), fun z => absurd z (by omega), fun z => absurd z (by omega), fun z => absurd z (by omega), fun z => absurd z (by omega), fun z => absurd z (by omega), fun z => absurd z (by omega), fun z => absurd z (by omega), fun z => absurd z (by omega), fun z => absurd z (by omega), fun z => absurd z (by omega), fun z => absurd z (by omega), fun z => absurd z (by omega), fun z => absurd z (by omega)⟩), (pt_eq (show _ = (ht (h 0 113).toNat - 1) - 0 + 1 by omega) (show _ = (h 0 109) by omega) (show _ = (st (h 0 113).toNat) by omega) (pt_ext (show (h 0 113) ≤ (h 0 113) + 1 by omega) (Int.le_refl _) (show (h 0 77) ≤ (h 0 77) by omega) (fun _ q => q) hext p4))⟩⟩⟩
  · show 40 * (900 - ((h 0 7) + 1)) + pk_sum pk_m ((1, v, 0) :: (4, (h 0 113), 0) :: (2, a, 0) :: s) + 13 < 40 * (900 - (h 0 7)) + pk_sum pk_m ((2, a, b) :: s) + 13; (try simp only [pk_sum]); omega

theorem ab_ops_13 {h : ja_H} {R r ph q0 : Int} {tf : mo_TF} {s : List mo_A} {ht st rg : Nat → Int} {tu a b : Int} (g : mo_G Zz h) (hS : pk_S h (h 0 17).toNat s) (hB : piB h R r ph tf q0 ((2, a, b) :: s) ht st rg tu) {v : Int} : pi_done h (mo_L (mo_L (mo_E (mo_L (mo_tk (h)) 2 a 0 0) 13 0 0) 4 (h 0 113) 0 0) 1 v 0 0) R r ph tf q0 (pi_mu h ((2, a, b) :: s)) := by
  have hN := piB_num g hS hB
  obtain ⟨N1, N2, N3, N4, N5, N6, N7, N8, N9, N10, N11, N12, N13, ⟨NK1, NK2⟩, ND1, ND2, ND3, NU1, NU2⟩ := hN
  obtain ⟨⟨n1, n2, n3, n4, n5, n6, n7, n8, n9⟩, ⟨b1, b2, b3, b4⟩, reg, hpt, ⟨hC, hU⟩, hNo, hP, hT, top⟩ := id hB
  obtain ⟨⟨⟨p1, p1'⟩, p1u⟩, ⟨p2, p2'⟩, p3, p4⟩ := hpt
  have w0 := (gF_wTop g).1
  simp only [pk_sum] at n1 n2 n3 n6 n7
  dsimp only at p2 p2' N6
  have ec1 : pk_c 1 = 0 := rfl
  have ev1 : pk_v 1 = (-4) := rfl
  have ed1 : pk_d 1 = 0 := rfl
  have eq1 : pk_q 1 = 0 := rfl
  have ef1 : pk_f 1 = 0 := rfl
  have em1 : pk_m 1 = (-10) := rfl
  have eoff1 : pk_off 1 = 7 := rfl
  have ek1 : pk_k r 1 = 0 := rfl
  have ec2 : pk_c 2 = 1 := rfl
  have ev2 : pk_v 2 = 0 := rfl
  have ed2 : pk_d 2 = 0 := rfl
  have eq2 : pk_q 2 = 0 := rfl
  have ef2 : pk_f 2 = 0 := rfl
  have em2 : pk_m 2 = 1 := rfl
  have eoff2 : pk_off 2 = 7 := rfl
  have ek2 : pk_k r 2 = pk_D r := rfl
  have ec4 : pk_c 4 = 0 := rfl
  have ev4 : pk_v 4 = 1 := rfl
  have ed4 : pk_d 4 = 0 := rfl
  have eq4 : pk_q 4 = 0 := rfl
  have ef4 : pk_f 4 = 0 := rfl
  have em4 : pk_m 4 = 1 := rfl
  have eoff4 : pk_off 4 = 2 := rfl
  have ek4 : pk_k r 4 = 0 := rfl
  replace p3 : pt_ok (h 74) ht st rg (h 0 113) (h 0 88) (h 0 77) r (pi_wn h r) (2, a, b) s (ht (h 0 113).toNat - 0) (h 0 109) (st (h 0 113).toNat) tu := p3
  unfold pt_ok at p3; dsimp only at p3
  replace p4 : pt (h 74) ht st rg (h 0 113) (h 0 88) (h 0 77) r tf (pi_wn h r) s ((ht (h 0 113).toNat - 0)) ((h 0 109)) (st (h 0 113).toNat) (tu) := p4
  obtain ⟨-, xc, xt, ⟨xe, xu1, xu2⟩, -, xo2, -, -, -, -, -, -, -, -, -, -, -, -, -, -, -, -, -, -, -, -, -, -, -, -, -, -⟩ := p3
  replace xo2 := xo2 (by omega)
  have hr := reg_of hB (by dsimp only; omega) (by dsimp only; omega)
  have hbo := gF_body g
  have w0 := (gF_wTop g).1
  have W0 : 0 ≤ (h 0 113) := (gF_words g).1
  have hr4 : 0 ≤ r ∧ r ≤ 4 ∧ (r = 4 → tu = 0) := by
    rcases reg with ⟨q1, q2, -⟩ | ⟨q1, q2, q3, -⟩
    · omega
    · omega
  have ho : (mo_L (mo_L (mo_E (mo_L (mo_tk (h)) 2 a 0 0) 13 0 0) 4 (h 0 113) 0 0) 1 v 0 0) 74 (h 0 113).toNat = 13 := by simp [mo_L, mo_E, mo_tk, ja_up]
  have hA : (mo_L (mo_L (mo_E (mo_L (mo_tk (h)) 2 a 0 0) 13 0 0) 4 (h 0 113) 0 0) 1 v 0 0) 75 (h 0 113).toNat = 0 := by simp [mo_L, mo_E, mo_tk, ja_up]
  have hBB : (mo_L (mo_L (mo_E (mo_L (mo_tk (h)) 2 a 0 0) 13 0 0) 4 (h 0 113) 0 0) 1 v 0 0) 76 (h 0 113).toNat = 0 := by simp [mo_L, mo_E, mo_tk, ja_up]
  have hold : ∀ w : Nat, (w : Int) < (h 0 113) → (mo_L (mo_L (mo_E (mo_L (mo_tk (h)) 2 a 0 0) 13 0 0) 4 (h 0 113) 0 0) 1 v 0 0) 74 w = (h 74) w ∧ (mo_L (mo_L (mo_E (mo_L (mo_tk (h)) 2 a 0 0) 13 0 0) 4 (h 0 113) 0 0) 1 v 0 0) 75 w = (h 75) w ∧ (mo_L (mo_L (mo_E (mo_L (mo_tk (h)) 2 a 0 0) 13 0 0) 4 (h 0 113) 0 0) 1 v 0 0) 76 w = (h 76) w := by
    intro w hw; refine ⟨?_, ?_, ?_⟩ <;> simp [mo_L, mo_E, mo_tk, ja_up] <;> (intros; omega)
  have hext : ∀ j : Nat, (j : Int) ≤ (h 0 113) → ((j : Int) < (h 0 113) → (mo_L (mo_L (mo_E (mo_L (mo_tk (h)) 2 a 0 0) 13 0 0) 4 (h 0 113) 0 0) 1 v 0 0) 74 j = (h 74) j) ∧ mo_x ht (h 0 113) ((ht (h 0 113).toNat - 1)) j = ht j ∧ mo_x st (h 0 113) ((st (h 0 113).toNat)) j = st j ∧ mo_x rg (h 0 113) (r + 8 * tu) j = rg j := fun j hj => ⟨fun q => (hold j q).1, mo_xo W0 (by omega), mo_xo W0 (by omega), mo_xo W0 (by omega)⟩
  refine fin1 (c1 := (ht (h 0 113).toNat - 1)) (e1 := (st (h 0 113).toNat)) (tu1 := tu) (Or.inl rfl) g hB (by dsimp only; omega) (pk_S_L (show 0 ≤ (h 0 17) + 1 + 1 by omega) (pk_S_L (show 0 ≤ (h 0 17) + 1 by omega) (pk_S_E (pk_S_L (show 0 ≤ (h 0 17) by omega) (pk_S_ag (ag_up rfl ag_refl) hS))))) (by (try unfold mo_L); (try unfold mo_E); (try unfold mo_tk); (repeat (refine ag_up rfl ?_)); exact ag_refl) rfl hold (by rw [ho]; decide) (idle_of (show (2 : Int) ≠ 4 ∧ (2 : Int) ≠ 21 ∧ (2 : Int) ≠ 22 ∧ (2 : Int) ≠ 28 ∧ (2 : Int) ≠ 24 by decide)) (fun _ q => List.mem_cons_of_mem _ (List.mem_cons_of_mem _ (List.mem_cons_of_mem _ (q)))) (fun p q => by simp only [pp_cons] at q ⊢; rcases q with q | q | q | q <;> first | (exact Or.inr q) | (exfalso; simp [pp] at q)) ?_ ?_ ?_ ?_ ?_ ?_ ⟨?_, ?_, ?_⟩ (by simp only [pi_if, List.mem_cons, exists_eq_or_imp]; simp) ⟨(fun q y hy => by (try simp only [List.mem_cons] at hy); (rcases hy with rfl | rfl | rfl | hy) <;> first | (exact q _ (List.mem_cons_of_mem _ hy)) | (have := q _ List.mem_cons_self; dsimp only at this ⊢; omega)), (fun q y hy => by (try simp only [List.mem_cons] at hy); (rcases hy with rfl | rfl | rfl | hy) <;> first | (exact q _ (List.mem_cons_of_mem _ hy)) | (have := q _ List.mem_cons_self; dsimp only at this ⊢; omega))⟩ ?_ ?_ ⟨fun e => absurd e (by dsimp only; omega), fun e => absurd e (by dsimp only; omega), fun _ y z e => by cases e; intro q; exact absurd q (by dsimp only; omega), fun e => absurd e (by dsimp only; omega)⟩ ?_ (by (try unfold mo_L); (try unfold mo_E); (try unfold mo_tk); (repeat (refine ag_up rfl ?_)); exact ag_refl)
  · show (h 0 18) = _; (try simp only [pk_sum]); omega
  · show (h 0 113) + 1 + _ < 5 * ((h 0 7) + 1); (try simp only [pk_sum]); omega
  · show (h 0 95) + _ < (h 0 7) + 1; (try simp only [pk_sum]); omega
  · show (h 0 7) ≤ (h 0 7) + 1; omega
  · show (h 0 84) = _; (try simp only [pk_sum]); omega
  · show (h 0 87) = _; (try simp only [pk_sum]); omega
  · show ph = 1 ∨ (h 0 79) ≤ (h 0 77); omega
  · show ph = 1 ∨ (h 0 77) ≤ 10; omega
  · intro q; show ph = 1 ∨ (h 0 77) ≤ 9; refine b4 (fun z => q ?_); intro y hy; simp only [List.mem_cons] at hy; rcases hy with rfl | rfl | rfl | hy
    · show (1 : Int) ≠ 17; decide
    · show (4 : Int) ≠ 17; decide
    · show (2 : Int) ≠ 17; decide
    · exact z y (List.mem_cons_of_mem _ hy)
  · unfold pw; rw [ho, hA, hBB, mo_xw, mo_xw, mo_xw, mo_xn', mo_xn', mo_xn']; exact ⟨⟨by decide, by decide⟩, ⟨by omega, by omega⟩, ⟨by omega, by omega, by omega⟩, by omega, (show (1 : Int) ≤ ht (h 0 113).toNat by omega), fun z => absurd z (by decide), fun _ => ⟨(show (ht (h 0 113).toNat - 1) = ht (h 0 113).toNat + (-1) by omega), (show r + 8 * tu = rg (h 0 113).toNat + 8 * 0 by omega), by omega, fun _ => by omega⟩, fun z => absurd z (by decide), fun z => absurd z (by decide), fun _ => Or.inl ⟨_, List.mem_cons_of_mem _ (List.mem_cons_self), Or.inl ⟨Or.inl rfl, (show (h 0 113) = (((h 0 113).toNat : Nat) : Int) by omega)⟩⟩, fun z => absurd z (by decide), fun z => absurd z (by decide), fun z => absurd z (by decide), fun z => absurd z (by decide), fun z => absurd z (by decide), fun z => ⟨⟨by omega, by omega, fun z => absurd z (by decide)⟩, by first | decide | (exfalso; omega)⟩⟩
  · exact ⟨⟨⟨by (try simp only [pk_sum]); omega, by (try simp only [pk_sum]); omega⟩, (fun p q => absurd q (by simp [pp]))⟩, ⟨by (try simp only [pk_sum, List.length_cons]); (try dsimp only); omega, (by intro y z e; cases e; dsimp only; omega)⟩, (show pt_ok ((mo_L (mo_L (mo_E (mo_L (mo_tk (h)) 2 a 0 0) 13 0 0) 4 (h 0 113) 0 0) 1 v 0 0) 74) (mo_x ht (h 0 113) ((ht (h 0 113).toNat - 1))) (mo_x st (h 0 113) ((st (h 0 113).toNat))) (mo_x rg (h 0 113) (r + 8 * tu)) ((h 0 113) + 1) (h 0 88) ((h 0 77)) r (pi_wn h r) (1, v, 0) ((4, (h 0 113), 0) :: (2, a, 0) :: s) ((ht (h 0 113).toNat - 1) - 0) ((h 0 109)) ((st (h 0 113).toNat)) (tu) from by unfold pt_ok; (try dsimp only); (try simp only [pk_sum]); exact ⟨⟨by omega, by omega, by omega, by omega⟩, by omega, by omega, ⟨by first | omega | simp, by omega, by omega⟩, fun _ => by first | omega | trivial | (simp only [true_and, and_true]; omega), fun z => absurd z (by omega), fun z => absurd z (by omega), fun z => absurd z (by omega), fun z => absurd z (by omega), fun z => absurd z (by omega), fun z => absurd z (by omega), fun z => absurd z (by omega), fun z => absurd z (by omega), fun z => absurd z (by omega), fun z => absurd z (by omega), fun z => absurd z (by omega), fun z => absurd z (by omega), fun z => absurd z (by omega), fun z => absurd z (by omega), fun z => absurd z (by omega), fun z => absurd z (by omega), fun z => absurd z (by omega), fun z => absurd z (by omega), fun z => absurd z (by omega), fun z => absurd z (by omega), fun z => absurd z (by omega), fun z => absurd z (by omega), fun z => absurd z (by omega), fun z => absurd z (by omega), fun z => absurd z (by omega), fun z => absurd z (by omega), fun z => absurd z (by omega)⟩), ⟨⟨⟨by (try simp only [pk_sum]); omega, by (try simp only [pk_sum]); omega⟩, (fun p q => absurd q (by simp [pp]))⟩, ⟨by (try simp only [pk_sum, List.length_cons]); (try dsimp only); omega, (by intro y z e; cases e; dsimp only; omega)⟩, (show pt_ok ((mo_L (mo_L (mo_E (mo_L (mo_tk (h)) 2 a 0 0) 13 0 0) 4 (h 0 113) 0 0) 1 v 0 0) 74) (mo_x ht (h 0 113) ((ht (h 0 113).toNat - 1))) (mo_x st (h 0 113) ((st (h 0 113).toNat))) (mo_x rg (h 0 113) (r + 8 * tu)) ((h 0 113) + 1) (h 0 88) ((h 0 77)) r (pi_wn h r) (4, (h 0 113), 0) ((2, a, 0) :: s) ((ht (h 0 113).toNat - 1) - 0 + 1) ((h 0 109)) ((st (h 0 113).toNat)) (tu) from by unfold pt_ok; (try dsimp only); (try simp only [pk_sum]); exact ⟨⟨by omega, by omega, by omega, by omega⟩, by omega, by omega, ⟨by first | omega | simp, by omega, by omega⟩, fun z => absurd z (by omega), fun z => absurd z (by omega), fun z => absurd z (by omega), fun _ => ⟨by omega, ⟨W0, by omega, (mo_xw).trans (by omega), (mo_xw).trans hr.1, (mo_xw).trans (by omega)⟩, Or.inr ho⟩, fun z => absurd z (by omega), fun z => absurd z (by omega), fun z => absurd z (by omega), fun z => absurd z (by omega), fun z => absurd z (by omega), fun z => absurd z (by omega), fun z => absurd z (by omega), fun z => absurd z (by omega), fun z => absurd z (by omega), fun z => absurd z (by omega), fun z => absurd z (by omega), fun z => absurd z (by omega), fun z => absurd z (by omega), fun z => absurd z (by omega), fun z => absurd z (by omega), fun z => absurd z (by omega), fun z => absurd z (by omega), fun z => absurd z (by omega), fun z => absurd z (by omega), fun z => absurd z (by omega), fun z => absurd z (by omega), fun z => absurd z (by omega), fun z => absurd z (by omega), fun z => absurd z (by omega)⟩), ⟨⟨⟨by (try simp only [pk_sum]); omega, by (try simp only [pk_sum]); omega⟩, (fun p q => absurd q (by simp [pp]))⟩, ⟨by (try simp only [pk_sum, List.length_cons]); (try dsimp only); omega, (by intro y z e; have q := p2' y z e; dsimp only at q ⊢; omega)⟩, (show pt_ok ((mo_L (mo_L (mo_E (mo_L (mo_tk (h)) 2 a 0 0) 13 0 0) 4 (h 0 113) 0 0) 1 v 0 0) 74) (mo_x ht (h 0 113) ((ht (h 0 113).toNat - 1))) (mo_x st (h 0 113) ((st (h 0 113).toNat))) (mo_x rg (h 0 113) (r + 8 * tu)) ((h 0 113) + 1) (h 0 88) ((h 0 77)) r (pi_wn h r) (2, a, 0) (s) ((ht (h 0 113).toNat - 1) - 0 + 1) ((h 0 109)) ((st (h 0 113).toNat)) (tu) from by unfold pt_ok; (try dsimp only); (try simp only [pk_sum]); exact ⟨⟨by omega, by omega, by omega, by omega⟩, by omega, by omega, ⟨by first | omega | simp, by omega, by omega⟩, fun z => absurd z (by omega), fun _ => by first | omega | trivial | (simp only [true_and, and_true]; omega), fun z => absurd z (by omega), fun z => absurd z (by omega), fun z => absurd z (by omega), fun z => absurd z (by omega), fun z => absurd z (by omega), fun z => absurd z (by omega), fun z => absurd z (by omega), fun z => absurd z (by omega), fun z => absurd z (by omega), fun z => absurd z (by omega), fun z => absurd z (by omega), fun z => absurd z (by omega), fun z => absurd z (by omega), fun z => absurd z (by omega), fun z => absurd z (by omega), fun z => absurd z (by omega), fun z => absurd z (by omega), fun z => absurd z (by omega), fun z => absurd z (by omega), fun z => absurd z (by omega), fun z => absurd z (by omega), fun z => absurd z (by omega), fun z => absurd z (by omega), fun z => absurd z (by omega), fun z => absurd z (by omega), fun z => absurd z (by omega)⟩), (pt_eq (show _ = (ht (h 0 113).toNat - 1) - 0 + 1 by omega) (show _ = (h 0 109) by omega) (show _ = (st (h 0 113).toNat) by omega) (pt_ext (show (h 0 113) ≤ (h 0 113) + 1 by omega) (Int.le_refl _) (show (h 0 77) ≤ (h 0 77) by omega) (fun _ q => q) hext p4))⟩⟩⟩
  · show 40 * (900 - ((h 0 7) + 1)) + pk_sum pk_m ((1, v, 0) :: (4, (h 0 113), 0) :: (2, a, 0) :: s) + 13 < 40 * (900 - (h 0 7)) + pk_sum pk_m ((2, a, b) :: s) + 13; (try simp only [pk_sum]); omega
