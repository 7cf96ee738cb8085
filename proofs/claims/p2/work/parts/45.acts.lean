/-! the reference's parser: operands of one word -/
variable {Zz : Zc}
theorem form_new {h H : ja_H} {ht st rg : Nat → Int} {W : Int} {x : mo_A} {s s' : List mo_A} (hC : pi_C h ht st rg W (x :: s)) (hx : ∀ w : Int, ¬ pj x w) (hs : ∀ y ∈ s, y ∈ s') (hold : ∀ w : Nat, (w : Int) < W → (H 74) w = (h 74) w ∧ (H 75) w = (h 75) w ∧ (H 76) w = (h 76) w) (hno : ¬ pw_jmp ((H 74) W.toNat)) (w : Nat) (hw : (w : Int) < W + 1) (hj : pw_jmp ((H 74) w)) : pj_in s' w ∨ (H 75) w ≤ W := by
  rcases Int.lt_or_le (w : Int) W with q | q
  · obtain ⟨e1, e2, -⟩ := hold w q
    rw [e1] at hj
    obtain ⟨-, -, -, -, -, -, -, -, -, c10, -⟩ := hC w q
    rcases c10 hj with a | ⟨-, a, -⟩
    · rcases pj_cons.mp a with a | ⟨y, hy, e⟩
      · exact absurd a (hx w)
      · exact Or.inl ⟨y, hs y hy, e⟩
    · exact Or.inr (by rw [e2]; exact a)
  · have e : w = W.toNat := by omega
    rw [e] at hj
    exact absurd hj hno
theorem piB_form {h : ja_H} {R r ph q0 v a b : Int} {tf : mo_TF} {s : List mo_A} {ht st rg : Nat → Int} {tu : Int} (q : piB h R r ph tf q0 ((6, a, b) :: s) ht st rg tu) : piB (ja_up h 0 19 v) R r ph tf q0 ((6, a, b) :: s) ht st rg tu := by
  obtain ⟨n, b, reg, hpt, hCU, hN, hP, hT, top⟩ := q
  exact ⟨n, b, reg, hpt, hCU, hN, hP, hT, ⟨fun e => absurd e (show ¬ ((6 : Int) = 7 ∨ (6 : Int) = 2 ∨ (6 : Int) = 18) by decide), top.2.1, fun e => absurd e (show ¬ (6 : Int) = 1 by decide), fun e => absurd e (show ¬ (6 : Int) = 9 by decide)⟩⟩
/-- in a BLOCK, or outside of the if of a P -/
theorem reg_3 {h : ja_H} {R r ph q0 : Int} {tf : mo_TF} {x : mo_A} {s : List mo_A} {ht st rg : Nat → Int} {tu : Int} (g : mo_G Zz h) (hB : piB h R r ph tf q0 (x :: s) ht st rg tu) (hx : x.1 ≤ 12) (hi : (h 0 86) = 0) : r ≤ 3 ∧ r = (h 0 74) := by
  have hr := reg_of hB (by omega) (by omega)
  have gb := gF_body g
  obtain ⟨-, ⟨ob, -⟩, oreg, -⟩ := hB
  rcases oreg with ⟨q1, q2, -⟩ | ⟨q1, q2, -⟩
  · omega
  · have := (hr.2.1 q1).2
    omega

theorem ab_od_load {h : ja_H} {R r ph q0 : Int} {tf : mo_TF} {s : List mo_A} {ht st rg : Nat → Int} {tu a b : Int} (g : mo_G Zz h) (hS : pk_S h (h 0 17).toNat s) (hB : piB h R r ph tf q0 ((6, a, b) :: s) ht st rg tu) {v : Int} (hv : 0 ≤ v ∧ v ≤ 15) (hv6 : (h 0 86) = 1 → v ≤ 6) : pi_done h (mo_L (mo_tk (mo_E (ja_up (h) 0 19 (1)) 4 v 0)) 7 0 0 0) R r ph tf q0 (pi_mu h ((6, a, b) :: s)) := by
  have hN := piB_num g hS hB
  obtain ⟨N1, N2, N3, N4, N5, N6, N7, N8, N9, N10, N11, N12, N13, ⟨NK1, NK2⟩, ND1, ND2, ND3, NU1, NU2⟩ := hN
  obtain ⟨⟨n1, n2, n3, n4, n5, n6, n7, n8, n9⟩, ⟨b1, b2, b3, b4⟩, reg, hpt, ⟨hC, hU⟩, hNo, hP, hT, top⟩ := id hB
  obtain ⟨⟨⟨p1, p1'⟩, p1u⟩, ⟨p2, p2'⟩, p3, p4⟩ := hpt
  have w0 := (gF_wTop g).1
  simp only [pk_sum] at n1 n2 n3 n6 n7
  dsimp only at p2 p2' N6
  have ec6 : pk_c 6 = 0 := rfl
  have ev6 : pk_v 6 = (-4) := rfl
  have ed6 : pk_d 6 = 0 := rfl
  have eq6 : pk_q 6 = 0 := rfl
  have ef6 : pk_f 6 = 0 := rfl
  have em6 : pk_m 6 = (-12) := rfl
  have eoff6 : pk_off 6 = 2 := rfl
  have ek6 : pk_k r 6 = 0 := rfl
  have ec7 : pk_c 7 = 0 := rfl
  have ev7 : pk_v 7 = 0 := rfl
  have ed7 : pk_d 7 = 0 := rfl
  have eq7 : pk_q 7 = 0 := rfl
  have ef7 : pk_f 7 = 0 := rfl
  have em7 : pk_m 7 = 1 := rfl
  have eoff7 : pk_off 7 = 2 := rfl
  have ek7 : pk_k r 7 = 0 := rfl
  replace p3 : pt_ok (h 74) ht st rg (h 0 113) (h 0 88) (h 0 77) r (pi_wn h r) (6, a, b) s (ht (h 0 113).toNat - 0) (h 0 109) (st (h 0 113).toNat) tu := p3
  unfold pt_ok at p3; dsimp only at p3
  replace p4 : pt (h 74) ht st rg (h 0 113) (h 0 88) (h 0 77) r tf (pi_wn h r) s ((ht (h 0 113).toNat - 0) + 1) ((h 0 109)) (st (h 0 113).toNat) (tu) := p4
  obtain ⟨-, xc, xt, ⟨xe, xu1, xu2⟩, -, -, -, -, -, xo6, -, -, -, -, -, -, -, -, -, -, -, -, -, -, -, -, -, -, -, -, -, -⟩ := p3
  replace xo6 := xo6 (by omega)
  have hr := reg_of hB (by dsimp only; omega) (by dsimp only; omega)
  have hbo := gF_body g
  have w0 := (gF_wTop g).1
  have W0 : 0 ≤ (h 0 113) := (gF_words g).1
  have hr4 : 0 ≤ r ∧ r ≤ 4 ∧ (r = 4 → tu = 0) := by
    rcases reg with ⟨q1, q2, -⟩ | ⟨q1, q2, q3, -⟩
    · omega
    · omega
  have ho : (mo_L (mo_tk (mo_E (ja_up (h) 0 19 (1)) 4 v 0)) 7 0 0 0) 74 (h 0 113).toNat = 4 := by simp [mo_L, mo_E, mo_tk, ja_up]
  have hA : (mo_L (mo_tk (mo_E (ja_up (h) 0 19 (1)) 4 v 0)) 7 0 0 0) 75 (h 0 113).toNat = v := by simp [mo_L, mo_E, mo_tk, ja_up]
  have hBB : (mo_L (mo_tk (mo_E (ja_up (h) 0 19 (1)) 4 v 0)) 7 0 0 0) 76 (h 0 113).toNat = 0 := by simp [mo_L, mo_E, mo_tk, ja_up]
  have hold : ∀ w : Nat, (w : Int) < (h 0 113) → (mo_L (mo_tk (mo_E (ja_up (h) 0 19 (1)) 4 v 0)) 7 0 0 0) 74 w = (h 74) w ∧ (mo_L (mo_tk (mo_E (ja_up (h) 0 19 (1)) 4 v 0)) 7 0 0 0) 75 w = (h 75) w ∧ (mo_L (mo_tk (mo_E (ja_up (h) 0 19 (1)) 4 v 0)) 7 0 0 0) 76 w = (h 76) w := by
    intro w hw; refine ⟨?_, ?_, ?_⟩ <;> simp [mo_L, mo_E, mo_tk, ja_up] <;> (intros; omega)
  have hext : ∀ j : Nat, (j : Int) ≤ (h 0 113) → ((j : Int) < (h 0 113) → (mo_L (mo_tk (mo_E (ja_up (h) 0 19 (1)) 4 v 0)) 7 0 0 0) 74 j = (h 74) j) ∧ mo_x ht (h 0 113) ((ht (h 0 113).toNat + 1)) j = ht j ∧ mo_x st (h 0 113) ((st (h 0 113).toNat)) j = st j ∧ mo_x rg (h 0 113) (r + 8 * tu) j = rg j := fun j hj => ⟨fun q => (hold j q).1, mo_xo W0 (by omega), mo_xo W0 (by omega), mo_xo W0 (by omega)⟩
  have h46 : rg (h 0 113).toNat % 8 = 4 → v ≤ 6 := fun z => by
    rcases reg with ⟨q1, q2, q3, q4, -⟩ | ⟨q1, q2, q3, -⟩
    · omega
    · exact hv6 (hr.2.1 q1).2
  refine fin1 (c1 := (ht (h 0 113).toNat + 1)) (e1 := (st (h 0 113).toNat)) (tu1 := tu) (Or.inl rfl) g hB (by dsimp only; omega) (pk_S_L (show 0 ≤ (h 0 17) by omega) (pk_S_ag (ag_up rfl ag_refl) (pk_S_E (pk_S_ag (ag_up rfl ag_refl) hS)))) (by (try unfold mo_L); (try unfold mo_E); (try unfold mo_tk); (repeat (refine ag_up rfl ?_)); exact ag_refl) rfl hold (by rw [ho]; decide) (idle_of (show (6 : Int) ≠ 4 ∧ (6 : Int) ≠ 21 ∧ (6 : Int) ≠ 22 ∧ (6 : Int) ≠ 28 ∧ (6 : Int) ≠ 24 by decide)) (fun _ q => List.mem_cons_of_mem _ (q)) (fun p q => by simp only [pp_cons] at q ⊢; rcases q with q | q <;> first | (exact Or.inr q) | (exfalso; simp [pp] at q)) ?_ ?_ ?_ ?_ ?_ ?_ ⟨?_, ?_, ?_⟩ (by simp only [pi_if, List.mem_cons, exists_eq_or_imp]; simp) ⟨(fun q y hy => by (try simp only [List.mem_cons] at hy); (rcases hy with rfl | hy) <;> first | (exact q _ (List.mem_cons_of_mem _ hy)) | (have := q _ List.mem_cons_self; dsimp only at this ⊢; omega)), (fun q y hy => by (try simp only [List.mem_cons] at hy); (rcases hy with rfl | hy) <;> first | (exact q _ (List.mem_cons_of_mem _ hy)) | (have := q _ List.mem_cons_self; dsimp only at this ⊢; omega))⟩ ?_ ?_ ⟨fun _ => ⟨fun _ => ⟨by show 1 ≤ (h 0 113) + 1; omega, Or.inl (by show (mo_L (mo_tk (mo_E (ja_up (h) 0 19 (1)) 4 v 0)) 7 0 0 0) 74 ((h 0 113) + 1 - 1).toNat = 4; rw [show (h 0 113) + 1 - 1 = (h 0 113) by omega]; exact ho)⟩, fun e => absurd e (show ¬ (1 : Int) = 2 by decide), fun _ w hw hj => by have q := form_new (s' := (7, 0, 0) :: s) hC (idle_of (show (6 : Int) ≠ 4 ∧ (6 : Int) ≠ 21 ∧ (6 : Int) ≠ 22 ∧ (6 : Int) ≠ 28 ∧ (6 : Int) ≠ 24 by decide)) (fun _ q => List.mem_cons_of_mem _ q) hold (by rw [ho]; unfold pw_jmp; decide) w hw hj; rcases q with q | q; exact Or.inl q; exact Or.inr (show _ ≤ (h 0 113) + 1 - 1 by omega)⟩, fun e => absurd e (by dsimp only; omega), fun e => absurd e (by dsimp only; omega), fun e => absurd e (by dsimp only; omega)⟩ ?_ (by (try unfold mo_L); (try unfold mo_E); (try unfold mo_tk); (repeat (refine ag_up rfl ?_)); exact ag_refl)
  · show (h 0 18) = _; (try simp only [pk_sum]); omega
  · show (h 0 113) + 1 + _ < 5 * ((h 0 7) + 1); (try simp only [pk_sum]); omega
  · show (h 0 95) + _ < (h 0 7) + 1; (try simp only [pk_sum]); omega
  · show (h 0 7) ≤ (h 0 7) + 1; omega
  · show (h 0 84) = _; (try simp only [pk_sum]); omega
  · show (h 0 87) = _; (try simp only [pk_sum]); omega
  · show ph = 1 ∨ (h 0 79) ≤ (h 0 77); omega
  · show ph = 1 ∨ (h 0 77) ≤ 10; omega
  · intro q; show ph = 1 ∨ (h 0 77) ≤ 9; refine b4 (fun z => q ?_); intro y hy; simp only [List.mem_cons] at hy; rcases hy with rfl | hy
    · show (7 : Int) ≠ 17; decide
    · exact z y (List.mem_cons_of_mem _ hy)
  · unfold pw; rw [ho, hA, hBB, mo_xw, mo_xw, mo_xw, mo_xn', mo_xn', mo_xn']; exact ⟨⟨by decide, by decide⟩, ⟨by omega, by omega⟩, ⟨by omega, by omega, by omega⟩, by omega, (show (0 : Int) ≤ ht (h 0 113).toNat by omega), fun z => absurd z (by decide), fun _ => ⟨(show (ht (h 0 113).toNat + 1) = ht (h 0 113).toNat + (1) by omega), (show r + 8 * tu = rg (h 0 113).toNat + 8 * 0 by omega), by omega, fun _ => by omega⟩, fun z => absurd z (by decide), fun z => absurd z (by decide), fun z => absurd z (by unfold pw_jmp; decide), fun _ => hv, fun z => absurd z (by decide), fun z => absurd z (by decide), fun z => absurd z (by decide), fun z => absurd z (by decide), fun z => ⟨⟨by omega, by omega, fun _ => h46 z⟩, by first | decide | (exfalso; omega)⟩⟩
  · exact ⟨⟨⟨by (try simp only [pk_sum]); omega, by (try simp only [pk_sum]); omega⟩, (fun p q => absurd q (by simp [pp]))⟩, ⟨by (try simp only [pk_sum, List.length_cons]); (try dsimp only); omega, (by intro y z e; have q := p2' y z e; dsimp only at q ⊢; omega)⟩, (show pt_ok ((mo_L (mo_tk (mo_E (ja_up (h) 0 19 (1)) 4 v 0)) 7 0 0 0) 74) (mo_x ht (h 0 113) ((ht (h 0 113).toNat + 1))) (mo_x st (h 0 113) ((st (h 0 113).toNat))) (mo_x rg (h 0 113) (r + 8 * tu)) ((h 0 113) + 1) (h 0 88) ((h 0 77)) r (pi_wn h r) (7, 0, 0) (s) ((ht (h 0 113).toNat + 1) - 0) ((h 0 109)) ((st (h 0 113).toNat)) (tu) from by unfold pt_ok; (try dsimp only); (try simp only [pk_sum]); exact ⟨⟨by omega, by omega, by omega, by omega⟩, by omega, by omega, ⟨by first | omega | simp, by omega, by omega⟩, fun z => absurd z (by omega), fun z => absurd z (by omega), fun z => absurd z (by omega), fun z => absurd z (by omega), fun z => absurd z (by omega), fun z => absurd z (by omega), fun _ => by first | omega | trivial | (simp only [true_and, and_true]; omega), fun z => absurd z (by omega), fun z => absurd z (by omega), fun z => absurd z (by omega), fun z => absurd z (by omega), fun z => absurd z (by omega), fun z => absurd z (by omega), fun z => absurd z (by omega), fun z => absurd z (by omega), fun z => absurd z (by omega), fun z => absurd z (by omega), fun z => absurd z (by omega), fun z => absurd z (by omega), fun z => absurd z (by omega), fun z => absurd z (by omega), fun z => absurd z (by omega), fun z => absurd z (by omega), fun z => absurd z (by omega), fun z => absurd z (by omega), fun z => absurd z (by omega), fun z => absurd z (by omega), fun z => absurd z (by omega)⟩), (pt_eq (show _ = (ht (h 0 113).toNat + 1) - 0 by omega) (show _ = (h 0 109) by omega) (show _ = (st (h 0 113).toNat) by omega) (pt_ext (show (h 0 113) ≤ (h 0 113) + 1 by omega) (Int.le_refl _) (show (h 0 77) ≤ (h 0 77) by omega) (fun _ q => q) hext p4))⟩
  · show 40 * (900 - ((h 0 7) + 1)) + pk_sum pk_m ((7, 0, 0) :: s) + 13 < 40 * (900 - (h 0 7)) + pk_sum pk_m ((6, a, b) :: s) + 13; (try simp only [pk_sum]); omega

theorem ab_od_self {h : ja_H} {R r ph q0 : Int} {tf : mo_TF} {s : List mo_A} {ht st rg : Nat → Int} {tu a b : Int} (g : mo_G Zz h) (hS : pk_S h (h 0 17).toNat s) (hB : piB h R r ph tf q0 ((6, a, b) :: s) ht st rg tu) (hr3 : r ≤ 3) (hs1 : (h 0 11) = 0 → r = 1) : pi_done h (mo_L (mo_tk (mo_E (ja_up (h) 0 19 (0)) 3 0 0)) 7 0 0 0) R r ph tf q0 (pi_mu h ((6, a, b) :: s)) := by
  have hN := piB_num g hS hB
  obtain ⟨N1, N2, N3, N4, N5, N6, N7, N8, N9, N10, N11, N12, N13, ⟨NK1, NK2⟩, ND1, ND2, ND3, NU1, NU2⟩ := hN
  obtain ⟨⟨n1, n2, n3, n4, n5, n6, n7, n8, n9⟩, ⟨b1, b2, b3, b4⟩, reg, hpt, ⟨hC, hU⟩, hNo, hP, hT, top⟩ := id hB
  obtain ⟨⟨⟨p1, p1'⟩, p1u⟩, ⟨p2, p2'⟩, p3, p4⟩ := hpt
  have w0 := (gF_wTop g).1
  simp only [pk_sum] at n1 n2 n3 n6 n7
  dsimp only at p2 p2' N6
  have ec6 : pk_c 6 = 0 := rfl
  have ev6 : pk_v 6 = (-4) := rfl
  have ed6 : pk_d 6 = 0 := rfl
  have eq6 : pk_q 6 = 0 := rfl
  have ef6 : pk_f 6 = 0 := rfl
  have em6 : pk_m 6 = (-12) := rfl
  have eoff6 : pk_off 6 = 2 := rfl
  have ek6 : pk_k r 6 = 0 := rfl
  have ec7 : pk_c 7 = 0 := rfl
  have ev7 : pk_v 7 = 0 := rfl
  have ed7 : pk_d 7 = 0 := rfl
  have eq7 : pk_q 7 = 0 := rfl
  have ef7 : pk_f 7 = 0 := rfl
  have em7 : pk_m 7 = 1 := rfl
  have eoff7 : pk_off 7 = 2 := rfl
  have ek7 : pk_k r 7 = 0 := rfl
  replace p3 : pt_ok (h 74) ht st rg (h 0 113) (h 0 88) (h 0 77) r (pi_wn h r) (6, a, b) s (ht (h 0 113).toNat - 0) (h 0 109) (st (h 0 113).toNat) tu := p3
  unfold pt_ok at p3; dsimp only at p3
  replace p4 : pt (h 74) ht st rg (h 0 113) (h 0 88) (h 0 77) r tf (pi_wn h r) s ((ht (h 0 113).toNat - 0) + 1) ((h 0 109)) (st (h 0 113).toNat) (tu) := p4
  obtain ⟨-, xc, xt, ⟨xe, xu1, xu2⟩, -, -, -, -, -, xo6, -, -, -, -, -, -, -, -, -, -, -, -, -, -, -, -, -, -, -, -, -, -⟩ := p3
  replace xo6 := xo6 (by omega)
  have hr := reg_of hB (by dsimp only; omega) (by dsimp only; omega)
  have hbo := gF_body g
  have w0 := (gF_wTop g).1
  have W0 : 0 ≤ (h 0 113) := (gF_words g).1
  have hr4 : 0 ≤ r ∧ r ≤ 4 ∧ (r = 4 → tu = 0) := by
    rcases reg with ⟨q1, q2, -⟩ | ⟨q1, q2, q3, -⟩
    · omega
    · omega
  have ho : (mo_L (mo_tk (mo_E (ja_up (h) 0 19 (0)) 3 0 0)) 7 0 0 0) 74 (h 0 113).toNat = 3 := by simp [mo_L, mo_E, mo_tk, ja_up]
  have hA : (mo_L (mo_tk (mo_E (ja_up (h) 0 19 (0)) 3 0 0)) 7 0 0 0) 75 (h 0 113).toNat = 0 := by simp [mo_L, mo_E, mo_tk, ja_up]
  have hBB : (mo_L (mo_tk (mo_E (ja_up (h) 0 19 (0)) 3 0 0)) 7 0 0 0) 76 (h 0 113).toNat = 0 := by simp [mo_L, mo_E, mo_tk, ja_up]
  have hold : ∀ w : Nat, (w : Int) < (h 0 113) → (mo_L (mo_tk (mo_E (ja_up (h) 0 19 (0)) 3 0 0)) 7 0 0 0) 74 w = (h 74) w ∧ (mo_L (mo_tk (mo_E (ja_up (h) 0 19 (0)) 3 0 0)) 7 0 0 0) 75 w = (h 75) w ∧ (mo_L (mo_tk (mo_E (ja_up (h) 0 19 (0)) 3 0 0)) 7 0 0 0) 76 w = (h 76) w := by
    intro w hw; refine ⟨?_, ?_, ?_⟩ <;> simp [mo_L, mo_E, mo_tk, ja_up] <;> (intros; omega)
  have hext : ∀ j : Nat, (j : Int) ≤ (h 0 113) → ((j : Int) < (h 0 113) → (mo_L (mo_tk (mo_E (ja_up (h) 0 19 (0)) 3 0 0)) 7 0 0 0) 74 j = (h 74) j) ∧ mo_x ht (h 0 113) ((ht (h 0 113).toNat + 1)) j = ht j ∧ mo_x st (h 0 113) ((st (h 0 113).toNat)) j = st j ∧ mo_x rg (h 0 113) (r + 8 * tu) j = rg j := fun j hj => ⟨fun q => (hold j q).1, mo_xo W0 (by omega), mo_xo W0 (by omega), mo_xo W0 (by omega)⟩
  refine fin1 (c1 := (ht (h 0 113).toNat + 1)) (e1 := (st (h 0 113).toNat)) (tu1 := tu) (Or.inl rfl) g hB (by dsimp only; omega) (pk_S_L (show 0 ≤ (h 0 17) by omega) (pk_S_ag (ag_up rfl ag_refl) (pk_S_E (pk_S_ag (ag_up rfl ag_refl) hS)))) (by (try unfold mo_L); (try unfold mo_E); (try unfold mo_tk); (repeat (refine ag_up rfl ?_)); exact ag_refl) rfl hold (by rw [ho]; decide) (idle_of (show (6 : Int) ≠ 4 ∧ (6 : Int) ≠ 21 ∧ (6 : Int) ≠ 22 ∧ (6 : Int) ≠ 28 ∧ (6 : Int) ≠ 24 by decide)) (fun _ q => List.mem_cons_of_mem _ (q)) (fun p q => by simp only [pp_cons] at q ⊢; rcases q with q | q <;> first | (exact Or.inr q) | (exfalso; simp [pp] at q)) ?_ ?_ ?_ ?_ ?_ ?_ ⟨?_, ?_, ?_⟩ (by simp only [pi_if, List.mem_cons, exists_eq_or_imp]; simp) ⟨(fun q y hy => by (try simp only [List.mem_cons] at hy); (rcases hy with rfl | hy) <;> first | (exact q _ (List.mem_cons_of_mem _ hy)) | (have := q _ List.mem_cons_self; dsimp only at this ⊢; omega)), (fun q y hy => by (try simp only [List.mem_cons] at hy); (rcases hy with rfl | hy) <;> first | (exact q _ (List.mem_cons_of_mem _ hy)) | (have := q _ List.mem_cons_self; dsimp only at this ⊢; omega))⟩ ?_ ?_ ⟨fun _ => form_0 ⟨by show (0 : Int) ≠ 1; decide, by show (0 : Int) ≠ 2; decide⟩, fun e => absurd e (by dsimp only; omega), fun e => absurd e (by dsimp only; omega), fun e => absurd e (by dsimp only; omega)⟩ ?_ (by (try unfold mo_L); (try unfold mo_E); (try unfold mo_tk); (repeat (refine ag_up rfl ?_)); exact ag_refl)
  · show (h 0 18) = _; (try simp only [pk_sum]); omega
  · show (h 0 113) + 1 + _ < 5 * ((h 0 7) + 1); (try simp only [pk_sum]); omega
  · show (h 0 95) + _ < (h 0 7) + 1; (try simp only [pk_sum]); omega
  · show (h 0 7) ≤ (h 0 7) + 1; omega
  · show (h 0 84) = _; (try simp only [pk_sum]); omega
  · show (h 0 87) = _; (try simp only [pk_sum]); omega
  · show ph = 1 ∨ (h 0 79) ≤ (h 0 77); omega
  · show ph = 1 ∨ (h 0 77) ≤ 10; omega
  · intro q; show ph = 1 ∨ (h 0 77) ≤ 9; refine b4 (fun z => q ?_); intro y hy; simp only [List.mem_cons] at hy; rcases hy with rfl | hy
    · show (7 : Int) ≠ 17; decide
    · exact z y (List.mem_cons_of_mem _ hy)
  · unfold pw; rw [ho, hA, hBB, mo_xw, mo_xw, mo_xw, mo_xn', mo_xn', mo_xn']; exact ⟨⟨by decide, by decide⟩, ⟨by omega, by omega⟩, ⟨by omega, by omega, by omega⟩, by omega, (show (0 : Int) ≤ ht (h 0 113).toNat by omega), fun z => absurd z (by decide), fun _ => ⟨(show (ht (h 0 113).toNat + 1) = ht (h 0 113).toNat + (1) by omega), (show r + 8 * tu = rg (h 0 113).toNat + 8 * 0 by omega), by omega, fun _ => by omega⟩, fun z => absurd z (by decide), fun z => absurd z (by decide), fun z => absurd z (by unfold pw_jmp; decide), fun z => absurd z (by decide), fun z => absurd z (by decide), fun _ => ⟨by omega, by omega, fun z => by have := hs1 z; omega⟩, fun z => absurd z (by decide), fun z => absurd z (by decide), fun z => by exfalso; omega⟩
  · exact ⟨⟨⟨by (try simp only [pk_sum]); omega, by (try simp only [pk_sum]); omega⟩, (fun p q => absurd q (by simp [pp]))⟩, ⟨by (try simp only [pk_sum, List.length_cons]); (try dsimp only); omega, (by intro y z e; have q := p2' y z e; dsimp only at q ⊢; omega)⟩, (show pt_ok ((mo_L (mo_tk (mo_E (ja_up (h) 0 19 (0)) 3 0 0)) 7 0 0 0) 74) (mo_x ht (h 0 113) ((ht (h 0 113).toNat + 1))) (mo_x st (h 0 113) ((st (h 0 113).toNat))) (mo_x rg (h 0 113) (r + 8 * tu)) ((h 0 113) + 1) (h 0 88) ((h 0 77)) r (pi_wn h r) (7, 0, 0) (s) ((ht (h 0 113).toNat + 1) - 0) ((h 0 109)) ((st (h 0 113).toNat)) (tu) from by unfold pt_ok; (try dsimp only); (try simp only [pk_sum]); exact ⟨⟨by omega, by omega, by omega, by omega⟩, by omega, by omega, ⟨by first | omega | simp, by omega, by omega⟩, fun z => absurd z (by omega), fun z => absurd z (by omega), fun z => absurd z (by omega), fun z => absurd z (by omega), fun z => absurd z (by omega), fun z => absurd z (by omega), fun _ => by first | omega | trivial | (simp only [true_and, and_true]; omega), fun z => absurd z (by omega), fun z => absurd z (by omega), fun z => absurd z (by omega), fun z => absurd z (by omega), fun z => absurd z (by omega), fun z => absurd z (by omega), fun z => absurd z (by omega), fun z => absurd z (by omega), fun z => absurd z (by omega), fun z => absurd z (by omega), fun z => absurd z (by omega), fun z => absurd z (by omega), fun z => absurd z (by omega), fun z => absurd z (by omega), fun z => absurd z (by omega), fun z => absurd z (by omega), fun z => absurd z (by omega), fun z => absurd z (by omega), fun z => absurd z (by omega), fun z => absurd z (by omega), fun z => absurd z (by omega)⟩), (pt_eq (show _ = (ht (h 0 113).toNat + 1) - 0 by omega) (show _ = (h 0 109) by omega) (show _ = (st (h 0 113).toNat) by omega) (pt_ext (show (h 0 113) ≤ (h 0 113) + 1 by omega) (Int.le_refl _) (show (h 0 77) ≤ (h 0 77) by omega) (fun _ q => q) hext p4))⟩
  · show 40 * (900 - ((h 0 7) + 1)) + pk_sum pk_m ((7, 0, 0) :: s) + 13 < 40 * (900 - (h 0 7)) + pk_sum pk_m ((6, a, b) :: s) + 13; (try simp only [pk_sum]); omega

theorem ab_od_self1 {h : ja_H} {R r ph q0 : Int} {tf : mo_TF} {s : List mo_A} {ht st rg : Nat → Int} {tu a b : Int} (g : mo_G Zz h) (hS : pk_S h (h 0 17).toNat s) (hB : piB h R r ph tf q0 ((6, a, b) :: s) ht st rg tu) (hr3 : r ≤ 3) (hfo : (h 0 19) = 0) (hs1 : (h 0 11) ≠ 0) : pi_done h (mo_L (mo_tk (mo_E (h) 3 0 0)) 7 0 0 0) R r ph tf q0 (pi_mu h ((6, a, b) :: s)) := by
  have hN := piB_num g hS hB
  obtain ⟨N1, N2, N3, N4, N5, N6, N7, N8, N9, N10, N11, N12, N13, ⟨NK1, NK2⟩, ND1, ND2, ND3, NU1, NU2⟩ := hN
  obtain ⟨⟨n1, n2, n3, n4, n5, n6, n7, n8, n9⟩, ⟨b1, b2, b3, b4⟩, reg, hpt, ⟨hC, hU⟩, hNo, hP, hT, top⟩ := id hB
  obtain ⟨⟨⟨p1, p1'⟩, p1u⟩, ⟨p2, p2'⟩, p3, p4⟩ := hpt
  have w0 := (gF_wTop g).1
  simp only [pk_sum] at n1 n2 n3 n6 n7
  dsimp only at p2 p2' N6
  have ec6 : pk_c 6 = 0 := rfl
  have ev6 : pk_v 6 = (-4) := rfl
  have ed6 : pk_d 6 = 0 := rfl
  have eq6 : pk_q 6 = 0 := rfl
  have ef6 : pk_f 6 = 0 := rfl
  have em6 : pk_m 6 = (-12) := rfl
  have eoff6 : pk_off 6 = 2 := rfl
  have ek6 : pk_k r 6 = 0 := rfl
  have ec7 : pk_c 7 = 0 := rfl
  have ev7 : pk_v 7 = 0 := rfl
  have ed7 : pk_d 7 = 0 := rfl
  have eq7 : pk_q 7 = 0 := rfl
  have ef7 : pk_f 7 = 0 := rfl
  have em7 : pk_m 7 = 1 := rfl
  have eoff7 : pk_off 7 = 2 := rfl
  have ek7 : pk_k r 7 = 0 := rfl
  replace p3 : pt_ok (h 74) ht st rg (h 0 113) (h 0 88) (h 0 77) r (pi_wn h r) (6, a, b) s (ht (h 0 113).toNat - 0) (h 0 109) (st (h 0 113).toNat) tu := p3
  unfold pt_ok at p3; dsimp only at p3
  replace p4 : pt (h 74) ht st rg (h 0 113) (h 0 88) (h 0 77) r tf (pi_wn h r) s ((ht (h 0 113).toNat - 0) + 1) ((h 0 109)) (st (h 0 113).toNat) (tu) := p4
  obtain ⟨-, xc, xt, ⟨xe, xu1, xu2⟩, -, -, -, -, -, xo6, -, -, -, -, -, -, -, -, -, -, -, -, -, -, -, -, -, -, -, -, -, -⟩ := p3
  replace xo6 := xo6 (by omega)
  have hr := reg_of hB (by dsimp only; omega) (by dsimp only; omega)
  have hbo := gF_body g
  have w0 := (gF_wTop g).1
  have W0 : 0 ≤ (h 0 113) := (gF_words g).1
  have hr4 : 0 ≤ r ∧ r ≤ 4 ∧ (r = 4 → tu = 0) := by
    rcases reg with ⟨q1, q2, -⟩ | ⟨q1, q2, q3, -⟩
    · omega
    · omega
  have ho : (mo_L (mo_tk (mo_E (h) 3 0 0)) 7 0 0 0) 74 (h 0 113).toNat = 3 := by simp [mo_L, mo_E, mo_tk, ja_up]
  have hA : (mo_L (mo_tk (mo_E (h) 3 0 0)) 7 0 0 0) 75 (h 0 113).toNat = 0 := by simp [mo_L, mo_E, mo_tk, ja_up]
  have hBB : (mo_L (mo_tk (mo_E (h) 3 0 0)) 7 0 0 0) 76 (h 0 113).toNat = 0 := by simp [mo_L, mo_E, mo_tk, ja_up]
  have hold : ∀ w : Nat, (w : Int) < (h 0 113) → (mo_L (mo_tk (mo_E (h) 3 0 0)) 7 0 0 0) 74 w = (h 74) w ∧ (mo_L (mo_tk (mo_E (h) 3 0 0)) 7 0 0 0) 75 w = (h 75) w ∧ (mo_L (mo_tk (mo_E (h) 3 0 0)) 7 0 0 0) 76 w = (h 76) w := by
    intro w hw; refine ⟨?_, ?_, ?_⟩ <;> simp [mo_L, mo_E, mo_tk, ja_up] <;> (intros; omega)
  have hext : ∀ j : Nat, (j : Int) ≤ (h 0 113) → ((j : Int) < (h 0 113) → (mo_L (mo_tk (mo_E (h) 3 0 0)) 7 0 0 0) 74 j = (h 74) j) ∧ mo_x ht (h 0 113) ((ht (h 0 113).toNat + 1)) j = ht j ∧ mo_x st (h 0 113) ((st (h 0 113).toNat)) j = st j ∧ mo_x rg (h 0 113) (r + 8 * tu) j = rg j := fun j hj => ⟨fun q => (hold j q).1, mo_xo W0 (by omega), mo_xo W0 (by omega), mo_xo W0 (by omega)⟩
  refine fin1 (c1 := (ht (h 0 113).toNat + 1)) (e1 := (st (h 0 113).toNat)) (tu1 := tu) (Or.inl rfl) g hB (by dsimp only; omega) (pk_S_L (show 0 ≤ (h 0 17) by omega) (pk_S_ag (ag_up rfl ag_refl) (pk_S_E hS))) (by (try unfold mo_L); (try unfold mo_E); (try unfold mo_tk); (repeat (refine ag_up rfl ?_)); exact ag_refl) rfl hold (by rw [ho]; decide) (idle_of (show (6 : Int) ≠ 4 ∧ (6 : Int) ≠ 21 ∧ (6 : Int) ≠ 22 ∧ (6 : Int) ≠ 28 ∧ (6 : Int) ≠ 24 by decide)) (fun _ q => List.mem_cons_of_mem _ (q)) (fun p q => by simp only [pp_cons] at q ⊢; rcases q with q | q <;> first | (exact Or.inr q) | (exfalso; simp [pp] at q)) ?_ ?_ ?_ ?_ ?_ ?_ ⟨?_, ?_, ?_⟩ (by simp only [pi_if, List.mem_cons, exists_eq_or_imp]; simp) ⟨(fun q y hy => by (try simp only [List.mem_cons] at hy); (rcases hy with rfl | hy) <;> first | (exact q _ (List.mem_cons_of_mem _ hy)) | (have := q _ List.mem_cons_self; dsimp only at this ⊢; omega)), (fun q y hy => by (try simp only [List.mem_cons] at hy); (rcases hy with rfl | hy) <;> first | (exact q _ (List.mem_cons_of_mem _ hy)) | (have := q _ List.mem_cons_self; dsimp only at this ⊢; omega))⟩ ?_ ?_ ⟨fun _ => form_0 (by show (h 0 19) ≠ 1 ∧ (h 0 19) ≠ 2; omega), fun e => absurd e (by dsimp only; omega), fun e => absurd e (by dsimp only; omega), fun e => absurd e (by dsimp only; omega)⟩ ?_ (by (try unfold mo_L); (try unfold mo_E); (try unfold mo_tk); (repeat (refine ag_up rfl ?_)); exact ag_refl)
  · show (h 0 18) = _; (try simp only [pk_sum]); omega
  · show (h 0 113) + 1 + _ < 5 * ((h 0 7) + 1); (try simp only [pk_sum]); omega
  · show (h 0 95) + _ < (h 0 7) + 1; (try simp only [pk_sum]); omega
  · show (h 0 7) ≤ (h 0 7) + 1; omega
  · show (h 0 84) = _; (try simp only [pk_sum]); omega
  · show (h 0 87) = _; (try simp only [pk_sum]); omega
  · show ph = 1 ∨ (h 0 79) ≤ (h 0 77); omega
  · show ph = 1 ∨ (h 0 77) ≤ 10; omega
  · intro q; show ph = 1 ∨ (h 0 77) ≤ 9; refine b4 (fun z => q ?_); intro y hy; simp only [List.mem_cons] at hy; rcases hy with rfl | hy
    · show (7 : Int) ≠ 17; decide
    · exact z y (List.mem_cons_of_mem _ hy)
  · unfold pw; rw [ho, hA, hBB, mo_xw, mo_xw, mo_xw, mo_xn', mo_xn', mo_xn']; exact ⟨⟨by decide, by decide⟩, ⟨by omega, by omega⟩, ⟨by omega, by omega, by omega⟩, by omega, (show (0 : Int) ≤ ht (h 0 113).toNat by omega), fun z => absurd z (by decide), fun _ => ⟨(show (ht (h 0 113).toNat + 1) = ht (h 0 113).toNat + (1) by omega), (show r + 8 * tu = rg (h 0 113).toNat + 8 * 0 by omega), by omega, fun _ => by omega⟩, fun z => absurd z (by decide), fun z => absurd z (by decide), fun z => absurd z (by unfold pw_jmp; decide), fun z => absurd z (by decide), fun z => absurd z (by decide), fun _ => ⟨by omega, by omega, fun z => absurd z hs1⟩, fun z => absurd z (by decide), fun z => absurd z (by decide), fun z => by exfalso; omega⟩
  · exact ⟨⟨⟨by (try simp only [pk_sum]); omega, by (try simp only [pk_sum]); omega⟩, (fun p q => absurd q (by simp [pp]))⟩, ⟨by (try simp only [pk_sum, List.length_cons]); (try dsimp only); omega, (by intro y z e; have q := p2' y z e; dsimp only at q ⊢; omega)⟩, (show pt_ok ((mo_L (mo_tk (mo_E (h) 3 0 0)) 7 0 0 0) 74) (mo_x ht (h 0 113) ((ht (h 0 113).toNat + 1))) (mo_x st (h 0 113) ((st (h 0 113).toNat))) (mo_x rg (h 0 113) (r + 8 * tu)) ((h 0 113) + 1) (h 0 88) ((h 0 77)) r (pi_wn h r) (7, 0, 0) (s) ((ht (h 0 113).toNat + 1) - 0) ((h 0 109)) ((st (h 0 113).toNat)) (tu) from by unfold pt_ok; (try dsimp only); (try simp only [pk_sum]); exact ⟨⟨by omega, by omega, by omega, by omega⟩, by omega, by omega, ⟨by first | omega | simp, by omega, by omega⟩, fun z => absurd z (by omega), fun z => absurd z (by omega), fun z => absurd z (by omega), fun z => absurd z (by omega), fun z => absurd z (by omega), fun z => absurd z (by omega), fun _ => by first | omega | trivial | (simp only [true_and, and_true]; omega), fun z => absurd z (by omega), fun z => absurd z (by omega), fun z => absurd z (by omega), fun z => absurd z (by omega), fun z => absurd z (by omega), fun z => absurd z (by omega), fun z => absurd z (by omega), fun z => absurd z (by omega), fun z => absurd z (by omega), fun z => absurd z (by omega), fun z => absurd z (by omega), fun z => absurd z (by omega), fun z => absurd z (by omega), fun z => absurd z (by omega), fun z => absurd z (by omega), fun z => absurd z (by omega), fun z => absurd z (by omega), fun z => absurd z (by omega), fun z => absurd z (by omega), fun z => absurd z (by omega), fun z => absurd z (by omega)⟩), (pt_eq (show _ = (ht (h 0 113).toNat + 1) - 0 by omega) (show _ = (h 0 109) by omega) (show _ = (st (h 0 113).toNat) by omega) (pt_ext (show (h 0 113) ≤ (h 0 113) + 1 by omega) (Int.le_refl _) (show (h 0 77) ≤ (h 0 77) by omega) (fun _ q => q) hext p4))⟩
  · show 40 * (900 - ((h 0 7) + 1)) + pk_sum pk_m ((7, 0, 0) :: s) + 13 < 40 * (900 - (h 0 7)) + pk_sum pk_m ((6, a, b) :: s) + 13; (try simp only [pk_sum]); omega

theorem ab_od_go1 {h : ja_H} {R r ph q0 : Int} {tf : mo_TF} {s : List mo_A} {ht st rg : Nat → Int} {tu a b : Int} (g : mo_G Zz h) (hS : pk_S h (h 0 17).toNat s) (hB : piB h R r ph tf q0 ((6, a, b) :: s) ht st rg tu) (hr3 : r ≤ 3) (hgo : pi_wn h r (-1)) : pi_done h (mo_L (mo_E (ja_up (mo_tk (h)) 0 19 (5)) 16 0 0) 7 0 0 0) R r ph tf q0 (pi_mu h ((6, a, b) :: s)) := by
  have hN := piB_num g hS hB
  obtain ⟨N1, N2, N3, N4, N5, N6, N7, N8, N9, N10, N11, N12, N13, ⟨NK1, NK2⟩, ND1, ND2, ND3, NU1, NU2⟩ := hN
  obtain ⟨⟨n1, n2, n3, n4, n5, n6, n7, n8, n9⟩, ⟨b1, b2, b3, b4⟩, reg, hpt, ⟨hC, hU⟩, hNo, hP, hT, top⟩ := id hB
  obtain ⟨⟨⟨p1, p1'⟩, p1u⟩, ⟨p2, p2'⟩, p3, p4⟩ := hpt
  have w0 := (gF_wTop g).1
  simp only [pk_sum] at n1 n2 n3 n6 n7
  dsimp only at p2 p2' N6
  have ec6 : pk_c 6 = 0 := rfl
  have ev6 : pk_v 6 = (-4) := rfl
  have ed6 : pk_d 6 = 0 := rfl
  have eq6 : pk_q 6 = 0 := rfl
  have ef6 : pk_f 6 = 0 := rfl
  have em6 : pk_m 6 = (-12) := rfl
  have eoff6 : pk_off 6 = 2 := rfl
  have ek6 : pk_k r 6 = 0 := rfl
  have ec7 : pk_c 7 = 0 := rfl
  have ev7 : pk_v 7 = 0 := rfl
  have ed7 : pk_d 7 = 0 := rfl
  have eq7 : pk_q 7 = 0 := rfl
  have ef7 : pk_f 7 = 0 := rfl
  have em7 : pk_m 7 = 1 := rfl
  have eoff7 : pk_off 7 = 2 := rfl
  have ek7 : pk_k r 7 = 0 := rfl
  replace p3 : pt_ok (h 74) ht st rg (h 0 113) (h 0 88) (h 0 77) r (pi_wn h r) (6, a, b) s (ht (h 0 113).toNat - 0) (h 0 109) (st (h 0 113).toNat) tu := p3
  unfold pt_ok at p3; dsimp only at p3
  replace p4 : pt (h 74) ht st rg (h 0 113) (h 0 88) (h 0 77) r tf (pi_wn h r) s ((ht (h 0 113).toNat - 0) + 1) ((h 0 109)) (st (h 0 113).toNat) (tu) := p4
  obtain ⟨-, xc, xt, ⟨xe, xu1, xu2⟩, -, -, -, -, -, xo6, -, -, -, -, -, -, -, -, -, -, -, -, -, -, -, -, -, -, -, -, -, -⟩ := p3
  replace xo6 := xo6 (by omega)
  have hr := reg_of hB (by dsimp only; omega) (by dsimp only; omega)
  have hbo := gF_body g
  have w0 := (gF_wTop g).1
  have W0 : 0 ≤ (h 0 113) := (gF_words g).1
  have hr4 : 0 ≤ r ∧ r ≤ 4 ∧ (r = 4 → tu = 0) := by
    rcases reg with ⟨q1, q2, -⟩ | ⟨q1, q2, q3, -⟩
    · omega
    · omega
  have ho : (mo_L (mo_E (ja_up (mo_tk (h)) 0 19 (5)) 16 0 0) 7 0 0 0) 74 (h 0 113).toNat = 16 := by simp [mo_L, mo_E, mo_tk, ja_up]
  have hA : (mo_L (mo_E (ja_up (mo_tk (h)) 0 19 (5)) 16 0 0) 7 0 0 0) 75 (h 0 113).toNat = 0 := by simp [mo_L, mo_E, mo_tk, ja_up]
  have hBB : (mo_L (mo_E (ja_up (mo_tk (h)) 0 19 (5)) 16 0 0) 7 0 0 0) 76 (h 0 113).toNat = 0 := by simp [mo_L, mo_E, mo_tk, ja_up]
  have hold : ∀ w : Nat, (w : Int) < (h 0 113) → (mo_L (mo_E (ja_up (mo_tk (h)) 0 19 (5)) 16 0 0) 7 0 0 0) 74 w = (h 74) w ∧ (mo_L (mo_E (ja_up (mo_tk (h)) 0 19 (5)) 16 0 0) 7 0 0 0) 75 w = (h 75) w ∧ (mo_L (mo_E (ja_up (mo_tk (h)) 0 19 (5)) 16 0 0) 7 0 0 0) 76 w = (h 76) w := by
    intro w hw; refine ⟨?_, ?_, ?_⟩ <;> simp [mo_L, mo_E, mo_tk, ja_up] <;> (intros; omega)
  have hext : ∀ j : Nat, (j : Int) ≤ (h 0 113) → ((j : Int) < (h 0 113) → (mo_L (mo_E (ja_up (mo_tk (h)) 0 19 (5)) 16 0 0) 7 0 0 0) 74 j = (h 74) j) ∧ mo_x ht (h 0 113) ((ht (h 0 113).toNat + 1)) j = ht j ∧ mo_x st (h 0 113) ((st (h 0 113).toNat)) j = st j ∧ mo_x rg (h 0 113) (r + 8 * tu) j = rg j := fun j hj => ⟨fun q => (hold j q).1, mo_xo W0 (by omega), mo_xo W0 (by omega), mo_xo W0 (by omega)⟩
  refine fin1 (c1 := (ht (h 0 113).toNat + 1)) (e1 := (st (h 0 113).toNat)) (tu1 := tu) (Or.inl rfl) g hB (by dsimp only; omega) (pk_S_L (show 0 ≤ (h 0 17) by omega) (pk_S_E (pk_S_ag (ag_up rfl ag_refl) (pk_S_ag (ag_up rfl ag_refl) hS)))) (by (try unfold mo_L); (try unfold mo_E); (try unfold mo_tk); (repeat (refine ag_up rfl ?_)); exact ag_refl) rfl hold (by rw [ho]; decide) (idle_of (show (6 : Int) ≠ 4 ∧ (6 : Int) ≠ 21 ∧ (6 : Int) ≠ 22 ∧ (6 : Int) ≠ 28 ∧ (6 : Int) ≠ 24 by decide)) (fun _ q => List.mem_cons_of_mem _ (q)) (fun p q => by simp only [pp_cons] at q ⊢; rcases q with q | q <;> first | (exact Or.inr q) | (exfalso; simp [pp] at q)) ?_ ?_ ?_ ?_ ?_ ?_ ⟨?_, ?_, ?_⟩ (by simp only [pi_if, List.mem_cons, exists_eq_or_imp]; simp) ⟨(fun q y hy => by (try simp only [List.mem_cons] at hy); (rcases hy with rfl | hy) <;> first | (exact q _ (List.mem_cons_of_mem _ hy)) | (have := q _ List.mem_cons_self; dsimp only at this ⊢; omega)), (fun q y hy => by (try simp only [List.mem_cons] at hy); (rcases hy with rfl | hy) <;> first | (exact q _ (List.mem_cons_of_mem _ hy)) | (have := q _ List.mem_cons_self; dsimp only at this ⊢; omega))⟩ ?_ ?_ ⟨fun _ => form_0 ⟨by show (5 : Int) ≠ 1; decide, by show (5 : Int) ≠ 2; decide⟩, fun e => absurd e (by dsimp only; omega), fun e => absurd e (by dsimp only; omega), fun e => absurd e (by dsimp only; omega)⟩ ?_ (by (try unfold mo_L); (try unfold mo_E); (try unfold mo_tk); (repeat (refine ag_up rfl ?_)); exact ag_refl)
  · show (h 0 18) = _; (try simp only [pk_sum]); omega
  · show (h 0 113) + 1 + _ < 5 * ((h 0 7) + 1); (try simp only [pk_sum]); omega
  · show (h 0 95) + _ < (h 0 7) + 1; (try simp only [pk_sum]); omega
  · show (h 0 7) ≤ (h 0 7) + 1; omega
  · show (h 0 84) = _; (try simp only [pk_sum]); omega
  · show (h 0 87) = _; (try simp only [pk_sum]); omega
  · show ph = 1 ∨ (h 0 79) ≤ (h 0 77); omega
  · show ph = 1 ∨ (h 0 77) ≤ 10; omega
  · intro q; show ph = 1 ∨ (h 0 77) ≤ 9; refine b4 (fun z => q ?_); intro y hy; simp only [List.mem_cons] at hy; rcases hy with rfl | hy
    · show (7 : Int) ≠ 17; decide
    · exact z y (List.mem_cons_of_mem _ hy)
  · unfold pw; rw [ho, hA, hBB, mo_xw, mo_xw, mo_xw, mo_xn', mo_xn', mo_xn']; exact ⟨⟨by decide, by decide⟩, ⟨by omega, by omega⟩, ⟨by omega, by omega, by omega⟩, by omega, (show (0 : Int) ≤ ht (h 0 113).toNat by omega), fun z => absurd z (by decide), fun _ => ⟨(show ht (h 0 113).toNat + 1 = ht (h 0 113).toNat + 1 from rfl), (show r + 8 * tu = rg (h 0 113).toNat + 8 * 0 by omega), by omega, fun _ => by omega⟩, fun z => absurd z (by decide), fun z => absurd z (by decide), fun z => absurd z (by unfold pw_jmp; decide), fun z => absurd z (by decide), fun z => absurd z (by decide), fun _ => ⟨by omega, by omega, fun z => by have := hgo.1.1 rfl z; omega⟩, fun z => absurd z (by decide), fun z => absurd z (by decide), fun z => by exfalso; omega⟩
  · exact ⟨⟨⟨by (try simp only [pk_sum]); omega, by (try simp only [pk_sum]); omega⟩, (fun p q => absurd q (by simp [pp]))⟩, ⟨by (try simp only [pk_sum, List.length_cons]); (try dsimp only); omega, (by intro y z e; have q := p2' y z e; dsimp only at q ⊢; omega)⟩, (show pt_ok ((mo_L (mo_E (ja_up (mo_tk (h)) 0 19 (5)) 16 0 0) 7 0 0 0) 74) (mo_x ht (h 0 113) ((ht (h 0 113).toNat + 1))) (mo_x st (h 0 113) ((st (h 0 113).toNat))) (mo_x rg (h 0 113) (r + 8 * tu)) ((h 0 113) + 1) (h 0 88) ((h 0 77)) r (pi_wn h r) (7, 0, 0) (s) ((ht (h 0 113).toNat + 1) - 0) ((h 0 109)) ((st (h 0 113).toNat)) (tu) from by unfold pt_ok; (try dsimp only); (try simp only [pk_sum]); exact ⟨⟨by omega, by omega, by omega, by omega⟩, by omega, by omega, ⟨by first | omega | simp, by omega, by omega⟩, fun z => absurd z (by omega), fun z => absurd z (by omega), fun z => absurd z (by omega), fun z => absurd z (by omega), fun z => absurd z (by omega), fun z => absurd z (by omega), fun _ => by first | omega | trivial | (simp only [true_and, and_true]; omega), fun z => absurd z (by omega), fun z => absurd z (by omega), fun z => absurd z (by omega), fun z => absurd z (by omega), fun z => absurd z (by omega), fun z => absurd z (by omega), fun z => absurd z (by omega), fun z => absurd z (by omega), fun z => absurd z (by omega), fun z => absurd z (by omega), fun z => absurd z (by omega), fun z => absurd z (by omega), fun z => absurd z (by omega), fun z => absurd z (by omega), fun z => absurd z (by omega), fun z => absurd z (by omega), fun z => absurd z (by omega), fun z => absurd z (by omega), fun z => absurd z (by omega), fun z => absurd z (by omega), fun z => absurd z (by omega)⟩), (pt_eq (show _ = (ht (h 0 113).toNat + 1) - 0 by omega) (show _ = (h 0 109) by omega) (show _ = (st (h 0 113).toNat) by omega) (pt_ext (show (h 0 113) ≤ (h 0 113) + 1 by omega) (Int.le_refl _) (show (h 0 77) ≤ (h 0 77) by omega) (fun _ q => q) hext p4))⟩
  · show 40 * (900 - ((h 0 7) + 1)) + pk_sum pk_m ((7, 0, 0) :: s) + 13 < 40 * (900 - (h 0 7)) + pk_sum pk_m ((6, a, b) :: s) + 13; (try simp only [pk_sum]); omega
