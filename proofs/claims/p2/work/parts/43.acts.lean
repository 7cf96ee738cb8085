/-! the reference's parser: S -/
variable {Zz : Zc}
theorem ab_st_let {h : ja_H} {R r ph q0 : Int} {tf : mo_TF} {s : List mo_A} {ht st rg : Nat → Int} {tu a b : Int} (g : mo_G Zz h) (hS : pk_S h (h 0 17).toNat s) (hB : piB h R r ph tf q0 ((15, a, b) :: s) ht st rg tu) (hl : (h 0 77) ≤ 9) (hat : (h 0 7) + 3 ≤ 900) : pi_done h (mo_L (mo_L (mo_L (mo_tk (mo_tk (mo_tk (mo_E (mo_L (mo_L (ja_up (h) 0 18 ((h 0 18) + 1)) 15 0 0 0) 30 0 0 0) 25 0 0)))) 17 ((h 0 7) + 1) 0 0) 37 59 0 0) 1 0 0 0) R r ph tf q0 (pi_mu h ((15, a, b) :: s)) := by
  have hN := piB_num g hS hB
  obtain ⟨N1, N2, N3, N4, N5, N6, N7, N8, N9, N10, N11, N12, N13, ⟨NK1, NK2⟩, ND1, ND2, ND3, NU1, NU2⟩ := hN
  obtain ⟨⟨n1, n2, n3, n4, n5, n6, n7, n8, n9⟩, ⟨b1, b2, b3, b4⟩, reg, hpt, ⟨hC, hU⟩, hNo, hP, hT, top⟩ := id hB
  obtain ⟨⟨⟨p1, p1'⟩, p1u⟩, ⟨p2, p2'⟩, p3, p4⟩ := hpt
  have w0 := (gF_wTop g).1
  simp only [pk_sum] at n1 n2 n3 n6 n7
  dsimp only at p2 p2' N6
  have ec1 : pk_c 1 = 0 := rfl
  have ev1 : pk_v 1 = (-4) := rfl
  have ed1 : pk_d 1 = 0 := rfl
  have eq1 : pk_q 1 = 0 := rfl
  have ef1 : pk_f 1 = 0 := rfl
  have em1 : pk_m 1 = (-10) := rfl
  have eoff1 : pk_off 1 = 7 := rfl
  have ek1 : pk_k r 1 = 0 := rfl
  have ec15 : pk_c 15 = 0 := rfl
  have ev15 : pk_v 15 = 0 := rfl
  have ed15 : pk_d 15 = 0 := rfl
  have eq15 : pk_q 15 = 0 := rfl
  have ef15 : pk_f 15 = 0 := rfl
  have em15 : pk_m 15 = 1 := rfl
  have eoff15 : pk_off 15 = 5 := rfl
  have ek15 : pk_k r 15 = 0 := rfl
  have ec17 : pk_c 17 = 0 := rfl
  have ev17 : pk_v 17 = 1 := rfl
  have ed17 : pk_d 17 = 0 := rfl
  have eq17 : pk_q 17 = 0 := rfl
  have ef17 : pk_f 17 = 0 := rfl
  have em17 : pk_m 17 = 1 := rfl
  have eoff17 : pk_off 17 = 1 := rfl
  have ek17 : pk_k r 17 = 0 := rfl
  have ec30 : pk_c 30 = 1 := rfl
  have ev30 : pk_v 30 = 0 := rfl
  have ed30 : pk_d 30 = 0 := rfl
  have eq30 : pk_q 30 = 0 := rfl
  have ef30 : pk_f 30 = 0 := rfl
  have em30 : pk_m 30 = 1 := rfl
  have eoff30 : pk_off 30 = 6 := rfl
  have ek30 : pk_k r 30 = pk_D r := rfl
  have ec37 : pk_c 37 = 0 := rfl
  have ev37 : pk_v 37 = 0 := rfl
  have ed37 : pk_d 37 = 0 := rfl
  have eq37 : pk_q 37 = 0 := rfl
  have ef37 : pk_f 37 = 0 := rfl
  have em37 : pk_m 37 = 1 := rfl
  have eoff37 : pk_off 37 = 3 := rfl
  have ek37 : pk_k r 37 = 0 := rfl
  replace p3 : pt_ok (h 74) ht st rg (h 0 113) (h 0 88) (h 0 77) r (pi_wn h r) (15, a, b) s (ht (h 0 113).toNat - 0) (h 0 109) (st (h 0 113).toNat) tu := p3
  unfold pt_ok at p3; dsimp only at p3
  replace p4 : pt (h 74) ht st rg (h 0 113) (h 0 88) (h 0 77) r tf (pi_wn h r) s (0) ((h 0 109)) (st (h 0 113).toNat) (tu) := p4
  obtain ⟨-, xc, xt, ⟨xe, xu1, xu2⟩, -, -, -, -, -, -, -, -, -, -, -, -, xo14, -, -, -, -, -, -, -, -, -, -, -, -, -, -, -⟩ := p3
  replace xo14 := xo14 (by omega)
  have xq1o14 := xo14.1
  have xq2o14 := xo14.2.1
  have hr := reg_of hB (by dsimp only; omega) (by dsimp only; omega)
  have hbo := gF_body g
  have w0 := (gF_wTop g).1
  have W0 : 0 ≤ (h 0 113) := (gF_words g).1
  have hr4 : 0 ≤ r ∧ r ≤ 3 ∧ (r = 4 → tu = 0) := by
    rcases reg with ⟨q1, q2, -⟩ | ⟨q1, q2, q3, -⟩
    · omega
    · have := q3 _ List.mem_cons_self; dsimp only at this; omega
  have ho : (mo_L (mo_L (mo_L (mo_tk (mo_tk (mo_tk (mo_E (mo_L (mo_L (ja_up (h) 0 18 ((h 0 18) + 1)) 15 0 0 0) 30 0 0 0) 25 0 0)))) 17 ((h 0 7) + 1) 0 0) 37 59 0 0) 1 0 0 0) 74 (h 0 113).toNat = 25 := by simp [mo_L, mo_E, mo_tk, ja_up]
  have hA : (mo_L (mo_L (mo_L (mo_tk (mo_tk (mo_tk (mo_E (mo_L (mo_L (ja_up (h) 0 18 ((h 0 18) + 1)) 15 0 0 0) 30 0 0 0) 25 0 0)))) 17 ((h 0 7) + 1) 0 0) 37 59 0 0) 1 0 0 0) 75 (h 0 113).toNat = 0 := by simp [mo_L, mo_E, mo_tk, ja_up]
  have hBB : (mo_L (mo_L (mo_L (mo_tk (mo_tk (mo_tk (mo_E (mo_L (mo_L (ja_up (h) 0 18 ((h 0 18) + 1)) 15 0 0 0) 30 0 0 0) 25 0 0)))) 17 ((h 0 7) + 1) 0 0) 37 59 0 0) 1 0 0 0) 76 (h 0 113).toNat = 0 := by simp [mo_L, mo_E, mo_tk, ja_up]
  have hold : ∀ w : Nat, (w : Int) < (h 0 113) → (mo_L (mo_L (mo_L (mo_tk (mo_tk (mo_tk (mo_E (mo_L (mo_L (ja_up (h) 0 18 ((h 0 18) + 1)) 15 0 0 0) 30 0 0 0) 25 0 0)))) 17 ((h 0 7) + 1) 0 0) 37 59 0 0) 1 0 0 0) 74 w = (h 74) w ∧ (mo_L (mo_L (mo_L (mo_tk (mo_tk (mo_tk (mo_E (mo_L (mo_L (ja_up (h) 0 18 ((h 0 18) + 1)) 15 0 0 0) 30 0 0 0) 25 0 0)))) 17 ((h 0 7) + 1) 0 0) 37 59 0 0) 1 0 0 0) 75 w = (h 75) w ∧ (mo_L (mo_L (mo_L (mo_tk (mo_tk (mo_tk (mo_E (mo_L (mo_L (ja_up (h) 0 18 ((h 0 18) + 1)) 15 0 0 0) 30 0 0 0) 25 0 0)))) 17 ((h 0 7) + 1) 0 0) 37 59 0 0) 1 0 0 0) 76 w = (h 76) w := by
    intro w hw; refine ⟨?_, ?_, ?_⟩ <;> simp [mo_L, mo_E, mo_tk, ja_up] <;> (intros; omega)
  have hext : ∀ j : Nat, (j : Int) ≤ (h 0 113) → ((j : Int) < (h 0 113) → (mo_L (mo_L (mo_L (mo_tk (mo_tk (mo_tk (mo_E (mo_L (mo_L (ja_up (h) 0 18 ((h 0 18) + 1)) 15 0 0 0) 30 0 0 0) 25 0 0)))) 17 ((h 0 7) + 1) 0 0) 37 59 0 0) 1 0 0 0) 74 j = (h 74) j) ∧ mo_x ht (h 0 113) (0) j = ht j ∧ mo_x st (h 0 113) (1) j = st j ∧ mo_x rg (h 0 113) (r + 8 * tu) j = rg j := fun j hj => ⟨fun q => (hold j q).1, mo_xo W0 (by omega), mo_xo W0 (by omega), mo_xo W0 (by omega)⟩
  refine fin1 (c1 := 0) (e1 := 1) (tu1 := tu) (Or.inl rfl) g hB (by dsimp only; omega) (pk_S_L (show 0 ≤ (h 0 17) + 1 + 1 + 1 + 1 by omega) (pk_S_L (show 0 ≤ (h 0 17) + 1 + 1 + 1 by omega) (pk_S_L (show 0 ≤ (h 0 17) + 1 + 1 by omega) (pk_S_ag (ag_up rfl ag_refl) (pk_S_ag (ag_up rfl ag_refl) (pk_S_ag (ag_up rfl ag_refl) (pk_S_E (pk_S_L (show 0 ≤ (h 0 17) + 1 by omega) (pk_S_L (show 0 ≤ (h 0 17) by omega) (pk_S_ag (ag_up rfl ag_refl) hS)))))))))) (by (try unfold mo_L); (try unfold mo_E); (try unfold mo_tk); (repeat (refine ag_up rfl ?_)); exact ag_refl) rfl hold (by rw [ho]; decide) (idle_of (show (15 : Int) ≠ 4 ∧ (15 : Int) ≠ 21 ∧ (15 : Int) ≠ 22 ∧ (15 : Int) ≠ 28 ∧ (15 : Int) ≠ 24 by decide)) (fun _ q => List.mem_cons_of_mem _ (List.mem_cons_of_mem _ (List.mem_cons_of_mem _ (List.mem_cons_of_mem _ (List.mem_cons_of_mem _ (q)))))) (fun p q => by simp only [pp_cons] at q ⊢; rcases q with q | q | q | q | q | q <;> first | (exact Or.inr q) | (exfalso; simp [pp] at q)) ?_ ?_ ?_ ?_ ?_ ?_ ⟨?_, ?_, ?_⟩ (by simp only [pi_if, List.mem_cons, exists_eq_or_imp]; simp) ⟨(fun q y hy => by (try simp only [List.mem_cons] at hy); (rcases hy with rfl | rfl | rfl | rfl | rfl | hy) <;> first | (exact q _ (List.mem_cons_of_mem _ hy)) | (have := q _ List.mem_cons_self; dsimp only at this ⊢; omega)), (fun q y hy => by (try simp only [List.mem_cons] at hy); (rcases hy with rfl | rfl | rfl | rfl | rfl | hy) <;> first | (exact q _ (List.mem_cons_of_mem _ hy)) | (have := q _ List.mem_cons_self; dsimp only at this ⊢; omega))⟩ ?_ ?_ ⟨fun e => absurd e (by dsimp only; omega), fun e => absurd e (by dsimp only; omega), fun _ y z e => by cases e; intro q; exact absurd q (by dsimp only; omega), fun e => absurd e (by dsimp only; omega)⟩ ?_ (by (try unfold mo_L); (try unfold mo_E); (try unfold mo_tk); (repeat (refine ag_up rfl ?_)); exact ag_refl)
  · show (h 0 18) + 1 = _; (try simp only [pk_sum]); omega
  · show (h 0 113) + 1 + _ < 5 * ((h 0 7) + 1 + 1 + 1); (try simp only [pk_sum]); omega
  · show (h 0 95) + _ < (h 0 7) + 1 + 1 + 1; (try simp only [pk_sum]); omega
  · show (h 0 7) ≤ (h 0 7) + 1 + 1 + 1; omega
  · show (h 0 84) = _; (try simp only [pk_sum]); omega
  · show (h 0 87) = _; (try simp only [pk_sum]); omega
  · show ph = 1 ∨ (h 0 79) ≤ (h 0 77); omega
  · show ph = 1 ∨ (h 0 77) ≤ 10; omega
  · intro _; exact Or.inr hl
  · unfold pw; rw [ho, hA, hBB, mo_xw, mo_xw, mo_xw, mo_xn', mo_xn', mo_xn']; exact ⟨⟨by decide, by decide⟩, ⟨by omega, by omega⟩, ⟨by omega, by omega, by omega⟩, by omega, (show (0 : Int) ≤ ht (h 0 113).toNat by omega), fun z => absurd z (by decide), fun _ => ⟨(show (0 : Int) = ht (h 0 113).toNat + 0 by omega), (show r + 8 * tu = rg (h 0 113).toNat + 8 * 0 by omega), Or.inr rfl, fun z => absurd rfl z⟩, fun z => absurd z (by decide), fun _ => (show ht (h 0 113).toNat = 0 by omega), fun z => absurd z (by unfold pw_jmp; decide), fun z => absurd z (by decide), fun z => absurd z (by decide), fun z => absurd z (by decide), fun z => absurd z (by decide), fun z => absurd z (by decide), fun z => ⟨⟨by omega, by omega, fun z => absurd z (by decide)⟩, by first | decide | (exfalso; omega)⟩⟩
  · exact ⟨⟨⟨by (try simp only [pk_sum]); omega, by (try simp only [pk_sum]); omega⟩, (fun p q => absurd q (by simp [pp]))⟩, ⟨by (try simp only [pk_sum, List.length_cons]); (try dsimp only); omega, (by intro y z e; cases e; dsimp only; omega)⟩, (show pt_ok ((mo_L (mo_L (mo_L (mo_tk (mo_tk (mo_tk (mo_E (mo_L (mo_L (ja_up (h) 0 18 ((h 0 18) + 1)) 15 0 0 0) 30 0 0 0) 25 0 0)))) 17 ((h 0 7) + 1) 0 0) 37 59 0 0) 1 0 0 0) 74) (mo_x ht (h 0 113) (0)) (mo_x st (h 0 113) (1)) (mo_x rg (h 0 113) (r + 8 * tu)) ((h 0 113) + 1) (h 0 88) ((h 0 77)) r (pi_wn h r) (1, 0, 0) ((37, 59, 0) :: (17, ((h 0 7) + 1), 0) :: (30, 0, 0) :: (15, 0, 0) :: s) (0 - 0) ((h 0 109)) (1) (tu) from by unfold pt_ok; (try dsimp only); (try simp only [pk_sum]); exact ⟨⟨by omega, by omega, by omega, by omega⟩, by omega, by omega, ⟨by first | omega | simp, by omega, by omega⟩, fun _ => by first | omega | trivial | (simp only [true_and, and_true]; omega), fun z => absurd z (by omega), fun z => absurd z (by omega), fun z => absurd z (by omega), fun z => absurd z (by omega), fun z => absurd z (by omega), fun z => absurd z (by omega), fun z => absurd z (by omega), fun z => absurd z (by omega), fun z => absurd z (by omega), fun z => absurd z (by omega), fun z => absurd z (by omega), fun z => absurd z (by omega), fun z => absurd z (by omega), fun z => absurd z (by omega), fun z => absurd z (by omega), fun z => absurd z (by omega), fun z => absurd z (by omega), fun z => absurd z (by omega), fun z => absurd z (by omega), fun z => absurd z (by omega), fun z => absurd z (by omega), fun z => absurd z (by omega), fun z => absurd z (by omega), fun z => absurd z (by omega), fun z => absurd z (by omega), fun z => absurd z (by omega), fun z => absurd z (by omega)⟩), ⟨⟨⟨by (try simp only [pk_sum]); omega, by (try simp only [pk_sum]); omega⟩, (fun p q => absurd q (by simp [pp]))⟩, ⟨by (try simp only [pk_sum, List.length_cons]); (try dsimp only); omega, (by intro y z e; cases e; dsimp only; omega)⟩, (show pt_ok ((mo_L (mo_L (mo_L (mo_tk (mo_tk (mo_tk (mo_E (mo_L (mo_L (ja_up (h) 0 18 ((h 0 18) + 1)) 15 0 0 0) 30 0 0 0) 25 0 0)))) 17 ((h 0 7) + 1) 0 0) 37 59 0 0) 1 0 0 0) 74) (mo_x ht (h 0 113) (0)) (mo_x st (h 0 113) (1)) (mo_x rg (h 0 113) (r + 8 * tu)) ((h 0 113) + 1) (h 0 88) ((h 0 77)) r (pi_wn h r) (37, 59, 0) ((17, ((h 0 7) + 1), 0) :: (30, 0, 0) :: (15, 0, 0) :: s) (0 - 0 + 1) ((h 0 109)) (1) (tu) from by unfold pt_ok; (try dsimp only); (try simp only [pk_sum]); exact ⟨⟨by omega, by omega, by omega, by omega⟩, by omega, by omega, ⟨by first | omega | simp, by omega, by omega⟩, fun z => absurd z (by omega), fun z => absurd z (by omega), fun z => absurd z (by omega), fun z => absurd z (by omega), fun z => absurd z (by omega), fun z => absurd z (by omega), fun z => absurd z (by omega), fun z => absurd z (by omega), fun z => absurd z (by omega), fun z => absurd z (by omega), fun z => absurd z (by omega), fun z => absurd z (by omega), fun z => absurd z (by omega), fun z => absurd z (by omega), fun z => absurd z (by omega), fun z => absurd z (by omega), fun z => absurd z (by omega), fun z => absurd z (by omega), fun z => absurd z (by omega), fun z => absurd z (by omega), fun z => absurd z (by omega), fun z => absurd z (by omega), fun z => absurd z (by omega), fun z => absurd z (by omega), fun z => absurd z (by omega), fun z => absurd z (by omega), fun z => absurd z (by omega), fun z => absurd z (by omega)⟩), ⟨⟨⟨by (try simp only [pk_sum]); omega, by (try simp only [pk_sum]); omega⟩, (fun p q => absurd q (by simp [pp]))⟩, ⟨by (try simp only [pk_sum, List.length_cons]); (try dsimp only); omega, (by intro y z e; cases e; dsimp only; omega)⟩, (show pt_ok ((mo_L (mo_L (mo_L (mo_tk (mo_tk (mo_tk (mo_E (mo_L (mo_L (ja_up (h) 0 18 ((h 0 18) + 1)) 15 0 0 0) 30 0 0 0) 25 0 0)))) 17 ((h 0 7) + 1) 0 0) 37 59 0 0) 1 0 0 0) 74) (mo_x ht (h 0 113) (0)) (mo_x st (h 0 113) (1)) (mo_x rg (h 0 113) (r + 8 * tu)) ((h 0 113) + 1) (h 0 88) ((h 0 77)) r (pi_wn h r) (17, ((h 0 7) + 1), 0) ((30, 0, 0) :: (15, 0, 0) :: s) (0 - 0 + 1) ((h 0 109)) (1) (tu) from by unfold pt_ok; (try dsimp only); (try simp only [pk_sum]); exact ⟨⟨by omega, by omega, by omega, by omega⟩, by omega, by omega, ⟨by first | omega | simp, by omega, by omega⟩, fun z => absurd z (by omega), fun z => absurd z (by omega), fun z => absurd z (by omega), fun z => absurd z (by omega), fun z => absurd z (by omega), fun z => absurd z (by omega), fun z => absurd z (by omega), fun z => absurd z (by omega), fun z => absurd z (by omega), fun z => absurd z (by omega), fun z => absurd z (by omega), fun z => absurd z (by omega), fun z => absurd z (by omega), fun z => absurd z (by omega), fun _ => ⟨by first | trivial | omega, by first | trivial | omega, ((pt_let_cons (show (30 : Int) ≠ 17 by decide)).mpr ((pt_let_cons (show (15 : Int) ≠ 17 by decide)).mpr xo14.2.2))⟩, fun _ => by first | omega | trivial | (simp only [true_and, and_true]; omega), fun z => absurd z (by omega), fun z => absurd z (by omega), fun z => absurd z (by omega), fun z => absurd z (by omega), fun z => absurd z (by omega), fun z => absurd z (by omega), fun z => absurd z (by omega), fun z => absurd z (by omega), fun z => absurd z (by omega), fun z => absurd z (by omega), fun z => absurd z (by omega), fun z => absurd z (by omega)⟩), ⟨⟨⟨by (try simp only [pk_sum]); omega, by (try simp only [pk_sum]); omega⟩, (fun p q => absurd q (by simp [pp]))⟩, ⟨by (try simp only [pk_sum, List.length_cons]); (try dsimp only); omega, (by intro y z e; cases e; dsimp only; omega)⟩, (show pt_ok ((mo_L (mo_L (mo_L (mo_tk (mo_tk (mo_tk (mo_E (mo_L (mo_L (ja_up (h) 0 18 ((h 0 18) + 1)) 15 0 0 0) 30 0 0 0) 25 0 0)))) 17 ((h 0 7) + 1) 0 0) 37 59 0 0) 1 0 0 0) 74) (mo_x ht (h 0 113) (0)) (mo_x st (h 0 113) (1)) (mo_x rg (h 0 113) (r + 8 * tu)) ((h 0 113) + 1) (h 0 88) ((h 0 77)) r (pi_wn h r) (30, 0, 0) ((15, 0, 0) :: s) (0) ((h 0 109)) (0) (tu) from by unfold pt_ok; (try dsimp only); (try simp only [pk_sum]); exact ⟨⟨by omega, by omega, by omega, by omega⟩, by omega, by omega, ⟨by first | omega | simp, by omega, by omega⟩, fun z => absurd z (by omega), fun z => absurd z (by omega), fun z => absurd z (by omega), fun z => absurd z (by omega), fun z => absurd z (by omega), fun z => absurd z (by omega), fun z => absurd z (by omega), fun z => absurd z (by omega), fun z => absurd z (by omega), fun z => absurd z (by omega), fun z => absurd z (by omega), fun z => absurd z (by omega), fun _ => ⟨by first | trivial | omega, by first | trivial | omega, ((pt_let_cons (show (15 : Int) ≠ 17 by decide)).mpr xo14.2.2)⟩, fun z => absurd z (by omega), fun z => absurd z (by omega), fun z => absurd z (by omega), fun z => absurd z (by omega), fun z => absurd z (by omega), fun z => absurd z (by omega), fun z => absurd z (by omega), fun z => absurd z (by omega), fun z => absurd z (by omega), fun z => absurd z (by omega), fun z => absurd z (by omega), fun z => absurd z (by omega), fun z => absurd z (by omega), fun z => absurd z (by omega), fun z => absurd z (by omega)⟩), ⟨⟨⟨by (try simp only [pk_sum]); omega, by (try simp only [pk_sum]); omega⟩, (fun p q => absurd q (by simp [pp]))⟩, ⟨by (try simp only [pk_sum, List.length_cons]); (try dsimp only); omega, (by intro y z e; have q := p2' y z e; dsimp only at q ⊢; omega)⟩, (show pt_ok ((mo_L (mo_L (mo_L (mo_tk (mo_tk (mo_tk (mo_E (mo_L (mo_L (ja_up (h) 0 18 ((h 0 18) + 1)) 15 0 0 0) 30 0 0 0) 25 0 0)))) 17 ((h 0 7) + 1) 0 0) 37 59 0 0) 1 0 0 0) 74) (mo_x ht (h 0 113) (0)) (mo_x st (h 0 113) (1)) (mo_x rg (h 0 113) (r + 8 * tu)) ((h 0 113) + 1) (h 0 88) ((h 0 77)) r (pi_wn h r) (15, 0, 0) (s) (0) ((h 0 109)) (0) (tu) from by unfold pt_ok; (try dsimp only); (try simp only [pk_sum]); exact ⟨⟨by omega, by omega, by omega, by omega⟩, by omega, by omega, ⟨by first | omega | simp, by omega, by omega⟩, fun z => absurd z (by omega), fun z => absurd z (by omega), fun z => absurd z (by omega), fun z => absurd z (by omega), fun z => absurd z (by omega), fun z => absurd z (by omega), fun z => absurd z (by omega), fun z => absurd z (by omega), fun z => absurd z (by omega), fun z => absurd z (by omega), fun z => absurd z (by omega), fun z => absurd z (by omega), fun _ => ⟨by first | trivial | omega, by first | trivial | omega, xo14.2.2⟩, fun z => absurd z (by omega), fun z => absurd z (by omega), fun z => absurd z (by omega), fun z => absurd z (by omega), fun z => absurd z (by omega), fun z => absurd z (by omega), fun z => absurd z (by omega), fun z => absurd z (by omega), fun z => absurd z (by omega), fun z => absurd z (by omega), fun z => absurd z (by omega), fun z => absurd z (by omega), fun z => absurd z (by omega), fun z => absurd z (by omega), fun z => absurd z (by omega)⟩), (pt_eq (show _ = 0 by omega) (show _ = (h 0 109) by omega) (show _ = 0 by omega) (pt_ext (show (h 0 113) ≤ (h 0 113) + 1 by omega) (Int.le_refl _) (show (h 0 77) ≤ (h 0 77) by omega) (fun _ q => q) hext p4))⟩⟩⟩⟩⟩
  · show 40 * (900 - ((h 0 7) + 1 + 1 + 1)) + pk_sum pk_m ((1, 0, 0) :: (37, 59, 0) :: (17, ((h 0 7) + 1), 0) :: (30, 0, 0) :: (15, 0, 0) :: s) + 13 < 40 * (900 - (h 0 7)) + pk_sum pk_m ((15, a, b) :: s) + 13; (try simp only [pk_sum]); omega

theorem ab_st_if {h : ja_H} {R r ph q0 : Int} {tf : mo_TF} {s : List mo_A} {ht st rg : Nat → Int} {tu a b : Int} (g : mo_G Zz h) (hS : pk_S h (h 0 17).toNat s) (hB : piB h R r ph tf q0 ((15, a, b) :: s) ht st rg tu)  : pi_done h (mo_L (mo_L (mo_tk (mo_E (mo_L (mo_L (ja_up (h) 0 18 ((h 0 18) + 1)) 15 0 0 0) 30 0 0 0) 25 0 0)) 20 0 0 0) 1 0 0 0) R r ph tf q0 (pi_mu h ((15, a, b) :: s)) := by
  have hN := piB_num g hS hB
  obtain ⟨N1, N2, N3, N4, N5, N6, N7, N8, N9, N10, N11, N12, N13, ⟨NK1, NK2⟩, ND1, ND2, ND3, NU1, NU2⟩ := hN
  obtain ⟨⟨n1, n2, n3, n4, n5, n6, n7, n8, n9⟩, ⟨b1, b2, b3, b4⟩, reg, hpt, ⟨hC, hU⟩, hNo, hP, hT, top⟩ := id hB
  obtain ⟨⟨⟨p1, p1'⟩, p1u⟩, ⟨p2, p2'⟩, p3, p4⟩ := hpt
  have w0 := (gF_wTop g).1
  simp only [pk_sum] at n1 n2 n3 n6 n7
  dsimp only at p2 p2' N6
  have ec1 : pk_c 1 = 0 := rfl
  have ev1 : pk_v 1 = (-4) := rfl
  have ed1 : pk_d 1 = 0 := rfl
  have eq1 : pk_q 1 = 0 := rfl
  have ef1 : pk_f 1 = 0 := rfl
  have em1 : pk_m 1 = (-10) := rfl
  have eoff1 : pk_off 1 = 7 := rfl
  have ek1 : pk_k r 1 = 0 := rfl
  have ec15 : pk_c 15 = 0 := rfl
  have ev15 : pk_v 15 = 0 := rfl
  have ed15 : pk_d 15 = 0 := rfl
  have eq15 : pk_q 15 = 0 := rfl
  have ef15 : pk_f 15 = 0 := rfl
  have em15 : pk_m 15 = 1 := rfl
  have eoff15 : pk_off 15 = 5 := rfl
  have ek15 : pk_k r 15 = 0 := rfl
  have ec20 : pk_c 20 = 0 := rfl
  have ev20 : pk_v 20 = 1 := rfl
  have ed20 : pk_d 20 = 0 := rfl
  have eq20 : pk_q 20 = 0 := rfl
  have ef20 : pk_f 20 = 0 := rfl
  have em20 : pk_m 20 = 3 := rfl
  have eoff20 : pk_off 20 = 1 := rfl
  have ek20 : pk_k r 20 = 0 := rfl
  have ec30 : pk_c 30 = 1 := rfl
  have ev30 : pk_v 30 = 0 := rfl
  have ed30 : pk_d 30 = 0 := rfl
  have eq30 : pk_q 30 = 0 := rfl
  have ef30 : pk_f 30 = 0 := rfl
  have em30 : pk_m 30 = 1 := rfl
  have eoff30 : pk_off 30 = 6 := rfl
  have ek30 : pk_k r 30 = pk_D r := rfl
  replace p3 : pt_ok (h 74) ht st rg (h 0 113) (h 0 88) (h 0 77) r (pi_wn h r) (15, a, b) s (ht (h 0 113).toNat - 0) (h 0 109) (st (h 0 113).toNat) tu := p3
  unfold pt_ok at p3; dsimp only at p3
  replace p4 : pt (h 74) ht st rg (h 0 113) (h 0 88) (h 0 77) r tf (pi_wn h r) s (0) ((h 0 109)) (st (h 0 113).toNat) (tu) := p4
  obtain ⟨-, xc, xt, ⟨xe, xu1, xu2⟩, -, -, -, -, -, -, -, -, -, -, -, -, xo14, -, -, -, -, -, -, -, -, -, -, -, -, -, -, -⟩ := p3
  replace xo14 := xo14 (by omega)
  have xq1o14 := xo14.1
  have xq2o14 := xo14.2.1
  have hr := reg_of hB (by dsimp only; omega) (by dsimp only; omega)
  have hbo := gF_body g
  have w0 := (gF_wTop g).1
  have W0 : 0 ≤ (h 0 113) := (gF_words g).1
  have hr4 : 0 ≤ r ∧ r ≤ 3 ∧ (r = 4 → tu = 0) := by
    rcases reg with ⟨q1, q2, -⟩ | ⟨q1, q2, q3, -⟩
    · omega
    · have := q3 _ List.mem_cons_self; dsimp only at this; omega
  have ho : (mo_L (mo_L (mo_tk (mo_E (mo_L (mo_L (ja_up (h) 0 18 ((h 0 18) + 1)) 15 0 0 0) 30 0 0 0) 25 0 0)) 20 0 0 0) 1 0 0 0) 74 (h 0 113).toNat = 25 := by simp [mo_L, mo_E, mo_tk, ja_up]
  have hA : (mo_L (mo_L (mo_tk (mo_E (mo_L (mo_L (ja_up (h) 0 18 ((h 0 18) + 1)) 15 0 0 0) 30 0 0 0) 25 0 0)) 20 0 0 0) 1 0 0 0) 75 (h 0 113).toNat = 0 := by simp [mo_L, mo_E, mo_tk, ja_up]
  have hBB : (mo_L (mo_L (mo_tk (mo_E (mo_L (mo_L (ja_up (h) 0 18 ((h 0 18) + 1)) 15 0 0 0) 30 0 0 0) 25 0 0)) 20 0 0 0) 1 0 0 0) 76 (h 0 113).toNat = 0 := by simp [mo_L, mo_E, mo_tk, ja_up]
  have hold : ∀ w : Nat, (w : Int) < (h 0 113) → (mo_L (mo_L (mo_tk (mo_E (mo_L (mo_L (ja_up (h) 0 18 ((h 0 18) + 1)) 15 0 0 0) 30 0 0 0) 25 0 0)) 20 0 0 0) 1 0 0 0) 74 w = (h 74) w ∧ (mo_L (mo_L (mo_tk (mo_E (mo_L (mo_L (ja_up (h) 0 18 ((h 0 18) + 1)) 15 0 0 0) 30 0 0 0) 25 0 0)) 20 0 0 0) 1 0 0 0) 75 w = (h 75) w ∧ (mo_L (mo_L (mo_tk (mo_E (mo_L (mo_L (ja_up (h) 0 18 ((h 0 18) + 1)) 15 0 0 0) 30 0 0 0) 25 0 0)) 20 0 0 0) 1 0 0 0) 76 w = (h 76) w := by
    intro w hw; refine ⟨?_, ?_, ?_⟩ <;> simp [mo_L, mo_E, mo_tk, ja_up] <;> (intros; omega)
  have hext : ∀ j : Nat, (j : Int) ≤ (h 0 113) → ((j : Int) < (h 0 113) → (mo_L (mo_L (mo_tk (mo_E (mo_L (mo_L (ja_up (h) 0 18 ((h 0 18) + 1)) 15 0 0 0) 30 0 0 0) 25 0 0)) 20 0 0 0) 1 0 0 0) 74 j = (h 74) j) ∧ mo_x ht (h 0 113) (0) j = ht j ∧ mo_x st (h 0 113) (1) j = st j ∧ mo_x rg (h 0 113) (r + 8 * tu) j = rg j := fun j hj => ⟨fun q => (hold j q).1, mo_xo W0 (by omega), mo_xo W0 (by omega), mo_xo W0 (by omega)⟩
  refine fin1 (c1 := 0) (e1 := 1) (tu1 := tu) (Or.inl rfl) g hB (by dsimp only; omega) (pk_S_L (show 0 ≤ (h 0 17) + 1 + 1 + 1 by omega) (pk_S_L (show 0 ≤ (h 0 17) + 1 + 1 by omega) (pk_S_ag (ag_up rfl ag_refl) (pk_S_E (pk_S_L (show 0 ≤ (h 0 17) + 1 by omega) (pk_S_L (show 0 ≤ (h 0 17) by omega) (pk_S_ag (ag_up rfl ag_refl) hS))))))) (by (try unfold mo_L); (try unfold mo_E); (try unfold mo_tk); (repeat (refine ag_up rfl ?_)); exact ag_refl) rfl hold (by rw [ho]; decide) (idle_of (show (15 : Int) ≠ 4 ∧ (15 : Int) ≠ 21 ∧ (15 : Int) ≠ 22 ∧ (15 : Int) ≠ 28 ∧ (15 : Int) ≠ 24 by decide)) (fun _ q => List.mem_cons_of_mem _ (List.mem_cons_of_mem _ (List.mem_cons_of_mem _ (List.mem_cons_of_mem _ (q))))) (fun p q => by simp only [pp_cons] at q ⊢; rcases q with q | q | q | q | q <;> first | (exact Or.inr q) | (exfalso; simp [pp] at q)) ?_ ?_ ?_ ?_ ?_ ?_ ⟨?_, ?_, ?_⟩ (by simp only [pi_if, List.mem_cons, exists_eq_or_imp]; simp) ⟨(fun q y hy => by (try simp only [List.mem_cons] at hy); (rcases hy with rfl | rfl | rfl | rfl | hy) <;> first | (exact q _ (List.mem_cons_of_mem _ hy)) | (have := q _ List.mem_cons_self; dsimp only at this ⊢; omega)), (fun q y hy => by (try simp only [List.mem_cons] at hy); (rcases hy with rfl | rfl | rfl | rfl | hy) <;> first | (exact q _ (List.mem_cons_of_mem _ hy)) | (have := q _ List.mem_cons_self; dsimp only at this ⊢; omega))⟩ ?_ ?_ ⟨fun e => absurd e (by dsimp only; omega), fun e => absurd e (by dsimp only; omega), fun _ y z e => by cases e; intro q; exact absurd q (by dsimp only; omega), fun e => absurd e (by dsimp only; omega)⟩ ?_ (by (try unfold mo_L); (try unfold mo_E); (try unfold mo_tk); (repeat (refine ag_up rfl ?_)); exact ag_refl)
  · show (h 0 18) + 1 = _; (try simp only [pk_sum]); omega
  · show (h 0 113) + 1 + _ < 5 * ((h 0 7) + 1); (try simp only [pk_sum]); omega
  · show (h 0 95) + _ < (h 0 7) + 1; (try simp only [pk_sum]); omega
  · show (h 0 7) ≤ (h 0 7) + 1; omega
  · show (h 0 84) = _; (try simp only [pk_sum]); omega
  · show (h 0 87) = _; (try simp only [pk_sum]); omega
  · show ph = 1 ∨ (h 0 79) ≤ (h 0 77); omega
  · show ph = 1 ∨ (h 0 77) ≤ 10; omega
  · intro q; show ph = 1 ∨ (h 0 77) ≤ 9; refine b4 (fun z => q ?_); intro y hy; simp only [List.mem_cons] at hy; rcases hy with rfl | rfl | rfl | rfl | hy
    · show (1 : Int) ≠ 17; decide
    · show (20 : Int) ≠ 17; decide
    · show (30 : Int) ≠ 17; decide
    · show (15 : Int) ≠ 17; decide
    · exact z y (List.mem_cons_of_mem _ hy)
  · unfold pw; rw [ho, hA, hBB, mo_xw, mo_xw, mo_xw, mo_xn', mo_xn', mo_xn']; exact ⟨⟨by decide, by decide⟩, ⟨by omega, by omega⟩, ⟨by omega, by omega, by omega⟩, by omega, (show (0 : Int) ≤ ht (h 0 113).toNat by omega), fun z => absurd z (by decide), fun _ => ⟨(show (0 : Int) = ht (h 0 113).toNat + 0 by omega), (show r + 8 * tu = rg (h 0 113).toNat + 8 * 0 by omega), Or.inr rfl, fun z => absurd rfl z⟩, fun z => absurd z (by decide), fun _ => (show ht (h 0 113).toNat = 0 by omega), fun z => absurd z (by unfold pw_jmp; decide), fun z => absurd z (by decide), fun z => absurd z (by decide), fun z => absurd z (by decide), fun z => absurd z (by decide), fun z => absurd z (by decide), fun z => ⟨⟨by omega, by omega, fun z => absurd z (by decide)⟩, by first | decide | (exfalso; omega)⟩⟩
  · exact ⟨⟨⟨by (try simp only [pk_sum]); omega, by (try simp only [pk_sum]); omega⟩, (fun p q => absurd q (by simp [pp]))⟩, ⟨by (try simp only [pk_sum, List.length_cons]); (try dsimp only); omega, (by intro y z e; cases e; dsimp only; omega)⟩, (show pt_ok ((mo_L (mo_L (mo_tk (mo_E (mo_L (mo_L (ja_up (h) 0 18 ((h 0 18) + 1)) 15 0 0 0) 30 0 0 0) 25 0 0)) 20 0 0 0) 1 0 0 0) 74) (mo_x ht (h 0 113) (0)) (mo_x st (h 0 113) (1)) (mo_x rg (h 0 113) (r + 8 * tu)) ((h 0 113) + 1) (h 0 88) ((h 0 77)) r (pi_wn h r) (1, 0, 0) ((20, 0, 0) :: (30, 0, 0) :: (15, 0, 0) :: s) (0 - 0) ((h 0 109)) (1) (tu) from by unfold pt_ok; (try dsimp only); (try simp only [pk_sum]); exact ⟨⟨by omega, by omega, by omega, by omega⟩, by omega, by omega, ⟨by first | omega | simp, by omega, by omega⟩, fun _ => by first | omega | trivial | (simp only [true_and, and_true]; omega), fun z => absurd z (by omega), fun z => absurd z (by omega), fun z => absurd z (by omega), fun z => absurd z (by omega), fun z => absurd z (by omega), fun z => absurd z (by omega), fun z => absurd z (by omega), fun z => absurd z (by omega), fun z => absurd z (by omega), fun z => absurd z (by omega), fun z => absurd z (by omega), fun z => absurd z (by omega), fun z => absurd z (by omega), fun z => absurd z (by omega), fun z => absurd z (by omega), fun z => absurd z (by omega), fun z => absurd z (by omega), fun z => absurd z (by omega), fun z => absurd z (by omega), fun z => absurd z (by omega), fun z => absurd z (by omega), fun z => absurd z (by omega), fun z => absurd z (by omega), fun z => absurd z (by omega), fun z => absurd z (by omega), fun z => absurd z (by omega), fun z => absurd z (by omega)⟩), ⟨⟨⟨by (try simp only [pk_sum]); omega, by (try simp only [pk_sum]); omega⟩, (fun p q => absurd q (by simp [pp]))⟩, ⟨by (try simp only [pk_sum, List.length_cons]); (try dsimp only); omega, (by intro y z e; cases e; dsimp only; omega)⟩, (show pt_ok ((mo_L (mo_L (mo_tk (mo_E (mo_L (mo_L (ja_up (h) 0 18 ((h 0 18) + 1)) 15 0 0 0) 30 0 0 0) 25 0 0)) 20 0 0 0) 1 0 0 0) 74) (mo_x ht (h 0 113) (0)) (mo_x st (h 0 113) (1)) (mo_x rg (h 0 113) (r + 8 * tu)) ((h 0 113) + 1) (h 0 88) ((h 0 77)) r (pi_wn h r) (20, 0, 0) ((30, 0, 0) :: (15, 0, 0) :: s) (0 - 0 + 1) ((h 0 109)) (1) (tu) from by unfold pt_ok; (try dsimp only); (try simp only [pk_sum]); exact ⟨⟨by omega, by omega, by omega, by omega⟩, by omega, by omega, ⟨by first | omega | simp, by omega, by omega⟩, fun z => absurd z (by omega), fun z => absurd z (by omega), fun z => absurd z (by omega), fun z => absurd z (by omega), fun z => absurd z (by omega), fun z => absurd z (by omega), fun z => absurd z (by omega), fun z => absurd z (by omega), fun z => absurd z (by omega), fun z => absurd z (by omega), fun z => absurd z (by omega), fun z => absurd z (by omega), fun z => absurd z (by omega), fun z => absurd z (by omega), fun _ => ⟨by first | trivial | omega, by first | trivial | omega, ((pt_let_cons (show (30 : Int) ≠ 17 by decide)).mpr ((pt_let_cons (show (15 : Int) ≠ 17 by decide)).mpr xo14.2.2))⟩, fun z => absurd z (by omega), fun z => absurd z (by omega), fun z => absurd z (by omega), fun z => absurd z (by omega), fun z => absurd z (by omega), fun z => absurd z (by omega), fun z => absurd z (by omega), fun z => absurd z (by omega), fun z => absurd z (by omega), fun z => absurd z (by omega), fun z => absurd z (by omega), fun z => absurd z (by omega), fun z => absurd z (by omega)⟩), ⟨⟨⟨by (try simp only [pk_sum]); omega, by (try simp only [pk_sum]); omega⟩, (fun p q => absurd q (by simp [pp]))⟩, ⟨by (try simp only [pk_sum, List.length_cons]); (try dsimp only); omega, (by intro y z e; cases e; dsimp only; omega)⟩, (show pt_ok ((mo_L (mo_L (mo_tk (mo_E (mo_L (mo_L (ja_up (h) 0 18 ((h 0 18) + 1)) 15 0 0 0) 30 0 0 0) 25 0 0)) 20 0 0 0) 1 0 0 0) 74) (mo_x ht (h 0 113) (0)) (mo_x st (h 0 113) (1)) (mo_x rg (h 0 113) (r + 8 * tu)) ((h 0 113) + 1) (h 0 88) ((h 0 77)) r (pi_wn h r) (30, 0, 0) ((15, 0, 0) :: s) (0) ((h 0 109)) (0) (tu) from by unfold pt_ok; (try dsimp only); (try simp only [pk_sum]); exact ⟨⟨by omega, by omega, by omega, by omega⟩, by omega, by omega, ⟨by first | omega | simp, by omega, by omega⟩, fun z => absurd z (by omega), fun z => absurd z (by omega), fun z => absurd z (by omega), fun z => absurd z (by omega), fun z => absurd z (by omega), fun z => absurd z (by omega), fun z => absurd z (by omega), fun z => absurd z (by omega), fun z => absurd z (by omega), fun z => absurd z (by omega), fun z => absurd z (by omega), fun z => absurd z (by omega), fun _ => ⟨by first | trivial | omega, by first | trivial | omega, ((pt_let_cons (show (15 : Int) ≠ 17 by decide)).mpr xo14.2.2)⟩, fun z => absurd z (by omega), fun z => absurd z (by omega), fun z => absurd z (by omega), fun z => absurd z (by omega), fun z => absurd z (by omega), fun z => absurd z (by omega), fun z => absurd z (by omega), fun z => absurd z (by omega), fun z => absurd z (by omega), fun z => absurd z (by omega), fun z => absurd z (by omega), fun z => absurd z (by omega), fun z => absurd z (by omega), fun z => absurd z (by omega), fun z => absurd z (by omega)⟩), ⟨⟨⟨by (try simp only [pk_sum]); omega, by (try simp only [pk_sum]); omega⟩, (fun p q => absurd q (by simp [pp]))⟩, ⟨by (try simp only [pk_sum, List.length_cons]); (try dsimp only); omega, (by intro y z e; have q := p2' y z e; dsimp only at q ⊢; omega)⟩, (show pt_ok ((mo_L (mo_L (mo_tk (mo_E (mo_L (mo_L (ja_up (h) 0 18 ((h 0 18) + 1)) 15 0 0 0) 30 0 0 0) 25 0 0)) 20 0 0 0) 1 0 0 0) 74) (mo_x ht (h 0 113) (0)) (mo_x st (h 0 113) (1)) (mo_x rg (h 0 113) (r + 8 * tu)) ((h 0 113) + 1) (h 0 88) ((h 0 77)) r (pi_wn h r) (15, 0, 0) (s) (0) ((h 0 109)) (0) (tu) from by unfold pt_ok; (try dsimp only); (try simp only [pk_sum]); exact ⟨⟨by omega, by omega, by omega, by omega⟩, by omega, by omega, ⟨by first | omega | simp, by omega, by omega⟩, fun z => absurd z (by omega), fun z => absurd z (by omega), fun z => absurd z (by omega), fun z => absurd z (by omega), fun z => absurd z (by omega), fun z => absurd z (by omega), fun z => absurd z (by omega), fun z => absurd z (by omega), fun z => absurd z (by omega), fun z => absurd z (by omega), fun z => absurd z (by omega), fun z => absurd z (by omega), fun _ => ⟨by first | trivial | omega, by first | trivial | omega, xo14.2.2⟩, fun z => absurd z (by omega), fun z => absurd z (by omega), fun z => absurd z (by omega), fun z => absurd z (by omega), fun z => absurd z (by omega), fun z => absurd z (by omega), fun z => absurd z (by omega), fun z => absurd z (by omega), fun z => absurd z (by omega), fun z => absurd z (by omega), fun z => absurd z (by omega), fun z => absurd z (by omega), fun z => absurd z (by omega), fun z => absurd z (by omega), fun z => absurd z (by omega)⟩), (pt_eq (show _ = 0 by omega) (show _ = (h 0 109) by omega) (show _ = 0 by omega) (pt_ext (show (h 0 113) ≤ (h 0 113) + 1 by omega) (Int.le_refl _) (show (h 0 77) ≤ (h 0 77) by omega) (fun _ q => q) hext p4))⟩⟩⟩⟩
  · show 40 * (900 - ((h 0 7) + 1)) + pk_sum pk_m ((1, 0, 0) :: (20, 0, 0) :: (30, 0, 0) :: (15, 0, 0) :: s) + 13 < 40 * (900 - (h 0 7)) + pk_sum pk_m ((15, a, b) :: s) + 13; (try simp only [pk_sum]); omega

theorem ab_st_while {h : ja_H} {R r ph q0 : Int} {tf : mo_TF} {s : List mo_A} {ht st rg : Nat → Int} {tu a b : Int} (g : mo_G Zz h) (hS : pk_S h (h 0 17).toNat s) (hB : piB h R r ph tf q0 ((15, a, b) :: s) ht st rg tu)  : pi_done h (mo_L (mo_L (mo_tk (mo_E (mo_L (mo_L (ja_up (h) 0 18 ((h 0 18) + 1)) 15 0 0 0) 30 0 0 0) 25 0 0)) 23 (h 0 113) 0 0) 1 0 0 0) R r ph tf q0 (pi_mu h ((15, a, b) :: s)) := by
  have hN := piB_num g hS hB
  obtain ⟨N1, N2, N3, N4, N5, N6, N7, N8, N9, N10, N11, N12, N13, ⟨NK1, NK2⟩, ND1, ND2, ND3, NU1, NU2⟩ := hN
  obtain ⟨⟨n1, n2, n3, n4, n5, n6, n7, n8, n9⟩, ⟨b1, b2, b3, b4⟩, reg, hpt, ⟨hC, hU⟩, hNo, hP, hT, top⟩ := id hB
  obtain ⟨⟨⟨p1, p1'⟩, p1u⟩, ⟨p2, p2'⟩, p3, p4⟩ := hpt
  have w0 := (gF_wTop g).1
  simp only [pk_sum] at n1 n2 n3 n6 n7
  dsimp only at p2 p2' N6
  have ec1 : pk_c 1 = 0 := rfl
  have ev1 : pk_v 1 = (-4) := rfl
  have ed1 : pk_d 1 = 0 := rfl
  have eq1 : pk_q 1 = 0 := rfl
  have ef1 : pk_f 1 = 0 := rfl
  have em1 : pk_m 1 = (-10) := rfl
  have eoff1 : pk_off 1 = 7 := rfl
  have ek1 : pk_k r 1 = 0 := rfl
  have ec15 : pk_c 15 = 0 := rfl
  have ev15 : pk_v 15 = 0 := rfl
  have ed15 : pk_d 15 = 0 := rfl
  have eq15 : pk_q 15 = 0 := rfl
  have ef15 : pk_f 15 = 0 := rfl
  have em15 : pk_m 15 = 1 := rfl
  have eoff15 : pk_off 15 = 5 := rfl
  have ek15 : pk_k r 15 = 0 := rfl
  have ec23 : pk_c 23 = 0 := rfl
  have ev23 : pk_v 23 = 2 := rfl
  have ed23 : pk_d 23 = 0 := rfl
  have eq23 : pk_q 23 = 0 := rfl
  have ef23 : pk_f 23 = 0 := rfl
  have em23 : pk_m 23 = 3 := rfl
  have eoff23 : pk_off 23 = 1 := rfl
  have ek23 : pk_k r 23 = 0 := rfl
  have ec30 : pk_c 30 = 1 := rfl
  have ev30 : pk_v 30 = 0 := rfl
  have ed30 : pk_d 30 = 0 := rfl
  have eq30 : pk_q 30 = 0 := rfl
  have ef30 : pk_f 30 = 0 := rfl
  have em30 : pk_m 30 = 1 := rfl
  have eoff30 : pk_off 30 = 6 := rfl
  have ek30 : pk_k r 30 = pk_D r := rfl
  replace p3 : pt_ok (h 74) ht st rg (h 0 113) (h 0 88) (h 0 77) r (pi_wn h r) (15, a, b) s (ht (h 0 113).toNat - 0) (h 0 109) (st (h 0 113).toNat) tu := p3
  unfold pt_ok at p3; dsimp only at p3
  replace p4 : pt (h 74) ht st rg (h 0 113) (h 0 88) (h 0 77) r tf (pi_wn h r) s (0) ((h 0 109)) (st (h 0 113).toNat) (tu) := p4
  obtain ⟨-, xc, xt, ⟨xe, xu1, xu2⟩, -, -, -, -, -, -, -, -, -, -, -, -, xo14, -, -, -, -, -, -, -, -, -, -, -, -, -, -, -⟩ := p3
  replace xo14 := xo14 (by omega)
  have xq1o14 := xo14.1
  have xq2o14 := xo14.2.1
  have hr := reg_of hB (by dsimp only; omega) (by dsimp only; omega)
  have hbo := gF_body g
  have w0 := (gF_wTop g).1
  have W0 : 0 ≤ (h 0 113) := (gF_words g).1
  have hr4 : 0 ≤ r ∧ r ≤ 3 ∧ (r = 4 → tu = 0) := by
    rcases reg with ⟨q1, q2, -⟩ | ⟨q1, q2, q3, -⟩
    · omega
    · have := q3 _ List.mem_cons_self; dsimp only at this; omega
  have ho : (mo_L (mo_L (mo_tk (mo_E (mo_L (mo_L (ja_up (h) 0 18 ((h 0 18) + 1)) 15 0 0 0) 30 0 0 0) 25 0 0)) 23 (h 0 113) 0 0) 1 0 0 0) 74 (h 0 113).toNat = 25 := by simp [mo_L, mo_E, mo_tk, ja_up]
  have hA : (mo_L (mo_L (mo_tk (mo_E (mo_L (mo_L (ja_up (h) 0 18 ((h 0 18) + 1)) 15 0 0 0) 30 0 0 0) 25 0 0)) 23 (h 0 113) 0 0) 1 0 0 0) 75 (h 0 113).toNat = 0 := by simp [mo_L, mo_E, mo_tk, ja_up]
  have hBB : (mo_L (mo_L (mo_tk (mo_E (mo_L (mo_L (ja_up (h) 0 18 ((h 0 18) + 1)) 15 0 0 0) 30 0 0 0) 25 0 0)) 23 (h 0 113) 0 0) 1 0 0 0) 76 (h 0 113).toNat = 0 := by simp [mo_L, mo_E, mo_tk, ja_up]
  have hold : ∀ w : Nat, (w : Int) < (h 0 113) → (mo_L (mo_L (mo_tk (mo_E (mo_L (mo_L (ja_up (h) 0 18 ((h 0 18) + 1)) 15 0 0 0) 30 0 0 0) 25 0 0)) 23 (h 0 113) 0 0) 1 0 0 0) 74 w = (h 74) w ∧ (mo_L (mo_L (mo_tk (mo_E (mo_L (mo_L (ja_up (h) 0 18 ((h 0 18) + 1)) 15 0 0 0) 30 0 0 0) 25 0 0)) 23 (h 0 113) 0 0) 1 0 0 0) 75 w = (h 75) w ∧ (mo_L (mo_L (mo_tk (mo_E (mo_L (mo_L (ja_up (h) 0 18 ((h 0 18) + 1)) 15 0 0 0) 30 0 0 0) 25 0 0)) 23 (h 0 113) 0 0) 1 0 0 0) 76 w = (h 76) w := by
    intro w hw; refine ⟨?_, ?_, ?_⟩ <;> simp [mo_L, mo_E, mo_tk, ja_up] <;> (intros; omega)
  have hext : ∀ j : Nat, (j : Int) ≤ (h 0 113) → ((j : Int) < (h 0 113) → (mo_L (mo_L (mo_tk (mo_E (mo_L (mo_L (ja_up (h) 0 18 ((h 0 18) + 1)) 15 0 0 0) 30 0 0 0) 25 0 0)) 23 (h 0 113) 0 0) 1 0 0 0) 74 j = (h 74) j) ∧ mo_x ht (h 0 113) (0) j = ht j ∧ mo_x st (h 0 113) (1) j = st j ∧ mo_x rg (h 0 113) (r + 8 * tu) j = rg j := fun j hj => ⟨fun q => (hold j q).1, mo_xo W0 (by omega), mo_xo W0 (by omega), mo_xo W0 (by omega)⟩
  refine fin1 (c1 := 0) (e1 := 1) (tu1 := tu) (Or.inl rfl) g hB (by dsimp only; omega) (pk_S_L (show 0 ≤ (h 0 17) + 1 + 1 + 1 by omega) (pk_S_L (show 0 ≤ (h 0 17) + 1 + 1 by omega) (pk_S_ag (ag_up rfl ag_refl) (pk_S_E (pk_S_L (show 0 ≤ (h 0 17) + 1 by omega) (pk_S_L (show 0 ≤ (h 0 17) by omega) (pk_S_ag (ag_up rfl ag_refl) hS))))))) (by (try unfold mo_L); (try unfold mo_E); (try unfold mo_tk); (repeat (refine ag_up rfl ?_)); exact ag_refl) rfl hold (by rw [ho]; decide) (idle_of (show (15 : Int) ≠ 4 ∧ (15 : Int) ≠ 21 ∧ (15 : Int) ≠ 22 ∧ (15 : Int) ≠ 28 ∧ (15 : Int) ≠ 24 by decide)) (fun _ q => List.mem_cons_of_mem _ (List.mem_cons_of_mem _ (List.mem_cons_of_mem _ (List.mem_cons_of_mem _ (q))))) (fun p q => by simp only [pp_cons] at q ⊢; rcases q with q | q | q | q | q <;> first | (exact Or.inr q) | (exfalso; simp [pp] at q)) ?_ ?_ ?_ ?_ ?_ ?_ ⟨?_, ?_, ?_⟩ (by simp only [pi_if, List.mem_cons, exists_eq_or_imp]; simp) ⟨(fun q y hy => by (try simp only [List.mem_cons] at hy); (rcases hy with rfl | rfl | rfl | rfl | hy) <;> first | (exact q _ (List.mem_cons_of_mem _ hy)) | (have := q _ List.mem_cons_self; dsimp only at this ⊢; omega)), (fun q y hy => by (try simp only [List.mem_cons] at hy); (rcases hy with rfl | rfl | rfl | rfl | hy) <;> first | (exact q _ (List.mem_cons_of_mem _ hy)) | (have := q _ List.mem_cons_self; dsimp only at this ⊢; omega))⟩ ?_ ?_ ⟨fun e => absurd e (by dsimp only; omega), fun e => absurd e (by dsimp only; omega), fun _ y z e => by cases e; intro q; exact absurd q (by dsimp only; omega), fun e => absurd e (by dsimp only; omega)⟩ ?_ (by (try unfold mo_L); (try unfold mo_E); (try unfold mo_tk); (repeat (refine ag_up rfl ?_)); exact ag_refl)
  · show (h 0 18) + 1 = _; (try simp only [pk_sum]); omega
  · show (h 0 113) + 1 + _ < 5 * ((h 0 7) + 1); (try simp only [pk_sum]); omega
  · show (h 0 95) + _ < (h 0 7) + 1; (try simp only [pk_sum]); omega
  · show (h 0 7) ≤ (h 0 7) + 1; omega
  · show (h 0 84) = _; (try simp only [pk_sum]); omega
  · show (h 0 87) = _; (try simp only [pk_sum]); omega
  · show ph = 1 ∨ (h 0 79) ≤ (h 0 77); omega
  · show ph = 1 ∨ (h 0 77) ≤ 10; omega
  · intro q; show ph = 1 ∨ (h 0 77) ≤ 9; refine b4 (fun z => q ?_); intro y hy; simp only [List.mem_cons] at hy; rcases hy with rfl | rfl | rfl | rfl | hy
    · show (1 : Int) ≠ 17; decide
    · show (23 : Int) ≠ 17; decide
    · show (30 : Int) ≠ 17; decide
    · show (15 : Int) ≠ 17; decide
    · exact z y (List.mem_cons_of_mem _ hy)
  · unfold pw; rw [ho, hA, hBB, mo_xw, mo_xw, mo_xw, mo_xn', mo_xn', mo_xn']; exact ⟨⟨by decide, by decide⟩, ⟨by omega, by omega⟩, ⟨by omega, by omega, by omega⟩, by omega, (show (0 : Int) ≤ ht (h 0 113).toNat by omega), fun z => absurd z (by decide), fun _ => ⟨(show (0 : Int) = ht (h 0 113).toNat + 0 by omega), (show r + 8 * tu = rg (h 0 113).toNat + 8 * 0 by omega), Or.inr rfl, fun z => absurd rfl z⟩, fun z => absurd z (by decide), fun _ => (show ht (h 0 113).toNat = 0 by omega), fun z => absurd z (by unfold pw_jmp; decide), fun z => absurd z (by decide), fun z => absurd z (by decide), fun z => absurd z (by decide), fun z => absurd z (by decide), fun z => absurd z (by decide), fun z => ⟨⟨by omega, by omega, fun z => absurd z (by decide)⟩, by first | decide | (exfalso; omega)⟩⟩
  · exact ⟨⟨⟨by (try simp only [pk_sum]); omega, by (try simp only [pk_sum]); omega⟩, (fun p q => absurd q (by simp [pp]))⟩, ⟨by (try simp only [pk_sum, List.length_cons]); (try dsimp only); omega, (by intro y z e; cases e; dsimp only; omega)⟩, (show pt_ok ((mo_L (mo_L (mo_tk (mo_E (mo_L (mo_L (ja_up (h) 0 18 ((h 0 18) + 1)) 15 0 0 0) 30 0 0 0) 25 0 0)) 23 (h 0 113) 0 0) 1 0 0 0) 74) (mo_x ht (h 0 113) (0)) (mo_x st (h 0 113) (1)) (mo_x rg (h 0 113) (r + 8 * tu)) ((h 0 113) + 1) (h 0 88) ((h 0 77)) r (pi_wn h r) (1, 0, 0) ((23, (h 0 113), 0) :: (30, 0, 0) :: (15, 0, 0) :: s) (0 - 0) ((h 0 109)) (1) (tu) from by unfold pt_ok; (try dsimp only); (try simp only [pk_sum]); exact ⟨⟨by omega, by omega, by omega, by omega⟩, by omega, by omega, ⟨by first | omega | simp, by omega, by omega⟩, fun _ => by first | omega | trivial | (simp only [true_and, and_true]; omega), fun z => absurd z (by omega), fun z => absurd z (by omega), fun z => absurd z (by omega), fun z => absurd z (by omega), fun z => absurd z (by omega), fun z => absurd z (by omega), fun z => absurd z (by omega), fun z => absurd z (by omega), fun z => absurd z (by omega), fun z => absurd z (by omega), fun z => absurd z (by omega), fun z => absurd z (by omega), fun z => absurd z (by omega), fun z => absurd z (by omega), fun z => absurd z (by omega), fun z => absurd z (by omega), fun z => absurd z (by omega), fun z => absurd z (by omega), fun z => absurd z (by omega), fun z => absurd z (by omega), fun z => absurd z (by omega), fun z => absurd z (by omega), fun z => absurd z (by omega), fun z => absurd z (by omega), fun z => absurd z (by omega), fun z => absurd z (by omega), fun z => absurd z (by omega)⟩), ⟨⟨⟨by (try simp only [pk_sum]); omega, by (try simp only [pk_sum]); omega⟩, (fun p q => absurd q (by simp [pp]))⟩, ⟨by (try simp only [pk_sum, List.length_cons]); (try dsimp only); omega, (by intro y z e; cases e; dsimp only; omega)⟩, (show pt_ok ((mo_L (mo_L (mo_tk (mo_E (mo_L (mo_L (ja_up (h) 0 18 ((h 0 18) + 1)) 15 0 0 0) 30 0 0 0) 25 0 0)) 23 (h 0 113) 0 0) 1 0 0 0) 74) (mo_x ht (h 0 113) (0)) (mo_x st (h 0 113) (1)) (mo_x rg (h 0 113) (r + 8 * tu)) ((h 0 113) + 1) (h 0 88) ((h 0 77)) r (pi_wn h r) (23, (h 0 113), 0) ((30, 0, 0) :: (15, 0, 0) :: s) (0 - 0 + 1) ((h 0 109)) (1) (tu) from by unfold pt_ok; (try dsimp only); (try simp only [pk_sum]); exact ⟨⟨by omega, by omega, by omega, by omega⟩, by omega, by omega, ⟨by first | omega | simp, by omega, by omega⟩, fun z => absurd z (by omega), fun z => absurd z (by omega), fun z => absurd z (by omega), fun z => absurd z (by omega), fun z => absurd z (by omega), fun z => absurd z (by omega), fun z => absurd z (by omega), fun z => absurd z (by omega), fun z => absurd z (by omega), fun z => absurd z (by omega), fun z => absurd z (by omega), fun z => absurd z (by omega), fun z => absurd z (by omega), fun z => absurd z (by omega), fun _ => ⟨by first | trivial | omega, by first | trivial | omega, ((pt_let_cons (show (30 : Int) ≠ 17 by decide)).mpr ((pt_let_cons (show (15 : Int) ≠ 17 by decide)).mpr xo14.2.2))⟩, fun z => absurd z (by omega), fun z => absurd z (by omega), fun z => absurd z (by omega), fun z => absurd z (by omega), fun _ => ⟨⟨W0, by omega, (mo_xw).trans (by omega), (mo_xw).trans hr.1, (mo_xw).trans (by omega)⟩, mo_xn'⟩, fun z => absurd z (by omega), fun z => absurd z (by omega), fun z => absurd z (by omega), fun z => absurd z (by omega), fun z => absurd z (by omega), fun z => absurd z (by omega), fun z => absurd z (by omega), fun z => absurd z (by omega)⟩), ⟨⟨⟨by (try simp only [pk_sum]); omega, by (try simp only [pk_sum]); omega⟩, (fun p q => absurd q (by simp [pp]))⟩, ⟨by (try simp only [pk_sum, List.length_cons]); (try dsimp only); omega, (by intro y z e; cases e; dsimp only; omega)⟩, (show pt_ok ((mo_L (mo_L (mo_tk (mo_E (mo_L (mo_L (ja_up (h) 0 18 ((h 0 18) + 1)) 15 0 0 0) 30 0 0 0) 25 0 0)) 23 (h 0 113) 0 0) 1 0 0 0) 74) (mo_x ht (h 0 113) (0)) (mo_x st (h 0 113) (1)) (mo_x rg (h 0 113) (r + 8 * tu)) ((h 0 113) + 1) (h 0 88) ((h 0 77)) r (pi_wn h r) (30, 0, 0) ((15, 0, 0) :: s) (0) ((h 0 109)) (0) (tu) from by unfold pt_ok; (try dsimp only); (try simp only [pk_sum]); exact ⟨⟨by omega, by omega, by omega, by omega⟩, by omega, by omega, ⟨by first | omega | simp, by omega, by omega⟩, fun z => absurd z (by omega), fun z => absurd z (by omega), fun z => absurd z (by omega), fun z => absurd z (by omega), fun z => absurd z (by omega), fun z => absurd z (by omega), fun z => absurd z (by omega), fun z => absurd z (by omega), fun z => absurd z (by omega), fun z => absurd z (by omega), fun z => absurd z (by omega), fun z => absurd z (by omega), fun _ => ⟨by first | trivial | omega, by first | trivial | omega, ((pt_let_cons (show (15 : Int) ≠ 17 by decide)).mpr xo14.2.2)⟩, fun z => absurd z (by omega), fun z => absurd z (by omega), fun z => absurd z (by omega), fun z => absurd z (by omega), fun z => absurd z (by omega), fun z => absurd z (by omega), fun z => absurd z (by omega), fun z => absurd z (by omega), fun z => absurd z (by omega), fun z => absurd z (by omega), fun z => absurd z (by omega), fun z => absurd z (by omega), fun z => absurd z (by omega), fun z => absurd z (by omega), fun z => absurd z (by omega)⟩), ⟨⟨⟨by (try simp only [pk_sum]); omega, by (try simp only [pk_sum]); omega⟩, (fun p q => absurd q (by simp [pp]))⟩, ⟨by (try simp only [pk_sum, List.length_cons]); (try dsimp only); omega, (by intro y z e; have q := p2' y z e; dsimp only at q ⊢; omega)⟩, (show pt_ok ((mo_L (mo_L (mo_tk (mo_E (mo_L (mo_L (ja_up (h) 0 18 ((h 0 18) + 1)) 15 0 0 0) 30 0 0 0) 25 0 0)) 23 (h 0 113) 0 0) 1 0 0 0) 74) (mo_x ht (h 0 113) (0)) (mo_x st (h 0 113) (1)) (mo_x rg (h 0 113) (r + 8 * tu)) ((h 0 113) + 1) (h 0 88) ((h 0 77)) r (pi_wn h r) (15, 0, 0) (s) (0) ((h 0 109)) (0) (tu) from by unfold pt_ok; (try dsimp only); (try simp only [pk_sum]); exact ⟨⟨by omega, by omega, by omega, by omega⟩, by omega, by omega, ⟨by first | omega | simp, by omega, by omega⟩, fun z => absurd z (by omega), fun z => absurd z (by omega), fun z => absurd z (by omega), fun z => absurd z (by omega), fun z => absurd z (by omega), fun z => absurd z (by omega), fun z => absurd z (by omega), fun z => absurd z (by omega), fun z => absurd z (by omega), fun z => absurd z (by omega), fun z => absurd z (by omega), fun z => absurd z (by omega), fun _ => ⟨by first | trivial | omega, by first | trivial | omega, xo14.2.2⟩, fun z => absurd z (by omega), fun z => absurd z (by omega), fun z => absurd z (by omega), fun z => absurd z (by omega), fun z => absurd z (by omega), fun z => absurd z (by omega), fun z => absurd z (by omega), fun z => absurd z (by omega), fun z => absurd z (by omega), fun z => absurd z (by omega), fun z => absurd z (by omega), fun z => absurd z (by omega), fun z => absurd z (by omega), fun z => absurd z (by omega), fun z => absurd z (by omega)⟩), (pt_eq (show _ = 0 by omega) (show _ = (h 0 109) by omega) (show _ = 0 by omega) (pt_ext (show (h 0 113) ≤ (h 0 113) + 1 by omega) (Int.le_refl _) (show (h 0 77) ≤ (h 0 77) by omega) (fun _ q => q) hext p4))⟩⟩⟩⟩
  · show 40 * (900 - ((h 0 7) + 1)) + pk_sum pk_m ((1, 0, 0) :: (23, (h 0 113), 0) :: (30, 0, 0) :: (15, 0, 0) :: s) + 13 < 40 * (900 - (h 0 7)) + pk_sum pk_m ((15, a, b) :: s) + 13; (try simp only [pk_sum]); omega

theorem ab_st_ret {h : ja_H} {R r ph q0 : Int} {tf : mo_TF} {s : List mo_A} {ht st rg : Nat → Int} {tu a b : Int} (g : mo_G Zz h) (hS : pk_S h (h 0 17).toNat s) (hB : piB h R r ph tf q0 ((15, a, b) :: s) ht st rg tu)  : pi_done h (mo_L (mo_L (mo_L (mo_tk (mo_E (mo_L (mo_L (ja_up (h) 0 18 ((h 0 18) + 1)) 15 0 0 0) 30 0 0 0) 25 0 0)) 25 0 0 0) 37 59 0 0) 1 0 0 0) R r ph tf q0 (pi_mu h ((15, a, b) :: s)) := by
  have hN := piB_num g hS hB
  obtain ⟨N1, N2, N3, N4, N5, N6, N7, N8, N9, N10, N11, N12, N13, ⟨NK1, NK2⟩, ND1, ND2, ND3, NU1, NU2⟩ := hN
  obtain ⟨⟨n1, n2, n3, n4, n5, n6, n7, n8, n9⟩, ⟨b1, b2, b3, b4⟩, reg, hpt, ⟨hC, hU⟩, hNo, hP, hT, top⟩ := id hB
  obtain ⟨⟨⟨p1, p1'⟩, p1u⟩, ⟨p2, p2'⟩, p3, p4⟩ := hpt
  have w0 := (gF_wTop g).1
  simp only [pk_sum] at n1 n2 n3 n6 n7
  dsimp only at p2 p2' N6
  have ec1 : pk_c 1 = 0 := rfl
  have ev1 : pk_v 1 = (-4) := rfl
  have ed1 : pk_d 1 = 0 := rfl
  have eq1 : pk_q 1 = 0 := rfl
  have ef1 : pk_f 1 = 0 := rfl
  have em1 : pk_m 1 = (-10) := rfl
  have eoff1 : pk_off 1 = 7 := rfl
  have ek1 : pk_k r 1 = 0 := rfl
  have ec15 : pk_c 15 = 0 := rfl
  have ev15 : pk_v 15 = 0 := rfl
  have ed15 : pk_d 15 = 0 := rfl
  have eq15 : pk_q 15 = 0 := rfl
  have ef15 : pk_f 15 = 0 := rfl
  have em15 : pk_m 15 = 1 := rfl
  have eoff15 : pk_off 15 = 5 := rfl
  have ek15 : pk_k r 15 = 0 := rfl
  have ec25 : pk_c 25 = 0 := rfl
  have ev25 : pk_v 25 = 1 := rfl
  have ed25 : pk_d 25 = 0 := rfl
  have eq25 : pk_q 25 = 0 := rfl
  have ef25 : pk_f 25 = 0 := rfl
  have em25 : pk_m 25 = 1 := rfl
  have eoff25 : pk_off 25 = 1 := rfl
  have ek25 : pk_k r 25 = 0 := rfl
  have ec30 : pk_c 30 = 1 := rfl
  have ev30 : pk_v 30 = 0 := rfl
  have ed30 : pk_d 30 = 0 := rfl
  have eq30 : pk_q 30 = 0 := rfl
  have ef30 : pk_f 30 = 0 := rfl
  have em30 : pk_m 30 = 1 := rfl
  have eoff30 : pk_off 30 = 6 := rfl
  have ek30 : pk_k r 30 = pk_D r := rfl
  have ec37 : pk_c 37 = 0 := rfl
  have ev37 : pk_v 37 = 0 := rfl
  have ed37 : pk_d 37 = 0 := rfl
  have eq37 : pk_q 37 = 0 := rfl
  have ef37 : pk_f 37 = 0 := rfl
  have em37 : pk_m 37 = 1 := rfl
  have eoff37 : pk_off 37 = 3 := rfl
  have ek37 : pk_k r 37 = 0 := rfl
  replace p3 : pt_ok (h 74) ht st rg (h 0 113) (h 0 88) (h 0 77) r (pi_wn h r) (15, a, b) s (ht (h 0 113).toNat - 0) (h 0 109) (st (h 0 113).toNat) tu := p3
  unfold pt_ok at p3; dsimp only at p3
  replace p4 : pt (h 74) ht st rg (h 0 113) (h 0 88) (h 0 77) r tf (pi_wn h r) s (0) ((h 0 109)) (st (h 0 113).toNat) (tu) := p4
  obtain ⟨-, xc, xt, ⟨xe, xu1, xu2⟩, -, -, -, -, -, -, -, -, -, -, -, -, xo14, -, -, -, -, -, -, -, -, -, -, -, -, -, -, -⟩ := p3
  replace xo14 := xo14 (by omega)
  have xq1o14 := xo14.1
  have xq2o14 := xo14.2.1
  have hr := reg_of hB (by dsimp only; omega) (by dsimp only; omega)
  have hbo := gF_body g
  have w0 := (gF_wTop g).1
  have W0 : 0 ≤ (h 0 113) := (gF_words g).1
  have hr4 : 0 ≤ r ∧ r ≤ 3 ∧ (r = 4 → tu = 0) := by
    rcases reg with ⟨q1, q2, -⟩ | ⟨q1, q2, q3, -⟩
    · omega
    · have := q3 _ List.mem_cons_self; dsimp only at this; omega
  have ho : (mo_L (mo_L (mo_L (mo_tk (mo_E (mo_L (mo_L (ja_up (h) 0 18 ((h 0 18) + 1)) 15 0 0 0) 30 0 0 0) 25 0 0)) 25 0 0 0) 37 59 0 0) 1 0 0 0) 74 (h 0 113).toNat = 25 := by simp [mo_L, mo_E, mo_tk, ja_up]
  have hA : (mo_L (mo_L (mo_L (mo_tk (mo_E (mo_L (mo_L (ja_up (h) 0 18 ((h 0 18) + 1)) 15 0 0 0) 30 0 0 0) 25 0 0)) 25 0 0 0) 37 59 0 0) 1 0 0 0) 75 (h 0 113).toNat = 0 := by simp [mo_L, mo_E, mo_tk, ja_up]
  have hBB : (mo_L (mo_L (mo_L (mo_tk (mo_E (mo_L (mo_L (ja_up (h) 0 18 ((h 0 18) + 1)) 15 0 0 0) 30 0 0 0) 25 0 0)) 25 0 0 0) 37 59 0 0) 1 0 0 0) 76 (h 0 113).toNat = 0 := by simp [mo_L, mo_E, mo_tk, ja_up]
  have hold : ∀ w : Nat, (w : Int) < (h 0 113) → (mo_L (mo_L (mo_L (mo_tk (mo_E (mo_L (mo_L (ja_up (h) 0 18 ((h 0 18) + 1)) 15 0 0 0) 30 0 0 0) 25 0 0)) 25 0 0 0) 37 59 0 0) 1 0 0 0) 74 w = (h 74) w ∧ (mo_L (mo_L (mo_L (mo_tk (mo_E (mo_L (mo_L (ja_up (h) 0 18 ((h 0 18) + 1)) 15 0 0 0) 30 0 0 0) 25 0 0)) 25 0 0 0) 37 59 0 0) 1 0 0 0) 75 w = (h 75) w ∧ (mo_L (mo_L (mo_L (mo_tk (mo_E (mo_L (mo_L (ja_up (h) 0 18 ((h 0 18) + 1)) 15 0 0 0) 30 0 0 0) 25 0 0)) 25 0 0 0) 37 59 0 0) 1 0 0 0) 76 w = (h 76) w := by
    intro w hw; refine ⟨?_, ?_, ?_⟩ <;> simp [mo_L, mo_E, mo_tk, ja_up] <;> (intros; omega)
  have hext : ∀ j : Nat, (j : Int) ≤ (h 0 113) → ((j : Int) < (h 0 113) → (mo_L (mo_L (mo_L (mo_tk (mo_E (mo_L (mo_L (ja_up (h) 0 18 ((h 0 18) + 1)) 15 0 0 0) 30 0 0 0) 25 0 0)) 25 0 0 0) 37 59 0 0) 1 0 0 0) 74 j = (h 74) j) ∧ mo_x ht (h 0 113) (0) j = ht j ∧ mo_x st (h 0 113) (1) j = st j ∧ mo_x rg (h 0 113) (r + 8 * tu) j = rg j := fun j hj => ⟨fun q => (hold j q).1, mo_xo W0 (by omega), mo_xo W0 (by omega), mo_xo W0 (by omega)⟩
  refine fin1 (c1 := 0) (e1 := 1) (tu1 := tu) (Or.inl rfl) g hB (by dsimp only; omega) (pk_S_L (show 0 ≤ (h 0 17) + 1 + 1 + 1 + 1 by omega) (pk_S_L (show 0 ≤ (h 0 17) + 1 + 1 + 1 by omega) (pk_S_L (show 0 ≤ (h 0 17) + 1 + 1 by omega) (pk_S_ag (ag_up rfl ag_refl) (pk_S_E (pk_S_L (show 0 ≤ (h 0 17) + 1 by omega) (pk_S_L (show 0 ≤ (h 0 17) by omega) (pk_S_ag (ag_up rfl ag_refl) hS)))))))) (by (try unfold mo_L); (try unfold mo_E); (try unfold mo_tk); (repeat (refine ag_up rfl ?_)); exact ag_refl) rfl hold (by rw [ho]; decide) (idle_of (show (15 : Int) ≠ 4 ∧ (15 : Int) ≠ 21 ∧ (15 : Int) ≠ 22 ∧ (15 : Int) ≠ 28 ∧ (15 : Int) ≠ 24 by decide)) (fun _ q => List.mem_cons_of_mem _ (List.mem_cons_of_mem _ (List.mem_cons_of_mem _ (List.mem_cons_of_mem _ (List.mem_cons_of_mem _ (q)))))) (fun p q => by simp only [pp_cons] at q ⊢; rcases q with q | q | q | q | q | q <;> first | (exact Or.inr q) | (exfalso; simp [pp] at q)) ?_ ?_ ?_ ?_ ?_ ?_ ⟨?_, ?_, ?_⟩ (by simp only [pi_if, List.mem_cons, exists_eq_or_imp]; simp) ⟨(fun q y hy => by (try simp only [List.mem_cons] at hy); (rcases hy with rfl | rfl | rfl | rfl | rfl | hy) <;> first | (exact q _ (List.mem_cons_of_mem _ hy)) | (have := q _ List.mem_cons_self; dsimp only at this ⊢; omega)), (fun q y hy => by (try simp only [List.mem_cons] at hy); (rcases hy with rfl | rfl | rfl | rfl | rfl | hy) <;> first | (exact q _ (List.mem_cons_of_mem _ hy)) | (have := q _ List.mem_cons_self; dsimp only at this ⊢; omega))⟩ ?_ ?_ ⟨fun e => absurd e (by dsimp only; omega), fun e => absurd e (by dsimp only; omega), fun _ y z e => by cases e; intro q; exact absurd q (by dsimp only; omega), fun e => absurd e (by dsimp only; omega)⟩ ?_ (by (try unfold mo_L); (try unfold mo_E); (try unfold mo_tk); (repeat (refine ag_up rfl ?_)); exact ag_refl)
  · show (h 0 18) + 1 = _; (try simp only [pk_sum]); omega
  · show (h 0 113) + 1 + _ < 5 * ((h 0 7) + 1); (try simp only [pk_sum]); omega
  · show (h 0 95) + _ < (h 0 7) + 1; (try simp only [pk_sum]); omega
  · show (h 0 7) ≤ (h 0 7) + 1; omega
  · show (h 0 84) = _; (try simp only [pk_sum]); omega
  · show (h 0 87) = _; (try simp only [pk_sum]); omega
  · show ph = 1 ∨ (h 0 79) ≤ (h 0 77); omega
  · show ph = 1 ∨ (h 0 77) ≤ 10; omega
  · intro q; show ph = 1 ∨ (h 0 77) ≤ 9; refine b4 (fun z => q ?_); intro y hy; simp only [List.mem_cons] at hy; rcases hy with rfl | rfl | rfl | rfl | rfl | hy
    · show (1 : Int) ≠ 17; decide
    · show (37 : Int) ≠ 17; decide
    · show (25 : Int) ≠ 17; decide
    · show (30 : Int) ≠ 17; decide
    · show (15 : Int) ≠ 17; decide
    · exact z y (List.mem_cons_of_mem _ hy)
  · unfold pw; rw [ho, hA, hBB, mo_xw, mo_xw, mo_xw, mo_xn', mo_xn', mo_xn']; exact ⟨⟨by decide, by decide⟩, ⟨by omega, by omega⟩, ⟨by omega, by omega, by omega⟩, by omega, (show (0 : Int) ≤ ht (h 0 113).toNat by omega), fun z => absurd z (by decide), fun _ => ⟨(show (0 : Int) = ht (h 0 113).toNat + 0 by omega), (show r + 8 * tu = rg (h 0 113).toNat + 8 * 0 by omega), Or.inr rfl, fun z => absurd rfl z⟩, fun z => absurd z (by decide), fun _ => (show ht (h 0 113).toNat = 0 by omega), fun z => absurd z (by unfold pw_jmp; decide), fun z => absurd z (by decide), fun z => absurd z (by decide), fun z => absurd z (by decide), fun z => absurd z (by decide), fun z => absurd z (by decide), fun z => ⟨⟨by omega, by omega, fun z => absurd z (by decide)⟩, by first | decide | (exfalso; omega)⟩⟩
  · exact ⟨⟨⟨by (try simp only [pk_sum]); omega, by (try simp only [pk_sum]); omega⟩, (fun p q => absurd q (by simp [pp]))⟩, ⟨by (try simp only [pk_sum, List.length_cons]); (try dsimp only); omega, (by intro y z e; cases e; dsimp only; omega)⟩, (show pt_ok ((mo_L (mo_L (mo_L (mo_tk (mo_E (mo_L (mo_L (ja_up (h) 0 18 ((h 0 18) + 1)) 15 0 0 0) 30 0 0 0) 25 0 0)) 25 0 0 0) 37 59 0 0) 1 0 0 0) 74) (mo_x ht (h 0 113) (0)) (mo_x st (h 0 113) (1)) (mo_x rg (h 0 113) (r + 8 * tu)) ((h 0 113) + 1) (h 0 88) ((h 0 77)) r (pi_wn h r) (1, 0, 0) ((37, 59, 0) :: (25, 0, 0) :: (30, 0, 0) :: (15, 0, 0) :: s) (0 - 0) ((h 0 109)) (1) (tu) from by unfold pt_ok; (try dsimp only); (try simp only [pk_sum]); exact ⟨⟨by omega, by omega, by omega, by omega⟩, by omega, by omega, ⟨by first | omega | simp, by omega, by omega⟩, fun _ => by first | omega | trivial | (simp only [true_and, and_true]; omega), fun z => absurd z (by omega), fun z => absurd z (by omega), fun z => absurd z (by omega), fun z => absurd z (by omega), fun z => absurd z (by omega), fun z => absurd z (by omega), fun z => absurd z (by omega), fun z => absurd z (by omega), fun z => absurd z (by omega), fun z => absurd z (by omega), fun z => absurd z (by omega), fun z => absurd z (by omega), fun z => absurd z (by omega), fun z => absurd z (by omega), fun z => absurd z (by omega), fun z => absurd z (by omega), fun z => absurd z (by omega), fun z => absurd z (by omega), fun z => absurd z (by omega), fun z => absurd z (by omega), fun z => absurd z (by omega), fun z => absurd z (by omega), fun z => absurd z (by omega), fun z => absurd z (by omega), fun z => absurd z (by omega), fun z => absurd z (by omega), fun z => absurd z (by omega)⟩), ⟨⟨⟨by (try simp only [pk_sum]); omega, by (try simp only [pk_sum]); omega⟩, (fun p q => absurd q (by simp [pp]))⟩, ⟨by (try simp only [pk_sum, List.length_cons]); (try dsimp only); omega, (by intro y z e; cases e; dsimp only; omega)⟩, (show pt_ok ((mo_L (mo_L (mo_L (mo_tk (mo_E (mo_L (mo_L (ja_up (h) 0 18 ((h 0 18) + 1)) 15 0 0 0) 30 0 0 0) 25 0 0)) 25 0 0 0) 37 59 0 0) 1 0 0 0) 74) (mo_x ht (h 0 113) (0)) (mo_x st (h 0 113) (1)) (mo_x rg (h 0 113) (r + 8 * tu)) ((h 0 113) + 1) (h 0 88) ((h 0 77)) r (pi_wn h r) (37, 59, 0) ((25, 0, 0) :: (30, 0, 0) :: (15, 0, 0) :: s) (0 - 0 + 1) ((h 0 109)) (1) (tu) from by unfold pt_ok; (try dsimp only); (try simp only [pk_sum]); exact ⟨⟨by omega, by omega, by omega, by omega⟩, by omega, by omega, ⟨by first | omega | simp, by omega, by omega⟩, fun z => absurd z (by omega), fun z => absurd z (by omega), fun z => absurd z (by omega), fun z => absurd z (by omega), fun z => absurd z (by omega), fun z => absurd z (by omega), fun z => absurd z (by omega), fun z => absurd z (by omega), fun z => absurd z (by omega), fun z => absurd z (by omega), fun z => absurd z (by omega), fun z => absurd z (by omega), fun z => absurd z (by omega), fun z => absurd z (by omega), fun z => absurd z (by omega), fun z => absurd z (by omega), fun z => absurd z (by omega), fun z => absurd z (by omega), fun z => absurd z (by omega), fun z => absurd z (by omega), fun z => absurd z (by omega), fun z => absurd z (by omega), fun z => absurd z (by omega), fun z => absurd z (by omega), fun z => absurd z (by omega), fun z => absurd z (by omega), fun z => absurd z (by omega), fun z => absurd z (by omega)⟩), ⟨⟨⟨by (try simp only [pk_sum]); omega, by (try simp only [pk_sum]); omega⟩, (fun p q => absurd q (by simp [pp]))⟩, ⟨by (try simp only [pk_sum, List.length_cons]); (try dsimp only); omega, (by intro y z e; cases e; dsimp only; omega)⟩, (show pt_ok ((mo_L (mo_L (mo_L (mo_tk (mo_E (mo_L (mo_L (ja_up (h) 0 18 ((h 0 18) + 1)) 15 0 0 0) 30 0 0 0) 25 0 0)) 25 0 0 0) 37 59 0 0) 1 0 0 0) 74) (mo_x ht (h 0 113) (0)) (mo_x st (h 0 113) (1)) (mo_x rg (h 0 113) (r + 8 * tu)) ((h 0 113) + 1) (h 0 88) ((h 0 77)) r (pi_wn h r) (25, 0, 0) ((30, 0, 0) :: (15, 0, 0) :: s) (0 - 0 + 1) ((h 0 109)) (1) (tu) from by unfold pt_ok; (try dsimp only); (try simp only [pk_sum]); exact ⟨⟨by omega, by omega, by omega, by omega⟩, by omega, by omega, ⟨by first | omega | simp, by omega, by omega⟩, fun z => absurd z (by omega), fun z => absurd z (by omega), fun z => absurd z (by omega), fun z => absurd z (by omega), fun z => absurd z (by omega), fun z => absurd z (by omega), fun z => absurd z (by omega), fun z => absurd z (by omega), fun z => absurd z (by omega), fun z => absurd z (by omega), fun z => absurd z (by omega), fun z => absurd z (by omega), fun z => absurd z (by omega), fun z => absurd z (by omega), fun _ => ⟨by first | trivial | omega, by first | trivial | omega, ((pt_let_cons (show (30 : Int) ≠ 17 by decide)).mpr ((pt_let_cons (show (15 : Int) ≠ 17 by decide)).mpr xo14.2.2))⟩, fun z => absurd z (by omega), fun z => absurd z (by omega), fun z => absurd z (by omega), fun z => absurd z (by omega), fun z => absurd z (by omega), fun z => absurd z (by omega), fun z => absurd z (by omega), fun z => absurd z (by omega), fun z => absurd z (by omega), fun z => absurd z (by omega), fun z => absurd z (by omega), fun z => absurd z (by omega), fun z => absurd z (by omega)⟩), ⟨⟨⟨by (try simp only [pk_sum]); omega, by (try simp only [pk_sum]); omega⟩, (fun p q => absurd q (by simp [pp]))⟩, ⟨by (try simp only [pk_sum, List.length_cons]); (try dsimp only); omega, (by intro y z e; cases e; dsimp only; omega)⟩, (show pt_ok ((mo_L (mo_L (mo_L (mo_tk (mo_E (mo_L (mo_L (ja_up (h) 0 18 ((h 0 18) + 1)) 15 0 0 0) 30 0 0 0) 25 0 0)) 25 0 0 0) 37 59 0 0) 1 0 0 0) 74) (mo_x ht (h 0 113) (0)) (mo_x st (h 0 113) (1)) (mo_x rg (h 0 113) (r + 8 * tu)) ((h 0 113) + 1) (h 0 88) ((h 0 77)) r (pi_wn h r) (30, 0, 0) ((15, 0, 0) :: s) (0) ((h 0 109)) (0) (tu) from by unfold pt_ok; (try dsimp only); (try simp only [pk_sum]); exact ⟨⟨by omega, by omega, by omega, by omega⟩, by omega, by omega, ⟨by first | omega | simp, by omega, by omega⟩, fun z => absurd z (by omega), fun z => absurd z (by omega), fun z => absurd z (by omega), fun z => absurd z (by omega), fun z => absurd z (by omega), fun z => absurd z (by omega), fun z => absurd z (by omega), fun z => absurd z (by omega), fun z => absurd z (by omega), fun z => absurd z (by omega), fun z => absurd z (by omega), fun z => absurd z (by omega), fun _ => ⟨by first | trivial | omega, by first | trivial | omega, ((pt_let_cons (show (15 : Int) ≠ 17 by decide)).mpr xo14.2.2)⟩, fun z => absurd z (by omega), fun z => absurd z (by omega), fun z => absurd z (by omega), fun z => absurd z (by omega), fun z => absurd z (by omega), fun z => absurd z (by omega), fun z => absurd z (by omega), fun z => absurd z (by omega), fun z => absurd z (by omega), fun z => absurd z (by omega), fun z => absurd z (by omega), fun z => absurd z (by omega), fun z => absurd z (by omega), fun z => absurd z (by omega), fun z => absurd z (by omega)⟩), ⟨⟨⟨by (try simp only [pk_sum]); omega, by (try simp only [pk_sum]); omega⟩, (fun p q => absurd q (by simp [pp]))⟩, ⟨by (try simp only [pk_sum, List.length_cons]); (try dsimp only); omega, (by intro y z e; have q := p2' y z e; dsimp only at q ⊢; omega)⟩, (show pt_ok ((mo_L (mo_L (mo_L (mo_tk (mo_E (mo_L (mo_L (ja_up (h) 0 18 ((h 0 18) + 1)) 15 0 0 0) 30 0 0 0) 25 0 0)) 25 0 0 0) 37 59 0 0) 1 0 0 0) 74) (mo_x ht (h 0 113) (0)) (mo_x st (h 0 113) (1)) (mo_x rg (h 0 113) (r + 8 * tu)) ((h 0 113) + 1) (h 0 88) ((h 0 77)) r (pi_wn h r) (15, 0, 0) (s) (0) ((h 0 109)) (0) (tu) from by unfold pt_ok; (try dsimp only); (try simp only [pk_sum]); exact ⟨⟨by omega, by omega, by omega, by omega⟩, by omega, by omega, ⟨by first | omega | simp, by omega, by omega⟩, fun z => absurd z (by omega), fun z => absurd z (by omega), fun z => absurd z (by omega), fun z => absurd z (by omega), fun z => absurd z (by omega), fun z => absurd z (by omega), fun z => absurd z (by omega), fun z => absurd z (by omega), fun z => absurd z (by omega), fun z => absurd z (by omega), fun z => absurd z (by omega), fun z => absurd z (by omega), fun _ => ⟨by first | trivial | omega, by first | trivial | omega, xo14.2.2⟩, fun z => absurd z (by omega), fun z => absurd z (by omega), fun z => absurd z (by omega), fun z => absurd z (by omega), fun z => absurd z (by omega), fun z => absurd z (by omega), fun z => absurd z (by omega), fun z => absurd z (by omega), fun z => absurd z (by omega), fun z => absurd z (by omega), fun z => absurd z (by omega), fun z => absurd z (by omega), fun z => absurd z (by omega), fun z => absurd z (by omega), fun z => absurd z (by omega)⟩), (pt_eq (show _ = 0 by omega) (show _ = (h 0 109) by omega) (show _ = 0 by omega) (pt_ext (show (h 0 113) ≤ (h 0 113) + 1 by omega) (Int.le_refl _) (show (h 0 77) ≤ (h 0 77) by omega) (fun _ q => q) hext p4))⟩⟩⟩⟩⟩
  · show 40 * (900 - ((h 0 7) + 1)) + pk_sum pk_m ((1, 0, 0) :: (37, 59, 0) :: (25, 0, 0) :: (30, 0, 0) :: (15, 0, 0) :: s) + 13 < 40 * (900 - (h 0 7)) + pk_sum pk_m ((15, a, b) :: s) + 13; (try simp only [pk_sum]); omega

theorem ab_st_thr {h : ja_H} {R r ph q0 : Int} {tf : mo_TF} {s : List mo_A} {ht st rg : Nat → Int} {tu a b : Int} (g : mo_G Zz h) (hS : pk_S h (h 0 17).toNat s) (hB : piB h R r ph tf q0 ((15, a, b) :: s) ht st rg tu)  : pi_done h (mo_L (mo_L (mo_L (mo_tk (mo_E (mo_L (mo_L (ja_up (h) 0 18 ((h 0 18) + 1)) 15 0 0 0) 30 0 0 0) 25 0 0)) 26 0 0 0) 37 59 0 0) 1 0 0 0) R r ph tf q0 (pi_mu h ((15, a, b) :: s)) := by
  have hN := piB_num g hS hB
  obtain ⟨N1, N2, N3, N4, N5, N6, N7, N8, N9, N10, N11, N12, N13, ⟨NK1, NK2⟩, ND1, ND2, ND3, NU1, NU2⟩ := hN
  obtain ⟨⟨n1, n2, n3, n4, n5, n6, n7, n8, n9⟩, ⟨b1, b2, b3, b4⟩, reg, hpt, ⟨hC, hU⟩, hNo, hP, hT, top⟩ := id hB
  obtain ⟨⟨⟨p1, p1'⟩, p1u⟩, ⟨p2, p2'⟩, p3, p4⟩ := hpt
  have w0 := (gF_wTop g).1
  simp only [pk_sum] at n1 n2 n3 n6 n7
  dsimp only at p2 p2' N6
  have ec1 : pk_c 1 = 0 := rfl
  have ev1 : pk_v 1 = (-4) := rfl
  have ed1 : pk_d 1 = 0 := rfl
  have eq1 : pk_q 1 = 0 := rfl
  have ef1 : pk_f 1 = 0 := rfl
  have em1 : pk_m 1 = (-10) := rfl
  have eoff1 : pk_off 1 = 7 := rfl
  have ek1 : pk_k r 1 = 0 := rfl
  have ec15 : pk_c 15 = 0 := rfl
  have ev15 : pk_v 15 = 0 := rfl
  have ed15 : pk_d 15 = 0 := rfl
  have eq15 : pk_q 15 = 0 := rfl
  have ef15 : pk_f 15 = 0 := rfl
  have em15 : pk_m 15 = 1 := rfl
  have eoff15 : pk_off 15 = 5 := rfl
  have ek15 : pk_k r 15 = 0 := rfl
  have ec26 : pk_c 26 = 0 := rfl
  have ev26 : pk_v 26 = 1 := rfl
  have ed26 : pk_d 26 = 0 := rfl
  have eq26 : pk_q 26 = 0 := rfl
  have ef26 : pk_f 26 = 0 := rfl
  have em26 : pk_m 26 = 1 := rfl
  have eoff26 : pk_off 26 = 1 := rfl
  have ek26 : pk_k r 26 = 0 := rfl
  have ec30 : pk_c 30 = 1 := rfl
  have ev30 : pk_v 30 = 0 := rfl
  have ed30 : pk_d 30 = 0 := rfl
  have eq30 : pk_q 30 = 0 := rfl
  have ef30 : pk_f 30 = 0 := rfl
  have em30 : pk_m 30 = 1 := rfl
  have eoff30 : pk_off 30 = 6 := rfl
  have ek30 : pk_k r 30 = pk_D r := rfl
  have ec37 : pk_c 37 = 0 := rfl
  have ev37 : pk_v 37 = 0 := rfl
  have ed37 : pk_d 37 = 0 := rfl
  have eq37 : pk_q 37 = 0 := rfl
  have ef37 : pk_f 37 = 0 := rfl
  have em37 : pk_m 37 = 1 := rfl
  have eoff37 : pk_off 37 = 3 := rfl
  have ek37 : pk_k r 37 = 0 := rfl
  replace p3 : pt_ok (h 74) ht st rg (h 0 113) (h 0 88) (h 0 77) r (pi_wn h r) (15, a, b) s (ht (h 0 113).toNat - 0) (h 0 109) (st (h 0 113).toNat) tu := p3
  unfold pt_ok at p3; dsimp only at p3
  replace p4 : pt (h 74) ht st rg (h 0 113) (h 0 88) (h 0 77) r tf (pi_wn h r) s (0) ((h 0 109)) (st (h 0 113).toNat) (tu) := p4
  obtain ⟨-, xc, xt, ⟨xe, xu1, xu2⟩, -, -, -, -, -, -, -, -, -, -, -, -, xo14, -, -, -, -, -, -, -, -, -, -, -, -, -, -, -⟩ := p3
  replace xo14 := xo14 (by omega)
  have xq1o14 := xo14.1
  have xq2o14 := xo14.2.1
  have hr := reg_of hB (by dsimp only; omega) (by dsimp only; omega)
  have hbo := gF_body g
  have w0 := (gF_wTop g).1
  have W0 : 0 ≤ (h 0 113) := (gF_words g).1
  have hr4 : 0 ≤ r ∧ r ≤ 3 ∧ (r = 4 → tu = 0) := by
    rcases reg with ⟨q1, q2, -⟩ | ⟨q1, q2, q3, -⟩
    · omega
    · have := q3 _ List.mem_cons_self; dsimp only at this; omega
  have ho : (mo_L (mo_L (mo_L (mo_tk (mo_E (mo_L (mo_L (ja_up (h) 0 18 ((h 0 18) + 1)) 15 0 0 0) 30 0 0 0) 25 0 0)) 26 0 0 0) 37 59 0 0) 1 0 0 0) 74 (h 0 113).toNat = 25 := by simp [mo_L, mo_E, mo_tk, ja_up]
  have hA : (mo_L (mo_L (mo_L (mo_tk (mo_E (mo_L (mo_L (ja_up (h) 0 18 ((h 0 18) + 1)) 15 0 0 0) 30 0 0 0) 25 0 0)) 26 0 0 0) 37 59 0 0) 1 0 0 0) 75 (h 0 113).toNat = 0 := by simp [mo_L, mo_E, mo_tk, ja_up]
  have hBB : (mo_L (mo_L (mo_L (mo_tk (mo_E (mo_L (mo_L (ja_up (h) 0 18 ((h 0 18) + 1)) 15 0 0 0) 30 0 0 0) 25 0 0)) 26 0 0 0) 37 59 0 0) 1 0 0 0) 76 (h 0 113).toNat = 0 := by simp [mo_L, mo_E, mo_tk, ja_up]
  have hold : ∀ w : Nat, (w : Int) < (h 0 113) → (mo_L (mo_L (mo_L (mo_tk (mo_E (mo_L (mo_L (ja_up (h) 0 18 ((h 0 18) + 1)) 15 0 0 0) 30 0 0 0) 25 0 0)) 26 0 0 0) 37 59 0 0) 1 0 0 0) 74 w = (h 74) w ∧ (mo_L (mo_L (mo_L (mo_tk (mo_E (mo_L (mo_L (ja_up (h) 0 18 ((h 0 18) + 1)) 15 0 0 0) 30 0 0 0) 25 0 0)) 26 0 0 0) 37 59 0 0) 1 0 0 0) 75 w = (h 75) w ∧ (mo_L (mo_L (mo_L (mo_tk (mo_E (mo_L (mo_L (ja_up (h) 0 18 ((h 0 18) + 1)) 15 0 0 0) 30 0 0 0) 25 0 0)) 26 0 0 0) 37 59 0 0) 1 0 0 0) 76 w = (h 76) w := by
    intro w hw; refine ⟨?_, ?_, ?_⟩ <;> simp [mo_L, mo_E, mo_tk, ja_up] <;> (intros; omega)
  have hext : ∀ j : Nat, (j : Int) ≤ (h 0 113) → ((j : Int) < (h 0 113) → (mo_L (mo_L (mo_L (mo_tk (mo_E (mo_L (mo_L (ja_up (h) 0 18 ((h 0 18) + 1)) 15 0 0 0) 30 0 0 0) 25 0 0)) 26 0 0 0) 37 59 0 0) 1 0 0 0) 74 j = (h 74) j) ∧ mo_x ht (h 0 113) (0) j = ht j ∧ mo_x st (h 0 113) (1) j = st j ∧ mo_x rg (h 0 113) (r + 8 * tu) j = rg j := fun j hj => ⟨fun q => (hold j q).1, mo_xo W0 (by omega), mo_xo W0 (by omega), mo_xo W0 (by omega)⟩
  refine fin1 (c1 := 0) (e1 := 1) (tu1 := tu) (Or.inl rfl) g hB (by dsimp only; omega) (pk_S_L (show 0 ≤ (h 0 17) + 1 + 1 + 1 + 1 by omega) (pk_S_L (show 0 ≤ (h 0 17) + 1 + 1 + 1 by omega) (pk_S_L (show 0 ≤ (h 0 17) + 1 + 1 by omega) (pk_S_ag (ag_up rfl ag_refl) (pk_S_E (pk_S_L (show 0 ≤ (h 0 17) + 1 by omega) (pk_S_L (show 0 ≤ (h 0 17) by omega) (pk_S_ag (ag_up rfl ag_refl) hS)))))))) (by (try unfold mo_L); (try unfold mo_E); (try unfold mo_tk); (repeat (refine ag_up rfl ?_)); exact ag_refl) rfl hold (by rw [ho]; decide) (idle_of (show (15 : Int) ≠ 4 ∧ (15 : Int) ≠ 21 ∧ (15 : Int) ≠ 22 ∧ (15 : Int) ≠ 28 ∧ (15 : Int) ≠ 24 by decide)) (fun _ q => List.mem_cons_of_mem _ (List.mem_cons_of_mem _ (List.mem_cons_of_mem _ (List.mem_cons_of_mem _ (List.mem_cons_of_mem _ (q)))))) (fun p q => by simp only [pp_cons] at q ⊢; rcases q with q | q | q | q | q | q <;> first | (exact Or.inr q) | (exfalso; simp [pp] at q)) ?_ ?_ ?_ ?_ ?_ ?_ ⟨?_, ?_, ?_⟩ (by simp only [pi_if, List.mem_cons, exists_eq_or_imp]; simp) ⟨(fun q y hy => by (try simp only [List.mem_cons] at hy); (rcases hy with rfl | rfl | rfl | rfl | rfl | hy) <;> first | (exact q _ (List.mem_cons_of_mem _ hy)) | (have := q _ List.mem_cons_self; dsimp only at this ⊢; omega)), (fun q y hy => by (try simp only [List.mem_cons] at hy); (rcases hy with rfl | rfl | rfl | rfl | rfl | hy) <;> first | (exact q _ (List.mem_cons_of_mem _ hy)) | (have := q _ List.mem_cons_self; dsimp only at this ⊢; omega))⟩ ?_ ?_ ⟨fun e => absurd e (by dsimp only; omega), fun e => absurd e (by dsimp only; omega), fun _ y z e => by cases e; intro q; exact absurd q (by dsimp only; omega), fun e => absurd e (by dsimp only; omega)⟩ ?_ (by (try unfold mo_L); (try unfold mo_E); (try unfold mo_tk); (repeat (refine ag_up rfl ?_)); exact ag_refl)
  · show (h 0 18) + 1 = _; (try simp only [pk_sum]); omega
  · show (h 0 113) + 1 + _ < 5 * ((h 0 7) + 1); (try simp only [pk_sum]); omega
  · show (h 0 95) + _ < (h 0 7) + 1; (try simp only [pk_sum]); omega
  · show (h 0 7) ≤ (h 0 7) + 1; omega
  · show (h 0 84) = _; (try simp only [pk_sum]); omega
  · show (h 0 87) = _; (try simp only [pk_sum]); omega
  · show ph = 1 ∨ (h 0 79) ≤ (h 0 77); omega
  · show ph = 1 ∨ (h 0 77) ≤ 10; omega
  · intro q; show ph = 1 ∨ (h 0 77) ≤ 9; refine b4 (fun z => q ?_); intro y hy; simp only [List.mem_cons] at hy; rcases hy with rfl | rfl | rfl | rfl | rfl | hy
    · show (1 : Int) ≠ 17; decide
    · show (37 : Int) ≠ 17; decide
    · show (26 : Int) ≠ 17; decide
    · show (30 : Int) ≠ 17; decide
    · show (15 : Int) ≠ 17; decide
    · exact z y (List.mem_cons_of_mem _ hy)
  · unfold pw; rw [ho, hA, hBB, mo_xw, mo_xw, mo_xw, mo_xn', mo_xn', mo_xn']; exact ⟨⟨by decide, by decide⟩, ⟨by omega, by omega⟩, ⟨by omega, by omega, by omega⟩, by omega, (show (0 : Int) ≤ ht (h 0 113).toNat by omega), fun z => absurd z (by decide), fun _ => ⟨(show (0 : Int) = ht (h 0 113).toNat + 0 by omega), (show r + 8 * tu = rg (h 0 113).toNat + 8 * 0 by omega), Or.inr rfl, fun z => absurd rfl z⟩, fun z => absurd z (by decide), fun _ => (show ht (h 0 113).toNat = 0 by omega), fun z => absurd z (by unfold pw_jmp; decide), fun z => absurd z (by decide), fun z => absurd z (by decide), fun z => absurd z (by decide), fun z => absurd z (by decide), fun z => absurd z (by decide), fun z => ⟨⟨by omega, by omega, fun z => absurd z (by decide)⟩, by first | decide | (exfalso; omega)⟩⟩
  · exact ⟨⟨⟨by (try simp only [pk_sum]); omega, by (try simp only [pk_sum]); omega⟩, (fun p q => absurd q (by simp [pp]))⟩, ⟨by (try simp only [pk_sum, List.length_cons]); (try dsimp only); omega, (by intro y z e; cases e; dsimp only; omega)⟩, (show pt_ok ((mo_L (mo_L (mo_L (mo_tk (mo_E (mo_L (mo_L (ja_up (h) 0 18 ((h 0 18) + 1)) 15 0 0 0) 30 0 0 0) 25 0 0)) 26 0 0 0) 37 59 0 0) 1 0 0 0) 74) (mo_x ht (h 0 113) (0)) (mo_x st (h 0 113) (1)) (mo_x rg (h 0 113) (r + 8 * tu)) ((h 0 113) + 1) (h 0 88) ((h 0 77)) r (pi_wn h r) (1, 0, 0) ((37, 59, 0) :: (26, 0, 0) :: (30, 0, 0) :: (15, 0, 0) :: s) (0 - 0) ((h 0 109)) (1) (tu) from by unfold pt_ok; (try dsimp only); (try simp only [pk_sum]); exact ⟨⟨by omega, by omega, by omega, by omega⟩, by omega, by omega, ⟨by first | omega | simp, by omega, by omega⟩, fun _ => by first | omega | trivial | (simp only [true_and, and_true]; omega), fun z => absurd z (by omega), fun z => absurd z (by omega), fun z => absurd z (by omega), fun z => absurd z (by omega), fun z => absurd z (by omega), fun z => absurd z (by omega), fun z => absurd z (by omega), fun z => absurd z (by omega), fun z => absurd z (by omega), fun z => absurd z (by omega), fun z => absurd z (by omega), fun z => absurd z (by omega), fun z => absurd z (by omega), fun z => absurd z (by omega), fun z => absurd z (by omega), fun z => absurd z (by omega), fun z => absurd z (by omega), fun z => absurd z (by omega), fun z => absurd z (by omega), fun z => absurd z (by omega), fun z => absurd z (by omega), fun z => absurd z (by omega), fun z => absurd z (by omega), fun z => absurd z (by omega), fun z => absurd z (by omega), fun z => absurd z (by omega), fun z => absurd z (by omega)⟩), ⟨⟨⟨by (try simp only [pk_sum]); omega, by (try simp only [pk_sum]); omega⟩, (fun p q => absurd q (by simp [pp]))⟩, ⟨by (try simp only [pk_sum, List.length_cons]); (try dsimp only); omega, (by intro y z e; cases e; dsimp only; omega)⟩, (show pt_ok ((mo_L (mo_L (mo_L (mo_tk (mo_E (mo_L (mo_L (ja_up (h) 0 18 ((h 0 18) + 1)) 15 0 0 0) 30 0 0 0) 25 0 0)) 26 0 0 0) 37 59 0 0) 1 0 0 0) 74) (mo_x ht (h 0 113) (0)) (mo_x st (h 0 113) (1)) (mo_x rg (h 0 113) (r + 8 * tu)) ((h 0 113) + 1) (h 0 88) ((h 0 77)) r (pi_wn h r) (37, 59, 0) ((26, 0, 0) :: (30, 0, 0) :: (15, 0, 0) :: s) (0 - 0 + 1) ((h 0 109)) (1) (tu) from by unfold pt_ok; (try dsimp only); (try simp only [pk_sum]); exact ⟨⟨by omega, by omega, by omega, by omega⟩, by omega, by omega, ⟨by first | omega | simp, by omega, by omega⟩, fun z => absurd z (by omega), fun z => absurd z (by omega), fun z => absurd z (by omega), fun z => absurd z (by omega), fun z => absurd z (by omega), fun z => absurd z (by omega), fun z => absurd z (by omega), fun z => absurd z (by omega), fun z => absurd z (by omega), fun z => absurd z (by omega), fun z => absurd z (by omega), fun z => absurd z (by omega), fun z => absurd z (by omega), fun z => absurd z (by omega), fun z => absurd z (by omega), fun z => absurd z (by omega), fun z => absurd z (by omega), fun z => absurd z (by omega), fun z => absurd z (by omega), fun z => absurd z (by omega), fun z => absurd z (by omega), fun z => absurd z (by omega), fun z => absurd z (by omega), fun z => absurd z (by omega), fun z => absurd z (by omega), fun z => absurd z (by omega), fun z => absurd z (by omega), fun z => absurd z (by omega)⟩), ⟨⟨⟨by (try simp only [pk_sum]); omega, by (try simp only [pk_sum]); omega⟩, (fun p q => absurd q (by simp [pp]))⟩, ⟨by (try simp only [pk_sum, List.length_cons]); (try dsimp only); omega, (by intro y z e; cases e; dsimp only; omega)⟩, (show pt_ok ((mo_L (mo_L (mo_L (mo_tk (mo_E (mo_L (mo_L (ja_up (h) 0 18 ((h 0 18) + 1)) 15 0 0 0) 30 0 0 0) 25 0 0)) 26 0 0 0) 37 59 0 0) 1 0 0 0) 74) (mo_x ht (h 0 113) (0)) (mo_x st (h 0 113) (1)) (mo_x rg (h 0 113) (r + 8 * tu)) ((h 0 113) + 1) (h 0 88) ((h 0 77)) r (pi_wn h r) (26, 0, 0) ((30, 0, 0) :: (15, 0, 0) :: s) (0 - 0 + 1) ((h 0 109)) (1) (tu) from by unfold pt_ok; (try dsimp only); (try simp only [pk_sum]); exact ⟨⟨by omega, by omega, by omega, by omega⟩, by omega, by omega, ⟨by first | omega | simp, by omega, by omega⟩, fun z => absurd z (by omega), fun z => absurd z (by omega), fun z => absurd z (by omega), fun z => absurd z (by omega), fun z => absurd z (by omega), fun z => absurd z (by omega), fun z => absurd z (by omega), fun z => absurd z (by omega), fun z => absurd z (by omega), fun z => absurd z (by omega), fun z => absurd z (by omega), fun z => absurd z (by omega), fun z => absurd z (by omega), fun z => absurd z (by omega), fun _ => ⟨by first | trivial | omega, by first | trivial | omega, ((pt_let_cons (show (30 : Int) ≠ 17 by decide)).mpr ((pt_let_cons (show (15 : Int) ≠ 17 by decide)).mpr xo14.2.2))⟩, fun z => absurd z (by omega), fun z => absurd z (by omega), fun z => absurd z (by omega), fun z => absurd z (by omega), fun z => absurd z (by omega), fun z => absurd z (by omega), fun z => absurd z (by omega), fun z => absurd z (by omega), fun z => absurd z (by omega), fun z => absurd z (by omega), fun z => absurd z (by omega), fun z => absurd z (by omega), fun z => absurd z (by omega)⟩), ⟨⟨⟨by (try simp only [pk_sum]); omega, by (try simp only [pk_sum]); omega⟩, (fun p q => absurd q (by simp [pp]))⟩, ⟨by (try simp only [pk_sum, List.length_cons]); (try dsimp only); omega, (by intro y z e; cases e; dsimp only; omega)⟩, (show pt_ok ((mo_L (mo_L (mo_L (mo_tk (mo_E (mo_L (mo_L (ja_up (h) 0 18 ((h 0 18) + 1)) 15 0 0 0) 30 0 0 0) 25 0 0)) 26 0 0 0) 37 59 0 0) 1 0 0 0) 74) (mo_x ht (h 0 113) (0)) (mo_x st (h 0 113) (1)) (mo_x rg (h 0 113) (r + 8 * tu)) ((h 0 113) + 1) (h 0 88) ((h 0 77)) r (pi_wn h r) (30, 0, 0) ((15, 0, 0) :: s) (0) ((h 0 109)) (0) (tu) from by unfold pt_ok; (try dsimp only); (try simp only [pk_sum]); exact ⟨⟨by omega, by omega, by omega, by omega⟩, by omega, by omega, ⟨by first | omega | simp, by omega, by omega⟩, fun z => absurd z (by omega), fun z => absurd z (by omega), fun z => absurd z (by omega), fun z => absurd z (by omega), fun z => absurd z (by omega), fun z => absurd z (by omega), fun z => absurd z (by omega), fun z => absurd z (by omega), fun z => absurd z (by omega), fun z => absurd z (by omega), fun z => absurd z (by omega), fun z => absurd z (by omega), fun _ => ⟨by first | trivial | omega, by first | trivial | omega, ((pt_let_cons (show (15 : Int) ≠ 17 by decide)).mpr xo14.2.2)⟩, fun z => absurd z (by omega), fun z => absurd z (by omega), fun z => absurd z (by omega), fun z => absurd z (by omega), fun z => absurd z (by omega), fun z => absurd z (by omega), fun z => absurd z (by omega), fun z => absurd z (by omega), fun z => absurd z (by omega), fun z => absurd z (by omega), fun z => absurd z (by omega), fun z => absurd z (by omega), fun z => absurd z (by omega), fun z => absurd z (by omega), fun z => absurd z (by omega)⟩), ⟨⟨⟨by (try simp only [pk_sum]); omega, by (try simp only [pk_sum]); omega⟩, (fun p q => absurd q (by simp [pp]))⟩, ⟨by (try simp only [pk_sum, List.length_cons]); (try dsimp only); omega, (by intro y z e; have q := p2' y z e; dsimp only at q ⊢; omega)⟩, (show pt_ok ((mo_L (mo_L (mo_L (mo_tk (mo_E (mo_L (mo_L (ja_up (h) 0 18 ((h 0 18) + 1)) 15 0 0 0) 30 0 0 0) 25 0 0)) 26 0 0 0) 37 59 0 0) 1 0 0 0) 74) (mo_x ht (h 0 113) (0)) (mo_x st (h 0 113) (1)) (mo_x rg (h 0 113) (r + 8 * tu)) ((h 0 113) + 1) (h 0 88) ((h 0 77)) r (pi_wn h r) (15, 0, 0) (s) (0) ((h 0 109)) (0) (tu) from by unfold pt_ok; (try dsimp only); (try simp only [pk_sum]); exact ⟨⟨by omega, by omega, by omega, by omega⟩, by omega, by omega, ⟨by first | omega | simp, by omega, by omega⟩, fun z => absurd z (by omega), fun z => absurd z (by omega), fun z => absurd z (by omega), fun z => absurd z (by omega), fun z => absurd z (by omega), fun z => absurd z (by omega), fun z => absurd z (by omega), fun z => absurd z (by omega), fun z => absurd z (by omega), fun z => absurd z (by omega), fun z => absurd z (by omega), fun z => absurd z (by omega), fun _ => ⟨by first | trivial | omega, by first | trivial | omega, xo14.2.2⟩, fun z => absurd z (by omega), fun z => absurd z (by omega), fun z => absurd z (by omega), fun z => absurd z (by omega), fun z => absurd z (by omega), fun z => absurd z (by omega), fun z => absurd z (by omega), fun z => absurd z (by omega), fun z => absurd z (by omega), fun z => absurd z (by omega), fun z => absurd z (by omega), fun z => absurd z (by omega), fun z => absurd z (by omega), fun z => absurd z (by omega), fun z => absurd z (by omega)⟩), (pt_eq (show _ = 0 by omega) (show _ = (h 0 109) by omega) (show _ = 0 by omega) (pt_ext (show (h 0 113) ≤ (h 0 113) + 1 by omega) (Int.le_refl _) (show (h 0 77) ≤ (h 0 77) by omega) (fun _ q => q) hext p4))⟩⟩⟩⟩⟩
  · show 40 * (900 - ((h 0 7) + 1)) + pk_sum pk_m ((1, 0, 0) :: (37, 59, 0) :: (26, 0, 0) :: (30, 0, 0) :: (15, 0, 0) :: s) + 13 < 40 * (900 - (h 0 7)) + pk_sum pk_m ((15, a, b) :: s) + 13; (try simp only [pk_sum]); omega

theorem ab_st_prt {h : ja_H} {R r ph q0 : Int} {tf : mo_TF} {s : List mo_A} {ht st rg : Nat → Int} {tu a b : Int} (g : mo_G Zz h) (hS : pk_S h (h 0 17).toNat s) (hB : piB h R r ph tf q0 ((15, a, b) :: s) ht st rg tu)  : pi_done h (mo_L (mo_L (mo_L (mo_tk (mo_E (mo_L (mo_L (ja_up (h) 0 18 ((h 0 18) + 1)) 15 0 0 0) 30 0 0 0) 25 0 0)) 27 0 0 0) 37 59 0 0) 1 0 0 0) R r ph tf q0 (pi_mu h ((15, a, b) :: s)) := by
  have hN := piB_num g hS hB
  obtain ⟨N1, N2, N3, N4, N5, N6, N7, N8, N9, N10, N11, N12, N13, ⟨NK1, NK2⟩, ND1, ND2, ND3, NU1, NU2⟩ := hN
  obtain ⟨⟨n1, n2, n3, n4, n5, n6, n7, n8, n9⟩, ⟨b1, b2, b3, b4⟩, reg, hpt, ⟨hC, hU⟩, hNo, hP, hT, top⟩ := id hB
  obtain ⟨⟨⟨p1, p1'⟩, p1u⟩, ⟨p2, p2'⟩, p3, p4⟩ := hpt
  have w0 := (gF_wTop g).1
  simp only [pk_sum] at n1 n2 n3 n6 n7
  dsimp only at p2 p2' N6
  have ec1 : pk_c 1 = 0 := rfl
  have ev1 : pk_v 1 = (-4) := rfl
  have ed1 : pk_d 1 = 0 := rfl
  have eq1 : pk_q 1 = 0 := rfl
  have ef1 : pk_f 1 = 0 := rfl
  have em1 : pk_m 1 = (-10) := rfl
  have eoff1 : pk_off 1 = 7 := rfl
  have ek1 : pk_k r 1 = 0 := rfl
  have ec15 : pk_c 15 = 0 := rfl
  have ev15 : pk_v 15 = 0 := rfl
  have ed15 : pk_d 15 = 0 := rfl
  have eq15 : pk_q 15 = 0 := rfl
  have ef15 : pk_f 15 = 0 := rfl
  have em15 : pk_m 15 = 1 := rfl
  have eoff15 : pk_off 15 = 5 := rfl
  have ek15 : pk_k r 15 = 0 := rfl
  have ec27 : pk_c 27 = 0 := rfl
  have ev27 : pk_v 27 = 1 := rfl
  have ed27 : pk_d 27 = 0 := rfl
  have eq27 : pk_q 27 = 0 := rfl
  have ef27 : pk_f 27 = 0 := rfl
  have em27 : pk_m 27 = 1 := rfl
  have eoff27 : pk_off 27 = 1 := rfl
  have ek27 : pk_k r 27 = 0 := rfl
  have ec30 : pk_c 30 = 1 := rfl
  have ev30 : pk_v 30 = 0 := rfl
  have ed30 : pk_d 30 = 0 := rfl
  have eq30 : pk_q 30 = 0 := rfl
  have ef30 : pk_f 30 = 0 := rfl
  have em30 : pk_m 30 = 1 := rfl
  have eoff30 : pk_off 30 = 6 := rfl
  have ek30 : pk_k r 30 = pk_D r := rfl
  have ec37 : pk_c 37 = 0 := rfl
  have ev37 : pk_v 37 = 0 := rfl
  have ed37 : pk_d 37 = 0 := rfl
  have eq37 : pk_q 37 = 0 := rfl
  have ef37 : pk_f 37 = 0 := rfl
  have em37 : pk_m 37 = 1 := rfl
  have eoff37 : pk_off 37 = 3 := rfl
  have ek37 : pk_k r 37 = 0 := rfl
  replace p3 : pt_ok (h 74) ht st rg (h 0 113) (h 0 88) (h 0 77) r (pi_wn h r) (15, a, b) s (ht (h 0 113).toNat - 0) (h 0 109) (st (h 0 113).toNat) tu := p3
  unfold pt_ok at p3; dsimp only at p3
  replace p4 : pt (h 74) ht st rg (h 0 113) (h 0 88) (h 0 77) r tf (pi_wn h r) s (0) ((h 0 109)) (st (h 0 113).toNat) (tu) := p4
  obtain ⟨-, xc, xt, ⟨xe, xu1, xu2⟩, -, -, -, -, -, -, -, -, -, -, -, -, xo14, -, -, -, -, -, -, -, -, -, -, -, -, -, -, -⟩ := p3
  replace xo14 := xo14 (by omega)
  have xq1o14 := xo14.1
  have xq2o14 := xo14.2.1
  have hr := reg_of hB (by dsimp only; omega) (by dsimp only; omega)
  have hbo := gF_body g
  have w0 := (gF_wTop g).1
  have W0 : 0 ≤ (h 0 113) := (gF_words g).1
  have hr4 : 0 ≤ r ∧ r ≤ 3 ∧ (r = 4 → tu = 0) := by
    rcases reg with ⟨q1, q2, -⟩ | ⟨q1, q2, q3, -⟩
    · omega
    · have := q3 _ List.mem_cons_self; dsimp only at this; omega
  have ho : (mo_L (mo_L (mo_L (mo_tk (mo_E (mo_L (mo_L (ja_up (h) 0 18 ((h 0 18) + 1)) 15 0 0 0) 30 0 0 0) 25 0 0)) 27 0 0 0) 37 59 0 0) 1 0 0 0) 74 (h 0 113).toNat = 25 := by simp [mo_L, mo_E, mo_tk, ja_up]
  have hA : (mo_L (mo_L (mo_L (mo_tk (mo_E (mo_L (mo_L (ja_up (h) 0 18 ((h 0 18) + 1)) 15 0 0 0) 30 0 0 0) 25 0 0)) 27 0 0 0) 37 59 0 0) 1 0 0 0) 75 (h 0 113).toNat = 0 := by simp [mo_L, mo_E, mo_tk, ja_up]
  have hBB : (mo_L (mo_L (mo_L (mo_tk (mo_E (mo_L (mo_L (ja_up (h) 0 18 ((h 0 18) + 1)) 15 0 0 0) 30 0 0 0) 25 0 0)) 27 0 0 0) 37 59 0 0) 1 0 0 0) 76 (h 0 113).toNat = 0 := by simp [mo_L, mo_E, mo_tk, ja_up]
  have hold : ∀ w : Nat, (w : Int) < (h 0 113) → (mo_L (mo_L (mo_L (mo_tk (mo_E (mo_L (mo_L (ja_up (h) 0 18 ((h 0 18) + 1)) 15 0 0 0) 30 0 0 0) 25 0 0)) 27 0 0 0) 37 59 0 0) 1 0 0 0) 74 w = (h 74) w ∧ (mo_L (mo_L (mo_L (mo_tk (mo_E (mo_L (mo_L (ja_up (h) 0 18 ((h 0 18) + 1)) 15 0 0 0) 30 0 0 0) 25 0 0)) 27 0 0 0) 37 59 0 0) 1 0 0 0) 75 w = (h 75) w ∧ (mo_L (mo_L (mo_L (mo_tk (mo_E (mo_L (mo_L (ja_up (h) 0 18 ((h 0 18) + 1)) 15 0 0 0) 30 0 0 0) 25 0 0)) 27 0 0 0) 37 59 0 0) 1 0 0 0) 76 w = (h 76) w := by
    intro w hw; refine ⟨?_, ?_, ?_⟩ <;> simp [mo_L, mo_E, mo_tk, ja_up] <;> (intros; omega)
  have hext : ∀ j : Nat, (j : Int) ≤ (h 0 113) → ((j : Int) < (h 0 113) → (mo_L (mo_L (mo_L (mo_tk (mo_E (mo_L (mo_L (ja_up (h) 0 18 ((h 0 18) + 1)) 15 0 0 0) 30 0 0 0) 25 0 0)) 27 0 0 0) 37 59 0 0) 1 0 0 0) 74 j = (h 74) j) ∧ mo_x ht (h 0 113) (0) j = ht j ∧ mo_x st (h 0 113) (1) j = st j ∧ mo_x rg (h 0 113) (r + 8 * tu) j = rg j := fun j hj => ⟨fun q => (hold j q).1, mo_xo W0 (by omega), mo_xo W0 (by omega), mo_xo W0 (by omega)⟩
  refine fin1 (c1 := 0) (e1 := 1) (tu1 := tu) (Or.inl rfl) g hB (by dsimp only; omega) (pk_S_L (show 0 ≤ (h 0 17) + 1 + 1 + 1 + 1 by omega) (pk_S_L (show 0 ≤ (h 0 17) + 1 + 1 + 1 by omega) (pk_S_L (show 0 ≤ (h 0 17) + 1 + 1 by omega) (pk_S_ag (ag_up rfl ag_refl) (pk_S_E (pk_S_L (show 0 ≤ (h 0 17) + 1 by omega) (pk_S_L (show 0 ≤ (h 0 17) by omega) (pk_S_ag (ag_up rfl ag_refl) hS)))))))) (by (try unfold mo_L); (try unfold mo_E); (try unfold mo_tk); (repeat (refine ag_up rfl ?_)); exact ag_refl) rfl hold (by rw [ho]; decide) (idle_of (show (15 : Int) ≠ 4 ∧ (15 : Int) ≠ 21 ∧ (15 : Int) ≠ 22 ∧ (15 : Int) ≠ 28 ∧ (15 : Int) ≠ 24 by decide)) (fun _ q => List.mem_cons_of_mem _ (List.mem_cons_of_mem _ (List.mem_cons_of_mem _ (List.mem_cons_of_mem _ (List.mem_cons_of_mem _ (q)))))) (fun p q => by simp only [pp_cons] at q ⊢; rcases q with q | q | q | q | q | q <;> first | (exact Or.inr q) | (exfalso; simp [pp] at q)) ?_ ?_ ?_ ?_ ?_ ?_ ⟨?_, ?_, ?_⟩ (by simp only [pi_if, List.mem_cons, exists_eq_or_imp]; simp) ⟨(fun q y hy => by (try simp only [List.mem_cons] at hy); (rcases hy with rfl | rfl | rfl | rfl | rfl | hy) <;> first | (exact q _ (List.mem_cons_of_mem _ hy)) | (have := q _ List.mem_cons_self; dsimp only at this ⊢; omega)), (fun q y hy => by (try simp only [List.mem_cons] at hy); (rcases hy with rfl | rfl | rfl | rfl | rfl | hy) <;> first | (exact q _ (List.mem_cons_of_mem _ hy)) | (have := q _ List.mem_cons_self; dsimp only at this ⊢; omega))⟩ ?_ ?_ ⟨fun e => absurd e (by dsimp only; omega), fun e => absurd e (by dsimp only; omega), fun _ y z e => by cases e; intro q; exact absurd q (by dsimp only; omega), fun e => absurd e (by dsimp only; omega)⟩ ?_ (by (try unfold mo_L); (try unfold mo_E); (try unfold mo_tk); (repeat (refine ag_up rfl ?_)); exact ag_refl)
  · show (h 0 18) + 1 = _; (try simp only [pk_sum]); omega
  · show (h 0 113) + 1 + _ < 5 * ((h 0 7) + 1); (try simp only [pk_sum]); omega
  · show (h 0 95) + _ < (h 0 7) + 1; (try simp only [pk_sum]); omega
  · show (h 0 7) ≤ (h 0 7) + 1; omega
  · show (h 0 84) = _; (try simp only [pk_sum]); omega
  · show (h 0 87) = _; (try simp only [pk_sum]); omega
  · show ph = 1 ∨ (h 0 79) ≤ (h 0 77); omega
  · show ph = 1 ∨ (h 0 77) ≤ 10; omega
  · intro q; show ph = 1 ∨ (h 0 77) ≤ 9; refine b4 (fun z => q ?_); intro y hy; simp only [List.mem_cons] at hy; rcases hy with rfl | rfl | rfl | rfl | rfl | hy
    · show (1 : Int) ≠ 17; decide
    · show (37 : Int) ≠ 17; decide
    · show (27 : Int) ≠ 17; decide
    · show (30 : Int) ≠ 17; decide
    · show (15 : Int) ≠ 17; decide
    · exact z y (List.mem_cons_of_mem _ hy)
  · unfold pw; rw [ho, hA, hBB, mo_xw, mo_xw, mo_xw, mo_xn', mo_xn', mo_xn']; exact ⟨⟨by decide, by decide⟩, ⟨by omega, by omega⟩, ⟨by omega, by omega, by omega⟩, by omega, (show (0 : Int) ≤ ht (h 0 113).toNat by omega), fun z => absurd z (by decide), fun _ => ⟨(show (0 : Int) = ht (h 0 113).toNat + 0 by omega), (show r + 8 * tu = rg (h 0 113).toNat + 8 * 0 by omega), Or.inr rfl, fun z => absurd rfl z⟩, fun z => absurd z (by decide), fun _ => (show ht (h 0 113).toNat = 0 by omega), fun z => absurd z (by unfold pw_jmp; decide), fun z => absurd z (by decide), fun z => absurd z (by decide), fun z => absurd z (by decide), fun z => absurd z (by decide), fun z => absurd z (by decide), fun z => ⟨⟨by omega, by omega, fun z => absurd z (by decide)⟩, by first | decide | (exfalso; omega)⟩⟩
  · exact ⟨⟨⟨by (try simp only [pk_sum]); omega, by (try simp only [pk_sum]); omega⟩, (fun p q => absurd q (by simp [pp]))⟩, ⟨by (try simp only [pk_sum, List.length_cons]); (try dsimp only); omega, (by intro y z e; cases e; dsimp only; omega)⟩, (show pt_ok ((mo_L (mo_L (mo_L (mo_tk (mo_E (mo_L (mo_L (ja_up (h) 0 18 ((h 0 18) + 1)) 15 0 0 0) 30 0 0 0) 25 0 0)) 27 0 0 0) 37 59 0 0) 1 0 0 0) 74) (mo_x ht (h 0 113) (0)) (mo_x st (h 0 113) (1)) (mo_x rg (h 0 113) (r + 8 * tu)) ((h 0 113) + 1) (h 0 88) ((h 0 77)) r (pi_wn h r) (1, 0, 0) ((37, 59, 0) :: (27, 0, 0) :: (30, 0, 0) :: (15, 0, 0) :: s) (0 - 0) ((h 0 109)) (1) (tu) from by unfold pt_ok; (try dsimp only); (try simp only [pk_sum]); exact ⟨⟨by omega, by omega, by omega, by omega⟩, by omega, by omega, ⟨by first | omega | simp, by omega, by omega⟩, fun _ => by first | omega | trivial | (simp only [true_and, and_true]; omega), fun z => absurd z (by omega), fun z => absurd z (by omega), fun z => absurd z (by omega), fun z => absurd z (by omega), fun z => absurd z (by omega), fun z => absurd z (by omega), fun z => absurd z (by omega), fun z => absurd z (by omega), fun z => absurd z (by omega), fun z => absurd z (by omega), fun z => absurd z (by omega), fun z => absurd z (by omega), fun z => absurd z (by omega), fun z => absurd z (by omega), fun z => absurd z (by omega), fun z => absurd z (by omega), fun z => absurd z (by omega), fun z => absurd z (by omega), fun z => absurd z (by omega), fun z => absurd z (by omega), fun z => absurd z (by omega), fun z => absurd z (by omega), fun z => absurd z (by omega), fun z => absurd z (by omega), fun z => absurd z (by omega), fun z => absurd z (by omega), fun z => absurd z (by omega)⟩), ⟨⟨⟨by (try simp only [pk_sum]); omega, by (try simp only [pk_sum]); omega⟩, (fun p q => absurd q (by simp [pp]))⟩, ⟨by (try simp only [pk_sum, List.length_cons]); (try dsimp only); omega, (by intro y z e; cases e; dsimp only; omega)⟩, (show pt_ok ((mo_L (mo_L (mo_L (mo_tk (mo_E (mo_L (mo_L (ja_up (h) 0 18 ((h 0 18) + 1)) 15 0 0 0) 30 0 0 0) 25 0 0)) 27 0 0 0) 37 59 0 0) 1 0 0 0) 74) (mo_x ht (h 0 113) (0)) (mo_x st (h 0 113) (1)) (mo_x rg (h 0 113) (r + 8 * tu)) ((h 0 113) + 1) (h 0 88) ((h 0 77)) r (pi_wn h r) (37, 59, 0) ((27, 0, 0) :: (30, 0, 0) :: (15, 0, 0) :: s) (0 - 0 + 1) ((h 0 109)) (1) (tu) from by unfold pt_ok; (try dsimp only); (try simp only [pk_sum]); exact ⟨⟨by omega, by omega, by omega, by omega⟩, by omega, by omega, ⟨by first | omega | simp, by omega, by omega⟩, fun z => absurd z (by omega), fun z => absurd z (by omega), fun z => absurd z (by omega), fun z => absurd z (by omega), fun z => absurd z (by omega), fun z => absurd z (by omega), fun z => absurd z (by omega), fun z => absurd z (by omega), fun z => absurd z (by omega), fun z => absurd z (by omega), fun z => absurd z (by omega), fun z => absurd z (by omega), fun z => absurd z (by omega), fun z => absurd z (by omega), fun z => absurd z (by omega), fun z => absurd z (by omega), fun z => absurd z (by omega), fun z => absurd z (by omega), fun z => absurd z (by omega), fun z => absurd z (by omega), fun z => absurd z (by omega), fun z => absurd z (by omega), fun z => absurd z (by omega), fun z => absurd z (by omega), fun z => absurd z (by omega), fun z => absurd z (by omega), fun z => absurd z (by omega), fun z => absurd z (by omega)⟩), ⟨⟨⟨by (try simp only [pk_sum]); omega, by (try simp only [pk_sum]); omega⟩, (fun p q => absurd q (by simp [pp]))⟩, ⟨by (try simp only [pk_sum, List.length_cons]); (try dsimp only); omega, (by intro y z e; cases e; dsimp only; omega)⟩, (show pt_ok ((mo_L (mo_L (mo_L (mo_tk (mo_E (mo_L (mo_L (ja_up (h) 0 18 ((h 0 18) + 1)) 15 0 0 0) 30 0 0 0) 25 0 0)) 27 0 0 0) 37 59 0 0) 1 0 0 0) 74) (mo_x ht (h 0 113) (0)) (mo_x st (h 0 113) (1)) (mo_x rg (h 0 113) (r + 8 * tu)) ((h 0 113) + 1) (h 0 88) ((h 0 77)) r (pi_wn h r) (27, 0, 0) ((30, 0, 0) :: (15, 0, 0) :: s) (0 - 0 + 1) ((h 0 109)) (1) (tu) from by unfold pt_ok; (try dsimp only); (try simp only [pk_sum]); exact ⟨⟨by omega, by omega, by omega, by omega⟩, by omega, by omega, ⟨by first | omega | simp, by omega, by omega⟩, fun z => absurd z (by omega), fun z => absurd z (by omega), fun z => absurd z (by omega), fun z => absurd z (by omega), fun z => absurd z (by omega), fun z => absurd z (by omega), fun z => absurd z (by omega), fun z => absurd z (by omega), fun z => absurd z (by omega), fun z => absurd z (by omega), fun z => absurd z (by omega), fun z => absurd z (by omega), fun z => absurd z (by omega), fun z => absurd z (by omega), fun _ => ⟨by first | trivial | omega, by first | trivial | omega, ((pt_let_cons (show (30 : Int) ≠ 17 by decide)).mpr ((pt_let_cons (show (15 : Int) ≠ 17 by decide)).mpr xo14.2.2))⟩, fun z => absurd z (by omega), fun z => absurd z (by omega), fun z => absurd z (by omega), fun z => absurd z (by omega), fun z => absurd z (by omega), fun z => absurd z (by omega), fun z => absurd z (by omega), fun z => absurd z (by omega), fun z => absurd z (by omega), fun z => absurd z (by omega), fun z => absurd z (by omega), fun z => absurd z (by omega), fun z => absurd z (by omega)⟩), ⟨⟨⟨by (try simp only [pk_sum]); omega, by (try simp only [pk_sum]); omega⟩, (fun p q => absurd q (by simp [pp]))⟩, ⟨by (try simp only [pk_sum, List.length_cons]); (try dsimp only); omega, (by intro y z e; cases e; dsimp only; omega)⟩, (show pt_ok ((mo_L (mo_L (mo_L (mo_tk (mo_E (mo_L (mo_L (ja_up (h) 0 18 ((h 0 18) + 1)) 15 0 0 0) 30 0 0 0) 25 0 0)) 27 0 0 0) 37 59 0 0) 1 0 0 0) 74) (mo_x ht (h 0 113) (0)) (mo_x st (h 0 113) (1)) (mo_x rg (h 0 113) (r + 8 * tu)) ((h 0 113) + 1) (h 0 88) ((h 0 77)) r (pi_wn h r) (30, 0, 0) ((15, 0, 0) :: s) (0) ((h 0 109)) (0) (tu) from by unfold pt_ok; (try dsimp only); (try simp only [pk_sum]); exact ⟨⟨by omega, by omega, by omega, by omega⟩, by omega, by omega, ⟨by first | omega | simp, by omega, by omega⟩, fun z => absurd z (by omega), fun z => absurd z (by omega), fun z => absurd z (by omega), fun z => absurd z (by omega), fun z => absurd z (by omega), fun z => absurd z (by omega), fun z => absurd z (by omega), fun z => absurd z (by omega), fun z => absurd z (by omega), fun z => absurd z (by omega), fun z => absurd z (by omega), fun z => absurd z (by omega), fun _ => ⟨by first | trivial | omega, by first | trivial | omega, ((pt_let_cons (show (15 : Int) ≠ 17 by decide)).mpr xo14.2.2)⟩, fun z => absurd z (by omega), fun z => absurd z (by omega), fun z => absurd z (by omega), fun z => absurd z (by omega), fun z => absurd z (by omega), fun z => absurd z (by omega), fun z => absurd z (by omega), fun z => absurd z (by omega), fun z => absurd z (by omega), fun z => absurd z (by omega), fun z => absurd z (by omega), fun z => absurd z (by omega), fun z => absurd z (by omega), fun z => absurd z (by omega), fun z => absurd z (by omega)⟩), ⟨⟨⟨by (try simp only [pk_sum]); omega, by (try simp only [pk_sum]); omega⟩, (fun p q => absurd q (by simp [pp]))⟩, ⟨by (try simp only [pk_sum, List.length_cons]); (try dsimp only); omega, (by intro y z e; have q := p2' y z e; dsimp only at q ⊢; omega)⟩, (show pt_ok ((mo_L (mo_L (mo_L (mo_tk (mo_E (mo_L (mo_L (ja_up (h) 0 18 ((h 0 18) + 1)) 15 0 0 0) 30 0 0 0) 25 0 0)) 27 0 0 0) 37 59 0 0) 1 0 0 0) 74) (mo_x ht (h 0 113) (0)) (mo_x st (h 0 113) (1)) (mo_x rg (h 0 113) (r + 8 * tu)) ((h 0 113) + 1) (h 0 88) ((h 0 77)) r (pi_wn h r) (15, 0, 0) (s) (0) ((h 0 109)) (0) (tu) from by unfold pt_ok; (try dsimp only); (try simp only [pk_sum]); exact ⟨⟨by omega, by omega, by omega, by omega⟩, by omega, by omega, ⟨by first | omega | simp, by omega, by omega⟩, fun z => absurd z (by omega), fun z => absurd z (by omega), fun z => absurd z (by omega), fun z => absurd z (by omega), fun z => absurd z (by omega), fun z => absurd z (by omega), fun z => absurd z (by omega), fun z => absurd z (by omega), fun z => absurd z (by omega), fun z => absurd z (by omega), fun z => absurd z (by omega), fun z => absurd z (by omega), fun _ => ⟨by first | trivial | omega, by first | trivial | omega, xo14.2.2⟩, fun z => absurd z (by omega), fun z => absurd z (by omega), fun z => absurd z (by omega), fun z => absurd z (by omega), fun z => absurd z (by omega), fun z => absurd z (by omega), fun z => absurd z (by omega), fun z => absurd z (by omega), fun z => absurd z (by omega), fun z => absurd z (by omega), fun z => absurd z (by omega), fun z => absurd z (by omega), fun z => absurd z (by omega), fun z => absurd z (by omega), fun z => absurd z (by omega)⟩), (pt_eq (show _ = 0 by omega) (show _ = (h 0 109) by omega) (show _ = 0 by omega) (pt_ext (show (h 0 113) ≤ (h 0 113) + 1 by omega) (Int.le_refl _) (show (h 0 77) ≤ (h 0 77) by omega) (fun _ q => q) hext p4))⟩⟩⟩⟩⟩
  · show 40 * (900 - ((h 0 7) + 1)) + pk_sum pk_m ((1, 0, 0) :: (37, 59, 0) :: (27, 0, 0) :: (30, 0, 0) :: (15, 0, 0) :: s) + 13 < 40 * (900 - (h 0 7)) + pk_sum pk_m ((15, a, b) :: s) + 13; (try simp only [pk_sum]); omega

theorem ab_st_ev {h : ja_H} {R r ph q0 : Int} {tf : mo_TF} {s : List mo_A} {ht st rg : Nat → Int} {tu a b : Int} (g : mo_G Zz h) (hS : pk_S h (h 0 17).toNat s) (hB : piB h R r ph tf q0 ((15, a, b) :: s) ht st rg tu)  : pi_done h (mo_L (mo_L (mo_E (mo_L (mo_L (ja_up (h) 0 18 ((h 0 18) + 1)) 15 0 0 0) 30 0 0 0) 25 0 0) 18 0 0 0) 1 0 0 0) R r ph tf q0 (pi_mu h ((15, a, b) :: s)) := by
  have hN := piB_num g hS hB
  obtain ⟨N1, N2, N3, N4, N5, N6, N7, N8, N9, N10, N11, N12, N13, ⟨NK1, NK2⟩, ND1, ND2, ND3, NU1, NU2⟩ := hN
  obtain ⟨⟨n1, n2, n3, n4, n5, n6, n7, n8, n9⟩, ⟨b1, b2, b3, b4⟩, reg, hpt, ⟨hC, hU⟩, hNo, hP, hT, top⟩ := id hB
  obtain ⟨⟨⟨p1, p1'⟩, p1u⟩, ⟨p2, p2'⟩, p3, p4⟩ := hpt
  have w0 := (gF_wTop g).1
  simp only [pk_sum] at n1 n2 n3 n6 n7
  dsimp only at p2 p2' N6
  have ec1 : pk_c 1 = 0 := rfl
  have ev1 : pk_v 1 = (-4) := rfl
  have ed1 : pk_d 1 = 0 := rfl
  have eq1 : pk_q 1 = 0 := rfl
  have ef1 : pk_f 1 = 0 := rfl
  have em1 : pk_m 1 = (-10) := rfl
  have eoff1 : pk_off 1 = 7 := rfl
  have ek1 : pk_k r 1 = 0 := rfl
  have ec15 : pk_c 15 = 0 := rfl
  have ev15 : pk_v 15 = 0 := rfl
  have ed15 : pk_d 15 = 0 := rfl
  have eq15 : pk_q 15 = 0 := rfl
  have ef15 : pk_f 15 = 0 := rfl
  have em15 : pk_m 15 = 1 := rfl
  have eoff15 : pk_off 15 = 5 := rfl
  have ek15 : pk_k r 15 = 0 := rfl
  have ec18 : pk_c 18 = 0 := rfl
  have ev18 : pk_v 18 = 1 := rfl
  have ed18 : pk_d 18 = 0 := rfl
  have eq18 : pk_q 18 = 0 := rfl
  have ef18 : pk_f 18 = 0 := rfl
  have em18 : pk_m 18 = 1 := rfl
  have eoff18 : pk_off 18 = 1 := rfl
  have ek18 : pk_k r 18 = 0 := rfl
  have ec30 : pk_c 30 = 1 := rfl
  have ev30 : pk_v 30 = 0 := rfl
  have ed30 : pk_d 30 = 0 := rfl
  have eq30 : pk_q 30 = 0 := rfl
  have ef30 : pk_f 30 = 0 := rfl
  have em30 : pk_m 30 = 1 := rfl
  have eoff30 : pk_off 30 = 6 := rfl
  have ek30 : pk_k r 30 = pk_D r := rfl
  replace p3 : pt_ok (h 74) ht st rg (h 0 113) (h 0 88) (h 0 77) r (pi_wn h r) (15, a, b) s (ht (h 0 113).toNat - 0) (h 0 109) (st (h 0 113).toNat) tu := p3
  unfold pt_ok at p3; dsimp only at p3
  replace p4 : pt (h 74) ht st rg (h 0 113) (h 0 88) (h 0 77) r tf (pi_wn h r) s (0) ((h 0 109)) (st (h 0 113).toNat) (tu) := p4
  obtain ⟨-, xc, xt, ⟨xe, xu1, xu2⟩, -, -, -, -, -, -, -, -, -, -, -, -, xo14, -, -, -, -, -, -, -, -, -, -, -, -, -, -, -⟩ := p3
  replace xo14 := xo14 (by omega)
  have xq1o14 := xo14.1
  have xq2o14 := xo14.2.1
  have hr := reg_of hB (by dsimp only; omega) (by dsimp only; omega)
  have hbo := gF_body g
  have w0 := (gF_wTop g).1
  have W0 : 0 ≤ (h 0 113) := (gF_words g).1
  have hr4 : 0 ≤ r ∧ r ≤ 3 ∧ (r = 4 → tu = 0) := by
    rcases reg with ⟨q1, q2, -⟩ | ⟨q1, q2, q3, -⟩
    · omega
    · have := q3 _ List.mem_cons_self; dsimp only at this; omega
  have ho : (mo_L (mo_L (mo_E (mo_L (mo_L (ja_up (h) 0 18 ((h 0 18) + 1)) 15 0 0 0) 30 0 0 0) 25 0 0) 18 0 0 0) 1 0 0 0) 74 (h 0 113).toNat = 25 := by simp [mo_L, mo_E, mo_tk, ja_up]
  have hA : (mo_L (mo_L (mo_E (mo_L (mo_L (ja_up (h) 0 18 ((h 0 18) + 1)) 15 0 0 0) 30 0 0 0) 25 0 0) 18 0 0 0) 1 0 0 0) 75 (h 0 113).toNat = 0 := by simp [mo_L, mo_E, mo_tk, ja_up]
  have hBB : (mo_L (mo_L (mo_E (mo_L (mo_L (ja_up (h) 0 18 ((h 0 18) + 1)) 15 0 0 0) 30 0 0 0) 25 0 0) 18 0 0 0) 1 0 0 0) 76 (h 0 113).toNat = 0 := by simp [mo_L, mo_E, mo_tk, ja_up]
  have hold : ∀ w : Nat, (w : Int) < (h 0 113) → (mo_L (mo_L (mo_E (mo_L (mo_L (ja_up (h) 0 18 ((h 0 18) + 1)) 15 0 0 0) 30 0 0 0) 25 0 0) 18 0 0 0) 1 0 0 0) 74 w = (h 74) w ∧ (mo_L (mo_L (mo_E (mo_L (mo_L (ja_up (h) 0 18 ((h 0 18) + 1)) 15 0 0 0) 30 0 0 0) 25 0 0) 18 0 0 0) 1 0 0 0) 75 w = (h 75) w ∧ (mo_L (mo_L (mo_E (mo_L (mo_L (ja_up (h) 0 18 ((h 0 18) + 1)) 15 0 0 0) 30 0 0 0) 25 0 0) 18 0 0 0) 1 0 0 0) 76 w = (h 76) w := by
    intro w hw; refine ⟨?_, ?_, ?_⟩ <;> simp [mo_L, mo_E, mo_tk, ja_up] <;> (intros; omega)
  have hext : ∀ j : Nat, (j : Int) ≤ (h 0 113) → ((j : Int) < (h 0 113) → (mo_L (mo_L (mo_E (mo_L (mo_L (ja_up (h) 0 18 ((h 0 18) + 1)) 15 0 0 0) 30 0 0 0) 25 0 0) 18 0 0 0) 1 0 0 0) 74 j = (h 74) j) ∧ mo_x ht (h 0 113) (0) j = ht j ∧ mo_x st (h 0 113) (1) j = st j ∧ mo_x rg (h 0 113) (r + 8 * tu) j = rg j := fun j hj => ⟨fun q => (hold j q).1, mo_xo W0 (by omega), mo_xo W0 (by omega), mo_xo W0 (by omega)⟩
  refine fin1 (c1 := 0) (e1 := 1) (tu1 := tu) (Or.inl rfl) g hB (by dsimp only; omega) (pk_S_L (show 0 ≤ (h 0 17) + 1 + 1 + 1 by omega) (pk_S_L (show 0 ≤ (h 0 17) + 1 + 1 by omega) (pk_S_E (pk_S_L (show 0 ≤ (h 0 17) + 1 by omega) (pk_S_L (show 0 ≤ (h 0 17) by omega) (pk_S_ag (ag_up rfl ag_refl) hS)))))) (by (try unfold mo_L); (try unfold mo_E); (try unfold mo_tk); (repeat (refine ag_up rfl ?_)); exact ag_refl) rfl hold (by rw [ho]; decide) (idle_of (show (15 : Int) ≠ 4 ∧ (15 : Int) ≠ 21 ∧ (15 : Int) ≠ 22 ∧ (15 : Int) ≠ 28 ∧ (15 : Int) ≠ 24 by decide)) (fun _ q => List.mem_cons_of_mem _ (List.mem_cons_of_mem _ (List.mem_cons_of_mem _ (List.mem_cons_of_mem _ (q))))) (fun p q => by simp only [pp_cons] at q ⊢; rcases q with q | q | q | q | q <;> first | (exact Or.inr q) | (exfalso; simp [pp] at q)) ?_ ?_ ?_ ?_ ?_ ?_ ⟨?_, ?_, ?_⟩ (by simp only [pi_if, List.mem_cons, exists_eq_or_imp]; simp) ⟨(fun q y hy => by (try simp only [List.mem_cons] at hy); (rcases hy with rfl | rfl | rfl | rfl | hy) <;> first | (exact q _ (List.mem_cons_of_mem _ hy)) | (have := q _ List.mem_cons_self; dsimp only at this ⊢; omega)), (fun q y hy => by (try simp only [List.mem_cons] at hy); (rcases hy with rfl | rfl | rfl | rfl | hy) <;> first | (exact q _ (List.mem_cons_of_mem _ hy)) | (have := q _ List.mem_cons_self; dsimp only at this ⊢; omega))⟩ ?_ ?_ ⟨fun e => absurd e (by dsimp only; omega), fun e => absurd e (by dsimp only; omega), fun _ y z e => by cases e; intro q; exact absurd q (by dsimp only; omega), fun e => absurd e (by dsimp only; omega)⟩ ?_ (by (try unfold mo_L); (try unfold mo_E); (try unfold mo_tk); (repeat (refine ag_up rfl ?_)); exact ag_refl)
  · show (h 0 18) + 1 = _; (try simp only [pk_sum]); omega
  · show (h 0 113) + 1 + _ < 5 * ((h 0 7)); (try simp only [pk_sum]); omega
  · show (h 0 95) + _ < (h 0 7); (try simp only [pk_sum]); omega
  · show (h 0 7) ≤ (h 0 7); omega
  · show (h 0 84) = _; (try simp only [pk_sum]); omega
  · show (h 0 87) = _; (try simp only [pk_sum]); omega
  · show ph = 1 ∨ (h 0 79) ≤ (h 0 77); omega
  · show ph = 1 ∨ (h 0 77) ≤ 10; omega
  · intro q; show ph = 1 ∨ (h 0 77) ≤ 9; refine b4 (fun z => q ?_); intro y hy; simp only [List.mem_cons] at hy; rcases hy with rfl | rfl | rfl | rfl | hy
    · show (1 : Int) ≠ 17; decide
    · show (18 : Int) ≠ 17; decide
    · show (30 : Int) ≠ 17; decide
    · show (15 : Int) ≠ 17; decide
    · exact z y (List.mem_cons_of_mem _ hy)
  · unfold pw; rw [ho, hA, hBB, mo_xw, mo_xw, mo_xw, mo_xn', mo_xn', mo_xn']; exact ⟨⟨by decide, by decide⟩, ⟨by omega, by omega⟩, ⟨by omega, by omega, by omega⟩, by omega, (show (0 : Int) ≤ ht (h 0 113).toNat by omega), fun z => absurd z (by decide), fun _ => ⟨(show (0 : Int) = ht (h 0 113).toNat + 0 by omega), (show r + 8 * tu = rg (h 0 113).toNat + 8 * 0 by omega), Or.inr rfl, fun z => absurd rfl z⟩, fun z => absurd z (by decide), fun _ => (show ht (h 0 113).toNat = 0 by omega), fun z => absurd z (by unfold pw_jmp; decide), fun z => absurd z (by decide), fun z => absurd z (by decide), fun z => absurd z (by decide), fun z => absurd z (by decide), fun z => absurd z (by decide), fun z => ⟨⟨by omega, by omega, fun z => absurd z (by decide)⟩, by first | decide | (exfalso; omega)⟩⟩
  · exact ⟨⟨⟨by (try simp only [pk_sum]); omega, by (try simp only [pk_sum]); omega⟩, (fun p q => absurd q (by simp [pp]))⟩, ⟨by (try simp only [pk_sum, List.length_cons]); (try dsimp only); omega, (by intro y z e; cases e; dsimp only; omega)⟩, (show pt_ok ((mo_L (mo_L (mo_E (mo_L (mo_L (ja_up (h) 0 18 ((h 0 18) + 1)) 15 0 0 0) 30 0 0 0) 25 0 0) 18 0 0 0) 1 0 0 0) 74) (mo_x ht (h 0 113) (0)) (mo_x st (h 0 113) (1)) (mo_x rg (h 0 113) (r + 8 * tu)) ((h 0 113) + 1) (h 0 88) ((h 0 77)) r (pi_wn h r) (1, 0, 0) ((18, 0, 0) :: (30, 0, 0) :: (15, 0, 0) :: s) (0 - 0) ((h 0 109)) (1) (tu) from by unfold pt_ok; (try dsimp only); (try simp only [pk_sum]); exact ⟨⟨by omega, by omega, by omega, by omega⟩, by omega, by omega, ⟨by first | omega | simp, by omega, by omega⟩, fun _ => by first | omega | trivial | (simp only [true_and, and_true]; omega), fun z => absurd z (by omega), fun z => absurd z (by omega), fun z => absurd z (by omega), fun z => absurd z (by omega), fun z => absurd z (by omega), fun z => absurd z (by omega), fun z => absurd z (by omega), fun z => absurd z (by omega), fun z => absurd z (by omega), fun z => absurd z (by omega), fun z => absurd z (by omega), fun z => absurd z (by omega), fun z => absurd z (by omega), fun z => absurd z (by omega), fun z => absurd z (by omega), fun z => absurd z (by omega), fun z => absurd z (by omega), fun z => absurd z (by omega), fun z => absurd z (by omega), fun z => absurd z (by omega), fun z => absurd z (by omega), fun z => absurd z (by omega), fun z => absurd z (by omega), fun z => absurd z (by omega), fun z => absurd z (by omega), fun z => absurd z (by omega), fun z => absurd z (by omega)⟩), ⟨⟨⟨by (try simp only [pk_sum]); omega, by (try simp only [pk_sum]); omega⟩, (fun p q => absurd q (by simp [pp]))⟩, ⟨by (try simp only [pk_sum, List.length_cons]); (try dsimp only); omega, (by intro y z e; cases e; dsimp only; omega)⟩, (show pt_ok ((mo_L (mo_L (mo_E (mo_L (mo_L (ja_up (h) 0 18 ((h 0 18) + 1)) 15 0 0 0) 30 0 0 0) 25 0 0) 18 0 0 0) 1 0 0 0) 74) (mo_x ht (h 0 113) (0)) (mo_x st (h 0 113) (1)) (mo_x rg (h 0 113) (r + 8 * tu)) ((h 0 113) + 1) (h 0 88) ((h 0 77)) r (pi_wn h r) (18, 0, 0) ((30, 0, 0) :: (15, 0, 0) :: s) (0 - 0 + 1) ((h 0 109)) (1) (tu) from by unfold pt_ok; (try dsimp only); (try simp only [pk_sum]); exact ⟨⟨by omega, by omega, by omega, by omega⟩, by omega, by omega, ⟨by first | omega | simp, by omega, by omega⟩, fun z => absurd z (by omega), fun z => absurd z (by omega), fun z => absurd z (by omega), fun z => absurd z (by omega), fun z => absurd z (by omega), fun z => absurd z (by omega), fun z => absurd z (by omega), fun z => absurd z (by omega), fun z => absurd z (by omega), fun z => absurd z (by omega), fun z => absurd z (by omega), fun z => absurd z (by omega), fun z => absurd z (by omega), fun z => absurd z (by omega), fun _ => ⟨by first | trivial | omega, by first | trivial | omega, ((pt_let_cons (show (30 : Int) ≠ 17 by decide)).mpr ((pt_let_cons (show (15 : Int) ≠ 17 by decide)).mpr xo14.2.2))⟩, fun z => absurd z (by omega), fun z => absurd z (by omega), fun z => absurd z (by omega), fun z => absurd z (by omega), fun z => absurd z (by omega), fun z => absurd z (by omega), fun z => absurd z (by omega), fun z => absurd z (by omega), fun z => absurd z (by omega), fun z => absurd z (by omega), fun z => absurd z (by omega), fun z => absurd z (by omega), fun _ => by first | omega | trivial | (simp only [true_and, and_true]; omega)⟩), ⟨⟨⟨by (try simp only [pk_sum]); omega, by (try simp only [pk_sum]); omega⟩, (fun p q => absurd q (by simp [pp]))⟩, ⟨by (try simp only [pk_sum, List.length_cons]); (try dsimp only); omega, (by intro y z e; cases e; dsimp only; omega)⟩, (show pt_ok ((mo_L (mo_L (mo_E (mo_L (mo_L (ja_up (h) 0 18 ((h 0 18) + 1)) 15 0 0 0) 30 0 0 0) 25 0 0) 18 0 0 0) 1 0 0 0) 74) (mo_x ht (h 0 113) (0)) (mo_x st (h 0 113) (1)) (mo_x rg (h 0 113) (r + 8 * tu)) ((h 0 113) + 1) (h 0 88) ((h 0 77)) r (pi_wn h r) (30, 0, 0) ((15, 0, 0) :: s) (0) ((h 0 109)) (0) (tu) from by unfold pt_ok; (try dsimp only); (try simp only [pk_sum]); exact ⟨⟨by omega, by omega, by omega, by omega⟩, by omega, by omega, ⟨by first | omega | simp, by omega, by omega⟩, fun z => absurd z (by omega), fun z => absurd z (by omega), fun z => absurd z (by omega), fun z => absurd z (by omega), fun z => absurd z (by omega), fun z => absurd z (by omega), fun z => absurd z (by omega), fun z => absurd z (by omega), fun z => absurd z (by omega), fun z => absurd z (by omega), fun z => absurd z (by omega), fun z => absurd z (by omega), fun _ => ⟨by first | trivial | omega, by first | trivial | omega, ((pt_let_cons (show (15 : Int) ≠ 17 by decide)).mpr xo14.2.2)⟩, fun z => absurd z (by omega), fun z => absurd z (by omega), fun z => absurd z (by omega), fun z => absurd z (by omega), fun z => absurd z (by omega), fun z => absurd z (by omega), fun z => absurd z (by omega), fun z => absurd z (by omega), fun z => absurd z (by omega), fun z => absurd z (by omega), fun z => absurd z (by omega), fun z => absurd z (by omega), fun z => absurd z (by omega), fun z => absurd z (by omega), fun z => absurd z (by omega)⟩), ⟨⟨⟨by (try simp only [pk_sum]); omega, by (try simp only [pk_sum]); omega⟩, (fun p q => absurd q (by simp [pp]))⟩, ⟨by (try simp only [pk_sum, List.length_cons]); (try dsimp only); omega, (by intro y z e; have q := p2' y z e; dsimp only at q ⊢; omega)⟩, (show pt_ok ((mo_L (mo_L (mo_E (mo_L (mo_L (ja_up (h) 0 18 ((h 0 18) + 1)) 15 0 0 0) 30 0 0 0) 25 0 0) 18 0 0 0) 1 0 0 0) 74) (mo_x ht (h 0 113) (0)) (mo_x st (h 0 113) (1)) (mo_x rg (h 0 113) (r + 8 * tu)) ((h 0 113) + 1) (h 0 88) ((h 0 77)) r (pi_wn h r) (15, 0, 0) (s) (0) ((h 0 109)) (0) (tu) from by unfold pt_ok; (try dsimp only); (try simp only [pk_sum]); exact ⟨⟨by omega, by omega, by omega, by omega⟩, by omega, by omega, ⟨by first | omega | simp, by omega, by omega⟩, fun z => absurd z (by omega), fun z => absurd z (by omega), fun z => absurd z (by omega), fun z => absurd z (by omega), fun z => absurd z (by omega), fun z => absurd z (by omega), fun z => absurd z (by omega), fun z => absurd z (by omega), fun z => absurd z (by omega), fun z => absurd z (by omega), fun z => absurd z (by omega), fun z => absurd z (by omega), fun _ => ⟨by first | trivial | omega, by first | trivial | omega, xo14.2.2⟩, fun z => absurd z (by omega), fun z => absurd z (by omega), fun z => absurd z (by omega), fun z => absurd z (by omega), fun z => absurd z (by omega), fun z => absurd z (by omega), fun z => absurd z (by omega), fun z => absurd z (by omega), fun z => absurd z (by omega), fun z => absurd z (by omega), fun z => absurd z (by omega), fun z => absurd z (by omega), fun z => absurd z (by omega), fun z => absurd z (by omega), fun z => absurd z (by omega)⟩), (pt_eq (show _ = 0 by omega) (show _ = (h 0 109) by omega) (show _ = 0 by omega) (pt_ext (show (h 0 113) ≤ (h 0 113) + 1 by omega) (Int.le_refl _) (show (h 0 77) ≤ (h 0 77) by omega) (fun _ q => q) hext p4))⟩⟩⟩⟩
  · show 40 * (900 - ((h 0 7))) + pk_sum pk_m ((1, 0, 0) :: (18, 0, 0) :: (30, 0, 0) :: (15, 0, 0) :: s) + 13 < 40 * (900 - (h 0 7)) + pk_sum pk_m ((15, a, b) :: s) + 13; (try simp only [pk_sum]); omega

theorem ab_od_whole {h : ja_H} {R r ph q0 : Int} {tf : mo_TF} {s : List mo_A} {ht st rg : Nat → Int} {tu a b : Int} (g : mo_G Zz h) (hS : pk_S h (h 0 17).toNat s) (hB : piB h R r ph tf q0 ((6, a, b) :: s) ht st rg tu) {v : Int} : pi_done h (mo_L (mo_tk (mo_E (ja_up (h) 0 19 (0)) 1 v 0)) 7 0 0 0) R r ph tf q0 (pi_mu h ((6, a, b) :: s)) := by
  have hN := piB_num g hS hB
  obtain ⟨N1, N2, N3, N4, N5, N6, N7, N8, N9, N10, N11, N12, N13, ⟨NK1, NK2⟩, ND1, ND2, ND3, NU1, NU2⟩ := hN
  obtain ⟨⟨n1, n2, n3, n4, n5, n6, n7, n8, n9⟩, ⟨b1, b2, b3, b4⟩, reg, hpt, ⟨hC, hU⟩, hNo, hP, hT, top⟩ := id hB
  obtain ⟨⟨⟨p1, p1'⟩, p1u⟩, ⟨p2, p2'⟩, p3, p4⟩ := hpt
  have w0 := (gF_wTop g).1
  simp only [pk_sum] at n1 n2 n3 n6 n7
  dsimp only at p2 p2' N6
  have ec6 : pk_c 6 = 0 := rfl
  have ev6 : pk_v 6 = (-4) := rfl
  have ed6 : pk_d 6 = 0 := rfl
  have eq6 : pk_q 6 = 0 := rfl
  have ef6 : pk_f 6 = 0 := rfl
  have em6 : pk_m 6 = (-12) := rfl
  have eoff6 : pk_off 6 = 2 := rfl
  have ek6 : pk_k r 6 = 0 := rfl
  have ec7 : pk_c 7 = 0 := rfl
  have ev7 : pk_v 7 = 0 := rfl
  have ed7 : pk_d 7 = 0 := rfl
  have eq7 : pk_q 7 = 0 := rfl
  have ef7 : pk_f 7 = 0 := rfl
  have em7 : pk_m 7 = 1 := rfl
  have eoff7 : pk_off 7 = 2 := rfl
  have ek7 : pk_k r 7 = 0 := rfl
  replace p3 : pt_ok (h 74) ht st rg (h 0 113) (h 0 88) (h 0 77) r (pi_wn h r) (6, a, b) s (ht (h 0 113).toNat - 0) (h 0 109) (st (h 0 113).toNat) tu := p3
  unfold pt_ok at p3; dsimp only at p3
  replace p4 : pt (h 74) ht st rg (h 0 113) (h 0 88) (h 0 77) r tf (pi_wn h r) s ((ht (h 0 113).toNat - 0) + 1) ((h 0 109)) (st (h 0 113).toNat) (tu) := p4
  obtain ⟨-, xc, xt, ⟨xe, xu1, xu2⟩, -, -, -, -, -, xo6, -, -, -, -, -, -, -, -, -, -, -, -, -, -, -, -, -, -, -, -, -, -⟩ := p3
  replace xo6 := xo6 (by omega)
  have hr := reg_of hB (by dsimp only; omega) (by dsimp only; omega)
  have hbo := gF_body g
  have w0 := (gF_wTop g).1
  have W0 : 0 ≤ (h 0 113) := (gF_words g).1
  have hr4 : 0 ≤ r ∧ r ≤ 4 ∧ (r = 4 → tu = 0) := by
    rcases reg with ⟨q1, q2, -⟩ | ⟨q1, q2, q3, -⟩
    · omega
    · omega
  have ho : (mo_L (mo_tk (mo_E (ja_up (h) 0 19 (0)) 1 v 0)) 7 0 0 0) 74 (h 0 113).toNat = 1 := by simp [mo_L, mo_E, mo_tk, ja_up]
  have hA : (mo_L (mo_tk (mo_E (ja_up (h) 0 19 (0)) 1 v 0)) 7 0 0 0) 75 (h 0 113).toNat = v := by simp [mo_L, mo_E, mo_tk, ja_up]
  have hBB : (mo_L (mo_tk (mo_E (ja_up (h) 0 19 (0)) 1 v 0)) 7 0 0 0) 76 (h 0 113).toNat = 0 := by simp [mo_L, mo_E, mo_tk, ja_up]
  have hold : ∀ w : Nat, (w : Int) < (h 0 113) → (mo_L (mo_tk (mo_E (ja_up (h) 0 19 (0)) 1 v 0)) 7 0 0 0) 74 w = (h 74) w ∧ (mo_L (mo_tk (mo_E (ja_up (h) 0 19 (0)) 1 v 0)) 7 0 0 0) 75 w = (h 75) w ∧ (mo_L (mo_tk (mo_E (ja_up (h) 0 19 (0)) 1 v 0)) 7 0 0 0) 76 w = (h 76) w := by
    intro w hw; refine ⟨?_, ?_, ?_⟩ <;> simp [mo_L, mo_E, mo_tk, ja_up] <;> (intros; omega)
  have hext : ∀ j : Nat, (j : Int) ≤ (h 0 113) → ((j : Int) < (h 0 113) → (mo_L (mo_tk (mo_E (ja_up (h) 0 19 (0)) 1 v 0)) 7 0 0 0) 74 j = (h 74) j) ∧ mo_x ht (h 0 113) ((ht (h 0 113).toNat + 1)) j = ht j ∧ mo_x st (h 0 113) ((st (h 0 113).toNat)) j = st j ∧ mo_x rg (h 0 113) (r + 8 * tu) j = rg j := fun j hj => ⟨fun q => (hold j q).1, mo_xo W0 (by omega), mo_xo W0 (by omega), mo_xo W0 (by omega)⟩
  refine fin1 (c1 := (ht (h 0 113).toNat + 1)) (e1 := (st (h 0 113).toNat)) (tu1 := tu) (Or.inl rfl) g hB (by dsimp only; omega) (pk_S_L (show 0 ≤ (h 0 17) by omega) (pk_S_ag (ag_up rfl ag_refl) (pk_S_E (pk_S_ag (ag_up rfl ag_refl) hS)))) (by (try unfold mo_L); (try unfold mo_E); (try unfold mo_tk); (repeat (refine ag_up rfl ?_)); exact ag_refl) rfl hold (by rw [ho]; decide) (idle_of (show (6 : Int) ≠ 4 ∧ (6 : Int) ≠ 21 ∧ (6 : Int) ≠ 22 ∧ (6 : Int) ≠ 28 ∧ (6 : Int) ≠ 24 by decide)) (fun _ q => List.mem_cons_of_mem _ (q)) (fun p q => by simp only [pp_cons] at q ⊢; rcases q with q | q <;> first | (exact Or.inr q) | (exfalso; simp [pp] at q)) ?_ ?_ ?_ ?_ ?_ ?_ ⟨?_, ?_, ?_⟩ (by simp only [pi_if, List.mem_cons, exists_eq_or_imp]; simp) ⟨(fun q y hy => by (try simp only [List.mem_cons] at hy); (rcases hy with rfl | hy) <;> first | (exact q _ (List.mem_cons_of_mem _ hy)) | (have := q _ List.mem_cons_self; dsimp only at this ⊢; omega)), (fun q y hy => by (try simp only [List.mem_cons] at hy); (rcases hy with rfl | hy) <;> first | (exact q _ (List.mem_cons_of_mem _ hy)) | (have := q _ List.mem_cons_self; dsimp only at this ⊢; omega))⟩ ?_ ?_ ⟨fun _ => form_0 ⟨by show (0 : Int) ≠ 1; decide, by show (0 : Int) ≠ 2; decide⟩, fun e => absurd e (by dsimp only; omega), fun e => absurd e (by dsimp only; omega), fun e => absurd e (by dsimp only; omega)⟩ ?_ (by (try unfold mo_L); (try unfold mo_E); (try unfold mo_tk); (repeat (refine ag_up rfl ?_)); exact ag_refl)
  · show (h 0 18) = _; (try simp only [pk_sum]); omega
  · show (h 0 113) + 1 + _ < 5 * ((h 0 7) + 1); (try simp only [pk_sum]); omega
  · show (h 0 95) + _ < (h 0 7) + 1; (try simp only [pk_sum]); omega
  · show (h 0 7) ≤ (h 0 7) + 1; omega
  · show (h 0 84) = _; (try simp only [pk_sum]); omega
  · show (h 0 87) = _; (try simp only [pk_sum]); omega
  · show ph = 1 ∨ (h 0 79) ≤ (h 0 77); omega
  · show ph = 1 ∨ (h 0 77) ≤ 10; omega
  · intro q; show ph = 1 ∨ (h 0 77) ≤ 9; refine b4 (fun z => q ?_); intro y hy; simp only [List.mem_cons] at hy; rcases hy with rfl | hy
    · show (7 : Int) ≠ 17; decide
    · exact z y (List.mem_cons_of_mem _ hy)
  · unfold pw; rw [ho, hA, hBB, mo_xw, mo_xw, mo_xw, mo_xn', mo_xn', mo_xn']; exact ⟨⟨by decide, by decide⟩, ⟨by omega, by omega⟩, ⟨by omega, by omega, by omega⟩, by omega, (show (0 : Int) ≤ ht (h 0 113).toNat by omega), fun z => absurd z (by decide), fun _ => ⟨(show (ht (h 0 113).toNat + 1) = ht (h 0 113).toNat + (1) by omega), (show r + 8 * tu = rg (h 0 113).toNat + 8 * 0 by omega), by omega, fun _ => by omega⟩, fun z => absurd z (by decide), fun z => absurd z (by decide), fun z => absurd z (by unfold pw_jmp; decide), fun z => absurd z (by decide), fun z => absurd z (by decide), fun z => absurd z (by decide), fun z => absurd z (by decide), fun z => absurd z (by decide), fun z => ⟨⟨by omega, by omega, fun z => absurd z (by decide)⟩, by first | decide | (exfalso; omega)⟩⟩
  · exact ⟨⟨⟨by (try simp only [pk_sum]); omega, by (try simp only [pk_sum]); omega⟩, (fun p q => absurd q (by simp [pp]))⟩, ⟨by (try simp only [pk_sum, List.length_cons]); (try dsimp only); omega, (by intro y z e; have q := p2' y z e; dsimp only at q ⊢; omega)⟩, (show pt_ok ((mo_L (mo_tk (mo_E (ja_up (h) 0 19 (0)) 1 v 0)) 7 0 0 0) 74) (mo_x ht (h 0 113) ((ht (h 0 113).toNat + 1))) (mo_x st (h 0 113) ((st (h 0 113).toNat))) (mo_x rg (h 0 113) (r + 8 * tu)) ((h 0 113) + 1) (h 0 88) ((h 0 77)) r (pi_wn h r) (7, 0, 0) (s) ((ht (h 0 113).toNat + 1) - 0) ((h 0 109)) ((st (h 0 113).toNat)) (tu) from by unfold pt_ok; (try dsimp only); (try simp only [pk_sum]); exact ⟨⟨by omega, by omega, by omega, by omega⟩, by omega, by omega, ⟨by first | omega | simp, by omega, by omega⟩, fun z => absurd z (by omega), fun z => absurd z (by omega), fun z => absurd z (by omega), fun z => absurd z (by omega), fun z => absurd z (by omega), fun z => absurd z (by omega), fun _ => by first | omega | trivial | (simp only [true_and, and_true]; omega), fun z => absurd z (by omega), fun z => absurd z (by omega), fun z => absurd z (by omega), fun z => absurd z (by omega), fun z => absurd z (by omega), fun z => absurd z (by omega), fun z => absurd z (by omega), fun z => absurd z (by omega), fun z => absurd z (by omega), fun z => absurd z (by omega), fun z => absurd z (by omega), fun z => absurd z (by omega), fun z => absurd z (by omega), fun z => absurd z (by omega), fun z => absurd z (by omega), fun z => absurd z (by omega), fun z => absurd z (by omega), fun z => absurd z (by omega), fun z => absurd z (by omega), fun z => absurd z (by omega), fun z => absurd z (by omega)⟩), (pt_eq (show _ = (ht (h 0 113).toNat + 1) - 0 by omega) (show _ = (h 0 109) by omega) (show _ = (st (h 0 113).toNat) by omega) (pt_ext (show (h 0 113) ≤ (h 0 113) + 1 by omega) (Int.le_refl _) (show (h 0 77) ≤ (h 0 77) by omega) (fun _ q => q) hext p4))⟩
  · show 40 * (900 - ((h 0 7) + 1)) + pk_sum pk_m ((7, 0, 0) :: s) + 13 < 40 * (900 - (h 0 7)) + pk_sum pk_m ((6, a, b) :: s) + 13; (try simp only [pk_sum]); omega

theorem ab_od_none {h : ja_H} {R r ph q0 : Int} {tf : mo_TF} {s : List mo_A} {ht st rg : Nat → Int} {tu a b : Int} (g : mo_G Zz h) (hS : pk_S h (h 0 17).toNat s) (hB : piB h R r ph tf q0 ((6, a, b) :: s) ht st rg tu) {v : Int} : pi_done h (mo_L (mo_tk (mo_E (ja_up (h) 0 19 (0)) 2 0 0)) 7 0 0 0) R r ph tf q0 (pi_mu h ((6, a, b) :: s)) := by
  have hN := piB_num g hS hB
  obtain ⟨N1, N2, N3, N4, N5, N6, N7, N8, N9, N10, N11, N12, N13, ⟨NK1, NK2⟩, ND1, ND2, ND3, NU1, NU2⟩ := hN
  obtain ⟨⟨n1, n2, n3, n4, n5, n6, n7, n8, n9⟩, ⟨b1, b2, b3, b4⟩, reg, hpt, ⟨hC, hU⟩, hNo, hP, hT, top⟩ := id hB
  obtain ⟨⟨⟨p1, p1'⟩, p1u⟩, ⟨p2, p2'⟩, p3, p4⟩ := hpt
  have w0 := (gF_wTop g).1
  simp only [pk_sum] at n1 n2 n3 n6 n7
  dsimp only at p2 p2' N6
  have ec6 : pk_c 6 = 0 := rfl
  have ev6 : pk_v 6 = (-4) := rfl
  have ed6 : pk_d 6 = 0 := rfl
  have eq6 : pk_q 6 = 0 := rfl
  have ef6 : pk_f 6 = 0 := rfl
  have em6 : pk_m 6 = (-12) := rfl
  have eoff6 : pk_off 6 = 2 := rfl
  have ek6 : pk_k r 6 = 0 := rfl
  have ec7 : pk_c 7 = 0 := rfl
  have ev7 : pk_v 7 = 0 := rfl
  have ed7 : pk_d 7 = 0 := rfl
  have eq7 : pk_q 7 = 0 := rfl
  have ef7 : pk_f 7 = 0 := rfl
  have em7 : pk_m 7 = 1 := rfl
  have eoff7 : pk_off 7 = 2 := rfl
  have ek7 : pk_k r 7 = 0 := rfl
  replace p3 : pt_ok (h 74) ht st rg (h 0 113) (h 0 88) (h 0 77) r (pi_wn h r) (6, a, b) s (ht (h 0 113).toNat - 0) (h 0 109) (st (h 0 113).toNat) tu := p3
  unfold pt_ok at p3; dsimp only at p3
  replace p4 : pt (h 74) ht st rg (h 0 113) (h 0 88) (h 0 77) r tf (pi_wn h r) s ((ht (h 0 113).toNat - 0) + 1) ((h 0 109)) (st (h 0 113).toNat) (tu) := p4
  obtain ⟨-, xc, xt, ⟨xe, xu1, xu2⟩, -, -, -, -, -, xo6, -, -, -, -, -, -, -, -, -, -, -, -, -, -, -, -, -, -, -, -, -, -⟩ := p3
  replace xo6 := xo6 (by omega)
  have hr := reg_of hB (by dsimp only; omega) (by dsimp only; omega)
  have hbo := gF_body g
  have w0 := (gF_wTop g).1
  have W0 : 0 ≤ (h 0 113) := (gF_words g).1
  have hr4 : 0 ≤ r ∧ r ≤ 4 ∧ (r = 4 → tu = 0) := by
    rcases reg with ⟨q1, q2, -⟩ | ⟨q1, q2, q3, -⟩
    · omega
    · omega
  have ho : (mo_L (mo_tk (mo_E (ja_up (h) 0 19 (0)) 2 0 0)) 7 0 0 0) 74 (h 0 113).toNat = 2 := by simp [mo_L, mo_E, mo_tk, ja_up]
  have hA : (mo_L (mo_tk (mo_E (ja_up (h) 0 19 (0)) 2 0 0)) 7 0 0 0) 75 (h 0 113).toNat = 0 := by simp [mo_L, mo_E, mo_tk, ja_up]
  have hBB : (mo_L (mo_tk (mo_E (ja_up (h) 0 19 (0)) 2 0 0)) 7 0 0 0) 76 (h 0 113).toNat = 0 := by simp [mo_L, mo_E, mo_tk, ja_up]
  have hold : ∀ w : Nat, (w : Int) < (h 0 113) → (mo_L (mo_tk (mo_E (ja_up (h) 0 19 (0)) 2 0 0)) 7 0 0 0) 74 w = (h 74) w ∧ (mo_L (mo_tk (mo_E (ja_up (h) 0 19 (0)) 2 0 0)) 7 0 0 0) 75 w = (h 75) w ∧ (mo_L (mo_tk (mo_E (ja_up (h) 0 19 (0)) 2 0 0)) 7 0 0 0) 76 w = (h 76) w := by
    intro w hw; refine ⟨?_, ?_, ?_⟩ <;> simp [mo_L, mo_E, mo_tk, ja_up] <;> (intros; omega)
  have hext : ∀ j : Nat, (j : Int) ≤ (h 0 113) → ((j : Int) < (h 0 113) → (mo_L (mo_tk (mo_E (ja_up (h) 0 19 (0)) 2 0 0)) 7 0 0 0) 74 j = (h 74) j) ∧ mo_x ht (h 0 113) ((ht (h 0 113).toNat + 1)) j = ht j ∧ mo_x st (h 0 113) ((st (h 0 113).toNat)) j = st j ∧ mo_x rg (h 0 113) (r + 8 * tu) j = rg j := fun j hj => ⟨fun q => (hold j q).1, mo_xo W0 (by omega), mo_xo W0 (by omega), mo_xo W0 (by omega)⟩
  refine fin1 (c1 := (ht (h 0 113).toNat + 1)) (e1 := (st (h 0 113).toNat)) (tu1 := tu) (Or.inl rfl) g hB (by dsimp only; omega) (pk_S_L (show 0 ≤ (h 0 17) by omega) (pk_S_ag (ag_up rfl ag_refl) (pk_S_E (pk_S_ag (ag_up rfl ag_refl) hS)))) (by (try unfold mo_L); (try unfold mo_E); (try unfold mo_tk); (repeat (refine ag_up rfl ?_)); exact ag_refl) rfl hold (by rw [ho]; decide) (idle_of (show (6 : Int) ≠ 4 ∧ (6 : Int) ≠ 21 ∧ (6 : Int) ≠ 22 ∧ (6 : Int) ≠ 28 ∧ (6 : Int) ≠ 24 by decide)) (fun _ q => List.mem_cons_of_mem _ (q)) (fun p q => by simp only [pp_cons] at q ⊢; rcases q with q | q <;> first | (exact Or.inr q) | (exfalso; simp [pp] at q)) ?_ ?_ ?_ ?_ ?_ ?_ ⟨?_, ?_, ?_⟩ (by simp only [pi_if, List.mem_cons, exists_eq_or_imp]; simp) ⟨(fun q y hy => by (try simp only [List.mem_cons] at hy); (rcases hy with rfl | hy) <;> first | (exact q _ (List.mem_cons_of_mem _ hy)) | (have := q _ List.mem_cons_self; dsimp only at this ⊢; omega)), (fun q y hy => by (try simp only [List.mem_cons] at hy); (rcases hy with rfl | hy) <;> first | (exact q _ (List.mem_cons_of_mem _ hy)) | (have := q _ List.mem_cons_self; dsimp only at this ⊢; omega))⟩ ?_ ?_ ⟨fun _ => form_0 ⟨by show (0 : Int) ≠ 1; decide, by show (0 : Int) ≠ 2; decide⟩, fun e => absurd e (by dsimp only; omega), fun e => absurd e (by dsimp only; omega), fun e => absurd e (by dsimp only; omega)⟩ ?_ (by (try unfold mo_L); (try unfold mo_E); (try unfold mo_tk); (repeat (refine ag_up rfl ?_)); exact ag_refl)
  · show (h 0 18) = _; (try simp only [pk_sum]); omega
  · show (h 0 113) + 1 + _ < 5 * ((h 0 7) + 1); (try simp only [pk_sum]); omega
  · show (h 0 95) + _ < (h 0 7) + 1; (try simp only [pk_sum]); omega
  · show (h 0 7) ≤ (h 0 7) + 1; omega
  · show (h 0 84) = _; (try simp only [pk_sum]); omega
  · show (h 0 87) = _; (try simp only [pk_sum]); omega
  · show ph = 1 ∨ (h 0 79) ≤ (h 0 77); omega
  · show ph = 1 ∨ (h 0 77) ≤ 10; omega
  · intro q; show ph = 1 ∨ (h 0 77) ≤ 9; refine b4 (fun z => q ?_); intro y hy; simp only [List.mem_cons] at hy; rcases hy with rfl | hy
    · show (7 : Int) ≠ 17; decide
    · exact z y (List.mem_cons_of_mem _ hy)
  · unfold pw; rw [ho, hA, hBB, mo_xw, mo_xw, mo_xw, mo_xn', mo_xn', mo_xn']; exact ⟨⟨by decide, by decide⟩, ⟨by omega, by omega⟩, ⟨by omega, by omega, by omega⟩, by omega, (show (0 : Int) ≤ ht (h 0 113).toNat by omega), fun z => absurd z (by decide), fun _ => ⟨(show (ht (h 0 113).toNat + 1) = ht (h 0 113).toNat + (1) by omega), (show r + 8 * tu = rg (h 0 113).toNat + 8 * 0 by omega), by omega, fun _ => by omega⟩, fun z => absurd z (by decide), fun z => absurd z (by decide), fun z => absurd z (by unfold pw_jmp; decide), fun z => absurd z (by decide), fun z => absurd z (by decide), fun z => absurd z (by decide), fun z => absurd z (by decide), fun z => absurd z (by decide), fun z => ⟨⟨by omega, by omega, fun z => absurd z (by decide)⟩, by first | decide | (exfalso; omega)⟩⟩
  · exact ⟨⟨⟨by (try simp only [pk_sum]); omega, by (try simp only [pk_sum]); omega⟩, (fun p q => absurd q (by simp [pp]))⟩, ⟨by (try simp only [pk_sum, List.length_cons]); (try dsimp only); omega, (by intro y z e; have q := p2' y z e; dsimp only at q ⊢; omega)⟩, (show pt_ok ((mo_L (mo_tk (mo_E (ja_up (h) 0 19 (0)) 2 0 0)) 7 0 0 0) 74) (mo_x ht (h 0 113) ((ht (h 0 113).toNat + 1))) (mo_x st (h 0 113) ((st (h 0 113).toNat))) (mo_x rg (h 0 113) (r + 8 * tu)) ((h 0 113) + 1) (h 0 88) ((h 0 77)) r (pi_wn h r) (7, 0, 0) (s) ((ht (h 0 113).toNat + 1) - 0) ((h 0 109)) ((st (h 0 113).toNat)) (tu) from by unfold pt_ok; (try dsimp only); (try simp only [pk_sum]); exact ⟨⟨by omega, by omega, by omega, by omega⟩, by omega, by omega, ⟨by first | omega | simp, by omega, by omega⟩, fun z => absurd z (by omega), fun z => absurd z (by omega), fun z => absurd z (by omega), fun z => absurd z (by omega), fun z => absurd z (by omega), fun z => absurd z (by omega), fun _ => by first | omega | trivial | (simp only [true_and, and_true]; omega), fun z => absurd z (by omega), fun z => absurd z (by omega), fun z => absurd z (by omega), fun z => absurd z (by omega), fun z => absurd z (by omega), fun z => absurd z (by omega), fun z => absurd z (by omega), fun z => absurd z (by omega), fun z => absurd z (by omega), fun z => absurd z (by omega), fun z => absurd z (by omega), fun z => absurd z (by omega), fun z => absurd z (by omega), fun z => absurd z (by omega), fun z => absurd z (by omega), fun z => absurd z (by omega), fun z => absurd z (by omega), fun z => absurd z (by omega), fun z => absurd z (by omega), fun z => absurd z (by omega), fun z => absurd z (by omega)⟩), (pt_eq (show _ = (ht (h 0 113).toNat + 1) - 0 by omega) (show _ = (h 0 109) by omega) (show _ = (st (h 0 113).toNat) by omega) (pt_ext (show (h 0 113) ≤ (h 0 113) + 1 by omega) (Int.le_refl _) (show (h 0 77) ≤ (h 0 77) by omega) (fun _ q => q) hext p4))⟩
  · show 40 * (900 - ((h 0 7) + 1)) + pk_sum pk_m ((7, 0, 0) :: s) + 13 < 40 * (900 - (h 0 7)) + pk_sum pk_m ((6, a, b) :: s) + 13; (try simp only [pk_sum]); omega

theorem arg_le {h : ja_H} {R r ph q0 a b : Int} {tf : mo_TF} {s : List mo_A} {ht st rg : Nat → Int} {tu : Int} (q : piB h R r ph tf q0 ((9, a, b) :: s) ht st rg tu) : 1 ≤ a ∧ a ≤ 6 := by
  obtain ⟨-, -, -, hpt, -, -, -, -, top⟩ := q
  obtain ⟨-, -, q3, -⟩ := hpt
  obtain ⟨-, -, -, -, -, -, -, -, -, -, -, -, i9, -⟩ := q3
  exact ⟨(i9 rfl).2.1, top.2.2.2 rfl⟩