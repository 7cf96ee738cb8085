/-! the reference's parser: the ends of its acts -/
theorem fin_top0 {H : ja_H} {ht : Nat → Int} {x : mo_A} {s : List mo_A} (hl : pt_low x s) (hf : x.1 ≤ 12 ∨ x.1 = 38 → pi_form H ht s) : pi_top H ht s := by
  cases s with
  | nil => trivial
  | cons y z =>
    obtain ⟨l1, l2, -, l4⟩ := hl y z rfl
    exact ⟨fun e => hf (l4 e), fun e => absurd e l2, fun e => absurd e l1⟩
theorem fin_adj {H : ja_H} {x : mo_A} {s : List mo_A} (hl : pt_low x s) (hx : x.1 ≠ 8 ∧ x.1 ≠ 9) : pi_adj H s = 0 := by
  cases s with
  | nil => rfl
  | cons y z =>
    obtain ⟨-, -, l3, -⟩ := hl y z rfl
    unfold pi_adj
    exact if_neg (fun e => by rcases l3 e with e | e; exact hx.1 e; exact hx.2 e)
theorem form_tail {h H : ja_H} {ht : Nat → Int} {x : mo_A} {s : List mo_A} (hx : ∀ w, ¬ pj x w) (e0 : (H 0 113) = (h 0 113)) (e1 : (H 0 19) = (h 0 19)) (e2 : (H 0 20) = (h 0 20)) (f1 : (H 74) = (h 74)) (f2 : (H 75) = (h 75)) (f3 : (H 52) = (h 52)) (f4 : (H 55) = (h 55)) (q : pi_form h ht (x :: s)) : pi_form H ht s := by
  unfold pi_form at q ⊢
  rw [e0, e1, e2, f1, f2, f3, f4]
  refine ⟨q.1, q.2.1, fun z w hw hj => ?_⟩
  rcases q.2.2 z w hw hj with a | a
  · rcases pj_cons.mp a with a | a
    · exact absurd a (hx w)
    · exact Or.inl a
  · exact Or.inr a
theorem form_0 {H : ja_H} {ht : Nat → Int} {s : List mo_A} (e : (H 0 19) ≠ 1 ∧ (H 0 19) ≠ 2) : pi_form H ht s :=
  ⟨fun z => absurd z e.1, fun z => absurd z e.2, fun z => by rcases z with z | z; exact absurd z e.1; exact absurd z e.2⟩
theorem idle_of {a b c : Int} (h : a ≠ 4 ∧ a ≠ 21 ∧ a ≠ 22 ∧ a ≠ 28 ∧ a ≠ 24) (w : Int) : ¬ pj (a, b, c) w := by
  obtain ⟨q1, q2, q3, q4, q5⟩ := h
  rintro (⟨e | e | e | e, -⟩ | ⟨e, -⟩)
  · exact q1 e
  · exact q2 e
  · exact q3 e
  · exact q4 e
  · exact q5 e
theorem pt_eq {op ht st rg : Nat → Int} {W P r tf : Int} {wn : Int → Prop} {s : List mo_A} {c t e c' t' e' : Int} (h1 : c = c') (h2 : t = t') (h3 : e = e') (q : pt op ht st rg W P r tf wn s c t e) : pt op ht st rg W P r tf wn s c' t' e' := by
  subst h1; subst h2; subst h3; exact q

theorem ab_ops_end {h : ja_H} {R r ph tf q0 : Int} {s : List mo_A} {ht st rg : Nat → Int} {a b c : Int} (g : mo_G h) (hS : pk_S h (h 0 17).toNat s) (hB : piB h R r ph tf q0 ((2, a, b) :: s) ht st rg)  : pi_done h (ja_up (h) 0 18 ((h 0 18) - 1)) R r ph tf q0 (pi_mu h ((2, a, b) :: s)) := by
  have hN := piB_num g hS hB
  obtain ⟨N1, N2, N3, N4, N5, N6, N7, N8, N9, N10, N11⟩ := hN
  obtain ⟨⟨n1, n2, n3, n4, n5, n6, n7, n8, n9⟩, ⟨b1, b2, b3, b4⟩, reg, hpt, ⟨hC, hU⟩, hNo, hP, hT, top⟩ := id hB
  obtain ⟨⟨p1, p1'⟩, ⟨p2, p2'⟩, p3, p4⟩ := hpt
  have w0 := (gF_wTop g).1
  simp only [pk_sum] at n1 n2 n3 n6 n7
  dsimp only at p2 p2'
  have ec2 : pk_c 2 = 1 := rfl
  have ev2 : pk_v 2 = 0 := rfl
  have ed2 : pk_d 2 = 0 := rfl
  have eq2 : pk_q 2 = 0 := rfl
  have ef2 : pk_f 2 = 0 := rfl
  have em2 : pk_m 2 = 1 := rfl
  have eoff2 : pk_off 2 = 7 := rfl
  replace p3 : pt_ok (h 74) ht st rg (h 0 113) (h 0 88) r (pi_wn h r) (2, a, b) s ((ht (h 0 113).toNat - 0)) (h 0 109) (st (h 0 113).toNat) := p3
  unfold pt_ok at p3; dsimp only at p3
  replace p4 : pt (h 74) ht st rg (h 0 113) (h 0 88) r tf (pi_wn h r) s ((ht (h 0 113).toNat - 0)) ((h 0 109)) (st (h 0 113).toNat) := p4
  obtain ⟨-, xc, xt, xe, -, xo2, -, -, -, -, -, -, -, -, -, -, -, -, -, -, -, -, -, -, -, -, -, -, -, -, -⟩ := p3
  replace xo2 := xo2 (by omega)
  refine fin0 hB (pk_S_ag (ag_up rfl ag_refl) hS) (by (try unfold mo_L); (try unfold mo_tk); (repeat (refine ag_up rfl ?_)); exact ag_refl) (idle_of (show (2 : Int) ≠ 4 ∧ (2 : Int) ≠ 21 ∧ (2 : Int) ≠ 22 ∧ (2 : Int) ≠ 28 ∧ (2 : Int) ≠ 24 by decide)) (fun _ q => q) (fun p q => pp_cons.mpr (Or.inr q)) ?_ ?_ ?_ ?_ ?_ ?_ ⟨?_, ?_, ?_⟩ (pi_if_tail (show (2 : Int) ≠ 36 by decide)) ?_ (fin_top0 p2' (fun _ => form_tail (idle_of (show (2 : Int) ≠ 4 ∧ (2 : Int) ≠ 21 ∧ (2 : Int) ≠ 22 ∧ (2 : Int) ≠ 28 ∧ (2 : Int) ≠ 24 by decide)) rfl rfl rfl rfl rfl rfl rfl (top.1 (by dsimp only; omega)))) ?_ (by (try unfold mo_L); (try unfold mo_tk); (repeat (refine ag_up rfl ?_)); exact ag_refl)
  · show (h 0 18) - 1 = _; (try simp only [pk_sum]); omega
  · show (h 0 113) + _ ≤ 5 * ((h 0 7)); (try simp only [pk_sum]); omega
  · show (h 0 95) + _ < (h 0 7); (try simp only [pk_sum]); omega
  · show (h 0 7) ≤ (h 0 7); omega
  · show (h 0 84) = _; (try simp only [pk_sum]); omega
  · show (h 0 87) = _; (try simp only [pk_sum]); omega
  · show (h 0 79) ≤ (h 0 77); omega
  · show (h 0 77) ≤ 10; omega
  · intro q; show (h 0 77) ≤ 9; exact b4 (fun z => q (fun y hy => z y (List.mem_cons_of_mem _ hy)))
  · rw [fin_adj p2' (show (2 : Int) ≠ 8 ∧ (2 : Int) ≠ 9 by decide)]; exact pt_eq (by omega) (by omega) (by omega) p4
  · show 40 * (900 - ((h 0 7))) + pk_sum pk_m (s) + 13 < 40 * (900 - (h 0 7)) + pk_sum pk_m ((2, a, b) :: s) + 13; (try simp only [pk_sum]); omega

theorem ab_ops_bin {h : ja_H} {R r ph tf q0 : Int} {s : List mo_A} {ht st rg : Nat → Int} {a b c : Int} (g : mo_G h) (hS : pk_S h (h 0 17).toNat s) (hB : piB h R r ph tf q0 ((2, a, b) :: s) ht st rg) {w v : Int} : pi_done h (mo_L (mo_L (mo_L (mo_tk (h)) 2 a 0 0) 3 w 0 0) 1 v 0 0) R r ph tf q0 (pi_mu h ((2, a, b) :: s)) := by
  have hN := piB_num g hS hB
  obtain ⟨N1, N2, N3, N4, N5, N6, N7, N8, N9, N10, N11⟩ := hN
  obtain ⟨⟨n1, n2, n3, n4, n5, n6, n7, n8, n9⟩, ⟨b1, b2, b3, b4⟩, reg, hpt, ⟨hC, hU⟩, hNo, hP, hT, top⟩ := id hB
  obtain ⟨⟨p1, p1'⟩, ⟨p2, p2'⟩, p3, p4⟩ := hpt
  have w0 := (gF_wTop g).1
  simp only [pk_sum] at n1 n2 n3 n6 n7
  dsimp only at p2 p2'
  have ec1 : pk_c 1 = 0 := rfl
  have ev1 : pk_v 1 = (-4) := rfl
  have ed1 : pk_d 1 = 0 := rfl
  have eq1 : pk_q 1 = 0 := rfl
  have ef1 : pk_f 1 = 0 := rfl
  have em1 : pk_m 1 = (-10) := rfl
  have eoff1 : pk_off 1 = 7 := rfl
  have ec2 : pk_c 2 = 1 := rfl
  have ev2 : pk_v 2 = 0 := rfl
  have ed2 : pk_d 2 = 0 := rfl
  have eq2 : pk_q 2 = 0 := rfl
  have ef2 : pk_f 2 = 0 := rfl
  have em2 : pk_m 2 = 1 := rfl
  have eoff2 : pk_off 2 = 7 := rfl
  have ec3 : pk_c 3 = 0 := rfl
  have ev3 : pk_v 3 = 1 := rfl
  have ed3 : pk_d 3 = 0 := rfl
  have eq3 : pk_q 3 = 0 := rfl
  have ef3 : pk_f 3 = 0 := rfl
  have em3 : pk_m 3 = 1 := rfl
  have eoff3 : pk_off 3 = 2 := rfl
  replace p3 : pt_ok (h 74) ht st rg (h 0 113) (h 0 88) r (pi_wn h r) (2, a, b) s ((ht (h 0 113).toNat - 0)) (h 0 109) (st (h 0 113).toNat) := p3
  unfold pt_ok at p3; dsimp only at p3
  replace p4 : pt (h 74) ht st rg (h 0 113) (h 0 88) r tf (pi_wn h r) s ((ht (h 0 113).toNat - 0)) ((h 0 109)) (st (h 0 113).toNat) := p4
  obtain ⟨-, xc, xt, xe, -, xo2, -, -, -, -, -, -, -, -, -, -, -, -, -, -, -, -, -, -, -, -, -, -, -, -, -⟩ := p3
  replace xo2 := xo2 (by omega)
  refine fin0 hB (pk_S_L (show 0 ≤ (h 0 17) + 1 + 1 by omega) (pk_S_L (show 0 ≤ (h 0 17) + 1 by omega) (pk_S_L (show 0 ≤ (h 0 17) by omega) (pk_S_ag (ag_up rfl ag_refl) hS)))) (by (try unfold mo_L); (try unfold mo_tk); (repeat (refine ag_up rfl ?_)); exact ag_refl) (idle_of (show (2 : Int) ≠ 4 ∧ (2 : Int) ≠ 21 ∧ (2 : Int) ≠ 22 ∧ (2 : Int) ≠ 28 ∧ (2 : Int) ≠ 24 by decide)) (fun _ q => List.mem_cons_of_mem _ (List.mem_cons_of_mem _ (List.mem_cons_of_mem _ (q)))) (fun p q => by simp only [pp_cons] at q ⊢; rcases q with q | q | q | q <;> first | (exact Or.inr q) | (exfalso; simp [pp] at q)) ?_ ?_ ?_ ?_ ?_ ?_ ⟨?_, ?_, ?_⟩ (by simp only [pi_if, List.mem_cons, exists_eq_or_imp]; simp) ?_ ⟨fun e => absurd e (by dsimp only; omega), fun e => absurd e (by dsimp only; omega), fun _ y z e => by cases e; intro q; exact absurd q (by dsimp only; omega)⟩ ?_ (by (try unfold mo_L); (try unfold mo_tk); (repeat (refine ag_up rfl ?_)); exact ag_refl)
  · show (h 0 18) = _; (try simp only [pk_sum]); omega
  · show (h 0 113) + _ ≤ 5 * ((h 0 7) + 1); (try simp only [pk_sum]); omega
  · show (h 0 95) + _ < (h 0 7) + 1; (try simp only [pk_sum]); omega
  · show (h 0 7) ≤ (h 0 7) + 1; omega
  · show (h 0 84) = _; (try simp only [pk_sum]); omega
  · show (h 0 87) = _; (try simp only [pk_sum]); omega
  · show (h 0 79) ≤ (h 0 77); omega
  · show (h 0 77) ≤ 10; omega
  · intro q; show (h 0 77) ≤ 9; refine b4 (fun z => q ?_); intro y hy; simp only [List.mem_cons] at hy; rcases hy with rfl | rfl | rfl | hy
    · show (1 : Int) ≠ 17; decide
    · show (3 : Int) ≠ 17; decide
    · show (2 : Int) ≠ 17; decide
    · exact z y (List.mem_cons_of_mem _ hy)
  · exact ⟨⟨by (try simp only [pk_sum]); omega, by (try simp only [pk_sum]); omega⟩, ⟨by (try simp only [pk_sum, List.length_cons]); (try dsimp only); omega, (by intro y z e; cases e; dsimp only; omega)⟩, (show pt_ok (h 74) ht st rg (h 0 113) (h 0 88) r (pi_wn h r) (1, v, 0) ((3, w, 0) :: (2, a, 0) :: s) (ht (h 0 113).toNat - 0) ((h 0 109)) (st (h 0 113).toNat) from by unfold pt_ok; (try dsimp only); (try simp only [pk_sum]); exact ⟨⟨by omega, by omega, by omega, by omega⟩, by omega, by omega, by omega, fun _ => by omega, fun z => absurd z (by omega), fun z => absurd z (by omega), fun z => absurd z (by omega), fun z => absurd z (by omega), fun z => absurd z (by omega), fun z => absurd z (by omega), fun z => absurd z (by omega), fun z => absurd z (by omega), fun z => absurd z (by omega), fun z => absurd z (by omega), fun z => absurd z (by omega), fun z => absurd z (by omega), fun z => absurd z (by omega), fun z => absurd z (by omega), fun z => absurd z (by omega), fun z => absurd z (by omega), fun z => absurd z (by omega), fun z => absurd z (by omega), fun z => absurd z (by omega), fun z => absurd z (by omega), fun z => absurd z (by omega), fun z => absurd z (by omega), fun z => absurd z (by omega), fun z => absurd z (by omega), fun z => absurd z (by omega), fun z => absurd z (by omega)⟩), ⟨⟨by (try simp only [pk_sum]); omega, by (try simp only [pk_sum]); omega⟩, ⟨by (try simp only [pk_sum, List.length_cons]); (try dsimp only); omega, (by intro y z e; cases e; dsimp only; omega)⟩, (show pt_ok (h 74) ht st rg (h 0 113) (h 0 88) r (pi_wn h r) (3, w, 0) ((2, a, 0) :: s) (ht (h 0 113).toNat - 0 + 1) ((h 0 109)) (st (h 0 113).toNat) from by unfold pt_ok; (try dsimp only); (try simp only [pk_sum]); exact ⟨⟨by omega, by omega, by omega, by omega⟩, by omega, by omega, by omega, fun z => absurd z (by omega), fun z => absurd z (by omega), fun _ => by omega, fun z => absurd z (by omega), fun z => absurd z (by omega), fun z => absurd z (by omega), fun z => absurd z (by omega), fun z => absurd z (by omega), fun z => absurd z (by omega), fun z => absurd z (by omega), fun z => absurd z (by omega), fun z => absurd z (by omega), fun z => absurd z (by omega), fun z => absurd z (by omega), fun z => absurd z (by omega), fun z => absurd z (by omega), fun z => absurd z (by omega), fun z => absurd z (by omega), fun z => absurd z (by omega), fun z => absurd z (by omega), fun z => absurd z (by omega), fun z => absurd z (by omega), fun z => absurd z (by omega), fun z => absurd z (by omega), fun z => absurd z (by omega), fun z => absurd z (by omega), fun z => absurd z (by omega)⟩), ⟨⟨by (try simp only [pk_sum]); omega, by (try simp only [pk_sum]); omega⟩, ⟨by (try simp only [pk_sum, List.length_cons]); (try dsimp only); omega, (by intro y z e; have q := p2' y z e; dsimp only at q ⊢; omega)⟩, (show pt_ok (h 74) ht st rg (h 0 113) (h 0 88) r (pi_wn h r) (2, a, 0) (s) (ht (h 0 113).toNat - 0 + 1 - 1) ((h 0 109)) (st (h 0 113).toNat) from by unfold pt_ok; (try dsimp only); (try simp only [pk_sum]); exact ⟨⟨by omega, by omega, by omega, by omega⟩, by omega, by omega, by omega, fun z => absurd z (by omega), fun _ => by omega, fun z => absurd z (by omega), fun z => absurd z (by omega), fun z => absurd z (by omega), fun z => absurd z (by omega), fun z => absurd z (by omega), fun z => absurd z (by omega), fun z => absurd z (by omega), fun z => absurd z (by omega), fun z => absurd z (by omega), fun z => absurd z (by omega), fun z => absurd z (by omega), fun z => absurd z (by omega), fun z => absurd z (by omega), fun z => absurd z (by omega), fun z => absurd z (by omega), fun z => absurd z (by omega), fun z => absurd z (by omega), fun z => absurd z (by omega), fun z => absurd z (by omega), fun z => absurd z (by omega), fun z => absurd z (by omega), fun z => absurd z (by omega), fun z => absurd z (by omega), fun z => absurd z (by omega), fun z => absurd z (by omega)⟩), (pt_eq (show _ = ht (h 0 113).toNat - 0 + 1 - 1 by omega) (show _ = (h 0 109) by omega) (show _ = st (h 0 113).toNat by omega) p4)⟩⟩⟩
  · show 40 * (900 - ((h 0 7) + 1)) + pk_sum pk_m ((1, v, 0) :: (3, w, 0) :: (2, a, 0) :: s) + 13 < 40 * (900 - (h 0 7)) + pk_sum pk_m ((2, a, b) :: s) + 13; (try simp only [pk_sum]); omega
