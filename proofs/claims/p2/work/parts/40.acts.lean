/-! the reference's parser: the ends of its acts -/
variable {Zz : Zc}
theorem fin_top0 {H : ja_H} {ht : Nat → Int} {x : mo_A} {s : List mo_A} (hx : x.1 ≠ 1) (hl : pt_low x s) (hf : x.1 ≤ 12 ∨ x.1 = 38 → pi_form H ht s) : pi_top H ht s := by
  cases s with
  | nil => trivial
  | cons y z =>
    obtain ⟨l1, l2, -, l4, l5⟩ := hl y z rfl
    exact ⟨fun e => hf (l4 e), fun e => absurd e l2, fun e => absurd e l1.1, fun e => (l5 e).resolve_right hx⟩
theorem fin_adj {H : ja_H} {x : mo_A} {s : List mo_A} (hl : pt_low x s) (hx : x.1 ≠ 8 ∧ x.1 ≠ 9) : pi_adj H s = 0 := by
  cases s with
  | nil => rfl
  | cons y z =>
    obtain ⟨-, -, l3, -, -⟩ := hl y z rfl
    unfold pi_adj
    exact if_neg (fun e => by rcases l3 e with e | e; exact hx.1 e; exact hx.2 e)
theorem form_tail {h H : ja_H} {ht : Nat → Int} {x : mo_A} {s : List mo_A} (hx : ∀ w, ¬ pj x w) (e0 : (H 0 113) = (h 0 113)) (e1 : (H 0 19) = (h 0 19)) (e2 : (H 0 20) = (h 0 20)) (f1 : (H 74) = (h 74)) (f2 : (H 75) = (h 75)) (f3 : (H 52) = (h 52)) (f4 : (H 55) = (h 55)) (f5 : (H 76) = (h 76)) (e5 : (H 0 76) = (h 0 76)) (q : pi_form h ht (x :: s)) : pi_form H ht s := by
  unfold pi_form at q ⊢
  rw [e0, e1, e2, f1, f2, f3, f4, f5, e5]
  refine ⟨q.1, q.2.1, fun z w hw hj => ?_⟩
  rcases q.2.2 z w hw hj with a | a
  · rcases pj_cons.mp a with a | a
    · exact absurd a (hx w)
    · exact Or.inl a
  · exact Or.inr a
theorem form_0 {H : ja_H} {ht : Nat → Int} {s : List mo_A} (e : (H 0 19) ≠ 1 ∧ (H 0 19) ≠ 2) : pi_form H ht s :=
  ⟨fun z => absurd z e.1, fun z => absurd z e.2, fun z => by rcases z with z | z; exact absurd z e.1; exact absurd z e.2⟩
theorem idle_of {a b c : Int} (h : a ≠ 4 ∧ a ≠ 21 ∧ a ≠ 22 ∧ a ≠ 28 ∧ a ≠ 24) (w : Int) : ¬ pj (a, b, c) w := by
  obtain ⟨q1, q2, q3, q4, q5⟩ := h
  rintro (⟨e | e | e | e, -⟩ | ⟨e, -⟩)
  · exact q1 e
  · exact q2 e
  · exact q3 e
  · exact q4 e
  · exact q5 e
theorem pt_eq {op ht st rg : Nat → Int} {W P lo r : Int} {tf : mo_TF} {wn : Int → Prop} {s : List mo_A} {c t e c' t' e' tu : Int} (h1 : c = c') (h2 : t = t') (h3 : e = e') (q : pt op ht st rg W P lo r tf wn s c t e tu) : pt op ht st rg W P lo r tf wn s c' t' e' tu := by
  subst h1; subst h2; subst h3; exact q
theorem pt_call_c {op ht st rg : Nat → Int} {W P lo r : Int} {tf : mo_TF} {wn : Int → Prop} {s : List mo_A} {c t e tu : Int} (hc : pt_call s) (q : pt op ht st rg W P lo r tf wn s c t e tu) : 0 ≤ c ∧ c ≤ pk_sum (pk_k r) s - 6 := by
  obtain ⟨y, z, rfl, hy⟩ := hc
  obtain ⟨-, -, q3, -⟩ := q
  obtain ⟨-, c0, -, -, -, -, -, -, -, -, -, -, -, i10, i11, i12, -⟩ := q3
  have e1 : pk_sum (pk_k r) (y :: z) = pk_k r y.1 + pk_sum (pk_k r) z := rfl
  have e2 : 0 ≤ pk_k r y.1 := by unfold pk_k; split <;> (have := pk_D_r r; omega)
  rw [e1]
  rcases hy with hy | hy | hy
  · have := (i10 hy).2.1; have := (i10 hy).1; omega
  · have := (i11 hy).1; omega
  · have := (i12 hy).1; omega
theorem call_top {H : ja_H} {ht : Nat → Int} {s : List mo_A} (hc : pt_call s) : pi_top H ht s := by
  obtain ⟨y, z, rfl, hy⟩ := hc
  exact ⟨fun e => absurd e (by omega), fun e => absurd e (by omega), fun e => absurd e (by omega), fun e => absurd e (by omega)⟩
theorem call_adj {H : ja_H} {s : List mo_A} (hc : pt_call s) : pi_adj H s = (H 0 21) := by
  obtain ⟨y, z, rfl, hy⟩ := hc
  exact if_pos hy

theorem ab_ops_end {h : ja_H} {R r ph q0 : Int} {tf : mo_TF} {s : List mo_A} {ht st rg : Nat → Int} {tu a b : Int} (g : mo_G Zz h) (hS : pk_S h (h 0 17).toNat s) (hB : piB h R r ph tf q0 ((2, a, b) :: s) ht st rg tu)  : pi_done h (ja_up (h) 0 18 ((h 0 18) - 1)) R r ph tf q0 (pi_mu h ((2, a, b) :: s)) := by
  have hN := piB_num g hS hB
  obtain ⟨N1, N2, N3, N4, N5, N6, N7, N8, N9, N10, N11, N12, N13, ⟨NK1, NK2⟩, ND1, ND2, ND3, NU1, NU2⟩ := hN
  obtain ⟨⟨n1, n2, n3, n4, n5, n6, n7, n8, n9⟩, ⟨b1, b2, b3, b4⟩, reg, hpt, ⟨hC, hU⟩, hNo, hP, hT, top⟩ := id hB
  obtain ⟨⟨⟨p1, p1'⟩, p1u⟩, ⟨p2, p2'⟩, p3, p4⟩ := hpt
  have w0 := (gF_wTop g).1
  simp only [pk_sum] at n1 n2 n3 n6 n7
  dsimp only at p2 p2' N6
  have ec2 : pk_c 2 = 1 := rfl
  have ev2 : pk_v 2 = 0 := rfl
  have ed2 : pk_d 2 = 0 := rfl
  have eq2 : pk_q 2 = 0 := rfl
  have ef2 : pk_f 2 = 0 := rfl
  have em2 : pk_m 2 = 1 := rfl
  have eoff2 : pk_off 2 = 7 := rfl
  have ek2 : pk_k r 2 = pk_D r := rfl
  replace p3 : pt_ok (h 74) ht st rg (h 0 113) (h 0 88) (h 0 77) r (pi_wn h r) (2, a, b) s ((ht (h 0 113).toNat - 0)) (h 0 109) (st (h 0 113).toNat) tu := p3
  unfold pt_ok at p3; dsimp only at p3
  replace p4 : pt (h 74) ht st rg (h 0 113) (h 0 88) (h 0 77) r tf (pi_wn h r) s ((ht (h 0 113).toNat - 0)) ((h 0 109)) (st (h 0 113).toNat) (tu) := p4
  obtain ⟨-, xc, xt, ⟨xe, xu1, xu2⟩, -, xo2, -, -, -, -, -, -, -, -, -, -, -, -, -, -, -, -, -, -, -, -, -, -, -, -, -, -⟩ := p3
  replace xo2 := xo2 (by omega)
  refine fin0 hB (pk_S_ag (ag_up rfl ag_refl) hS) (by (try unfold mo_L); (try unfold mo_tk); (repeat (refine ag_up rfl ?_)); exact ag_refl) (idle_of (show (2 : Int) ≠ 4 ∧ (2 : Int) ≠ 21 ∧ (2 : Int) ≠ 22 ∧ (2 : Int) ≠ 28 ∧ (2 : Int) ≠ 24 by decide)) (fun _ q => q) (fun p q => pp_cons.mpr (Or.inr q)) ?_ ?_ ?_ ?_ ?_ ?_ ⟨?_, ?_, ?_⟩ (pi_if_tail (show (2 : Int) ≠ 36 by decide)) ⟨(fun q y hy => q y (List.mem_cons_of_mem _ hy)), (fun q y hy => q y (List.mem_cons_of_mem _ hy))⟩ ?_ (fin_top0 (show (2 : Int) ≠ 1 by decide) p2' (fun _ => form_tail (idle_of (show (2 : Int) ≠ 4 ∧ (2 : Int) ≠ 21 ∧ (2 : Int) ≠ 22 ∧ (2 : Int) ≠ 28 ∧ (2 : Int) ≠ 24 by decide)) rfl rfl rfl rfl rfl rfl rfl rfl rfl (top.1 (by dsimp only; omega)))) ?_ (by (try unfold mo_L); (try unfold mo_tk); (repeat (refine ag_up rfl ?_)); exact ag_refl)
  · show (h 0 18) - 1 = _; (try simp only [pk_sum]); omega
  · show (h 0 113) + _ < 5 * ((h 0 7)); (try simp only [pk_sum]); omega
  · show (h 0 95) + _ < (h 0 7); (try simp only [pk_sum]); omega
  · show (h 0 7) ≤ (h 0 7); omega
  · show (h 0 84) = _; (try simp only [pk_sum]); omega
  · show (h 0 87) = _; (try simp only [pk_sum]); omega
  · show ph = 1 ∨ (h 0 79) ≤ (h 0 77); omega
  · show ph = 1 ∨ (h 0 77) ≤ 10; omega
  · intro q; show ph = 1 ∨ (h 0 77) ≤ 9; exact b4 (fun z => q (fun y hy => z y (List.mem_cons_of_mem _ hy)))
  · rw [fin_adj p2' (show (2 : Int) ≠ 8 ∧ (2 : Int) ≠ 9 by decide)]; exact pt_eq (by omega) (by omega) (by omega) p4
  · show 40 * (900 - ((h 0 7))) + pk_sum pk_m (s) + 13 < 40 * (900 - (h 0 7)) + pk_sum pk_m ((2, a, b) :: s) + 13; (try simp only [pk_sum]); omega

theorem ab_ops_bin {h : ja_H} {R r ph q0 : Int} {tf : mo_TF} {s : List mo_A} {ht st rg : Nat → Int} {tu a b : Int} (g : mo_G Zz h) (hS : pk_S h (h 0 17).toNat s) (hB : piB h R r ph tf q0 ((2, a, b) :: s) ht st rg tu) {w v : Int} : pi_done h (mo_L (mo_L (mo_L (mo_tk (h)) 2 a 0 0) 3 w 0 0) 1 v 0 0) R r ph tf q0 (pi_mu h ((2, a, b) :: s)) := by
  have hN := piB_num g hS hB
  obtain ⟨N1, N2, N3, N4, N5, N6, N7, N8, N9, N10, N11, N12, N13, ⟨NK1, NK2⟩, ND1, ND2, ND3, NU1, NU2⟩ := hN
  obtain ⟨⟨n1, n2, n3, n4, n5, n6, n7, n8, n9⟩, ⟨b1, b2, b3, b4⟩, reg, hpt, ⟨hC, hU⟩, hNo, hP, hT, top⟩ := id hB
  obtain ⟨⟨⟨p1, p1'⟩, p1u⟩, ⟨p2, p2'⟩, p3, p4⟩ := hpt
  have w0 := (gF_wTop g).1
  simp only [pk_sum] at n1 n2 n3 n6 n7
  dsimp only at p2 p2' N6
  have ec1 : pk_c 1 = 0 := rfl
  have ev1 : pk_v 1 = (-4) := rfl
  have ed1 : pk_d 1 = 0 := rfl
  have eq1 : pk_q 1 = 0 := rfl
  have ef1 : pk_f 1 = 0 := rfl
  have em1 : pk_m 1 = (-10) := rfl
  have eoff1 : pk_off 1 = 7 := rfl
  have ek1 : pk_k r 1 = 0 := rfl
  have ec2 : pk_c 2 = 1 := rfl
  have ev2 : pk_v 2 = 0 := rfl
  have ed2 : pk_d 2 = 0 := rfl
  have eq2 : pk_q 2 = 0 := rfl
  have ef2 : pk_f 2 = 0 := rfl
  have em2 : pk_m 2 = 1 := rfl
  have eoff2 : pk_off 2 = 7 := rfl
  have ek2 : pk_k r 2 = pk_D r := rfl
  have ec3 : pk_c 3 = 0 := rfl
  have ev3 : pk_v 3 = 1 := rfl
  have ed3 : pk_d 3 = 0 := rfl
  have eq3 : pk_q 3 = 0 := rfl
  have ef3 : pk_f 3 = 0 := rfl
  have em3 : pk_m 3 = 1 := rfl
  have eoff3 : pk_off 3 = 2 := rfl
  have ek3 : pk_k r 3 = 0 := rfl
  replace p3 : pt_ok (h 74) ht st rg (h 0 113) (h 0 88) (h 0 77) r (pi_wn h r) (2, a, b) s ((ht (h 0 113).toNat - 0)) (h 0 109) (st (h 0 113).toNat) tu := p3
  unfold pt_ok at p3; dsimp only at p3
  replace p4 : pt (h 74) ht st rg (h 0 113) (h 0 88) (h 0 77) r tf (pi_wn h r) s ((ht (h 0 113).toNat - 0)) ((h 0 109)) (st (h 0 113).toNat) (tu) := p4
  obtain ⟨-, xc, xt, ⟨xe, xu1, xu2⟩, -, xo2, -, -, -, -, -, -, -, -, -, -, -, -, -, -, -, -, -, -, -, -, -, -, -, -, -, -⟩ := p3
  replace xo2 := xo2 (by omega)
  refine fin0 hB (pk_S_L (show 0 ≤ (h 0 17) + 1 + 1 by omega) (pk_S_L (show 0 ≤ (h 0 17) + 1 by omega) (pk_S_L (show 0 ≤ (h 0 17) by omega) (pk_S_ag (ag_up rfl ag_refl) hS)))) (by (try unfold mo_L); (try unfold mo_tk); (repeat (refine ag_up rfl ?_)); exact ag_refl) (idle_of (show (2 : Int) ≠ 4 ∧ (2 : Int) ≠ 21 ∧ (2 : Int) ≠ 22 ∧ (2 : Int) ≠ 28 ∧ (2 : Int) ≠ 24 by decide)) (fun _ q => List.mem_cons_of_mem _ (List.mem_cons_of_mem _ (List.mem_cons_of_mem _ (q)))) (fun p q => by simp only [pp_cons] at q ⊢; rcases q with q | q | q | q <;> first | (exact Or.inr q) | (exfalso; simp [pp] at q)) ?_ ?_ ?_ ?_ ?_ ?_ ⟨?_, ?_, ?_⟩ (by simp only [pi_if, List.mem_cons, exists_eq_or_imp]; simp) ⟨(fun q y hy => by (try simp only [List.mem_cons] at hy); (rcases hy with rfl | rfl | rfl | hy) <;> first | (exact q _ (List.mem_cons_of_mem _ hy)) | (have := q _ List.mem_cons_self; dsimp only at this ⊢; omega)), (fun q y hy => by (try simp only [List.mem_cons] at hy); (rcases hy with rfl | rfl | rfl | hy) <;> first | (exact q _ (List.mem_cons_of_mem _ hy)) | (have := q _ List.mem_cons_self; dsimp only at this ⊢; omega))⟩ ?_ ⟨fun e => absurd e (by dsimp only; omega), fun e => absurd e (by dsimp only; omega), fun _ y z e => by cases e; intro q; exact absurd q (by dsimp only; omega), fun e => absurd e (by dsimp only; omega)⟩ ?_ (by (try unfold mo_L); (try unfold mo_tk); (repeat (refine ag_up rfl ?_)); exact ag_refl)
  · show (h 0 18) = _; (try simp only [pk_sum]); omega
  · show (h 0 113) + _ < 5 * ((h 0 7) + 1); (try simp only [pk_sum]); omega
  · show (h 0 95) + _ < (h 0 7) + 1; (try simp only [pk_sum]); omega
  · show (h 0 7) ≤ (h 0 7) + 1; omega
  · show (h 0 84) = _; (try simp only [pk_sum]); omega
  · show (h 0 87) = _; (try simp only [pk_sum]); omega
  · show ph = 1 ∨ (h 0 79) ≤ (h 0 77); omega
  · show ph = 1 ∨ (h 0 77) ≤ 10; omega
  · intro q; show ph = 1 ∨ (h 0 77) ≤ 9; refine b4 (fun z => q ?_); intro y hy; simp only [List.mem_cons] at hy; rcases hy with rfl | rfl | rfl | hy
    · show (1 : Int) ≠ 17; decide
    · show (3 : Int) ≠ 17; decide
    · show (2 : Int) ≠ 17; decide
    · exact z y (List.mem_cons_of_mem _ hy)
  · exact ⟨⟨⟨by (try simp only [pk_sum]); omega, by (try simp only [pk_sum]); omega⟩, (fun p q => absurd q (by simp [pp]))⟩, ⟨by (try simp only [pk_sum, List.length_cons]); (try dsimp only); omega, (by intro y z e; cases e; dsimp only; omega)⟩, (show pt_ok (h 74) ht st rg (h 0 113) (h 0 88) (h 0 77) r (pi_wn h r) (1, v, 0) ((3, w, 0) :: (2, a, 0) :: s) (ht (h 0 113).toNat - 0) ((h 0 109)) (st (h 0 113).toNat) (tu) from by unfold pt_ok; (try dsimp only); (try simp only [pk_sum]); exact ⟨⟨by omega, by omega, by omega, by omega⟩, by omega, by omega, ⟨by first | omega | simp, by omega, by omega⟩, fun _ => by first | omega | trivial | (simp only [true_and, and_true]; omega), fun z => absurd z (by omega), fun z => absurd z (by omega), fun z => absurd z (by omega), fun z => absurd z (by omega), fun z => absurd z (by omega), fun z => absurd z (by omega), fun z => absurd z (by omega), fun z => absurd z (by omega), fun z => absurd z (by omega), fun z => absurd z (by omega), fun z => absurd z (by omega), fun z => absurd z (by omega), fun z => absurd z (by omega), fun z => absurd z (by omega), fun z => absurd z (by omega), fun z => absurd z (by omega), fun z => absurd z (by omega), fun z => absurd z (by omega), fun z => absurd z (by omega), fun z => absurd z (by omega), fun z => absurd z (by omega), fun z => absurd z (by omega), fun z => absurd z (by omega), fun z => absurd z (by omega), fun z => absurd z (by omega), fun z => absurd z (by omega), fun z => absurd z (by omega)⟩), ⟨⟨⟨by (try simp only [pk_sum]); omega, by (try simp only [pk_sum]); omega⟩, (fun p q => absurd q (by simp [pp]))⟩, ⟨by (try simp only [pk_sum, List.length_cons]); (try dsimp only); omega, (by intro y z e; cases e; dsimp only; omega)⟩, (show pt_ok (h 74) ht st rg (h 0 113) (h 0 88) (h 0 77) r (pi_wn h r) (3, w, 0) ((2, a, 0) :: s) (ht (h 0 113).toNat - 0 + 1) ((h 0 109)) (st (h 0 113).toNat) (tu) from by unfold pt_ok; (try dsimp only); (try simp only [pk_sum]); exact ⟨⟨by omega, by omega, by omega, by omega⟩, by omega, by omega, ⟨by first | omega | simp, by omega, by omega⟩, fun z => absurd z (by omega), fun z => absurd z (by omega), fun _ => by first | omega | trivial | (simp only [true_and, and_true]; omega), fun z => absurd z (by omega), fun z => absurd z (by omega), fun z => absurd z (by omega), fun z => absurd z (by omega), fun z => absurd z (by omega), fun z => absurd z (by omega), fun z => absurd z (by omega), fun z => absurd z (by omega), fun z => absurd z (by omega), fun z => absurd z (by omega), fun z => absurd z (by omega), fun z => absurd z (by omega), fun z => absurd z (by omega), fun z => absurd z (by omega), fun z => absurd z (by omega), fun z => absurd z (by omega), fun z => absurd z (by omega), fun z => absurd z (by omega), fun z => absurd z (by omega), fun z => absurd z (by omega), fun z => absurd z (by omega), fun z => absurd z (by omega), fun z => absurd z (by omega), fun z => absurd z (by omega), fun z => absurd z (by omega)⟩), ⟨⟨⟨by (try simp only [pk_sum]); omega, by (try simp only [pk_sum]); omega⟩, (fun p q => absurd q (by simp [pp]))⟩, ⟨by (try simp only [pk_sum, List.length_cons]); (try dsimp only); omega, (by intro y z e; have q := p2' y z e; dsimp only at q ⊢; omega)⟩, (show pt_ok (h 74) ht st rg (h 0 113) (h 0 88) (h 0 77) r (pi_wn h r) (2, a, 0) (s) (ht (h 0 113).toNat - 0 + 1 - 1) ((h 0 109)) (st (h 0 113).toNat) (tu) from by unfold pt_ok; (try dsimp only); (try simp only [pk_sum]); exact ⟨⟨by omega, by omega, by omega, by omega⟩, by omega, by omega, ⟨by first | omega | simp, by omega, by omega⟩, fun z => absurd z (by omega), fun _ => by first | omega | trivial | (simp only [true_and, and_true]; omega), fun z => absurd z (by omega), fun z => absurd z (by omega), fun z => absurd z (by omega), fun z => absurd z (by omega), fun z => absurd z (by omega), fun z => absurd z (by omega), fun z => absurd z (by omega), fun z => absurd z (by omega), fun z => absurd z (by omega), fun z => absurd z (by omega), fun z => absurd z (by omega), fun z => absurd z (by omega), fun z => absurd z (by omega), fun z => absurd z (by omega), fun z => absurd z (by omega), fun z => absurd z (by omega), fun z => absurd z (by omega), fun z => absurd z (by omega), fun z => absurd z (by omega), fun z => absurd z (by omega), fun z => absurd z (by omega), fun z => absurd z (by omega), fun z => absurd z (by omega), fun z => absurd z (by omega), fun z => absurd z (by omega), fun z => absurd z (by omega)⟩), (pt_eq (show _ = ht (h 0 113).toNat - 0 + 1 - 1 by omega) (show _ = (h 0 109) by omega) (show _ = st (h 0 113).toNat by omega) p4)⟩⟩⟩
  · show 40 * (900 - ((h 0 7) + 1)) + pk_sum pk_m ((1, v, 0) :: (3, w, 0) :: (2, a, 0) :: s) + 13 < 40 * (900 - (h 0 7)) + pk_sum pk_m ((2, a, b) :: s) + 13; (try simp only [pk_sum]); omega

theorem ab_tail_end {h : ja_H} {R r ph q0 : Int} {tf : mo_TF} {s : List mo_A} {ht st rg : Nat → Int} {tu a b : Int} (g : mo_G Zz h) (hS : pk_S h (h 0 17).toNat s) (hB : piB h R r ph tf q0 ((7, a, b) :: s) ht st rg tu)  : pi_done h (h) R r ph tf q0 (pi_mu h ((7, a, b) :: s)) := by
  have hN := piB_num g hS hB
  obtain ⟨N1, N2, N3, N4, N5, N6, N7, N8, N9, N10, N11, N12, N13, ⟨NK1, NK2⟩, ND1, ND2, ND3, NU1, NU2⟩ := hN
  obtain ⟨⟨n1, n2, n3, n4, n5, n6, n7, n8, n9⟩, ⟨b1, b2, b3, b4⟩, reg, hpt, ⟨hC, hU⟩, hNo, hP, hT, top⟩ := id hB
  obtain ⟨⟨⟨p1, p1'⟩, p1u⟩, ⟨p2, p2'⟩, p3, p4⟩ := hpt
  have w0 := (gF_wTop g).1
  simp only [pk_sum] at n1 n2 n3 n6 n7
  dsimp only at p2 p2' N6
  have ec7 : pk_c 7 = 0 := rfl
  have ev7 : pk_v 7 = 0 := rfl
  have ed7 : pk_d 7 = 0 := rfl
  have eq7 : pk_q 7 = 0 := rfl
  have ef7 : pk_f 7 = 0 := rfl
  have em7 : pk_m 7 = 1 := rfl
  have eoff7 : pk_off 7 = 2 := rfl
  have ek7 : pk_k r 7 = 0 := rfl
  replace p3 : pt_ok (h 74) ht st rg (h 0 113) (h 0 88) (h 0 77) r (pi_wn h r) (7, a, b) s ((ht (h 0 113).toNat - 0)) (h 0 109) (st (h 0 113).toNat) tu := p3
  unfold pt_ok at p3; dsimp only at p3
  replace p4 : pt (h 74) ht st rg (h 0 113) (h 0 88) (h 0 77) r tf (pi_wn h r) s ((ht (h 0 113).toNat - 0)) ((h 0 109)) (st (h 0 113).toNat) (tu) := p4
  obtain ⟨-, xc, xt, ⟨xe, xu1, xu2⟩, -, -, -, -, -, -, xo7, -, -, -, -, -, -, -, -, -, -, -, -, -, -, -, -, -, -, -, -, -⟩ := p3
  replace xo7 := xo7 (by omega)
  refine fin0 hB hS (by (try unfold mo_L); (try unfold mo_tk); (repeat (refine ag_up rfl ?_)); exact ag_refl) (idle_of (show (7 : Int) ≠ 4 ∧ (7 : Int) ≠ 21 ∧ (7 : Int) ≠ 22 ∧ (7 : Int) ≠ 28 ∧ (7 : Int) ≠ 24 by decide)) (fun _ q => q) (fun p q => pp_cons.mpr (Or.inr q)) ?_ ?_ ?_ ?_ ?_ ?_ ⟨?_, ?_, ?_⟩ (pi_if_tail (show (7 : Int) ≠ 36 by decide)) ⟨(fun q y hy => q y (List.mem_cons_of_mem _ hy)), (fun q y hy => q y (List.mem_cons_of_mem _ hy))⟩ ?_ (fin_top0 (show (7 : Int) ≠ 1 by decide) p2' (fun _ => form_tail (idle_of (show (7 : Int) ≠ 4 ∧ (7 : Int) ≠ 21 ∧ (7 : Int) ≠ 22 ∧ (7 : Int) ≠ 28 ∧ (7 : Int) ≠ 24 by decide)) rfl rfl rfl rfl rfl rfl rfl rfl rfl (top.1 (by dsimp only; omega)))) ?_ (by (try unfold mo_L); (try unfold mo_tk); (repeat (refine ag_up rfl ?_)); exact ag_refl)
  · show (h 0 18) = _; (try simp only [pk_sum]); omega
  · show (h 0 113) + _ < 5 * ((h 0 7)); (try simp only [pk_sum]); omega
  · show (h 0 95) + _ < (h 0 7); (try simp only [pk_sum]); omega
  · show (h 0 7) ≤ (h 0 7); omega
  · show (h 0 84) = _; (try simp only [pk_sum]); omega
  · show (h 0 87) = _; (try simp only [pk_sum]); omega
  · show ph = 1 ∨ (h 0 79) ≤ (h 0 77); omega
  · show ph = 1 ∨ (h 0 77) ≤ 10; omega
  · intro q; show ph = 1 ∨ (h 0 77) ≤ 9; exact b4 (fun z => q (fun y hy => z y (List.mem_cons_of_mem _ hy)))
  · rw [fin_adj p2' (show (7 : Int) ≠ 8 ∧ (7 : Int) ≠ 9 by decide)]; exact pt_eq (by omega) (by omega) (by omega) p4
  · show 40 * (900 - ((h 0 7))) + pk_sum pk_m (s) + 13 < 40 * (900 - (h 0 7)) + pk_sum pk_m ((7, a, b) :: s) + 13; (try simp only [pk_sum]); omega

theorem ab_ex_un {h : ja_H} {R r ph q0 : Int} {tf : mo_TF} {s : List mo_A} {ht st rg : Nat → Int} {tu a b : Int} (g : mo_G Zz h) (hS : pk_S h (h 0 17).toNat s) (hB : piB h R r ph tf q0 ((1, a, b) :: s) ht st rg tu) (hbe : pi_BE h) {m : Int} : pi_done h (mo_L (mo_L (mo_tk (mo_L (ja_up (h) 0 18 ((h 0 18) + 1)) 2 a 0 0)) 5 m 0 0) 1 5 0 0) R r ph tf q0 (pi_mu h ((1, a, b) :: s)) := by
  have hN := piB_num g hS hB
  obtain ⟨N1, N2, N3, N4, N5, N6, N7, N8, N9, N10, N11, N12, N13, ⟨NK1, NK2⟩, ND1, ND2, ND3, NU1, NU2⟩ := hN
  obtain ⟨⟨n1, n2, n3, n4, n5, n6, n7, n8, n9⟩, ⟨b1, b2, b3, b4⟩, reg, hpt, ⟨hC, hU⟩, hNo, hP, hT, top⟩ := id hB
  obtain ⟨⟨⟨p1, p1'⟩, p1u⟩, ⟨p2, p2'⟩, p3, p4⟩ := hpt
  have w0 := (gF_wTop g).1
  simp only [pk_sum] at n1 n2 n3 n6 n7
  dsimp only at p2 p2' N6
  have ec1 : pk_c 1 = 0 := rfl
  have ev1 : pk_v 1 = (-4) := rfl
  have ed1 : pk_d 1 = 0 := rfl
  have eq1 : pk_q 1 = 0 := rfl
  have ef1 : pk_f 1 = 0 := rfl
  have em1 : pk_m 1 = (-10) := rfl
  have eoff1 : pk_off 1 = 7 := rfl
  have ek1 : pk_k r 1 = 0 := rfl
  have ec2 : pk_c 2 = 1 := rfl
  have ev2 : pk_v 2 = 0 := rfl
  have ed2 : pk_d 2 = 0 := rfl
  have eq2 : pk_q 2 = 0 := rfl
  have ef2 : pk_f 2 = 0 := rfl
  have em2 : pk_m 2 = 1 := rfl
  have eoff2 : pk_off 2 = 7 := rfl
  have ek2 : pk_k r 2 = pk_D r := rfl
  have ec5 : pk_c 5 = 0 := rfl
  have ev5 : pk_v 5 = 1 := rfl
  have ed5 : pk_d 5 = 0 := rfl
  have eq5 : pk_q 5 = 0 := rfl
  have ef5 : pk_f 5 = 0 := rfl
  have em5 : pk_m 5 = 1 := rfl
  have eoff5 : pk_off 5 = 2 := rfl
  have ek5 : pk_k r 5 = 0 := rfl
  replace p3 : pt_ok (h 74) ht st rg (h 0 113) (h 0 88) (h 0 77) r (pi_wn h r) (1, a, b) s ((ht (h 0 113).toNat - 0)) (h 0 109) (st (h 0 113).toNat) tu := p3
  unfold pt_ok at p3; dsimp only at p3
  replace p4 : pt (h 74) ht st rg (h 0 113) (h 0 88) (h 0 77) r tf (pi_wn h r) s ((ht (h 0 113).toNat - 0) + 1) ((h 0 109)) (st (h 0 113).toNat) (tu) := p4
  obtain ⟨-, xc, xt, ⟨xe, xu1, xu2⟩, xo1, -, -, -, -, -, -, -, -, -, -, -, -, -, -, -, -, -, -, -, -, -, -, -, -, -, -, -⟩ := p3
  replace xo1 := xo1 (by omega)
  have xo9s : ∀ y z, s = y :: z → y.1 = 9 → y.2.1 ≤ 7 := fun y z e q => by subst e; exact (p4.2.2.1.2.2.2.2.2.2.2.2.2.2.2.2.1 q).2.2.1
  have hne : ∀ y z, s = y :: z → y.1 = 9 → y.2.1 ≤ 6 := fun y z e q => (by
    rcases (p2' y z e).2.2.2.2 q with z1 | z1
    · exact z1
    · have := top.2.2.1 rfl y z e q
      have q3 := xo9s y z e q
      rcases Int.lt_or_le 6 y.2.1 with l | l
      · exact absurd hbe (this (by omega))
      · exact l)
  refine fin0 hB (pk_S_L (show 0 ≤ (h 0 17) + 1 + 1 by omega) (pk_S_L (show 0 ≤ (h 0 17) + 1 by omega) (pk_S_ag (ag_up rfl ag_refl) (pk_S_L (show 0 ≤ (h 0 17) by omega) (pk_S_ag (ag_up rfl ag_refl) hS))))) (by (try unfold mo_L); (try unfold mo_tk); (repeat (refine ag_up rfl ?_)); exact ag_refl) (idle_of (show (1 : Int) ≠ 4 ∧ (1 : Int) ≠ 21 ∧ (1 : Int) ≠ 22 ∧ (1 : Int) ≠ 28 ∧ (1 : Int) ≠ 24 by decide)) (fun _ q => List.mem_cons_of_mem _ (List.mem_cons_of_mem _ (List.mem_cons_of_mem _ (q)))) (fun p q => by simp only [pp_cons] at q ⊢; rcases q with q | q | q | q <;> first | (exact Or.inr q) | (exfalso; simp [pp] at q)) ?_ ?_ ?_ ?_ ?_ ?_ ⟨?_, ?_, ?_⟩ (by simp only [pi_if, List.mem_cons, exists_eq_or_imp]; simp) ⟨(fun q y hy => by (try simp only [List.mem_cons] at hy); (rcases hy with rfl | rfl | rfl | hy) <;> first | (exact q _ (List.mem_cons_of_mem _ hy)) | (have := q _ List.mem_cons_self; dsimp only at this ⊢; omega)), (fun q y hy => by (try simp only [List.mem_cons] at hy); (rcases hy with rfl | rfl | rfl | hy) <;> first | (exact q _ (List.mem_cons_of_mem _ hy)) | (have := q _ List.mem_cons_self; dsimp only at this ⊢; omega))⟩ ?_ ⟨fun e => absurd e (by dsimp only; omega), fun e => absurd e (by dsimp only; omega), fun _ y z e => by cases e; intro q; exact absurd q (by dsimp only; omega), fun e => absurd e (by dsimp only; omega)⟩ ?_ (by (try unfold mo_L); (try unfold mo_tk); (repeat (refine ag_up rfl ?_)); exact ag_refl)
  · show (h 0 18) + 1 = _; (try simp only [pk_sum]); omega
  · show (h 0 113) + _ < 5 * ((h 0 7) + 1); (try simp only [pk_sum]); omega
  · show (h 0 95) + _ < (h 0 7) + 1; (try simp only [pk_sum]); omega
  · show (h 0 7) ≤ (h 0 7) + 1; omega
  · show (h 0 84) = _; (try simp only [pk_sum]); omega
  · show (h 0 87) = _; (try simp only [pk_sum]); omega
  · show ph = 1 ∨ (h 0 79) ≤ (h 0 77); omega
  · show ph = 1 ∨ (h 0 77) ≤ 10; omega
  · intro q; show ph = 1 ∨ (h 0 77) ≤ 9; refine b4 (fun z => q ?_); intro y hy; simp only [List.mem_cons] at hy; rcases hy with rfl | rfl | rfl | hy
    · show (1 : Int) ≠ 17; decide
    · show (5 : Int) ≠ 17; decide
    · show (2 : Int) ≠ 17; decide
    · exact z y (List.mem_cons_of_mem _ hy)
  · exact ⟨⟨⟨by (try simp only [pk_sum]); omega, by (try simp only [pk_sum]); omega⟩, (fun p q => absurd q (by simp [pp]))⟩, ⟨by (try simp only [pk_sum, List.length_cons]); (try dsimp only); omega, (by intro y z e; cases e; dsimp only; omega)⟩, (show pt_ok (h 74) ht st rg (h 0 113) (h 0 88) (h 0 77) r (pi_wn h r) (1, 5, 0) ((5, m, 0) :: (2, a, 0) :: s) (ht (h 0 113).toNat - 0) ((h 0 109)) (st (h 0 113).toNat) (tu) from by unfold pt_ok; (try dsimp only); (try simp only [pk_sum]); exact ⟨⟨by omega, by omega, by omega, by omega⟩, by omega, by omega, ⟨by first | omega | simp, by omega, by omega⟩, fun _ => by first | omega | trivial | (simp only [true_and, and_true]; omega), fun z => absurd z (by omega), fun z => absurd z (by omega), fun z => absurd z (by omega), fun z => absurd z (by omega), fun z => absurd z (by omega), fun z => absurd z (by omega), fun z => absurd z (by omega), fun z => absurd z (by omega), fun z => absurd z (by omega), fun z => absurd z (by omega), fun z => absurd z (by omega), fun z => absurd z (by omega), fun z => absurd z (by omega), fun z => absurd z (by omega), fun z => absurd z (by omega), fun z => absurd z (by omega), fun z => absurd z (by omega), fun z => absurd z (by omega), fun z => absurd z (by omega), fun z => absurd z (by omega), fun z => absurd z (by omega), fun z => absurd z (by omega), fun z => absurd z (by omega), fun z => absurd z (by omega), fun z => absurd z (by omega), fun z => absurd z (by omega), fun z => absurd z (by omega)⟩), ⟨⟨⟨by (try simp only [pk_sum]); omega, by (try simp only [pk_sum]); omega⟩, (fun p q => absurd q (by simp [pp]))⟩, ⟨by (try simp only [pk_sum, List.length_cons]); (try dsimp only); omega, (by intro y z e; cases e; dsimp only; omega)⟩, (show pt_ok (h 74) ht st rg (h 0 113) (h 0 88) (h 0 77) r (pi_wn h r) (5, m, 0) ((2, a, 0) :: s) (ht (h 0 113).toNat - 0 + 1) ((h 0 109)) (st (h 0 113).toNat) (tu) from by unfold pt_ok; (try dsimp only); (try simp only [pk_sum]); exact ⟨⟨by omega, by omega, by omega, by omega⟩, by omega, by omega, ⟨by first | omega | simp, by omega, by omega⟩, fun z => absurd z (by omega), fun z => absurd z (by omega), fun z => absurd z (by omega), fun z => absurd z (by omega), fun _ => by first | omega | trivial | (simp only [true_and, and_true]; omega), fun z => absurd z (by omega), fun z => absurd z (by omega), fun z => absurd z (by omega), fun z => absurd z (by omega), fun z => absurd z (by omega), fun z => absurd z (by omega), fun z => absurd z (by omega), fun z => absurd z (by omega), fun z => absurd z (by omega), fun z => absurd z (by omega), fun z => absurd z (by omega), fun z => absurd z (by omega), fun z => absurd z (by omega), fun z => absurd z (by omega), fun z => absurd z (by omega), fun z => absurd z (by omega), fun z => absurd z (by omega), fun z => absurd z (by omega), fun z => absurd z (by omega), fun z => absurd z (by omega), fun z => absurd z (by omega), fun z => absurd z (by omega), fun z => absurd z (by omega)⟩), ⟨⟨⟨by (try simp only [pk_sum]); omega, by (try simp only [pk_sum]); omega⟩, (fun p q => absurd q (by simp [pp]))⟩, ⟨by (try simp only [pk_sum, List.length_cons]); (try dsimp only); omega, (by intro y z e; have q := p2' y z e; have q6 := hne y z e; dsimp only at q ⊢; omega)⟩, (show pt_ok (h 74) ht st rg (h 0 113) (h 0 88) (h 0 77) r (pi_wn h r) (2, a, 0) (s) (ht (h 0 113).toNat - 0 + 1) ((h 0 109)) (st (h 0 113).toNat) (tu) from by unfold pt_ok; (try dsimp only); (try simp only [pk_sum]); exact ⟨⟨by omega, by omega, by omega, by omega⟩, by omega, by omega, ⟨by first | omega | simp, by omega, by omega⟩, fun z => absurd z (by omega), fun _ => by first | omega | trivial | (simp only [true_and, and_true]; omega), fun z => absurd z (by omega), fun z => absurd z (by omega), fun z => absurd z (by omega), fun z => absurd z (by omega), fun z => absurd z (by omega), fun z => absurd z (by omega), fun z => absurd z (by omega), fun z => absurd z (by omega), fun z => absurd z (by omega), fun z => absurd z (by omega), fun z => absurd z (by omega), fun z => absurd z (by omega), fun z => absurd z (by omega), fun z => absurd z (by omega), fun z => absurd z (by omega), fun z => absurd z (by omega), fun z => absurd z (by omega), fun z => absurd z (by omega), fun z => absurd z (by omega), fun z => absurd z (by omega), fun z => absurd z (by omega), fun z => absurd z (by omega), fun z => absurd z (by omega), fun z => absurd z (by omega), fun z => absurd z (by omega), fun z => absurd z (by omega)⟩), (pt_eq (show _ = ht (h 0 113).toNat - 0 + 1 by omega) (show _ = (h 0 109) by omega) (show _ = st (h 0 113).toNat by omega) p4)⟩⟩⟩
  · show 40 * (900 - ((h 0 7) + 1)) + pk_sum pk_m ((1, 5, 0) :: (5, m, 0) :: (2, a, 0) :: s) + 13 < 40 * (900 - (h 0 7)) + pk_sum pk_m ((1, a, b) :: s) + 13; (try simp only [pk_sum]); omega

theorem ab_ex_op {h : ja_H} {R r ph q0 : Int} {tf : mo_TF} {s : List mo_A} {ht st rg : Nat → Int} {tu a b : Int} (g : mo_G Zz h) (hS : pk_S h (h 0 17).toNat s) (hB : piB h R r ph tf q0 ((1, a, b) :: s) ht st rg tu) (hbe : pi_BE h) (q2 : ¬ ((h 2) (h 0 7).toNat = 5 ∧ (h 5) (h 0 7).toNat = 45)) (q3 : ¬ ((h 2) (h 0 7).toNat = 1 ∧ (h 5) (h 0 7).toNat = 28)) : pi_done h (mo_L (mo_L (ja_up (h) 0 18 ((h 0 18) + 1)) 2 a 0 0) 6 0 0 0) R r ph tf q0 (pi_mu h ((1, a, b) :: s)) := by
  have hN := piB_num g hS hB
  obtain ⟨N1, N2, N3, N4, N5, N6, N7, N8, N9, N10, N11, N12, N13, ⟨NK1, NK2⟩, ND1, ND2, ND3, NU1, NU2⟩ := hN
  obtain ⟨⟨n1, n2, n3, n4, n5, n6, n7, n8, n9⟩, ⟨b1, b2, b3, b4⟩, reg, hpt, ⟨hC, hU⟩, hNo, hP, hT, top⟩ := id hB
  obtain ⟨⟨⟨p1, p1'⟩, p1u⟩, ⟨p2, p2'⟩, p3, p4⟩ := hpt
  have w0 := (gF_wTop g).1
  simp only [pk_sum] at n1 n2 n3 n6 n7
  dsimp only at p2 p2' N6
  have ec1 : pk_c 1 = 0 := rfl
  have ev1 : pk_v 1 = (-4) := rfl
  have ed1 : pk_d 1 = 0 := rfl
  have eq1 : pk_q 1 = 0 := rfl
  have ef1 : pk_f 1 = 0 := rfl
  have em1 : pk_m 1 = (-10) := rfl
  have eoff1 : pk_off 1 = 7 := rfl
  have ek1 : pk_k r 1 = 0 := rfl
  have ec2 : pk_c 2 = 1 := rfl
  have ev2 : pk_v 2 = 0 := rfl
  have ed2 : pk_d 2 = 0 := rfl
  have eq2 : pk_q 2 = 0 := rfl
  have ef2 : pk_f 2 = 0 := rfl
  have em2 : pk_m 2 = 1 := rfl
  have eoff2 : pk_off 2 = 7 := rfl
  have ek2 : pk_k r 2 = pk_D r := rfl
  have ec6 : pk_c 6 = 0 := rfl
  have ev6 : pk_v 6 = (-4) := rfl
  have ed6 : pk_d 6 = 0 := rfl
  have eq6 : pk_q 6 = 0 := rfl
  have ef6 : pk_f 6 = 0 := rfl
  have em6 : pk_m 6 = (-12) := rfl
  have eoff6 : pk_off 6 = 2 := rfl
  have ek6 : pk_k r 6 = 0 := rfl
  replace p3 : pt_ok (h 74) ht st rg (h 0 113) (h 0 88) (h 0 77) r (pi_wn h r) (1, a, b) s ((ht (h 0 113).toNat - 0)) (h 0 109) (st (h 0 113).toNat) tu := p3
  unfold pt_ok at p3; dsimp only at p3
  replace p4 : pt (h 74) ht st rg (h 0 113) (h 0 88) (h 0 77) r tf (pi_wn h r) s ((ht (h 0 113).toNat - 0) + 1) ((h 0 109)) (st (h 0 113).toNat) (tu) := p4
  obtain ⟨-, xc, xt, ⟨xe, xu1, xu2⟩, xo1, -, -, -, -, -, -, -, -, -, -, -, -, -, -, -, -, -, -, -, -, -, -, -, -, -, -, -⟩ := p3
  replace xo1 := xo1 (by omega)
  have xo9s : ∀ y z, s = y :: z → y.1 = 9 → y.2.1 ≤ 7 := fun y z e q => by subst e; exact (p4.2.2.1.2.2.2.2.2.2.2.2.2.2.2.2.1 q).2.2.1
  have hne : ∀ y z, s = y :: z → y.1 = 9 → y.2.1 ≤ 6 := fun y z e q => (by
    rcases (p2' y z e).2.2.2.2 q with z1 | z1
    · exact z1
    · have := top.2.2.1 rfl y z e q
      have q3 := xo9s y z e q
      rcases Int.lt_or_le 6 y.2.1 with l | l
      · exact absurd hbe (this (by omega))
      · exact l)
  refine fin0 hB (pk_S_L (show 0 ≤ (h 0 17) + 1 by omega) (pk_S_L (show 0 ≤ (h 0 17) by omega) (pk_S_ag (ag_up rfl ag_refl) hS))) (by (try unfold mo_L); (try unfold mo_tk); (repeat (refine ag_up rfl ?_)); exact ag_refl) (idle_of (show (1 : Int) ≠ 4 ∧ (1 : Int) ≠ 21 ∧ (1 : Int) ≠ 22 ∧ (1 : Int) ≠ 28 ∧ (1 : Int) ≠ 24 by decide)) (fun _ q => List.mem_cons_of_mem _ (List.mem_cons_of_mem _ (q))) (fun p q => by simp only [pp_cons] at q ⊢; rcases q with q | q | q <;> first | (exact Or.inr q) | (exfalso; simp [pp] at q)) ?_ ?_ ?_ ?_ ?_ ?_ ⟨?_, ?_, ?_⟩ (by simp only [pi_if, List.mem_cons, exists_eq_or_imp]; simp) ⟨(fun q y hy => by (try simp only [List.mem_cons] at hy); (rcases hy with rfl | rfl | hy) <;> first | (exact q _ (List.mem_cons_of_mem _ hy)) | (have := q _ List.mem_cons_self; dsimp only at this ⊢; omega)), (fun q y hy => by (try simp only [List.mem_cons] at hy); (rcases hy with rfl | rfl | hy) <;> first | (exact q _ (List.mem_cons_of_mem _ hy)) | (have := q _ List.mem_cons_self; dsimp only at this ⊢; omega))⟩ ?_ ⟨fun e => absurd e (by dsimp only; omega), fun _ => ⟨hbe, q2, q3⟩, fun e => absurd e (by dsimp only; omega), fun e => absurd e (by dsimp only; omega)⟩ ?_ (by (try unfold mo_L); (try unfold mo_tk); (repeat (refine ag_up rfl ?_)); exact ag_refl)
  · show (h 0 18) + 1 = _; (try simp only [pk_sum]); omega
  · show (h 0 113) + _ < 5 * ((h 0 7)); (try simp only [pk_sum]); omega
  · show (h 0 95) + _ < (h 0 7); (try simp only [pk_sum]); omega
  · show (h 0 7) ≤ (h 0 7); omega
  · show (h 0 84) = _; (try simp only [pk_sum]); omega
  · show (h 0 87) = _; (try simp only [pk_sum]); omega
  · show ph = 1 ∨ (h 0 79) ≤ (h 0 77); omega
  · show ph = 1 ∨ (h 0 77) ≤ 10; omega
  · intro q; show ph = 1 ∨ (h 0 77) ≤ 9; refine b4 (fun z => q ?_); intro y hy; simp only [List.mem_cons] at hy; rcases hy with rfl | rfl | hy
    · show (6 : Int) ≠ 17; decide
    · show (2 : Int) ≠ 17; decide
    · exact z y (List.mem_cons_of_mem _ hy)
  · exact ⟨⟨⟨by (try simp only [pk_sum]); omega, by (try simp only [pk_sum]); omega⟩, (fun p q => absurd q (by simp [pp]))⟩, ⟨by (try simp only [pk_sum, List.length_cons]); (try dsimp only); omega, (by intro y z e; cases e; dsimp only; omega)⟩, (show pt_ok (h 74) ht st rg (h 0 113) (h 0 88) (h 0 77) r (pi_wn h r) (6, 0, 0) ((2, a, 0) :: s) (ht (h 0 113).toNat - 0) ((h 0 109)) (st (h 0 113).toNat) (tu) from by unfold pt_ok; (try dsimp only); (try simp only [pk_sum]); exact ⟨⟨by omega, by omega, by omega, by omega⟩, by omega, by omega, ⟨by first | omega | simp, by omega, by omega⟩, fun z => absurd z (by omega), fun z => absurd z (by omega), fun z => absurd z (by omega), fun z => absurd z (by omega), fun z => absurd z (by omega), fun _ => by first | omega | trivial | (simp only [true_and, and_true]; omega), fun z => absurd z (by omega), fun z => absurd z (by omega), fun z => absurd z (by omega), fun z => absurd z (by omega), fun z => absurd z (by omega), fun z => absurd z (by omega), fun z => absurd z (by omega), fun z => absurd z (by omega), fun z => absurd z (by omega), fun z => absurd z (by omega), fun z => absurd z (by omega), fun z => absurd z (by omega), fun z => absurd z (by omega), fun z => absurd z (by omega), fun z => absurd z (by omega), fun z => absurd z (by omega), fun z => absurd z (by omega), fun z => absurd z (by omega), fun z => absurd z (by omega), fun z => absurd z (by omega), fun z => absurd z (by omega), fun z => absurd z (by omega)⟩), ⟨⟨⟨by (try simp only [pk_sum]); omega, by (try simp only [pk_sum]); omega⟩, (fun p q => absurd q (by simp [pp]))⟩, ⟨by (try simp only [pk_sum, List.length_cons]); (try dsimp only); omega, (by intro y z e; have q := p2' y z e; have q6 := hne y z e; dsimp only at q ⊢; omega)⟩, (show pt_ok (h 74) ht st rg (h 0 113) (h 0 88) (h 0 77) r (pi_wn h r) (2, a, 0) (s) (ht (h 0 113).toNat - 0 + 1) ((h 0 109)) (st (h 0 113).toNat) (tu) from by unfold pt_ok; (try dsimp only); (try simp only [pk_sum]); exact ⟨⟨by omega, by omega, by omega, by omega⟩, by omega, by omega, ⟨by first | omega | simp, by omega, by omega⟩, fun z => absurd z (by omega), fun _ => by first | omega | trivial | (simp only [true_and, and_true]; omega), fun z => absurd z (by omega), fun z => absurd z (by omega), fun z => absurd z (by omega), fun z => absurd z (by omega), fun z => absurd z (by omega), fun z => absurd z (by omega), fun z => absurd z (by omega), fun z => absurd z (by omega), fun z => absurd z (by omega), fun z => absurd z (by omega), fun z => absurd z (by omega), fun z => absurd z (by omega), fun z => absurd z (by omega), fun z => absurd z (by omega), fun z => absurd z (by omega), fun z => absurd z (by omega), fun z => absurd z (by omega), fun z => absurd z (by omega), fun z => absurd z (by omega), fun z => absurd z (by omega), fun z => absurd z (by omega), fun z => absurd z (by omega), fun z => absurd z (by omega), fun z => absurd z (by omega), fun z => absurd z (by omega), fun z => absurd z (by omega)⟩), (pt_eq (show _ = ht (h 0 113).toNat - 0 + 1 by omega) (show _ = (h 0 109) by omega) (show _ = st (h 0 113).toNat by omega) p4)⟩⟩
  · show 40 * (900 - ((h 0 7))) + pk_sum pk_m ((6, 0, 0) :: (2, a, 0) :: s) + 13 < 40 * (900 - (h 0 7)) + pk_sum pk_m ((1, a, b) :: s) + 13; (try simp only [pk_sum]); omega

theorem ab_od_br {h : ja_H} {R r ph q0 : Int} {tf : mo_TF} {s : List mo_A} {ht st rg : Nat → Int} {tu a b : Int} (g : mo_G Zz h) (hS : pk_S h (h 0 17).toNat s) (hB : piB h R r ph tf q0 ((6, a, b) :: s) ht st rg tu)  : pi_done h (mo_L (mo_L (mo_L (mo_tk (h)) 7 0 0 0) 38 0 0 0) 1 0 0 0) R r ph tf q0 (pi_mu h ((6, a, b) :: s)) := by
  have hN := piB_num g hS hB
  obtain ⟨N1, N2, N3, N4, N5, N6, N7, N8, N9, N10, N11, N12, N13, ⟨NK1, NK2⟩, ND1, ND2, ND3, NU1, NU2⟩ := hN
  obtain ⟨⟨n1, n2, n3, n4, n5, n6, n7, n8, n9⟩, ⟨b1, b2, b3, b4⟩, reg, hpt, ⟨hC, hU⟩, hNo, hP, hT, top⟩ := id hB
  obtain ⟨⟨⟨p1, p1'⟩, p1u⟩, ⟨p2, p2'⟩, p3, p4⟩ := hpt
  have w0 := (gF_wTop g).1
  simp only [pk_sum] at n1 n2 n3 n6 n7
  dsimp only at p2 p2' N6
  have ec1 : pk_c 1 = 0 := rfl
  have ev1 : pk_v 1 = (-4) := rfl
  have ed1 : pk_d 1 = 0 := rfl
  have eq1 : pk_q 1 = 0 := rfl
  have ef1 : pk_f 1 = 0 := rfl
  have em1 : pk_m 1 = (-10) := rfl
  have eoff1 : pk_off 1 = 7 := rfl
  have ek1 : pk_k r 1 = 0 := rfl
  have ec6 : pk_c 6 = 0 := rfl
  have ev6 : pk_v 6 = (-4) := rfl
  have ed6 : pk_d 6 = 0 := rfl
  have eq6 : pk_q 6 = 0 := rfl
  have ef6 : pk_f 6 = 0 := rfl
  have em6 : pk_m 6 = (-12) := rfl
  have eoff6 : pk_off 6 = 2 := rfl
  have ek6 : pk_k r 6 = 0 := rfl
  have ec7 : pk_c 7 = 0 := rfl
  have ev7 : pk_v 7 = 0 := rfl
  have ed7 : pk_d 7 = 0 := rfl
  have eq7 : pk_q 7 = 0 := rfl
  have ef7 : pk_f 7 = 0 := rfl
  have em7 : pk_m 7 = 1 := rfl
  have eoff7 : pk_off 7 = 2 := rfl
  have ek7 : pk_k r 7 = 0 := rfl
  have ec38 : pk_c 38 = 0 := rfl
  have ev38 : pk_v 38 = 0 := rfl
  have ed38 : pk_d 38 = 0 := rfl
  have eq38 : pk_q 38 = 0 := rfl
  have ef38 : pk_f 38 = 0 := rfl
  have em38 : pk_m 38 = 1 := rfl
  have eoff38 : pk_off 38 = 3 := rfl
  have ek38 : pk_k r 38 = 0 := rfl
  replace p3 : pt_ok (h 74) ht st rg (h 0 113) (h 0 88) (h 0 77) r (pi_wn h r) (6, a, b) s ((ht (h 0 113).toNat - 0)) (h 0 109) (st (h 0 113).toNat) tu := p3
  unfold pt_ok at p3; dsimp only at p3
  replace p4 : pt (h 74) ht st rg (h 0 113) (h 0 88) (h 0 77) r tf (pi_wn h r) s ((ht (h 0 113).toNat - 0) + 1) ((h 0 109)) (st (h 0 113).toNat) (tu) := p4
  obtain ⟨-, xc, xt, ⟨xe, xu1, xu2⟩, -, -, -, -, -, xo6, -, -, -, -, -, -, -, -, -, -, -, -, -, -, -, -, -, -, -, -, -, -⟩ := p3
  replace xo6 := xo6 (by omega)
  refine fin0 hB (pk_S_L (show 0 ≤ (h 0 17) + 1 + 1 by omega) (pk_S_L (show 0 ≤ (h 0 17) + 1 by omega) (pk_S_L (show 0 ≤ (h 0 17) by omega) (pk_S_ag (ag_up rfl ag_refl) hS)))) (by (try unfold mo_L); (try unfold mo_tk); (repeat (refine ag_up rfl ?_)); exact ag_refl) (idle_of (show (6 : Int) ≠ 4 ∧ (6 : Int) ≠ 21 ∧ (6 : Int) ≠ 22 ∧ (6 : Int) ≠ 28 ∧ (6 : Int) ≠ 24 by decide)) (fun _ q => List.mem_cons_of_mem _ (List.mem_cons_of_mem _ (List.mem_cons_of_mem _ (q)))) (fun p q => by simp only [pp_cons] at q ⊢; rcases q with q | q | q | q <;> first | (exact Or.inr q) | (exfalso; simp [pp] at q)) ?_ ?_ ?_ ?_ ?_ ?_ ⟨?_, ?_, ?_⟩ (by simp only [pi_if, List.mem_cons, exists_eq_or_imp]; simp) ⟨(fun q y hy => by (try simp only [List.mem_cons] at hy); (rcases hy with rfl | rfl | rfl | hy) <;> first | (exact q _ (List.mem_cons_of_mem _ hy)) | (have := q _ List.mem_cons_self; dsimp only at this ⊢; omega)), (fun q y hy => by (try simp only [List.mem_cons] at hy); (rcases hy with rfl | rfl | rfl | hy) <;> first | (exact q _ (List.mem_cons_of_mem _ hy)) | (have := q _ List.mem_cons_self; dsimp only at this ⊢; omega))⟩ ?_ ⟨fun e => absurd e (by dsimp only; omega), fun e => absurd e (by dsimp only; omega), fun _ y z e => by cases e; intro q; exact absurd q (by dsimp only; omega), fun e => absurd e (by dsimp only; omega)⟩ ?_ (by (try unfold mo_L); (try unfold mo_tk); (repeat (refine ag_up rfl ?_)); exact ag_refl)
  · show (h 0 18) = _; (try simp only [pk_sum]); omega
  · show (h 0 113) + _ < 5 * ((h 0 7) + 1); (try simp only [pk_sum]); omega
  · show (h 0 95) + _ < (h 0 7) + 1; (try simp only [pk_sum]); omega
  · show (h 0 7) ≤ (h 0 7) + 1; omega
  · show (h 0 84) = _; (try simp only [pk_sum]); omega
  · show (h 0 87) = _; (try simp only [pk_sum]); omega
  · show ph = 1 ∨ (h 0 79) ≤ (h 0 77); omega
  · show ph = 1 ∨ (h 0 77) ≤ 10; omega
  · intro q; show ph = 1 ∨ (h 0 77) ≤ 9; refine b4 (fun z => q ?_); intro y hy; simp only [List.mem_cons] at hy; rcases hy with rfl | rfl | rfl | hy
    · show (1 : Int) ≠ 17; decide
    · show (38 : Int) ≠ 17; decide
    · show (7 : Int) ≠ 17; decide
    · exact z y (List.mem_cons_of_mem _ hy)
  · exact ⟨⟨⟨by (try simp only [pk_sum]); omega, by (try simp only [pk_sum]); omega⟩, (fun p q => absurd q (by simp [pp]))⟩, ⟨by (try simp only [pk_sum, List.length_cons]); (try dsimp only); omega, (by intro y z e; cases e; dsimp only; omega)⟩, (show pt_ok (h 74) ht st rg (h 0 113) (h 0 88) (h 0 77) r (pi_wn h r) (1, 0, 0) ((38, 0, 0) :: (7, 0, 0) :: s) (ht (h 0 113).toNat - 0) ((h 0 109)) (st (h 0 113).toNat) (tu) from by unfold pt_ok; (try dsimp only); (try simp only [pk_sum]); exact ⟨⟨by omega, by omega, by omega, by omega⟩, by omega, by omega, ⟨by first | omega | simp, by omega, by omega⟩, fun _ => by first | omega | trivial | (simp only [true_and, and_true]; omega), fun z => absurd z (by omega), fun z => absurd z (by omega), fun z => absurd z (by omega), fun z => absurd z (by omega), fun z => absurd z (by omega), fun z => absurd z (by omega), fun z => absurd z (by omega), fun z => absurd z (by omega), fun z => absurd z (by omega), fun z => absurd z (by omega), fun z => absurd z (by omega), fun z => absurd z (by omega), fun z => absurd z (by omega), fun z => absurd z (by omega), fun z => absurd z (by omega), fun z => absurd z (by omega), fun z => absurd z (by omega), fun z => absurd z (by omega), fun z => absurd z (by omega), fun z => absurd z (by omega), fun z => absurd z (by omega), fun z => absurd z (by omega), fun z => absurd z (by omega), fun z => absurd z (by omega), fun z => absurd z (by omega), fun z => absurd z (by omega), fun z => absurd z (by omega)⟩), ⟨⟨⟨by (try simp only [pk_sum]); omega, by (try simp only [pk_sum]); omega⟩, (fun p q => absurd q (by simp [pp]))⟩, ⟨by (try simp only [pk_sum, List.length_cons]); (try dsimp only); omega, (by intro y z e; cases e; dsimp only; omega)⟩, (show pt_ok (h 74) ht st rg (h 0 113) (h 0 88) (h 0 77) r (pi_wn h r) (38, 0, 0) ((7, 0, 0) :: s) (ht (h 0 113).toNat - 0 + 1) ((h 0 109)) (st (h 0 113).toNat) (tu) from by unfold pt_ok; (try dsimp only); (try simp only [pk_sum]); exact ⟨⟨by omega, by omega, by omega, by omega⟩, by omega, by omega, ⟨by first | omega | simp, by omega, by omega⟩, fun z => absurd z (by omega), fun z => absurd z (by omega), fun z => absurd z (by omega), fun z => absurd z (by omega), fun z => absurd z (by omega), fun z => absurd z (by omega), fun _ => by first | omega | trivial | (simp only [true_and, and_true]; omega), fun z => absurd z (by omega), fun z => absurd z (by omega), fun z => absurd z (by omega), fun z => absurd z (by omega), fun z => absurd z (by omega), fun z => absurd z (by omega), fun z => absurd z (by omega), fun z => absurd z (by omega), fun z => absurd z (by omega), fun z => absurd z (by omega), fun z => absurd z (by omega), fun z => absurd z (by omega), fun z => absurd z (by omega), fun z => absurd z (by omega), fun z => absurd z (by omega), fun z => absurd z (by omega), fun z => absurd z (by omega), fun z => absurd z (by omega), fun z => absurd z (by omega), fun z => absurd z (by omega), fun z => absurd z (by omega)⟩), ⟨⟨⟨by (try simp only [pk_sum]); omega, by (try simp only [pk_sum]); omega⟩, (fun p q => absurd q (by simp [pp]))⟩, ⟨by (try simp only [pk_sum, List.length_cons]); (try dsimp only); omega, (by intro y z e; have q := p2' y z e; dsimp only at q ⊢; omega)⟩, (show pt_ok (h 74) ht st rg (h 0 113) (h 0 88) (h 0 77) r (pi_wn h r) (7, 0, 0) (s) (ht (h 0 113).toNat - 0 + 1) ((h 0 109)) (st (h 0 113).toNat) (tu) from by unfold pt_ok; (try dsimp only); (try simp only [pk_sum]); exact ⟨⟨by omega, by omega, by omega, by omega⟩, by omega, by omega, ⟨by first | omega | simp, by omega, by omega⟩, fun z => absurd z (by omega), fun z => absurd z (by omega), fun z => absurd z (by omega), fun z => absurd z (by omega), fun z => absurd z (by omega), fun z => absurd z (by omega), fun _ => by first | omega | trivial | (simp only [true_and, and_true]; omega), fun z => absurd z (by omega), fun z => absurd z (by omega), fun z => absurd z (by omega), fun z => absurd z (by omega), fun z => absurd z (by omega), fun z => absurd z (by omega), fun z => absurd z (by omega), fun z => absurd z (by omega), fun z => absurd z (by omega), fun z => absurd z (by omega), fun z => absurd z (by omega), fun z => absurd z (by omega), fun z => absurd z (by omega), fun z => absurd z (by omega), fun z => absurd z (by omega), fun z => absurd z (by omega), fun z => absurd z (by omega), fun z => absurd z (by omega), fun z => absurd z (by omega), fun z => absurd z (by omega), fun z => absurd z (by omega)⟩), (pt_eq (show _ = ht (h 0 113).toNat - 0 + 1 by omega) (show _ = (h 0 109) by omega) (show _ = st (h 0 113).toNat by omega) p4)⟩⟩⟩
  · show 40 * (900 - ((h 0 7) + 1)) + pk_sum pk_m ((1, 0, 0) :: (38, 0, 0) :: (7, 0, 0) :: s) + 13 < 40 * (900 - (h 0 7)) + pk_sum pk_m ((6, a, b) :: s) + 13; (try simp only [pk_sum]); omega

theorem ab_od_go {h : ja_H} {R r ph q0 : Int} {tf : mo_TF} {s : List mo_A} {ht st rg : Nat → Int} {tu a b : Int} (g : mo_G Zz h) (hS : pk_S h (h 0 17).toNat s) (hB : piB h R r ph tf q0 ((6, a, b) :: s) ht st rg tu) (hgo : pi_wn h r (-1)) (hgr : r ≤ 3) : pi_done h (mo_L (mo_L (mo_L (mo_tk (h)) 7 0 0 0) 12 0 0 0) 8 0 0 0) R r ph tf q0 (pi_mu h ((6, a, b) :: s)) := by
  have hN := piB_num g hS hB
  obtain ⟨N1, N2, N3, N4, N5, N6, N7, N8, N9, N10, N11, N12, N13, ⟨NK1, NK2⟩, ND1, ND2, ND3, NU1, NU2⟩ := hN
  obtain ⟨⟨n1, n2, n3, n4, n5, n6, n7, n8, n9⟩, ⟨b1, b2, b3, b4⟩, reg, hpt, ⟨hC, hU⟩, hNo, hP, hT, top⟩ := id hB
  obtain ⟨⟨⟨p1, p1'⟩, p1u⟩, ⟨p2, p2'⟩, p3, p4⟩ := hpt
  have w0 := (gF_wTop g).1
  simp only [pk_sum] at n1 n2 n3 n6 n7
  dsimp only at p2 p2' N6
  have ec6 : pk_c 6 = 0 := rfl
  have ev6 : pk_v 6 = (-4) := rfl
  have ed6 : pk_d 6 = 0 := rfl
  have eq6 : pk_q 6 = 0 := rfl
  have ef6 : pk_f 6 = 0 := rfl
  have em6 : pk_m 6 = (-12) := rfl
  have eoff6 : pk_off 6 = 2 := rfl
  have ek6 : pk_k r 6 = 0 := rfl
  have ec7 : pk_c 7 = 0 := rfl
  have ev7 : pk_v 7 = 0 := rfl
  have ed7 : pk_d 7 = 0 := rfl
  have eq7 : pk_q 7 = 0 := rfl
  have ef7 : pk_f 7 = 0 := rfl
  have em7 : pk_m 7 = 1 := rfl
  have eoff7 : pk_off 7 = 2 := rfl
  have ek7 : pk_k r 7 = 0 := rfl
  have ec8 : pk_c 8 = 0 := rfl
  have ev8 : pk_v 8 = 0 := rfl
  have ed8 : pk_d 8 = 0 := rfl
  have eq8 : pk_q 8 = 0 := rfl
  have ef8 : pk_f 8 = 0 := rfl
  have em8 : pk_m 8 = 1 := rfl
  have eoff8 : pk_off 8 = 4 := rfl
  have ek8 : pk_k r 8 = 0 := rfl
  have ec12 : pk_c 12 = 0 := rfl
  have ev12 : pk_v 12 = 1 := rfl
  have ed12 : pk_d 12 = 0 := rfl
  have eq12 : pk_q 12 = 0 := rfl
  have ef12 : pk_f 12 = 0 := rfl
  have em12 : pk_m 12 = 1 := rfl
  have eoff12 : pk_off 12 = 3 := rfl
  have ek12 : pk_k r 12 = 0 := rfl
  replace p3 : pt_ok (h 74) ht st rg (h 0 113) (h 0 88) (h 0 77) r (pi_wn h r) (6, a, b) s ((ht (h 0 113).toNat - 0)) (h 0 109) (st (h 0 113).toNat) tu := p3
  unfold pt_ok at p3; dsimp only at p3
  replace p4 : pt (h 74) ht st rg (h 0 113) (h 0 88) (h 0 77) r tf (pi_wn h r) s ((ht (h 0 113).toNat - 0) + 1) ((h 0 109)) (st (h 0 113).toNat) (tu) := p4
  obtain ⟨-, xc, xt, ⟨xe, xu1, xu2⟩, -, -, -, -, -, xo6, -, -, -, -, -, -, -, -, -, -, -, -, -, -, -, -, -, -, -, -, -, -⟩ := p3
  replace xo6 := xo6 (by omega)
  refine fin0 hB (pk_S_L (show 0 ≤ (h 0 17) + 1 + 1 by omega) (pk_S_L (show 0 ≤ (h 0 17) + 1 by omega) (pk_S_L (show 0 ≤ (h 0 17) by omega) (pk_S_ag (ag_up rfl ag_refl) hS)))) (by (try unfold mo_L); (try unfold mo_tk); (repeat (refine ag_up rfl ?_)); exact ag_refl) (idle_of (show (6 : Int) ≠ 4 ∧ (6 : Int) ≠ 21 ∧ (6 : Int) ≠ 22 ∧ (6 : Int) ≠ 28 ∧ (6 : Int) ≠ 24 by decide)) (fun _ q => List.mem_cons_of_mem _ (List.mem_cons_of_mem _ (List.mem_cons_of_mem _ (q)))) (fun p q => by simp only [pp_cons] at q ⊢; rcases q with q | q | q | q <;> first | (exact Or.inr q) | (exfalso; simp [pp] at q)) ?_ ?_ ?_ ?_ ?_ ?_ ⟨?_, ?_, ?_⟩ (by simp only [pi_if, List.mem_cons, exists_eq_or_imp]; simp) ⟨(fun q y hy => by (try simp only [List.mem_cons] at hy); (rcases hy with rfl | rfl | rfl | hy) <;> first | (exact q _ (List.mem_cons_of_mem _ hy)) | (have := q _ List.mem_cons_self; dsimp only at this ⊢; omega)), (fun q y hy => by (try simp only [List.mem_cons] at hy); (rcases hy with rfl | rfl | rfl | hy) <;> first | (exact q _ (List.mem_cons_of_mem _ hy)) | (have := q _ List.mem_cons_self; dsimp only at this ⊢; omega))⟩ ?_ ⟨fun e => absurd e (by dsimp only; omega), fun e => absurd e (by dsimp only; omega), fun e => absurd e (by dsimp only; omega), fun e => absurd e (by dsimp only; omega)⟩ ?_ (by (try unfold mo_L); (try unfold mo_tk); (repeat (refine ag_up rfl ?_)); exact ag_refl)
  · show (h 0 18) = _; (try simp only [pk_sum]); omega
  · show (h 0 113) + _ < 5 * ((h 0 7) + 1); (try simp only [pk_sum]); omega
  · show (h 0 95) + _ < (h 0 7) + 1; (try simp only [pk_sum]); omega
  · show (h 0 7) ≤ (h 0 7) + 1; omega
  · show (h 0 84) = _; (try simp only [pk_sum]); omega
  · show (h 0 87) = _; (try simp only [pk_sum]); omega
  · show ph = 1 ∨ (h 0 79) ≤ (h 0 77); omega
  · show ph = 1 ∨ (h 0 77) ≤ 10; omega
  · intro q; show ph = 1 ∨ (h 0 77) ≤ 9; refine b4 (fun z => q ?_); intro y hy; simp only [List.mem_cons] at hy; rcases hy with rfl | rfl | rfl | hy
    · show (8 : Int) ≠ 17; decide
    · show (12 : Int) ≠ 17; decide
    · show (7 : Int) ≠ 17; decide
    · exact z y (List.mem_cons_of_mem _ hy)
  · exact ⟨⟨⟨by (try simp only [pk_sum]); omega, by (try simp only [pk_sum]); omega⟩, (fun p q => absurd q (by simp [pp]))⟩, ⟨by (try simp only [pk_sum, List.length_cons]); (try dsimp only); omega, (by intro y z e; cases e; dsimp only; omega)⟩, (show pt_ok (h 74) ht st rg (h 0 113) (h 0 88) (h 0 77) r (pi_wn h r) (8, 0, 0) ((12, 0, 0) :: (7, 0, 0) :: s) (ht (h 0 113).toNat - 0) ((h 0 109)) (st (h 0 113).toNat) (tu) from by unfold pt_ok; (try dsimp only); (try simp only [pk_sum]); exact ⟨⟨by omega, by omega, by omega, by omega⟩, by omega, by omega, ⟨by first | omega | simp, by omega, by omega⟩, fun z => absurd z (by omega), fun z => absurd z (by omega), fun z => absurd z (by omega), fun z => absurd z (by omega), fun z => absurd z (by omega), fun z => absurd z (by omega), fun z => absurd z (by omega), fun _ => ⟨_, _, rfl, by dsimp only; omega⟩, fun z => absurd z (by omega), fun z => absurd z (by omega), fun z => absurd z (by omega), fun z => absurd z (by omega), fun z => absurd z (by omega), fun z => absurd z (by omega), fun z => absurd z (by omega), fun z => absurd z (by omega), fun z => absurd z (by omega), fun z => absurd z (by omega), fun z => absurd z (by omega), fun z => absurd z (by omega), fun z => absurd z (by omega), fun z => absurd z (by omega), fun z => absurd z (by omega), fun z => absurd z (by omega), fun z => absurd z (by omega), fun z => absurd z (by omega), fun z => absurd z (by omega), fun z => absurd z (by omega)⟩), ⟨⟨⟨by (try simp only [pk_sum]); omega, by (try simp only [pk_sum]); omega⟩, (fun p q => absurd q (by simp [pp]))⟩, ⟨by (try simp only [pk_sum, List.length_cons]); (try dsimp only); omega, (by intro y z e; cases e; dsimp only; omega)⟩, (show pt_ok (h 74) ht st rg (h 0 113) (h 0 88) (h 0 77) r (pi_wn h r) (12, 0, 0) ((7, 0, 0) :: s) (ht (h 0 113).toNat - 0) ((h 0 109)) (st (h 0 113).toNat) (tu) from by unfold pt_ok; (try dsimp only); (try simp only [pk_sum]); exact ⟨⟨by omega, by omega, by omega, by omega⟩, by omega, by omega, ⟨by first | omega | simp, by omega, by omega⟩, fun z => absurd z (by omega), fun z => absurd z (by omega), fun z => absurd z (by omega), fun z => absurd z (by omega), fun z => absurd z (by omega), fun z => absurd z (by omega), fun z => absurd z (by omega), fun z => absurd z (by omega), fun z => absurd z (by omega), fun z => absurd z (by omega), fun z => absurd z (by omega), fun _ => ⟨by omega, hgo, hgr⟩, fun z => absurd z (by omega), fun z => absurd z (by omega), fun z => absurd z (by omega), fun z => absurd z (by omega), fun z => absurd z (by omega), fun z => absurd z (by omega), fun z => absurd z (by omega), fun z => absurd z (by omega), fun z => absurd z (by omega), fun z => absurd z (by omega), fun z => absurd z (by omega), fun z => absurd z (by omega), fun z => absurd z (by omega), fun z => absurd z (by omega), fun z => absurd z (by omega), fun z => absurd z (by omega)⟩), ⟨⟨⟨by (try simp only [pk_sum]); omega, by (try simp only [pk_sum]); omega⟩, (fun p q => absurd q (by simp [pp]))⟩, ⟨by (try simp only [pk_sum, List.length_cons]); (try dsimp only); omega, (by intro y z e; have q := p2' y z e; dsimp only at q ⊢; omega)⟩, (show pt_ok (h 74) ht st rg (h 0 113) (h 0 88) (h 0 77) r (pi_wn h r) (7, 0, 0) (s) (ht (h 0 113).toNat - 0 + 1) ((h 0 109)) (st (h 0 113).toNat) (tu) from by unfold pt_ok; (try dsimp only); (try simp only [pk_sum]); exact ⟨⟨by omega, by omega, by omega, by omega⟩, by omega, by omega, ⟨by first | omega | simp, by omega, by omega⟩, fun z => absurd z (by omega), fun z => absurd z (by omega), fun z => absurd z (by omega), fun z => absurd z (by omega), fun z => absurd z (by omega), fun z => absurd z (by omega), fun _ => by first | omega | trivial | (simp only [true_and, and_true]; omega), fun z => absurd z (by omega), fun z => absurd z (by omega), fun z => absurd z (by omega), fun z => absurd z (by omega), fun z => absurd z (by omega), fun z => absurd z (by omega), fun z => absurd z (by omega), fun z => absurd z (by omega), fun z => absurd z (by omega), fun z => absurd z (by omega), fun z => absurd z (by omega), fun z => absurd z (by omega), fun z => absurd z (by omega), fun z => absurd z (by omega), fun z => absurd z (by omega), fun z => absurd z (by omega), fun z => absurd z (by omega), fun z => absurd z (by omega), fun z => absurd z (by omega), fun z => absurd z (by omega), fun z => absurd z (by omega)⟩), (pt_eq (show _ = ht (h 0 113).toNat - 0 + 1 by omega) (show _ = (h 0 109) by omega) (show _ = st (h 0 113).toNat by omega) p4)⟩⟩⟩
  · show 40 * (900 - ((h 0 7) + 1)) + pk_sum pk_m ((8, 0, 0) :: (12, 0, 0) :: (7, 0, 0) :: s) + 13 < 40 * (900 - (h 0 7)) + pk_sum pk_m ((6, a, b) :: s) + 13; (try simp only [pk_sum]); omega

theorem ab_args_0 {h : ja_H} {R r ph q0 : Int} {tf : mo_TF} {s : List mo_A} {ht st rg : Nat → Int} {tu a b : Int} (g : mo_G Zz h) (hS : pk_S h (h 0 17).toNat s) (hB : piB h R r ph tf q0 ((8, a, b) :: s) ht st rg tu)  : pi_done h (mo_tk (ja_up (mo_tk (h)) 0 21 (0))) R r ph tf q0 (pi_mu h ((8, a, b) :: s)) := by
  have hN := piB_num g hS hB
  obtain ⟨N1, N2, N3, N4, N5, N6, N7, N8, N9, N10, N11, N12, N13, ⟨NK1, NK2⟩, ND1, ND2, ND3, NU1, NU2⟩ := hN
  obtain ⟨⟨n1, n2, n3, n4, n5, n6, n7, n8, n9⟩, ⟨b1, b2, b3, b4⟩, reg, hpt, ⟨hC, hU⟩, hNo, hP, hT, top⟩ := id hB
  obtain ⟨⟨⟨p1, p1'⟩, p1u⟩, ⟨p2, p2'⟩, p3, p4⟩ := hpt
  have w0 := (gF_wTop g).1
  simp only [pk_sum] at n1 n2 n3 n6 n7
  dsimp only at p2 p2' N6
  have ec8 : pk_c 8 = 0 := rfl
  have ev8 : pk_v 8 = 0 := rfl
  have ed8 : pk_d 8 = 0 := rfl
  have eq8 : pk_q 8 = 0 := rfl
  have ef8 : pk_f 8 = 0 := rfl
  have em8 : pk_m 8 = 1 := rfl
  have eoff8 : pk_off 8 = 4 := rfl
  have ek8 : pk_k r 8 = 0 := rfl
  replace p3 : pt_ok (h 74) ht st rg (h 0 113) (h 0 88) (h 0 77) r (pi_wn h r) (8, a, b) s ((ht (h 0 113).toNat - 0)) (h 0 109) (st (h 0 113).toNat) tu := p3
  unfold pt_ok at p3; dsimp only at p3
  replace p4 : pt (h 74) ht st rg (h 0 113) (h 0 88) (h 0 77) r tf (pi_wn h r) s ((ht (h 0 113).toNat - 0)) ((h 0 109)) (st (h 0 113).toNat) (tu) := p4
  obtain ⟨-, xc, xt, ⟨xe, xu1, xu2⟩, -, -, -, -, -, -, -, xo8, -, -, -, -, -, -, -, -, -, -, -, -, -, -, -, -, -, -, -, -⟩ := p3
  replace xo8 := xo8 (by omega)
  refine fin0 hB (pk_S_ag (ag_up rfl ag_refl) (pk_S_ag (ag_up rfl ag_refl) (pk_S_ag (ag_up rfl ag_refl) hS))) (by (try unfold mo_L); (try unfold mo_tk); (repeat (refine ag_up rfl ?_)); exact ag_refl) (idle_of (show (8 : Int) ≠ 4 ∧ (8 : Int) ≠ 21 ∧ (8 : Int) ≠ 22 ∧ (8 : Int) ≠ 28 ∧ (8 : Int) ≠ 24 by decide)) (fun _ q => q) (fun p q => pp_cons.mpr (Or.inr q)) ?_ ?_ ?_ ?_ ?_ ?_ ⟨?_, ?_, ?_⟩ (pi_if_tail (show (8 : Int) ≠ 36 by decide)) ⟨(fun q y hy => q y (List.mem_cons_of_mem _ hy)), (fun q y hy => q y (List.mem_cons_of_mem _ hy))⟩ ?_ (call_top xo8) ?_ (by (try unfold mo_L); (try unfold mo_tk); (repeat (refine ag_up rfl ?_)); exact ag_refl)
  · show (h 0 18) = _; (try simp only [pk_sum]); omega
  · show (h 0 113) + _ < 5 * ((h 0 7) + 1 + 1); (try simp only [pk_sum]); omega
  · show (h 0 95) + _ < (h 0 7) + 1 + 1; (try simp only [pk_sum]); omega
  · show (h 0 7) ≤ (h 0 7) + 1 + 1; omega
  · show (h 0 84) = _; (try simp only [pk_sum]); omega
  · show (h 0 87) = _; (try simp only [pk_sum]); omega
  · show ph = 1 ∨ (h 0 79) ≤ (h 0 77); omega
  · show ph = 1 ∨ (h 0 77) ≤ 10; omega
  · intro q; show ph = 1 ∨ (h 0 77) ≤ 9; exact b4 (fun z => q (fun y hy => z y (List.mem_cons_of_mem _ hy)))
  · rw [call_adj xo8]; exact pt_eq (show _ = ht (h 0 113).toNat - 0 by omega) (by omega) (by omega) p4
  · show 40 * (900 - ((h 0 7) + 1 + 1)) + pk_sum pk_m (s) + 13 < 40 * (900 - (h 0 7)) + pk_sum pk_m ((8, a, b) :: s) + 13; (try simp only [pk_sum]); omega

theorem ab_args_1 {h : ja_H} {R r ph q0 : Int} {tf : mo_TF} {s : List mo_A} {ht st rg : Nat → Int} {tu a b : Int} (g : mo_G Zz h) (hS : pk_S h (h 0 17).toNat s) (hB : piB h R r ph tf q0 ((8, a, b) :: s) ht st rg tu)  : pi_done h (mo_L (mo_L (ja_up (mo_tk (h)) 0 21 (0)) 9 1 0 0) 1 0 0 0) R r ph tf q0 (pi_mu h ((8, a, b) :: s)) := by
  have hN := piB_num g hS hB
  obtain ⟨N1, N2, N3, N4, N5, N6, N7, N8, N9, N10, N11, N12, N13, ⟨NK1, NK2⟩, ND1, ND2, ND3, NU1, NU2⟩ := hN
  obtain ⟨⟨n1, n2, n3, n4, n5, n6, n7, n8, n9⟩, ⟨b1, b2, b3, b4⟩, reg, hpt, ⟨hC, hU⟩, hNo, hP, hT, top⟩ := id hB
  obtain ⟨⟨⟨p1, p1'⟩, p1u⟩, ⟨p2, p2'⟩, p3, p4⟩ := hpt
  have w0 := (gF_wTop g).1
  simp only [pk_sum] at n1 n2 n3 n6 n7
  dsimp only at p2 p2' N6
  have ec1 : pk_c 1 = 0 := rfl
  have ev1 : pk_v 1 = (-4) := rfl
  have ed1 : pk_d 1 = 0 := rfl
  have eq1 : pk_q 1 = 0 := rfl
  have ef1 : pk_f 1 = 0 := rfl
  have em1 : pk_m 1 = (-10) := rfl
  have eoff1 : pk_off 1 = 7 := rfl
  have ek1 : pk_k r 1 = 0 := rfl
  have ec8 : pk_c 8 = 0 := rfl
  have ev8 : pk_v 8 = 0 := rfl
  have ed8 : pk_d 8 = 0 := rfl
  have eq8 : pk_q 8 = 0 := rfl
  have ef8 : pk_f 8 = 0 := rfl
  have em8 : pk_m 8 = 1 := rfl
  have eoff8 : pk_off 8 = 4 := rfl
  have ek8 : pk_k r 8 = 0 := rfl
  have ec9 : pk_c 9 = 0 := rfl
  have ev9 : pk_v 9 = 0 := rfl
  have ed9 : pk_d 9 = 0 := rfl
  have eq9 : pk_q 9 = 0 := rfl
  have ef9 : pk_f 9 = 0 := rfl
  have em9 : pk_m 9 = 1 := rfl
  have eoff9 : pk_off 9 = 4 := rfl
  have ek9 : pk_k r 9 = 0 := rfl
  replace p3 : pt_ok (h 74) ht st rg (h 0 113) (h 0 88) (h 0 77) r (pi_wn h r) (8, a, b) s ((ht (h 0 113).toNat - 0)) (h 0 109) (st (h 0 113).toNat) tu := p3
  unfold pt_ok at p3; dsimp only at p3
  replace p4 : pt (h 74) ht st rg (h 0 113) (h 0 88) (h 0 77) r tf (pi_wn h r) s ((ht (h 0 113).toNat - 0)) ((h 0 109)) (st (h 0 113).toNat) (tu) := p4
  obtain ⟨-, xc, xt, ⟨xe, xu1, xu2⟩, -, -, -, -, -, -, -, xo8, -, -, -, -, -, -, -, -, -, -, -, -, -, -, -, -, -, -, -, -⟩ := p3
  replace xo8 := xo8 (by omega)
  have hcc := pt_call_c xo8 p4
  refine fin0 hB (pk_S_L (show 0 ≤ (h 0 17) + 1 by omega) (pk_S_L (show 0 ≤ (h 0 17) by omega) (pk_S_ag (ag_up rfl ag_refl) (pk_S_ag (ag_up rfl ag_refl) hS)))) (by (try unfold mo_L); (try unfold mo_tk); (repeat (refine ag_up rfl ?_)); exact ag_refl) (idle_of (show (8 : Int) ≠ 4 ∧ (8 : Int) ≠ 21 ∧ (8 : Int) ≠ 22 ∧ (8 : Int) ≠ 28 ∧ (8 : Int) ≠ 24 by decide)) (fun _ q => List.mem_cons_of_mem _ (List.mem_cons_of_mem _ (q))) (fun p q => by simp only [pp_cons] at q ⊢; rcases q with q | q | q <;> first | (exact Or.inr q) | (exfalso; simp [pp] at q)) ?_ ?_ ?_ ?_ ?_ ?_ ⟨?_, ?_, ?_⟩ (by simp only [pi_if, List.mem_cons, exists_eq_or_imp]; simp) ⟨(fun q y hy => by (try simp only [List.mem_cons] at hy); (rcases hy with rfl | rfl | hy) <;> first | (exact q _ (List.mem_cons_of_mem _ hy)) | (have := q _ List.mem_cons_self; dsimp only at this ⊢; omega)), (fun q y hy => by (try simp only [List.mem_cons] at hy); (rcases hy with rfl | rfl | hy) <;> first | (exact q _ (List.mem_cons_of_mem _ hy)) | (have := q _ List.mem_cons_self; dsimp only at this ⊢; omega))⟩ ?_ ⟨fun e => absurd e (by dsimp only; omega), fun e => absurd e (by dsimp only; omega), fun _ y z e => by cases e; intro _ q; exact absurd q (by dsimp only; omega), fun e => absurd e (by dsimp only; omega)⟩ ?_ (by (try unfold mo_L); (try unfold mo_tk); (repeat (refine ag_up rfl ?_)); exact ag_refl)
  · show (h 0 18) = _; (try simp only [pk_sum]); omega
  · show (h 0 113) + _ < 5 * ((h 0 7) + 1); (try simp only [pk_sum]); omega
  · show (h 0 95) + _ < (h 0 7) + 1; (try simp only [pk_sum]); omega
  · show (h 0 7) ≤ (h 0 7) + 1; omega
  · show (h 0 84) = _; (try simp only [pk_sum]); omega
  · show (h 0 87) = _; (try simp only [pk_sum]); omega
  · show ph = 1 ∨ (h 0 79) ≤ (h 0 77); omega
  · show ph = 1 ∨ (h 0 77) ≤ 10; omega
  · intro q; show ph = 1 ∨ (h 0 77) ≤ 9; refine b4 (fun z => q ?_); intro y hy; simp only [List.mem_cons] at hy; rcases hy with rfl | rfl | hy
    · show (1 : Int) ≠ 17; decide
    · show (9 : Int) ≠ 17; decide
    · exact z y (List.mem_cons_of_mem _ hy)
  · exact ⟨⟨⟨by (try simp only [pk_sum]); omega, by (try simp only [pk_sum]); omega⟩, (fun p q => absurd q (by simp [pp]))⟩, ⟨by (try simp only [pk_sum, List.length_cons]); (try dsimp only); omega, (by intro y z e; cases e; dsimp only; omega)⟩, (show pt_ok (h 74) ht st rg (h 0 113) (h 0 88) (h 0 77) r (pi_wn h r) (1, 0, 0) ((9, 1, 0) :: s) (ht (h 0 113).toNat - 0) ((h 0 109)) (st (h 0 113).toNat) (tu) from by unfold pt_ok; (try dsimp only); (try simp only [pk_sum]); exact ⟨⟨by omega, by omega, by omega, by omega⟩, by omega, by omega, ⟨by first | omega | simp, by omega, by omega⟩, fun _ => by first | omega | trivial | (simp only [true_and, and_true]; omega), fun z => absurd z (by omega), fun z => absurd z (by omega), fun z => absurd z (by omega), fun z => absurd z (by omega), fun z => absurd z (by omega), fun z => absurd z (by omega), fun z => absurd z (by omega), fun z => absurd z (by omega), fun z => absurd z (by omega), fun z => absurd z (by omega), fun z => absurd z (by omega), fun z => absurd z (by omega), fun z => absurd z (by omega), fun z => absurd z (by omega), fun z => absurd z (by omega), fun z => absurd z (by omega), fun z => absurd z (by omega), fun z => absurd z (by omega), fun z => absurd z (by omega), fun z => absurd z (by omega), fun z => absurd z (by omega), fun z => absurd z (by omega), fun z => absurd z (by omega), fun z => absurd z (by omega), fun z => absurd z (by omega), fun z => absurd z (by omega), fun z => absurd z (by omega)⟩), ⟨⟨⟨by (try simp only [pk_sum]); omega, by (try simp only [pk_sum]); omega⟩, (fun p q => absurd q (by simp [pp]))⟩, ⟨by (try simp only [pk_sum, List.length_cons]); (try dsimp only); omega, (by intro y z e; have q := p2' y z e; dsimp only at q ⊢; omega)⟩, (show pt_ok (h 74) ht st rg (h 0 113) (h 0 88) (h 0 77) r (pi_wn h r) (9, 1, 0) (s) (ht (h 0 113).toNat - 0 + 1) ((h 0 109)) (st (h 0 113).toNat) (tu) from by unfold pt_ok; (try dsimp only); (try simp only [pk_sum]); exact ⟨⟨by omega, by omega, by omega, by omega⟩, by omega, by omega, ⟨by first | omega | simp, by omega, by omega⟩, fun z => absurd z (by omega), fun z => absurd z (by omega), fun z => absurd z (by omega), fun z => absurd z (by omega), fun z => absurd z (by omega), fun z => absurd z (by omega), fun z => absurd z (by omega), fun z => absurd z (by omega), fun _ => ⟨xo8, by omega, by omega, by omega⟩, fun z => absurd z (by omega), fun z => absurd z (by omega), fun z => absurd z (by omega), fun z => absurd z (by omega), fun z => absurd z (by omega), fun z => absurd z (by omega), fun z => absurd z (by omega), fun z => absurd z (by omega), fun z => absurd z (by omega), fun z => absurd z (by omega), fun z => absurd z (by omega), fun z => absurd z (by omega), fun z => absurd z (by omega), fun z => absurd z (by omega), fun z => absurd z (by omega), fun z => absurd z (by omega), fun z => absurd z (by omega), fun z => absurd z (by omega), fun z => absurd z (by omega)⟩), (pt_eq (show _ = ht (h 0 113).toNat - 0 + 1 - 1 by omega) (show _ = (h 0 109) by omega) (show _ = st (h 0 113).toNat by omega) p4)⟩⟩
  · show 40 * (900 - ((h 0 7) + 1)) + pk_sum pk_m ((1, 0, 0) :: (9, 1, 0) :: s) + 13 < 40 * (900 - (h 0 7)) + pk_sum pk_m ((8, a, b) :: s) + 13; (try simp only [pk_sum]); omega

theorem ab_arg_end {h : ja_H} {R r ph q0 : Int} {tf : mo_TF} {s : List mo_A} {ht st rg : Nat → Int} {tu a b : Int} (g : mo_G Zz h) (hS : pk_S h (h 0 17).toNat s) (hB : piB h R r ph tf q0 ((9, a, b) :: s) ht st rg tu)  : pi_done h (mo_tk (ja_up (h) 0 21 (a))) R r ph tf q0 (pi_mu h ((9, a, b) :: s)) := by
  have hN := piB_num g hS hB
  obtain ⟨N1, N2, N3, N4, N5, N6, N7, N8, N9, N10, N11, N12, N13, ⟨NK1, NK2⟩, ND1, ND2, ND3, NU1, NU2⟩ := hN
  obtain ⟨⟨n1, n2, n3, n4, n5, n6, n7, n8, n9⟩, ⟨b1, b2, b3, b4⟩, reg, hpt, ⟨hC, hU⟩, hNo, hP, hT, top⟩ := id hB
  obtain ⟨⟨⟨p1, p1'⟩, p1u⟩, ⟨p2, p2'⟩, p3, p4⟩ := hpt
  have w0 := (gF_wTop g).1
  simp only [pk_sum] at n1 n2 n3 n6 n7
  dsimp only at p2 p2' N6
  have ec9 : pk_c 9 = 0 := rfl
  have ev9 : pk_v 9 = 0 := rfl
  have ed9 : pk_d 9 = 0 := rfl
  have eq9 : pk_q 9 = 0 := rfl
  have ef9 : pk_f 9 = 0 := rfl
  have em9 : pk_m 9 = 1 := rfl
  have eoff9 : pk_off 9 = 4 := rfl
  have ek9 : pk_k r 9 = 0 := rfl
  replace p3 : pt_ok (h 74) ht st rg (h 0 113) (h 0 88) (h 0 77) r (pi_wn h r) (9, a, b) s ((ht (h 0 113).toNat - 0)) (h 0 109) (st (h 0 113).toNat) tu := p3
  unfold pt_ok at p3; dsimp only at p3
  replace p4 : pt (h 74) ht st rg (h 0 113) (h 0 88) (h 0 77) r tf (pi_wn h r) s ((ht (h 0 113).toNat - 0) - a) ((h 0 109)) (st (h 0 113).toNat) (tu) := p4
  obtain ⟨-, xc, xt, ⟨xe, xu1, xu2⟩, -, -, -, -, -, -, -, -, xo9, -, -, -, -, -, -, -, -, -, -, -, -, -, -, -, -, -, -, -⟩ := p3
  replace xo9 := xo9 (by omega)
  refine fin0 hB (pk_S_ag (ag_up rfl ag_refl) (pk_S_ag (ag_up rfl ag_refl) hS)) (by (try unfold mo_L); (try unfold mo_tk); (repeat (refine ag_up rfl ?_)); exact ag_refl) (idle_of (show (9 : Int) ≠ 4 ∧ (9 : Int) ≠ 21 ∧ (9 : Int) ≠ 22 ∧ (9 : Int) ≠ 28 ∧ (9 : Int) ≠ 24 by decide)) (fun _ q => q) (fun p q => pp_cons.mpr (Or.inr q)) ?_ ?_ ?_ ?_ ?_ ?_ ⟨?_, ?_, ?_⟩ (pi_if_tail (show (9 : Int) ≠ 36 by decide)) ⟨(fun q y hy => q y (List.mem_cons_of_mem _ hy)), (fun q y hy => q y (List.mem_cons_of_mem _ hy))⟩ ?_ (call_top xo9.1) ?_ (by (try unfold mo_L); (try unfold mo_tk); (repeat (refine ag_up rfl ?_)); exact ag_refl)
  · show (h 0 18) = _; (try simp only [pk_sum]); omega
  · show (h 0 113) + _ < 5 * ((h 0 7) + 1); (try simp only [pk_sum]); omega
  · show (h 0 95) + _ < (h 0 7) + 1; (try simp only [pk_sum]); omega
  · show (h 0 7) ≤ (h 0 7) + 1; omega
  · show (h 0 84) = _; (try simp only [pk_sum]); omega
  · show (h 0 87) = _; (try simp only [pk_sum]); omega
  · show ph = 1 ∨ (h 0 79) ≤ (h 0 77); omega
  · show ph = 1 ∨ (h 0 77) ≤ 10; omega
  · intro q; show ph = 1 ∨ (h 0 77) ≤ 9; exact b4 (fun z => q (fun y hy => z y (List.mem_cons_of_mem _ hy)))
  · rw [call_adj xo9.1]; exact pt_eq (show _ = ht (h 0 113).toNat - a by omega) (by omega) (by omega) p4
  · show 40 * (900 - ((h 0 7) + 1)) + pk_sum pk_m (s) + 13 < 40 * (900 - (h 0 7)) + pk_sum pk_m ((9, a, b) :: s) + 13; (try simp only [pk_sum]); omega

theorem ab_arg_more {h : ja_H} {R r ph q0 : Int} {tf : mo_TF} {s : List mo_A} {ht st rg : Nat → Int} {tu a b : Int} (g : mo_G Zz h) (hS : pk_S h (h 0 17).toNat s) (hB : piB h R r ph tf q0 ((9, a, b) :: s) ht st rg tu) (h6 : a = 6 → ¬ pi_BE (mo_tk h)) : pi_done h (mo_L (mo_L (mo_tk (h)) 9 (a + 1) 0 0) 1 0 0 0) R r ph tf q0 (pi_mu h ((9, a, b) :: s)) := by
  have hN := piB_num g hS hB
  obtain ⟨N1, N2, N3, N4, N5, N6, N7, N8, N9, N10, N11, N12, N13, ⟨NK1, NK2⟩, ND1, ND2, ND3, NU1, NU2⟩ := hN
  obtain ⟨⟨n1, n2, n3, n4, n5, n6, n7, n8, n9⟩, ⟨b1, b2, b3, b4⟩, reg, hpt, ⟨hC, hU⟩, hNo, hP, hT, top⟩ := id hB
  obtain ⟨⟨⟨p1, p1'⟩, p1u⟩, ⟨p2, p2'⟩, p3, p4⟩ := hpt
  have w0 := (gF_wTop g).1
  simp only [pk_sum] at n1 n2 n3 n6 n7
  dsimp only at p2 p2' N6
  have ec1 : pk_c 1 = 0 := rfl
  have ev1 : pk_v 1 = (-4) := rfl
  have ed1 : pk_d 1 = 0 := rfl
  have eq1 : pk_q 1 = 0 := rfl
  have ef1 : pk_f 1 = 0 := rfl
  have em1 : pk_m 1 = (-10) := rfl
  have eoff1 : pk_off 1 = 7 := rfl
  have ek1 : pk_k r 1 = 0 := rfl
  have ec9 : pk_c 9 = 0 := rfl
  have ev9 : pk_v 9 = 0 := rfl
  have ed9 : pk_d 9 = 0 := rfl
  have eq9 : pk_q 9 = 0 := rfl
  have ef9 : pk_f 9 = 0 := rfl
  have em9 : pk_m 9 = 1 := rfl
  have eoff9 : pk_off 9 = 4 := rfl
  have ek9 : pk_k r 9 = 0 := rfl
  replace p3 : pt_ok (h 74) ht st rg (h 0 113) (h 0 88) (h 0 77) r (pi_wn h r) (9, a, b) s ((ht (h 0 113).toNat - 0)) (h 0 109) (st (h 0 113).toNat) tu := p3
  unfold pt_ok at p3; dsimp only at p3
  replace p4 : pt (h 74) ht st rg (h 0 113) (h 0 88) (h 0 77) r tf (pi_wn h r) s ((ht (h 0 113).toNat - 0) - a) ((h 0 109)) (st (h 0 113).toNat) (tu) := p4
  obtain ⟨-, xc, xt, ⟨xe, xu1, xu2⟩, -, -, -, -, -, -, -, -, xo9, -, -, -, -, -, -, -, -, -, -, -, -, -, -, -, -, -, -, -⟩ := p3
  replace xo9 := xo9 (by omega)
  have hcc := pt_call_c xo9.1 p4
  have h66 := top.2.2.2 rfl
  dsimp only at h66
  refine fin0 hB (pk_S_L (show 0 ≤ (h 0 17) + 1 by omega) (pk_S_L (show 0 ≤ (h 0 17) by omega) (pk_S_ag (ag_up rfl ag_refl) hS))) (by (try unfold mo_L); (try unfold mo_tk); (repeat (refine ag_up rfl ?_)); exact ag_refl) (idle_of (show (9 : Int) ≠ 4 ∧ (9 : Int) ≠ 21 ∧ (9 : Int) ≠ 22 ∧ (9 : Int) ≠ 28 ∧ (9 : Int) ≠ 24 by decide)) (fun _ q => List.mem_cons_of_mem _ (List.mem_cons_of_mem _ (q))) (fun p q => by simp only [pp_cons] at q ⊢; rcases q with q | q | q <;> first | (exact Or.inr q) | (exfalso; simp [pp] at q)) ?_ ?_ ?_ ?_ ?_ ?_ ⟨?_, ?_, ?_⟩ (by simp only [pi_if, List.mem_cons, exists_eq_or_imp]; simp) ⟨(fun q y hy => by (try simp only [List.mem_cons] at hy); (rcases hy with rfl | rfl | hy) <;> first | (exact q _ (List.mem_cons_of_mem _ hy)) | (have := q _ List.mem_cons_self; dsimp only at this ⊢; omega)), (fun q y hy => by (try simp only [List.mem_cons] at hy); (rcases hy with rfl | rfl | hy) <;> first | (exact q _ (List.mem_cons_of_mem _ hy)) | (have := q _ List.mem_cons_self; dsimp only at this ⊢; omega))⟩ ?_ ⟨fun e => absurd e (by dsimp only; omega), fun e => absurd e (by dsimp only; omega), fun _ y z e => by cases e; intro _ q; exact h6 (by dsimp only at q; omega), fun e => absurd e (by dsimp only; omega)⟩ ?_ (by (try unfold mo_L); (try unfold mo_tk); (repeat (refine ag_up rfl ?_)); exact ag_refl)
  · show (h 0 18) = _; (try simp only [pk_sum]); omega
  · show (h 0 113) + _ < 5 * ((h 0 7) + 1); (try simp only [pk_sum]); omega
  · show (h 0 95) + _ < (h 0 7) + 1; (try simp only [pk_sum]); omega
  · show (h 0 7) ≤ (h 0 7) + 1; omega
  · show (h 0 84) = _; (try simp only [pk_sum]); omega
  · show (h 0 87) = _; (try simp only [pk_sum]); omega
  · show ph = 1 ∨ (h 0 79) ≤ (h 0 77); omega
  · show ph = 1 ∨ (h 0 77) ≤ 10; omega
  · intro q; show ph = 1 ∨ (h 0 77) ≤ 9; refine b4 (fun z => q ?_); intro y hy; simp only [List.mem_cons] at hy; rcases hy with rfl | rfl | hy
    · show (1 : Int) ≠ 17; decide
    · show (9 : Int) ≠ 17; decide
    · exact z y (List.mem_cons_of_mem _ hy)
  · exact ⟨⟨⟨by (try simp only [pk_sum]); omega, by (try simp only [pk_sum]); omega⟩, (fun p q => absurd q (by simp [pp]))⟩, ⟨by (try simp only [pk_sum, List.length_cons]); (try dsimp only); omega, (by intro y z e; cases e; dsimp only; omega)⟩, (show pt_ok (h 74) ht st rg (h 0 113) (h 0 88) (h 0 77) r (pi_wn h r) (1, 0, 0) ((9, (a + 1), 0) :: s) (ht (h 0 113).toNat - 0) ((h 0 109)) (st (h 0 113).toNat) (tu) from by unfold pt_ok; (try dsimp only); (try simp only [pk_sum]); exact ⟨⟨by omega, by omega, by omega, by omega⟩, by omega, by omega, ⟨by first | omega | simp, by omega, by omega⟩, fun _ => by first | omega | trivial | (simp only [true_and, and_true]; omega), fun z => absurd z (by omega), fun z => absurd z (by omega), fun z => absurd z (by omega), fun z => absurd z (by omega), fun z => absurd z (by omega), fun z => absurd z (by omega), fun z => absurd z (by omega), fun z => absurd z (by omega), fun z => absurd z (by omega), fun z => absurd z (by omega), fun z => absurd z (by omega), fun z => absurd z (by omega), fun z => absurd z (by omega), fun z => absurd z (by omega), fun z => absurd z (by omega), fun z => absurd z (by omega), fun z => absurd z (by omega), fun z => absurd z (by omega), fun z => absurd z (by omega), fun z => absurd z (by omega), fun z => absurd z (by omega), fun z => absurd z (by omega), fun z => absurd z (by omega), fun z => absurd z (by omega), fun z => absurd z (by omega), fun z => absurd z (by omega), fun z => absurd z (by omega)⟩), ⟨⟨⟨by (try simp only [pk_sum]); omega, by (try simp only [pk_sum]); omega⟩, (fun p q => absurd q (by simp [pp]))⟩, ⟨by (try simp only [pk_sum, List.length_cons]); (try dsimp only); omega, (by intro y z e; have q := p2' y z e; dsimp only at q ⊢; omega)⟩, (show pt_ok (h 74) ht st rg (h 0 113) (h 0 88) (h 0 77) r (pi_wn h r) (9, (a + 1), 0) (s) (ht (h 0 113).toNat - 0 + 1) ((h 0 109)) (st (h 0 113).toNat) (tu) from by unfold pt_ok; (try dsimp only); (try simp only [pk_sum]); exact ⟨⟨by omega, by omega, by omega, by omega⟩, by omega, by omega, ⟨by first | omega | simp, by omega, by omega⟩, fun z => absurd z (by omega), fun z => absurd z (by omega), fun z => absurd z (by omega), fun z => absurd z (by omega), fun z => absurd z (by omega), fun z => absurd z (by omega), fun z => absurd z (by omega), fun z => absurd z (by omega), fun _ => ⟨xo9.1, by omega, by omega, by omega⟩, fun z => absurd z (by omega), fun z => absurd z (by omega), fun z => absurd z (by omega), fun z => absurd z (by omega), fun z => absurd z (by omega), fun z => absurd z (by omega), fun z => absurd z (by omega), fun z => absurd z (by omega), fun z => absurd z (by omega), fun z => absurd z (by omega), fun z => absurd z (by omega), fun z => absurd z (by omega), fun z => absurd z (by omega), fun z => absurd z (by omega), fun z => absurd z (by omega), fun z => absurd z (by omega), fun z => absurd z (by omega), fun z => absurd z (by omega), fun z => absurd z (by omega)⟩), (pt_eq (show _ = ht (h 0 113).toNat - 0 + 1 - (a + 1) by omega) (show _ = (h 0 109) by omega) (show _ = st (h 0 113).toNat by omega) p4)⟩⟩
  · show 40 * (900 - ((h 0 7) + 1)) + pk_sum pk_m ((1, 0, 0) :: (9, (a + 1), 0) :: s) + 13 < 40 * (900 - (h 0 7)) + pk_sum pk_m ((9, a, b) :: s) + 13; (try simp only [pk_sum]); omega

theorem ab_br {h : ja_H} {R r ph q0 : Int} {tf : mo_TF} {s : List mo_A} {ht st rg : Nat → Int} {tu a b : Int} (g : mo_G Zz h) (hS : pk_S h (h 0 17).toNat s) (hB : piB h R r ph tf q0 ((38, a, b) :: s) ht st rg tu)  : pi_done h (mo_tk (ja_up (h) 0 19 (0))) R r ph tf q0 (pi_mu h ((38, a, b) :: s)) := by
  have hN := piB_num g hS hB
  obtain ⟨N1, N2, N3, N4, N5, N6, N7, N8, N9, N10, N11, N12, N13, ⟨NK1, NK2⟩, ND1, ND2, ND3, NU1, NU2⟩ := hN
  obtain ⟨⟨n1, n2, n3, n4, n5, n6, n7, n8, n9⟩, ⟨b1, b2, b3, b4⟩, reg, hpt, ⟨hC, hU⟩, hNo, hP, hT, top⟩ := id hB
  obtain ⟨⟨⟨p1, p1'⟩, p1u⟩, ⟨p2, p2'⟩, p3, p4⟩ := hpt
  have w0 := (gF_wTop g).1
  simp only [pk_sum] at n1 n2 n3 n6 n7
  dsimp only at p2 p2' N6
  have ec38 : pk_c 38 = 0 := rfl
  have ev38 : pk_v 38 = 0 := rfl
  have ed38 : pk_d 38 = 0 := rfl
  have eq38 : pk_q 38 = 0 := rfl
  have ef38 : pk_f 38 = 0 := rfl
  have em38 : pk_m 38 = 1 := rfl
  have eoff38 : pk_off 38 = 3 := rfl
  have ek38 : pk_k r 38 = 0 := rfl
  replace p3 : pt_ok (h 74) ht st rg (h 0 113) (h 0 88) (h 0 77) r (pi_wn h r) (38, a, b) s ((ht (h 0 113).toNat - 0)) (h 0 109) (st (h 0 113).toNat) tu := p3
  unfold pt_ok at p3; dsimp only at p3
  replace p4 : pt (h 74) ht st rg (h 0 113) (h 0 88) (h 0 77) r tf (pi_wn h r) s ((ht (h 0 113).toNat - 0)) ((h 0 109)) (st (h 0 113).toNat) (tu) := p4
  obtain ⟨-, xc, xt, ⟨xe, xu1, xu2⟩, -, -, -, -, -, -, xo7, -, -, -, -, -, -, -, -, -, -, -, -, -, -, -, -, -, -, -, -, -⟩ := p3
  replace xo7 := xo7 (by omega)
  refine fin0 hB (pk_S_ag (ag_up rfl ag_refl) (pk_S_ag (ag_up rfl ag_refl) hS)) (by (try unfold mo_L); (try unfold mo_tk); (repeat (refine ag_up rfl ?_)); exact ag_refl) (idle_of (show (38 : Int) ≠ 4 ∧ (38 : Int) ≠ 21 ∧ (38 : Int) ≠ 22 ∧ (38 : Int) ≠ 28 ∧ (38 : Int) ≠ 24 by decide)) (fun _ q => q) (fun p q => pp_cons.mpr (Or.inr q)) ?_ ?_ ?_ ?_ ?_ ?_ ⟨?_, ?_, ?_⟩ (pi_if_tail (show (38 : Int) ≠ 36 by decide)) ⟨(fun q y hy => q y (List.mem_cons_of_mem _ hy)), (fun q y hy => q y (List.mem_cons_of_mem _ hy))⟩ ?_ (fin_top0 (show (38 : Int) ≠ 1 by decide) p2' (fun _ => form_0 ⟨by show (0 : Int) ≠ 1; decide, by show (0 : Int) ≠ 2; decide⟩)) ?_ (by (try unfold mo_L); (try unfold mo_tk); (repeat (refine ag_up rfl ?_)); exact ag_refl)
  · show (h 0 18) = _; (try simp only [pk_sum]); omega
  · show (h 0 113) + _ < 5 * ((h 0 7) + 1); (try simp only [pk_sum]); omega
  · show (h 0 95) + _ < (h 0 7) + 1; (try simp only [pk_sum]); omega
  · show (h 0 7) ≤ (h 0 7) + 1; omega
  · show (h 0 84) = _; (try simp only [pk_sum]); omega
  · show (h 0 87) = _; (try simp only [pk_sum]); omega
  · show ph = 1 ∨ (h 0 79) ≤ (h 0 77); omega
  · show ph = 1 ∨ (h 0 77) ≤ 10; omega
  · intro q; show ph = 1 ∨ (h 0 77) ≤ 9; exact b4 (fun z => q (fun y hy => z y (List.mem_cons_of_mem _ hy)))
  · rw [fin_adj p2' (show (38 : Int) ≠ 8 ∧ (38 : Int) ≠ 9 by decide)]; exact pt_eq (by omega) (by omega) (by omega) p4
  · show 40 * (900 - ((h 0 7) + 1)) + pk_sum pk_m (s) + 13 < 40 * (900 - (h 0 7)) + pk_sum pk_m ((38, a, b) :: s) + 13; (try simp only [pk_sum]); omega

theorem ab_block {h : ja_H} {R r ph q0 : Int} {tf : mo_TF} {s : List mo_A} {ht st rg : Nat → Int} {tu a b : Int} (g : mo_G Zz h) (hS : pk_S h (h 0 17).toNat s) (hB : piB h R r ph tf q0 ((14, a, b) :: s) ht st rg tu)  : pi_done h (mo_L (mo_L (mo_tk (h)) 16 (h 0 79) 0 0) 15 0 0 0) R r ph tf q0 (pi_mu h ((14, a, b) :: s)) := by
  have hN := piB_num g hS hB
  obtain ⟨N1, N2, N3, N4, N5, N6, N7, N8, N9, N10, N11, N12, N13, ⟨NK1, NK2⟩, ND1, ND2, ND3, NU1, NU2⟩ := hN
  obtain ⟨⟨n1, n2, n3, n4, n5, n6, n7, n8, n9⟩, ⟨b1, b2, b3, b4⟩, reg, hpt, ⟨hC, hU⟩, hNo, hP, hT, top⟩ := id hB
  obtain ⟨⟨⟨p1, p1'⟩, p1u⟩, ⟨p2, p2'⟩, p3, p4⟩ := hpt
  have w0 := (gF_wTop g).1
  simp only [pk_sum] at n1 n2 n3 n6 n7
  dsimp only at p2 p2' N6
  have ec14 : pk_c 14 = 0 := rfl
  have ev14 : pk_v 14 = 0 := rfl
  have ed14 : pk_d 14 = 0 := rfl
  have eq14 : pk_q 14 = 0 := rfl
  have ef14 : pk_f 14 = 0 := rfl
  have em14 : pk_m 14 = 1 := rfl
  have eoff14 : pk_off 14 = 4 := rfl
  have ek14 : pk_k r 14 = 0 := rfl
  have ec15 : pk_c 15 = 0 := rfl
  have ev15 : pk_v 15 = 0 := rfl
  have ed15 : pk_d 15 = 0 := rfl
  have eq15 : pk_q 15 = 0 := rfl
  have ef15 : pk_f 15 = 0 := rfl
  have em15 : pk_m 15 = 1 := rfl
  have eoff15 : pk_off 15 = 5 := rfl
  have ek15 : pk_k r 15 = 0 := rfl
  have ec16 : pk_c 16 = 0 := rfl
  have ev16 : pk_v 16 = 0 := rfl
  have ed16 : pk_d 16 = 0 := rfl
  have eq16 : pk_q 16 = 0 := rfl
  have ef16 : pk_f 16 = 0 := rfl
  have em16 : pk_m 16 = 1 := rfl
  have eoff16 : pk_off 16 = 4 := rfl
  have ek16 : pk_k r 16 = 0 := rfl
  replace p3 : pt_ok (h 74) ht st rg (h 0 113) (h 0 88) (h 0 77) r (pi_wn h r) (14, a, b) s ((ht (h 0 113).toNat - 0)) (h 0 109) (st (h 0 113).toNat) tu := p3
  unfold pt_ok at p3; dsimp only at p3
  replace p4 : pt (h 74) ht st rg (h 0 113) (h 0 88) (h 0 77) r tf (pi_wn h r) s (0) ((h 0 109)) (st (h 0 113).toNat) (tu) := p4
  obtain ⟨-, xc, xt, ⟨xe, xu1, xu2⟩, -, -, -, -, -, -, -, -, -, -, -, -, xo14, -, -, -, -, -, -, -, -, -, -, -, -, -, -, -⟩ := p3
  replace xo14 := xo14 (by omega)
  have xq1o14 := xo14.1
  have xq2o14 := xo14.2.1
  have hph : ph ≠ 1 := by
    rcases reg with ⟨q1, -⟩ | ⟨q1, q2, q3, -⟩
    · omega
    · have := q3 _ List.mem_cons_self; dsimp only at this; omega
  refine fin0 hB (pk_S_L (show 0 ≤ (h 0 17) + 1 by omega) (pk_S_L (show 0 ≤ (h 0 17) by omega) (pk_S_ag (ag_up rfl ag_refl) hS))) (by (try unfold mo_L); (try unfold mo_tk); (repeat (refine ag_up rfl ?_)); exact ag_refl) (idle_of (show (14 : Int) ≠ 4 ∧ (14 : Int) ≠ 21 ∧ (14 : Int) ≠ 22 ∧ (14 : Int) ≠ 28 ∧ (14 : Int) ≠ 24 by decide)) (fun _ q => List.mem_cons_of_mem _ (List.mem_cons_of_mem _ (q))) (fun p q => by simp only [pp_cons] at q ⊢; rcases q with q | q | q <;> first | (exact Or.inr q) | (exfalso; simp [pp] at q)) ?_ ?_ ?_ ?_ ?_ ?_ ⟨?_, ?_, ?_⟩ (by simp only [pi_if, List.mem_cons, exists_eq_or_imp]; simp) ⟨(fun q y hy => by (try simp only [List.mem_cons] at hy); (rcases hy with rfl | rfl | hy) <;> first | (exact q _ (List.mem_cons_of_mem _ hy)) | (have := q _ List.mem_cons_self; dsimp only at this ⊢; omega)), (fun q y hy => by (try simp only [List.mem_cons] at hy); (rcases hy with rfl | rfl | hy) <;> first | (exact q _ (List.mem_cons_of_mem _ hy)) | (have := q _ List.mem_cons_self; dsimp only at this ⊢; omega))⟩ ?_ ⟨fun e => absurd e (by dsimp only; omega), fun e => absurd e (by dsimp only; omega), fun e => absurd e (by dsimp only; omega), fun e => absurd e (by dsimp only; omega)⟩ ?_ (by (try unfold mo_L); (try unfold mo_tk); (repeat (refine ag_up rfl ?_)); exact ag_refl)
  · show (h 0 18) = _; (try simp only [pk_sum]); omega
  · show (h 0 113) + _ < 5 * ((h 0 7) + 1); (try simp only [pk_sum]); omega
  · show (h 0 95) + _ < (h 0 7) + 1; (try simp only [pk_sum]); omega
  · show (h 0 7) ≤ (h 0 7) + 1; omega
  · show (h 0 84) = _; (try simp only [pk_sum]); omega
  · show (h 0 87) = _; (try simp only [pk_sum]); omega
  · show ph = 1 ∨ (h 0 79) ≤ (h 0 77); omega
  · show ph = 1 ∨ (h 0 77) ≤ 10; omega
  · intro q; show ph = 1 ∨ (h 0 77) ≤ 9; refine b4 (fun z => q ?_); intro y hy; simp only [List.mem_cons] at hy; rcases hy with rfl | rfl | hy
    · show (15 : Int) ≠ 17; decide
    · show (16 : Int) ≠ 17; decide
    · exact z y (List.mem_cons_of_mem _ hy)
  · exact ⟨⟨⟨by (try simp only [pk_sum]); omega, by (try simp only [pk_sum]); omega⟩, (fun p q => absurd q (by simp [pp]))⟩, ⟨by (try simp only [pk_sum, List.length_cons]); (try dsimp only); omega, (by intro y z e; cases e; dsimp only; omega)⟩, (show pt_ok (h 74) ht st rg (h 0 113) (h 0 88) (h 0 77) r (pi_wn h r) (15, 0, 0) ((16, (h 0 79), 0) :: s) (ht (h 0 113).toNat - 0) ((h 0 109)) (st (h 0 113).toNat) (tu) from by unfold pt_ok; (try dsimp only); (try simp only [pk_sum]); exact ⟨⟨by omega, by omega, by omega, by omega⟩, by omega, by omega, ⟨by first | omega | simp, by omega, by omega⟩, fun z => absurd z (by omega), fun z => absurd z (by omega), fun z => absurd z (by omega), fun z => absurd z (by omega), fun z => absurd z (by omega), fun z => absurd z (by omega), fun z => absurd z (by omega), fun z => absurd z (by omega), fun z => absurd z (by omega), fun z => absurd z (by omega), fun z => absurd z (by omega), fun z => absurd z (by omega), fun _ => ⟨by first | trivial | omega, by first | trivial | omega, (pt_let_cons (show (16 : Int) ≠ 17 by decide)).mpr xo14.2.2⟩, fun z => absurd z (by omega), fun z => absurd z (by omega), fun z => absurd z (by omega), fun z => absurd z (by omega), fun z => absurd z (by omega), fun z => absurd z (by omega), fun z => absurd z (by omega), fun z => absurd z (by omega), fun z => absurd z (by omega), fun z => absurd z (by omega), fun z => absurd z (by omega), fun z => absurd z (by omega), fun z => absurd z (by omega), fun z => absurd z (by omega), fun z => absurd z (by omega)⟩), ⟨⟨⟨by (try simp only [pk_sum]); omega, by (try simp only [pk_sum]); omega⟩, (fun p q => absurd q (by simp [pp]))⟩, ⟨by (try simp only [pk_sum, List.length_cons]); (try dsimp only); omega, (by intro y z e; have q := p2' y z e; dsimp only at q ⊢; omega)⟩, (show pt_ok (h 74) ht st rg (h 0 113) (h 0 88) (h 0 77) r (pi_wn h r) (16, (h 0 79), 0) (s) (0) ((h 0 109)) (st (h 0 113).toNat) (tu) from by unfold pt_ok; (try dsimp only); (try simp only [pk_sum]); exact ⟨⟨by omega, by omega, by omega, by omega⟩, by omega, by omega, ⟨by first | omega | simp, by omega, by omega⟩, fun z => absurd z (by omega), fun z => absurd z (by omega), fun z => absurd z (by omega), fun z => absurd z (by omega), fun z => absurd z (by omega), fun z => absurd z (by omega), fun z => absurd z (by omega), fun z => absurd z (by omega), fun z => absurd z (by omega), fun z => absurd z (by omega), fun z => absurd z (by omega), fun z => absurd z (by omega), fun _ => ⟨by first | trivial | omega, by first | trivial | omega, xo14.2.2⟩, fun _ => ⟨by have := (gF_known g).1; omega, by omega⟩, fun z => absurd z (by omega), fun z => absurd z (by omega), fun z => absurd z (by omega), fun z => absurd z (by omega), fun z => absurd z (by omega), fun z => absurd z (by omega), fun z => absurd z (by omega), fun z => absurd z (by omega), fun z => absurd z (by omega), fun z => absurd z (by omega), fun z => absurd z (by omega), fun z => absurd z (by omega), fun z => absurd z (by omega), fun z => absurd z (by omega)⟩), (pt_eq (show _ = 0 by omega) (show _ = (h 0 109) by omega) (show _ = st (h 0 113).toNat by omega) p4)⟩⟩
  · show 40 * (900 - ((h 0 7) + 1)) + pk_sum pk_m ((15, 0, 0) :: (16, (h 0 79), 0) :: s) + 13 < 40 * (900 - (h 0 7)) + pk_sum pk_m ((14, a, b) :: s) + 13; (try simp only [pk_sum]); omega

theorem ab_states_end {h : ja_H} {R r ph q0 : Int} {tf : mo_TF} {s : List mo_A} {ht st rg : Nat → Int} {tu a b : Int} (g : mo_G Zz h) (hS : pk_S h (h 0 17).toNat s) (hB : piB h R r ph tf q0 ((15, a, b) :: s) ht st rg tu)  : pi_done h (mo_tk (h)) R r ph tf q0 (pi_mu h ((15, a, b) :: s)) := by
  have hN := piB_num g hS hB
  obtain ⟨N1, N2, N3, N4, N5, N6, N7, N8, N9, N10, N11, N12, N13, ⟨NK1, NK2⟩, ND1, ND2, ND3, NU1, NU2⟩ := hN
  obtain ⟨⟨n1, n2, n3, n4, n5, n6, n7, n8, n9⟩, ⟨b1, b2, b3, b4⟩, reg, hpt, ⟨hC, hU⟩, hNo, hP, hT, top⟩ := id hB
  obtain ⟨⟨⟨p1, p1'⟩, p1u⟩, ⟨p2, p2'⟩, p3, p4⟩ := hpt
  have w0 := (gF_wTop g).1
  simp only [pk_sum] at n1 n2 n3 n6 n7
  dsimp only at p2 p2' N6
  have ec15 : pk_c 15 = 0 := rfl
  have ev15 : pk_v 15 = 0 := rfl
  have ed15 : pk_d 15 = 0 := rfl
  have eq15 : pk_q 15 = 0 := rfl
  have ef15 : pk_f 15 = 0 := rfl
  have em15 : pk_m 15 = 1 := rfl
  have eoff15 : pk_off 15 = 5 := rfl
  have ek15 : pk_k r 15 = 0 := rfl
  replace p3 : pt_ok (h 74) ht st rg (h 0 113) (h 0 88) (h 0 77) r (pi_wn h r) (15, a, b) s ((ht (h 0 113).toNat - 0)) (h 0 109) (st (h 0 113).toNat) tu := p3
  unfold pt_ok at p3; dsimp only at p3
  replace p4 : pt (h 74) ht st rg (h 0 113) (h 0 88) (h 0 77) r tf (pi_wn h r) s (0) ((h 0 109)) (st (h 0 113).toNat) (tu) := p4
  obtain ⟨-, xc, xt, ⟨xe, xu1, xu2⟩, -, -, -, -, -, -, -, -, -, -, -, -, xo14, -, -, -, -, -, -, -, -, -, -, -, -, -, -, -⟩ := p3
  replace xo14 := xo14 (by omega)
  have xq1o14 := xo14.1
  have xq2o14 := xo14.2.1
  refine fin0 hB (pk_S_ag (ag_up rfl ag_refl) hS) (by (try unfold mo_L); (try unfold mo_tk); (repeat (refine ag_up rfl ?_)); exact ag_refl) (idle_of (show (15 : Int) ≠ 4 ∧ (15 : Int) ≠ 21 ∧ (15 : Int) ≠ 22 ∧ (15 : Int) ≠ 28 ∧ (15 : Int) ≠ 24 by decide)) (fun _ q => q) (fun p q => pp_cons.mpr (Or.inr q)) ?_ ?_ ?_ ?_ ?_ ?_ ⟨?_, ?_, ?_⟩ (pi_if_tail (show (15 : Int) ≠ 36 by decide)) ⟨(fun q y hy => q y (List.mem_cons_of_mem _ hy)), (fun q y hy => q y (List.mem_cons_of_mem _ hy))⟩ ?_ (fin_top0 (show (15 : Int) ≠ 1 by decide) p2' (fun q => absurd q (by dsimp only; omega))) ?_ (by (try unfold mo_L); (try unfold mo_tk); (repeat (refine ag_up rfl ?_)); exact ag_refl)
  · show (h 0 18) = _; (try simp only [pk_sum]); omega
  · show (h 0 113) + _ < 5 * ((h 0 7) + 1); (try simp only [pk_sum]); omega
  · show (h 0 95) + _ < (h 0 7) + 1; (try simp only [pk_sum]); omega
  · show (h 0 7) ≤ (h 0 7) + 1; omega
  · show (h 0 84) = _; (try simp only [pk_sum]); omega
  · show (h 0 87) = _; (try simp only [pk_sum]); omega
  · show ph = 1 ∨ (h 0 79) ≤ (h 0 77); omega
  · show ph = 1 ∨ (h 0 77) ≤ 10; omega
  · intro q; show ph = 1 ∨ (h 0 77) ≤ 9; exact b4 (fun z => q (fun y hy => z y (List.mem_cons_of_mem _ hy)))
  · rw [fin_adj p2' (show (15 : Int) ≠ 8 ∧ (15 : Int) ≠ 9 by decide)]; exact pt_eq (by omega) (by omega) (by omega) p4
  · show 40 * (900 - ((h 0 7) + 1)) + pk_sum pk_m (s) + 13 < 40 * (900 - (h 0 7)) + pk_sum pk_m ((15, a, b) :: s) + 13; (try simp only [pk_sum]); omega

theorem ab_ends {h : ja_H} {R r ph q0 : Int} {tf : mo_TF} {s : List mo_A} {ht st rg : Nat → Int} {tu a b : Int} (g : mo_G Zz h) (hS : pk_S h (h 0 17).toNat s) (hB : piB h R r ph tf q0 ((30, a, b) :: s) ht st rg tu)  : pi_done h (ja_up (h) 0 18 ((h 0 18) - 1)) R r ph tf q0 (pi_mu h ((30, a, b) :: s)) := by
  have hN := piB_num g hS hB
  obtain ⟨N1, N2, N3, N4, N5, N6, N7, N8, N9, N10, N11, N12, N13, ⟨NK1, NK2⟩, ND1, ND2, ND3, NU1, NU2⟩ := hN
  obtain ⟨⟨n1, n2, n3, n4, n5, n6, n7, n8, n9⟩, ⟨b1, b2, b3, b4⟩, reg, hpt, ⟨hC, hU⟩, hNo, hP, hT, top⟩ := id hB
  obtain ⟨⟨⟨p1, p1'⟩, p1u⟩, ⟨p2, p2'⟩, p3, p4⟩ := hpt
  have w0 := (gF_wTop g).1
  simp only [pk_sum] at n1 n2 n3 n6 n7
  dsimp only at p2 p2' N6
  have ec30 : pk_c 30 = 1 := rfl
  have ev30 : pk_v 30 = 0 := rfl
  have ed30 : pk_d 30 = 0 := rfl
  have eq30 : pk_q 30 = 0 := rfl
  have ef30 : pk_f 30 = 0 := rfl
  have em30 : pk_m 30 = 1 := rfl
  have eoff30 : pk_off 30 = 6 := rfl
  have ek30 : pk_k r 30 = pk_D r := rfl
  replace p3 : pt_ok (h 74) ht st rg (h 0 113) (h 0 88) (h 0 77) r (pi_wn h r) (30, a, b) s ((ht (h 0 113).toNat - 0)) (h 0 109) (st (h 0 113).toNat) tu := p3
  unfold pt_ok at p3; dsimp only at p3
  replace p4 : pt (h 74) ht st rg (h 0 113) (h 0 88) (h 0 77) r tf (pi_wn h r) s (0) ((h 0 109)) (st (h 0 113).toNat) (tu) := p4
  obtain ⟨-, xc, xt, ⟨xe, xu1, xu2⟩, -, -, -, -, -, -, -, -, -, -, -, -, xo14, -, -, -, -, -, -, -, -, -, -, -, -, -, -, -⟩ := p3
  replace xo14 := xo14 (by omega)
  have xq1o14 := xo14.1
  have xq2o14 := xo14.2.1
  refine fin0 hB (pk_S_ag (ag_up rfl ag_refl) hS) (by (try unfold mo_L); (try unfold mo_tk); (repeat (refine ag_up rfl ?_)); exact ag_refl) (idle_of (show (30 : Int) ≠ 4 ∧ (30 : Int) ≠ 21 ∧ (30 : Int) ≠ 22 ∧ (30 : Int) ≠ 28 ∧ (30 : Int) ≠ 24 by decide)) (fun _ q => q) (fun p q => pp_cons.mpr (Or.inr q)) ?_ ?_ ?_ ?_ ?_ ?_ ⟨?_, ?_, ?_⟩ (pi_if_tail (show (30 : Int) ≠ 36 by decide)) ⟨(fun q y hy => q y (List.mem_cons_of_mem _ hy)), (fun q y hy => q y (List.mem_cons_of_mem _ hy))⟩ ?_ (fin_top0 (show (30 : Int) ≠ 1 by decide) p2' (fun q => absurd q (by dsimp only; omega))) ?_ (by (try unfold mo_L); (try unfold mo_tk); (repeat (refine ag_up rfl ?_)); exact ag_refl)
  · show (h 0 18) - 1 = _; (try simp only [pk_sum]); omega
  · show (h 0 113) + _ < 5 * ((h 0 7)); (try simp only [pk_sum]); omega
  · show (h 0 95) + _ < (h 0 7); (try simp only [pk_sum]); omega
  · show (h 0 7) ≤ (h 0 7); omega
  · show (h 0 84) = _; (try simp only [pk_sum]); omega
  · show (h 0 87) = _; (try simp only [pk_sum]); omega
  · show ph = 1 ∨ (h 0 79) ≤ (h 0 77); omega
  · show ph = 1 ∨ (h 0 77) ≤ 10; omega
  · intro q; show ph = 1 ∨ (h 0 77) ≤ 9; exact b4 (fun z => q (fun y hy => z y (List.mem_cons_of_mem _ hy)))
  · rw [fin_adj p2' (show (30 : Int) ≠ 8 ∧ (30 : Int) ≠ 9 by decide)]; exact pt_eq (by omega) (by omega) (by omega) p4
  · show 40 * (900 - ((h 0 7))) + pk_sum pk_m (s) + 13 < 40 * (900 - (h 0 7)) + pk_sum pk_m ((30, a, b) :: s) + 13; (try simp only [pk_sum]); omega

theorem ab_scope {h : ja_H} {R r ph q0 : Int} {tf : mo_TF} {s : List mo_A} {ht st rg : Nat → Int} {tu a b : Int} (g : mo_G Zz h) (hS : pk_S h (h 0 17).toNat s) (hB : piB h R r ph tf q0 ((16, a, b) :: s) ht st rg tu)  : pi_done h (ja_up (h) 0 79 (a)) R r ph tf q0 (pi_mu h ((16, a, b) :: s)) := by
  have hN := piB_num g hS hB
  obtain ⟨N1, N2, N3, N4, N5, N6, N7, N8, N9, N10, N11, N12, N13, ⟨NK1, NK2⟩, ND1, ND2, ND3, NU1, NU2⟩ := hN
  obtain ⟨⟨n1, n2, n3, n4, n5, n6, n7, n8, n9⟩, ⟨b1, b2, b3, b4⟩, reg, hpt, ⟨hC, hU⟩, hNo, hP, hT, top⟩ := id hB
  obtain ⟨⟨⟨p1, p1'⟩, p1u⟩, ⟨p2, p2'⟩, p3, p4⟩ := hpt
  have w0 := (gF_wTop g).1
  simp only [pk_sum] at n1 n2 n3 n6 n7
  dsimp only at p2 p2' N6
  have ec16 : pk_c 16 = 0 := rfl
  have ev16 : pk_v 16 = 0 := rfl
  have ed16 : pk_d 16 = 0 := rfl
  have eq16 : pk_q 16 = 0 := rfl
  have ef16 : pk_f 16 = 0 := rfl
  have em16 : pk_m 16 = 1 := rfl
  have eoff16 : pk_off 16 = 4 := rfl
  have ek16 : pk_k r 16 = 0 := rfl
  replace p3 : pt_ok (h 74) ht st rg (h 0 113) (h 0 88) (h 0 77) r (pi_wn h r) (16, a, b) s ((ht (h 0 113).toNat - 0)) (h 0 109) (st (h 0 113).toNat) tu := p3
  unfold pt_ok at p3; dsimp only at p3
  replace p4 : pt (h 74) ht st rg (h 0 113) (h 0 88) (h 0 77) r tf (pi_wn h r) s (0) ((h 0 109)) (st (h 0 113).toNat) (tu) := p4
  obtain ⟨-, xc, xt, ⟨xe, xu1, xu2⟩, -, -, -, -, -, -, -, -, -, -, -, -, xo14, xo16, -, -, -, -, -, -, -, -, -, -, -, -, -, -⟩ := p3
  replace xo14 := xo14 (by omega)
  have xq1o14 := xo14.1
  have xq2o14 := xo14.2.1
  replace xo16 := xo16 (by omega)
  refine fin0 hB (pk_S_ag (ag_up rfl ag_refl) hS) (by (try unfold mo_L); (try unfold mo_tk); (repeat (refine ag_up rfl ?_)); exact ag_refl) (idle_of (show (16 : Int) ≠ 4 ∧ (16 : Int) ≠ 21 ∧ (16 : Int) ≠ 22 ∧ (16 : Int) ≠ 28 ∧ (16 : Int) ≠ 24 by decide)) (fun _ q => q) (fun p q => pp_cons.mpr (Or.inr q)) ?_ ?_ ?_ ?_ ?_ ?_ ⟨?_, ?_, ?_⟩ (pi_if_tail (show (16 : Int) ≠ 36 by decide)) ⟨(fun q y hy => q y (List.mem_cons_of_mem _ hy)), (fun q y hy => q y (List.mem_cons_of_mem _ hy))⟩ ?_ (fin_top0 (show (16 : Int) ≠ 1 by decide) p2' (fun q => absurd q (by dsimp only; omega))) ?_ (by (try unfold mo_L); (try unfold mo_tk); (repeat (refine ag_up rfl ?_)); exact ag_refl)
  · show (h 0 18) = _; (try simp only [pk_sum]); omega
  · show (h 0 113) + _ < 5 * ((h 0 7)); (try simp only [pk_sum]); omega
  · show (h 0 95) + _ < (h 0 7); (try simp only [pk_sum]); omega
  · show (h 0 7) ≤ (h 0 7); omega
  · show (h 0 84) = _; (try simp only [pk_sum]); omega
  · show (h 0 87) = _; (try simp only [pk_sum]); omega
  · show ph = 1 ∨ a ≤ (h 0 77); omega
  · show ph = 1 ∨ (h 0 77) ≤ 10; omega
  · intro q; show ph = 1 ∨ (h 0 77) ≤ 9; exact b4 (fun z => q (fun y hy => z y (List.mem_cons_of_mem _ hy)))
  · rw [fin_adj p2' (show (16 : Int) ≠ 8 ∧ (16 : Int) ≠ 9 by decide)]; exact pt_eq (by omega) (by omega) (by omega) p4
  · show 40 * (900 - ((h 0 7))) + pk_sum pk_m (s) + 13 < 40 * (900 - (h 0 7)) + pk_sum pk_m ((16, a, b) :: s) + 13; (try simp only [pk_sum]); omega

theorem ab_sign {h : ja_H} {R r ph q0 : Int} {tf : mo_TF} {s : List mo_A} {ht st rg : Nat → Int} {tu a b : Int} (g : mo_G Zz h) (hS : pk_S h (h 0 17).toNat s) (hB : piB h R r ph tf q0 ((37, a, b) :: s) ht st rg tu)  : pi_done h (mo_tk (h)) R r ph tf q0 (pi_mu h ((37, a, b) :: s)) := by
  have hN := piB_num g hS hB
  obtain ⟨N1, N2, N3, N4, N5, N6, N7, N8, N9, N10, N11, N12, N13, ⟨NK1, NK2⟩, ND1, ND2, ND3, NU1, NU2⟩ := hN
  obtain ⟨⟨n1, n2, n3, n4, n5, n6, n7, n8, n9⟩, ⟨b1, b2, b3, b4⟩, reg, hpt, ⟨hC, hU⟩, hNo, hP, hT, top⟩ := id hB
  obtain ⟨⟨⟨p1, p1'⟩, p1u⟩, ⟨p2, p2'⟩, p3, p4⟩ := hpt
  have w0 := (gF_wTop g).1
  simp only [pk_sum] at n1 n2 n3 n6 n7
  dsimp only at p2 p2' N6
  have ec37 : pk_c 37 = 0 := rfl
  have ev37 : pk_v 37 = 0 := rfl
  have ed37 : pk_d 37 = 0 := rfl
  have eq37 : pk_q 37 = 0 := rfl
  have ef37 : pk_f 37 = 0 := rfl
  have em37 : pk_m 37 = 1 := rfl
  have eoff37 : pk_off 37 = 3 := rfl
  have ek37 : pk_k r 37 = 0 := rfl
  replace p3 : pt_ok (h 74) ht st rg (h 0 113) (h 0 88) (h 0 77) r (pi_wn h r) (37, a, b) s ((ht (h 0 113).toNat - 0)) (h 0 109) (st (h 0 113).toNat) tu := p3
  unfold pt_ok at p3; dsimp only at p3
  replace p4 : pt (h 74) ht st rg (h 0 113) (h 0 88) (h 0 77) r tf (pi_wn h r) s ((ht (h 0 113).toNat - 0)) ((h 0 109)) (st (h 0 113).toNat) (tu) := p4
  obtain ⟨-, xc, xt, ⟨xe, xu1, xu2⟩, -, -, -, -, -, -, -, -, -, -, -, -, -, -, -, -, -, -, -, -, -, -, -, -, -, -, -, -⟩ := p3
  refine fin0 hB (pk_S_ag (ag_up rfl ag_refl) hS) (by (try unfold mo_L); (try unfold mo_tk); (repeat (refine ag_up rfl ?_)); exact ag_refl) (idle_of (show (37 : Int) ≠ 4 ∧ (37 : Int) ≠ 21 ∧ (37 : Int) ≠ 22 ∧ (37 : Int) ≠ 28 ∧ (37 : Int) ≠ 24 by decide)) (fun _ q => q) (fun p q => pp_cons.mpr (Or.inr q)) ?_ ?_ ?_ ?_ ?_ ?_ ⟨?_, ?_, ?_⟩ (pi_if_tail (show (37 : Int) ≠ 36 by decide)) ⟨(fun q y hy => q y (List.mem_cons_of_mem _ hy)), (fun q y hy => q y (List.mem_cons_of_mem _ hy))⟩ ?_ (fin_top0 (show (37 : Int) ≠ 1 by decide) p2' (fun q => absurd q (by dsimp only; omega))) ?_ (by (try unfold mo_L); (try unfold mo_tk); (repeat (refine ag_up rfl ?_)); exact ag_refl)
  · show (h 0 18) = _; (try simp only [pk_sum]); omega
  · show (h 0 113) + _ < 5 * ((h 0 7) + 1); (try simp only [pk_sum]); omega
  · show (h 0 95) + _ < (h 0 7) + 1; (try simp only [pk_sum]); omega
  · show (h 0 7) ≤ (h 0 7) + 1; omega
  · show (h 0 84) = _; (try simp only [pk_sum]); omega
  · show (h 0 87) = _; (try simp only [pk_sum]); omega
  · show ph = 1 ∨ (h 0 79) ≤ (h 0 77); omega
  · show ph = 1 ∨ (h 0 77) ≤ 10; omega
  · intro q; show ph = 1 ∨ (h 0 77) ≤ 9; exact b4 (fun z => q (fun y hy => z y (List.mem_cons_of_mem _ hy)))
  · rw [fin_adj p2' (show (37 : Int) ≠ 8 ∧ (37 : Int) ≠ 9 by decide)]; exact pt_eq (by omega) (by omega) (by omega) p4
  · show 40 * (900 - ((h 0 7) + 1)) + pk_sum pk_m (s) + 13 < 40 * (900 - (h 0 7)) + pk_sum pk_m ((37, a, b) :: s) + 13; (try simp only [pk_sum]); omega

theorem ab_p_not {h : ja_H} {R r ph q0 : Int} {tf : mo_TF} {s : List mo_A} {ht st rg : Nat → Int} {tu a b : Int} (g : mo_G Zz h) (hS : pk_S h (h 0 17).toNat s) (hB : piB h R r ph tf q0 ((31, a, b) :: s) ht st rg tu)  : pi_done h (mo_L (mo_L (mo_tk (ja_up (mo_L (ja_up (h) 0 18 ((h 0 18) + 1)) 32 a 0 0) 0 84 ((h 0 84) + 1))) 34 0 0 0) 31 2 0 0) R r ph tf q0 (pi_mu h ((31, a, b) :: s)) := by
  have hN := piB_num g hS hB
  obtain ⟨N1, N2, N3, N4, N5, N6, N7, N8, N9, N10, N11, N12, N13, ⟨NK1, NK2⟩, ND1, ND2, ND3, NU1, NU2⟩ := hN
  obtain ⟨⟨n1, n2, n3, n4, n5, n6, n7, n8, n9⟩, ⟨b1, b2, b3, b4⟩, reg, hpt, ⟨hC, hU⟩, hNo, hP, hT, top⟩ := id hB
  obtain ⟨⟨⟨p1, p1'⟩, p1u⟩, ⟨p2, p2'⟩, p3, p4⟩ := hpt
  have w0 := (gF_wTop g).1
  simp only [pk_sum] at n1 n2 n3 n6 n7
  dsimp only at p2 p2' N6
  have ec31 : pk_c 31 = 0 := rfl
  have ev31 : pk_v 31 = 0 := rfl
  have ed31 : pk_d 31 = 0 := rfl
  have eq31 : pk_q 31 = 0 := rfl
  have ef31 : pk_f 31 = 0 := rfl
  have em31 : pk_m 31 = 1 := rfl
  have eoff31 : pk_off 31 = 7 := rfl
  have ek31 : pk_k r 31 = 0 := rfl
  have ec32 : pk_c 32 = 1 := rfl
  have ev32 : pk_v 32 = 0 := rfl
  have ed32 : pk_d 32 = 0 := rfl
  have eq32 : pk_q 32 = 0 := rfl
  have ef32 : pk_f 32 = 0 := rfl
  have em32 : pk_m 32 = 1 := rfl
  have eoff32 : pk_off 32 = 7 := rfl
  have ek32 : pk_k r 32 = pk_D r := rfl
  have ec34 : pk_c 34 = 0 := rfl
  have ev34 : pk_v 34 = 0 := rfl
  have ed34 : pk_d 34 = 1 := rfl
  have eq34 : pk_q 34 = 1 := rfl
  have ef34 : pk_f 34 = 0 := rfl
  have em34 : pk_m 34 = 1 := rfl
  have eoff34 : pk_off 34 = 2 := rfl
  have ek34 : pk_k r 34 = 0 := rfl
  replace p3 : pt_ok (h 74) ht st rg (h 0 113) (h 0 88) (h 0 77) r (pi_wn h r) (31, a, b) s ((ht (h 0 113).toNat - 0)) (h 0 109) (st (h 0 113).toNat) tu := p3
  unfold pt_ok at p3; dsimp only at p3
  replace p4 : pt (h 74) ht st rg (h 0 113) (h 0 88) (h 0 77) r tf (pi_wn h r) s (0) ((h 0 109) + 1) (st (h 0 113).toNat) (tu) := p4
  obtain ⟨-, xc, xt, ⟨xe, xu1, xu2⟩, -, -, -, -, -, -, -, -, -, -, -, -, -, -, -, -, -, -, -, -, -, -, xo31, -, -, -, -, -⟩ := p3
  replace xo31 := xo31 (by omega)
  refine fin0 hB (pk_S_L (show 0 ≤ (h 0 17) + 1 + 1 by omega) (pk_S_L (show 0 ≤ (h 0 17) + 1 by omega) (pk_S_ag (ag_up rfl ag_refl) (pk_S_ag (ag_up rfl ag_refl) (pk_S_L (show 0 ≤ (h 0 17) by omega) (pk_S_ag (ag_up rfl ag_refl) hS)))))) (by (try unfold mo_L); (try unfold mo_tk); (repeat (refine ag_up rfl ?_)); exact ag_refl) (idle_of (show (31 : Int) ≠ 4 ∧ (31 : Int) ≠ 21 ∧ (31 : Int) ≠ 22 ∧ (31 : Int) ≠ 28 ∧ (31 : Int) ≠ 24 by decide)) (fun _ q => List.mem_cons_of_mem _ (List.mem_cons_of_mem _ (List.mem_cons_of_mem _ (q)))) (fun p q => by simp only [pp_cons] at q ⊢; rcases q with q | q | q | q <;> first | (exact Or.inr q) | (exfalso; simp [pp] at q)) ?_ ?_ ?_ ?_ ?_ ?_ ⟨?_, ?_, ?_⟩ (by simp only [pi_if, List.mem_cons, exists_eq_or_imp]; simp) ⟨(fun q y hy => by (try simp only [List.mem_cons] at hy); (rcases hy with rfl | rfl | rfl | hy) <;> first | (exact q _ (List.mem_cons_of_mem _ hy)) | (have := q _ List.mem_cons_self; dsimp only at this ⊢; omega)), (fun q y hy => by (try simp only [List.mem_cons] at hy); (rcases hy with rfl | rfl | rfl | hy) <;> first | (exact q _ (List.mem_cons_of_mem _ hy)) | (have := q _ List.mem_cons_self; dsimp only at this ⊢; omega))⟩ ?_ ⟨fun e => absurd e (by dsimp only; omega), fun e => absurd e (by dsimp only; omega), fun e => absurd e (by dsimp only; omega), fun e => absurd e (by dsimp only; omega)⟩ ?_ (by (try unfold mo_L); (try unfold mo_tk); (repeat (refine ag_up rfl ?_)); exact ag_refl)
  · show (h 0 18) + 1 = _; (try simp only [pk_sum]); omega
  · show (h 0 113) + _ < 5 * ((h 0 7) + 1); (try simp only [pk_sum]); omega
  · show (h 0 95) + _ < (h 0 7) + 1; (try simp only [pk_sum]); omega
  · show (h 0 7) ≤ (h 0 7) + 1; omega
  · show (h 0 84) + 1 = _; (try simp only [pk_sum]); omega
  · show (h 0 87) = _; (try simp only [pk_sum]); omega
  · show ph = 1 ∨ (h 0 79) ≤ (h 0 77); omega
  · show ph = 1 ∨ (h 0 77) ≤ 10; omega
  · intro q; show ph = 1 ∨ (h 0 77) ≤ 9; refine b4 (fun z => q ?_); intro y hy; simp only [List.mem_cons] at hy; rcases hy with rfl | rfl | rfl | hy
    · show (31 : Int) ≠ 17; decide
    · show (34 : Int) ≠ 17; decide
    · show (32 : Int) ≠ 17; decide
    · exact z y (List.mem_cons_of_mem _ hy)
  · exact ⟨⟨⟨by (try simp only [pk_sum]); omega, by (try simp only [pk_sum]); omega⟩, (fun p q => absurd q (by simp [pp]))⟩, ⟨by (try simp only [pk_sum, List.length_cons]); (try dsimp only); omega, (by intro y z e; cases e; dsimp only; omega)⟩, (show pt_ok (h 74) ht st rg (h 0 113) (h 0 88) (h 0 77) r (pi_wn h r) (31, 2, 0) ((34, 0, 0) :: (32, a, 0) :: s) (ht (h 0 113).toNat - 0) ((h 0 109)) (st (h 0 113).toNat) (tu) from by unfold pt_ok; (try dsimp only); (try simp only [pk_sum]); exact ⟨⟨by omega, by omega, by omega, by omega⟩, by omega, by omega, ⟨by first | omega | simp, by omega, by omega⟩, fun z => absurd z (by omega), fun z => absurd z (by omega), fun z => absurd z (by omega), fun z => absurd z (by omega), fun z => absurd z (by omega), fun z => absurd z (by omega), fun z => absurd z (by omega), fun z => absurd z (by omega), fun z => absurd z (by omega), fun z => absurd z (by omega), fun z => absurd z (by omega), fun z => absurd z (by omega), fun z => absurd z (by omega), fun z => absurd z (by omega), fun z => absurd z (by omega), fun z => absurd z (by omega), fun z => absurd z (by omega), fun z => absurd z (by omega), fun z => absurd z (by omega), fun z => absurd z (by omega), fun z => absurd z (by omega), fun z => absurd z (by omega), fun _ => by first | omega | trivial | (simp only [true_and, and_true]; omega), fun z => absurd z (by omega), fun z => absurd z (by omega), fun z => absurd z (by omega), fun z => absurd z (by omega), fun z => absurd z (by omega)⟩), ⟨⟨⟨by (try simp only [pk_sum]); omega, by (try simp only [pk_sum]); omega⟩, (fun p q => absurd q (by simp [pp]))⟩, ⟨by (try simp only [pk_sum, List.length_cons]); (try dsimp only); omega, (by intro y z e; cases e; dsimp only; omega)⟩, (show pt_ok (h 74) ht st rg (h 0 113) (h 0 88) (h 0 77) r (pi_wn h r) (34, 0, 0) ((32, a, 0) :: s) (0) ((h 0 109) + 1) (st (h 0 113).toNat) (tu) from by unfold pt_ok; (try dsimp only); (try simp only [pk_sum]); exact ⟨⟨by omega, by omega, by omega, by omega⟩, by omega, by omega, ⟨by first | omega | simp, by omega, by omega⟩, fun z => absurd z (by omega), fun z => absurd z (by omega), fun z => absurd z (by omega), fun z => absurd z (by omega), fun z => absurd z (by omega), fun z => absurd z (by omega), fun z => absurd z (by omega), fun z => absurd z (by omega), fun z => absurd z (by omega), fun z => absurd z (by omega), fun z => absurd z (by omega), fun z => absurd z (by omega), fun z => absurd z (by omega), fun z => absurd z (by omega), fun z => absurd z (by omega), fun z => absurd z (by omega), fun z => absurd z (by omega), fun z => absurd z (by omega), fun z => absurd z (by omega), fun z => absurd z (by omega), fun z => absurd z (by omega), fun z => absurd z (by omega), fun z => absurd z (by omega), fun z => absurd z (by omega), fun z => absurd z (by omega), fun _ => by first | omega | trivial | (simp only [true_and, and_true]; omega), fun z => absurd z (by omega), fun z => absurd z (by omega)⟩), ⟨⟨⟨by (try simp only [pk_sum]); omega, by (try simp only [pk_sum]); omega⟩, (fun p q => absurd q (by simp [pp]))⟩, ⟨by (try simp only [pk_sum, List.length_cons]); (try dsimp only); omega, (by intro y z e; have q := p2' y z e; dsimp only at q ⊢; omega)⟩, (show pt_ok (h 74) ht st rg (h 0 113) (h 0 88) (h 0 77) r (pi_wn h r) (32, a, 0) (s) (0) ((h 0 109) + 1) (st (h 0 113).toNat) (tu) from by unfold pt_ok; (try dsimp only); (try simp only [pk_sum]); exact ⟨⟨by omega, by omega, by omega, by omega⟩, by omega, by omega, ⟨by first | omega | simp, by omega, by omega⟩, fun z => absurd z (by omega), fun z => absurd z (by omega), fun z => absurd z (by omega), fun z => absurd z (by omega), fun z => absurd z (by omega), fun z => absurd z (by omega), fun z => absurd z (by omega), fun z => absurd z (by omega), fun z => absurd z (by omega), fun z => absurd z (by omega), fun z => absurd z (by omega), fun z => absurd z (by omega), fun z => absurd z (by omega), fun z => absurd z (by omega), fun z => absurd z (by omega), fun z => absurd z (by omega), fun z => absurd z (by omega), fun z => absurd z (by omega), fun z => absurd z (by omega), fun z => absurd z (by omega), fun z => absurd z (by omega), fun z => absurd z (by omega), fun z => absurd z (by omega), fun _ => by first | omega | trivial | (simp only [true_and, and_true]; omega), fun z => absurd z (by omega), fun z => absurd z (by omega), fun z => absurd z (by omega), fun z => absurd z (by omega)⟩), (pt_eq (show _ = 0 by omega) (show _ = (h 0 109) + 1 by omega) (show _ = st (h 0 113).toNat by omega) p4)⟩⟩⟩
  · show 40 * (900 - ((h 0 7) + 1)) + pk_sum pk_m ((31, 2, 0) :: (34, 0, 0) :: (32, a, 0) :: s) + 13 < 40 * (900 - (h 0 7)) + pk_sum pk_m ((31, a, b) :: s) + 13; (try simp only [pk_sum]); omega

theorem ab_p_br {h : ja_H} {R r ph q0 : Int} {tf : mo_TF} {s : List mo_A} {ht st rg : Nat → Int} {tu a b : Int} (g : mo_G Zz h) (hS : pk_S h (h 0 17).toNat s) (hB : piB h R r ph tf q0 ((31, a, b) :: s) ht st rg tu)  : pi_done h (mo_L (mo_L (mo_tk (mo_L (ja_up (h) 0 18 ((h 0 18) + 1)) 32 a 0 0)) 37 41 0 0) 31 0 0 0) R r ph tf q0 (pi_mu h ((31, a, b) :: s)) := by
  have hN := piB_num g hS hB
  obtain ⟨N1, N2, N3, N4, N5, N6, N7, N8, N9, N10, N11, N12, N13, ⟨NK1, NK2⟩, ND1, ND2, ND3, NU1, NU2⟩ := hN
  obtain ⟨⟨n1, n2, n3, n4, n5, n6, n7, n8, n9⟩, ⟨b1, b2, b3, b4⟩, reg, hpt, ⟨hC, hU⟩, hNo, hP, hT, top⟩ := id hB
  obtain ⟨⟨⟨p1, p1'⟩, p1u⟩, ⟨p2, p2'⟩, p3, p4⟩ := hpt
  have w0 := (gF_wTop g).1
  simp only [pk_sum] at n1 n2 n3 n6 n7
  dsimp only at p2 p2' N6
  have ec31 : pk_c 31 = 0 := rfl
  have ev31 : pk_v 31 = 0 := rfl
  have ed31 : pk_d 31 = 0 := rfl
  have eq31 : pk_q 31 = 0 := rfl
  have ef31 : pk_f 31 = 0 := rfl
  have em31 : pk_m 31 = 1 := rfl
  have eoff31 : pk_off 31 = 7 := rfl
  have ek31 : pk_k r 31 = 0 := rfl
  have ec32 : pk_c 32 = 1 := rfl
  have ev32 : pk_v 32 = 0 := rfl
  have ed32 : pk_d 32 = 0 := rfl
  have eq32 : pk_q 32 = 0 := rfl
  have ef32 : pk_f 32 = 0 := rfl
  have em32 : pk_m 32 = 1 := rfl
  have eoff32 : pk_off 32 = 7 := rfl
  have ek32 : pk_k r 32 = pk_D r := rfl
  have ec37 : pk_c 37 = 0 := rfl
  have ev37 : pk_v 37 = 0 := rfl
  have ed37 : pk_d 37 = 0 := rfl
  have eq37 : pk_q 37 = 0 := rfl
  have ef37 : pk_f 37 = 0 := rfl
  have em37 : pk_m 37 = 1 := rfl
  have eoff37 : pk_off 37 = 3 := rfl
  have ek37 : pk_k r 37 = 0 := rfl
  replace p3 : pt_ok (h 74) ht st rg (h 0 113) (h 0 88) (h 0 77) r (pi_wn h r) (31, a, b) s ((ht (h 0 113).toNat - 0)) (h 0 109) (st (h 0 113).toNat) tu := p3
  unfold pt_ok at p3; dsimp only at p3
  replace p4 : pt (h 74) ht st rg (h 0 113) (h 0 88) (h 0 77) r tf (pi_wn h r) s (0) ((h 0 109) + 1) (st (h 0 113).toNat) (tu) := p4
  obtain ⟨-, xc, xt, ⟨xe, xu1, xu2⟩, -, -, -, -, -, -, -, -, -, -, -, -, -, -, -, -, -, -, -, -, -, -, xo31, -, -, -, -, -⟩ := p3
  replace xo31 := xo31 (by omega)
  refine fin0 hB (pk_S_L (show 0 ≤ (h 0 17) + 1 + 1 by omega) (pk_S_L (show 0 ≤ (h 0 17) + 1 by omega) (pk_S_ag (ag_up rfl ag_refl) (pk_S_L (show 0 ≤ (h 0 17) by omega) (pk_S_ag (ag_up rfl ag_refl) hS))))) (by (try unfold mo_L); (try unfold mo_tk); (repeat (refine ag_up rfl ?_)); exact ag_refl) (idle_of (show (31 : Int) ≠ 4 ∧ (31 : Int) ≠ 21 ∧ (31 : Int) ≠ 22 ∧ (31 : Int) ≠ 28 ∧ (31 : Int) ≠ 24 by decide)) (fun _ q => List.mem_cons_of_mem _ (List.mem_cons_of_mem _ (List.mem_cons_of_mem _ (q)))) (fun p q => by simp only [pp_cons] at q ⊢; rcases q with q | q | q | q <;> first | (exact Or.inr q) | (exfalso; simp [pp] at q)) ?_ ?_ ?_ ?_ ?_ ?_ ⟨?_, ?_, ?_⟩ (by simp only [pi_if, List.mem_cons, exists_eq_or_imp]; simp) ⟨(fun q y hy => by (try simp only [List.mem_cons] at hy); (rcases hy with rfl | rfl | rfl | hy) <;> first | (exact q _ (List.mem_cons_of_mem _ hy)) | (have := q _ List.mem_cons_self; dsimp only at this ⊢; omega)), (fun q y hy => by (try simp only [List.mem_cons] at hy); (rcases hy with rfl | rfl | rfl | hy) <;> first | (exact q _ (List.mem_cons_of_mem _ hy)) | (have := q _ List.mem_cons_self; dsimp only at this ⊢; omega))⟩ ?_ ⟨fun e => absurd e (by dsimp only; omega), fun e => absurd e (by dsimp only; omega), fun e => absurd e (by dsimp only; omega), fun e => absurd e (by dsimp only; omega)⟩ ?_ (by (try unfold mo_L); (try unfold mo_tk); (repeat (refine ag_up rfl ?_)); exact ag_refl)
  · show (h 0 18) + 1 = _; (try simp only [pk_sum]); omega
  · show (h 0 113) + _ < 5 * ((h 0 7) + 1); (try simp only [pk_sum]); omega
  · show (h 0 95) + _ < (h 0 7) + 1; (try simp only [pk_sum]); omega
  · show (h 0 7) ≤ (h 0 7) + 1; omega
  · show (h 0 84) = _; (try simp only [pk_sum]); omega
  · show (h 0 87) = _; (try simp only [pk_sum]); omega
  · show ph = 1 ∨ (h 0 79) ≤ (h 0 77); omega
  · show ph = 1 ∨ (h 0 77) ≤ 10; omega
  · intro q; show ph = 1 ∨ (h 0 77) ≤ 9; refine b4 (fun z => q ?_); intro y hy; simp only [List.mem_cons] at hy; rcases hy with rfl | rfl | rfl | hy
    · show (31 : Int) ≠ 17; decide
    · show (37 : Int) ≠ 17; decide
    · show (32 : Int) ≠ 17; decide
    · exact z y (List.mem_cons_of_mem _ hy)
  · exact ⟨⟨⟨by (try simp only [pk_sum]); omega, by (try simp only [pk_sum]); omega⟩, (fun p q => absurd q (by simp [pp]))⟩, ⟨by (try simp only [pk_sum, List.length_cons]); (try dsimp only); omega, (by intro y z e; cases e; dsimp only; omega)⟩, (show pt_ok (h 74) ht st rg (h 0 113) (h 0 88) (h 0 77) r (pi_wn h r) (31, 0, 0) ((37, 41, 0) :: (32, a, 0) :: s) (ht (h 0 113).toNat - 0) ((h 0 109)) (st (h 0 113).toNat) (tu) from by unfold pt_ok; (try dsimp only); (try simp only [pk_sum]); exact ⟨⟨by omega, by omega, by omega, by omega⟩, by omega, by omega, ⟨by first | omega | simp, by omega, by omega⟩, fun z => absurd z (by omega), fun z => absurd z (by omega), fun z => absurd z (by omega), fun z => absurd z (by omega), fun z => absurd z (by omega), fun z => absurd z (by omega), fun z => absurd z (by omega), fun z => absurd z (by omega), fun z => absurd z (by omega), fun z => absurd z (by omega), fun z => absurd z (by omega), fun z => absurd z (by omega), fun z => absurd z (by omega), fun z => absurd z (by omega), fun z => absurd z (by omega), fun z => absurd z (by omega), fun z => absurd z (by omega), fun z => absurd z (by omega), fun z => absurd z (by omega), fun z => absurd z (by omega), fun z => absurd z (by omega), fun z => absurd z (by omega), fun _ => by first | omega | trivial | (simp only [true_and, and_true]; omega), fun z => absurd z (by omega), fun z => absurd z (by omega), fun z => absurd z (by omega), fun z => absurd z (by omega), fun z => absurd z (by omega)⟩), ⟨⟨⟨by (try simp only [pk_sum]); omega, by (try simp only [pk_sum]); omega⟩, (fun p q => absurd q (by simp [pp]))⟩, ⟨by (try simp only [pk_sum, List.length_cons]); (try dsimp only); omega, (by intro y z e; cases e; dsimp only; omega)⟩, (show pt_ok (h 74) ht st rg (h 0 113) (h 0 88) (h 0 77) r (pi_wn h r) (37, 41, 0) ((32, a, 0) :: s) (0) ((h 0 109) + 1) (st (h 0 113).toNat) (tu) from by unfold pt_ok; (try dsimp only); (try simp only [pk_sum]); exact ⟨⟨by omega, by omega, by omega, by omega⟩, by omega, by omega, ⟨by first | omega | simp, by omega, by omega⟩, fun z => absurd z (by omega), fun z => absurd z (by omega), fun z => absurd z (by omega), fun z => absurd z (by omega), fun z => absurd z (by omega), fun z => absurd z (by omega), fun z => absurd z (by omega), fun z => absurd z (by omega), fun z => absurd z (by omega), fun z => absurd z (by omega), fun z => absurd z (by omega), fun z => absurd z (by omega), fun z => absurd z (by omega), fun z => absurd z (by omega), fun z => absurd z (by omega), fun z => absurd z (by omega), fun z => absurd z (by omega), fun z => absurd z (by omega), fun z => absurd z (by omega), fun z => absurd z (by omega), fun z => absurd z (by omega), fun z => absurd z (by omega), fun z => absurd z (by omega), fun z => absurd z (by omega), fun z => absurd z (by omega), fun z => absurd z (by omega), fun z => absurd z (by omega), fun z => absurd z (by omega)⟩), ⟨⟨⟨by (try simp only [pk_sum]); omega, by (try simp only [pk_sum]); omega⟩, (fun p q => absurd q (by simp [pp]))⟩, ⟨by (try simp only [pk_sum, List.length_cons]); (try dsimp only); omega, (by intro y z e; have q := p2' y z e; dsimp only at q ⊢; omega)⟩, (show pt_ok (h 74) ht st rg (h 0 113) (h 0 88) (h 0 77) r (pi_wn h r) (32, a, 0) (s) (0) ((h 0 109) + 1) (st (h 0 113).toNat) (tu) from by unfold pt_ok; (try dsimp only); (try simp only [pk_sum]); exact ⟨⟨by omega, by omega, by omega, by omega⟩, by omega, by omega, ⟨by first | omega | simp, by omega, by omega⟩, fun z => absurd z (by omega), fun z => absurd z (by omega), fun z => absurd z (by omega), fun z => absurd z (by omega), fun z => absurd z (by omega), fun z => absurd z (by omega), fun z => absurd z (by omega), fun z => absurd z (by omega), fun z => absurd z (by omega), fun z => absurd z (by omega), fun z => absurd z (by omega), fun z => absurd z (by omega), fun z => absurd z (by omega), fun z => absurd z (by omega), fun z => absurd z (by omega), fun z => absurd z (by omega), fun z => absurd z (by omega), fun z => absurd z (by omega), fun z => absurd z (by omega), fun z => absurd z (by omega), fun z => absurd z (by omega), fun z => absurd z (by omega), fun z => absurd z (by omega), fun _ => by first | omega | trivial | (simp only [true_and, and_true]; omega), fun z => absurd z (by omega), fun z => absurd z (by omega), fun z => absurd z (by omega), fun z => absurd z (by omega)⟩), (pt_eq (show _ = 0 by omega) (show _ = (h 0 109) + 1 by omega) (show _ = st (h 0 113).toNat by omega) p4)⟩⟩⟩
  · show 40 * (900 - ((h 0 7) + 1)) + pk_sum pk_m ((31, 0, 0) :: (37, 41, 0) :: (32, a, 0) :: s) + 13 < 40 * (900 - (h 0 7)) + pk_sum pk_m ((31, a, b) :: s) + 13; (try simp only [pk_sum]); omega

theorem ab_p_flow {h : ja_H} {R r ph q0 : Int} {tf : mo_TF} {s : List mo_A} {ht st rg : Nat → Int} {tu a b : Int} (g : mo_G Zz h) (hS : pk_S h (h 0 17).toNat s) (hB : piB h R r ph tf q0 ((31, a, b) :: s) ht st rg tu)  : pi_done h (mo_L (mo_L (mo_L (mo_tk (mo_tk (ja_up (ja_up (mo_L (ja_up (h) 0 18 ((h 0 18) + 1)) 32 a 0 0) 0 84 ((h 0 84) + 1)) 0 87 ((h 0 87) + 1)))) 35 0 0 0) 37 41 0 0) 31 0 0 0) R r ph tf q0 (pi_mu h ((31, a, b) :: s)) := by
  have hN := piB_num g hS hB
  obtain ⟨N1, N2, N3, N4, N5, N6, N7, N8, N9, N10, N11, N12, N13, ⟨NK1, NK2⟩, ND1, ND2, ND3, NU1, NU2⟩ := hN
  obtain ⟨⟨n1, n2, n3, n4, n5, n6, n7, n8, n9⟩, ⟨b1, b2, b3, b4⟩, reg, hpt, ⟨hC, hU⟩, hNo, hP, hT, top⟩ := id hB
  obtain ⟨⟨⟨p1, p1'⟩, p1u⟩, ⟨p2, p2'⟩, p3, p4⟩ := hpt
  have w0 := (gF_wTop g).1
  simp only [pk_sum] at n1 n2 n3 n6 n7
  dsimp only at p2 p2' N6
  have ec31 : pk_c 31 = 0 := rfl
  have ev31 : pk_v 31 = 0 := rfl
  have ed31 : pk_d 31 = 0 := rfl
  have eq31 : pk_q 31 = 0 := rfl
  have ef31 : pk_f 31 = 0 := rfl
  have em31 : pk_m 31 = 1 := rfl
  have eoff31 : pk_off 31 = 7 := rfl
  have ek31 : pk_k r 31 = 0 := rfl
  have ec32 : pk_c 32 = 1 := rfl
  have ev32 : pk_v 32 = 0 := rfl
  have ed32 : pk_d 32 = 0 := rfl
  have eq32 : pk_q 32 = 0 := rfl
  have ef32 : pk_f 32 = 0 := rfl
  have em32 : pk_m 32 = 1 := rfl
  have eoff32 : pk_off 32 = 7 := rfl
  have ek32 : pk_k r 32 = pk_D r := rfl
  have ec35 : pk_c 35 = 0 := rfl
  have ev35 : pk_v 35 = 0 := rfl
  have ed35 : pk_d 35 = 1 := rfl
  have eq35 : pk_q 35 = 1 := rfl
  have ef35 : pk_f 35 = 1 := rfl
  have em35 : pk_m 35 = 1 := rfl
  have eoff35 : pk_off 35 = 2 := rfl
  have ek35 : pk_k r 35 = 0 := rfl
  have ec37 : pk_c 37 = 0 := rfl
  have ev37 : pk_v 37 = 0 := rfl
  have ed37 : pk_d 37 = 0 := rfl
  have eq37 : pk_q 37 = 0 := rfl
  have ef37 : pk_f 37 = 0 := rfl
  have em37 : pk_m 37 = 1 := rfl
  have eoff37 : pk_off 37 = 3 := rfl
  have ek37 : pk_k r 37 = 0 := rfl
  replace p3 : pt_ok (h 74) ht st rg (h 0 113) (h 0 88) (h 0 77) r (pi_wn h r) (31, a, b) s ((ht (h 0 113).toNat - 0)) (h 0 109) (st (h 0 113).toNat) tu := p3
  unfold pt_ok at p3; dsimp only at p3
  replace p4 : pt (h 74) ht st rg (h 0 113) (h 0 88) (h 0 77) r tf (pi_wn h r) s (0) ((h 0 109) + 1) (st (h 0 113).toNat) (tu) := p4
  obtain ⟨-, xc, xt, ⟨xe, xu1, xu2⟩, -, -, -, -, -, -, -, -, -, -, -, -, -, -, -, -, -, -, -, -, -, -, xo31, -, -, -, -, -⟩ := p3
  replace xo31 := xo31 (by omega)
  refine fin0 hB (pk_S_L (show 0 ≤ (h 0 17) + 1 + 1 + 1 by omega) (pk_S_L (show 0 ≤ (h 0 17) + 1 + 1 by omega) (pk_S_L (show 0 ≤ (h 0 17) + 1 by omega) (pk_S_ag (ag_up rfl ag_refl) (pk_S_ag (ag_up rfl ag_refl) (pk_S_ag (ag_up rfl ag_refl) (pk_S_ag (ag_up rfl ag_refl) (pk_S_L (show 0 ≤ (h 0 17) by omega) (pk_S_ag (ag_up rfl ag_refl) hS))))))))) (by (try unfold mo_L); (try unfold mo_tk); (repeat (refine ag_up rfl ?_)); exact ag_refl) (idle_of (show (31 : Int) ≠ 4 ∧ (31 : Int) ≠ 21 ∧ (31 : Int) ≠ 22 ∧ (31 : Int) ≠ 28 ∧ (31 : Int) ≠ 24 by decide)) (fun _ q => List.mem_cons_of_mem _ (List.mem_cons_of_mem _ (List.mem_cons_of_mem _ (List.mem_cons_of_mem _ (q))))) (fun p q => by simp only [pp_cons] at q ⊢; rcases q with q | q | q | q | q <;> first | (exact Or.inr q) | (exfalso; simp [pp] at q)) ?_ ?_ ?_ ?_ ?_ ?_ ⟨?_, ?_, ?_⟩ (by simp only [pi_if, List.mem_cons, exists_eq_or_imp]; simp) ⟨(fun q y hy => by (try simp only [List.mem_cons] at hy); (rcases hy with rfl | rfl | rfl | rfl | hy) <;> first | (exact q _ (List.mem_cons_of_mem _ hy)) | (have := q _ List.mem_cons_self; dsimp only at this ⊢; omega)), (fun q y hy => by (try simp only [List.mem_cons] at hy); (rcases hy with rfl | rfl | rfl | rfl | hy) <;> first | (exact q _ (List.mem_cons_of_mem _ hy)) | (have := q _ List.mem_cons_self; dsimp only at this ⊢; omega))⟩ ?_ ⟨fun e => absurd e (by dsimp only; omega), fun e => absurd e (by dsimp only; omega), fun e => absurd e (by dsimp only; omega), fun e => absurd e (by dsimp only; omega)⟩ ?_ (by (try unfold mo_L); (try unfold mo_tk); (repeat (refine ag_up rfl ?_)); exact ag_refl)
  · show (h 0 18) + 1 = _; (try simp only [pk_sum]); omega
  · show (h 0 113) + _ < 5 * ((h 0 7) + 1 + 1); (try simp only [pk_sum]); omega
  · show (h 0 95) + _ < (h 0 7) + 1 + 1; (try simp only [pk_sum]); omega
  · show (h 0 7) ≤ (h 0 7) + 1 + 1; omega
  · show (h 0 84) + 1 = _; (try simp only [pk_sum]); omega
  · show (h 0 87) + 1 = _; (try simp only [pk_sum]); omega
  · show ph = 1 ∨ (h 0 79) ≤ (h 0 77); omega
  · show ph = 1 ∨ (h 0 77) ≤ 10; omega
  · intro q; show ph = 1 ∨ (h 0 77) ≤ 9; refine b4 (fun z => q ?_); intro y hy; simp only [List.mem_cons] at hy; rcases hy with rfl | rfl | rfl | rfl | hy
    · show (31 : Int) ≠ 17; decide
    · show (37 : Int) ≠ 17; decide
    · show (35 : Int) ≠ 17; decide
    · show (32 : Int) ≠ 17; decide
    · exact z y (List.mem_cons_of_mem _ hy)
  · exact ⟨⟨⟨by (try simp only [pk_sum]); omega, by (try simp only [pk_sum]); omega⟩, (fun p q => absurd q (by simp [pp]))⟩, ⟨by (try simp only [pk_sum, List.length_cons]); (try dsimp only); omega, (by intro y z e; cases e; dsimp only; omega)⟩, (show pt_ok (h 74) ht st rg (h 0 113) (h 0 88) (h 0 77) r (pi_wn h r) (31, 0, 0) ((37, 41, 0) :: (35, 0, 0) :: (32, a, 0) :: s) (ht (h 0 113).toNat - 0) ((h 0 109)) (st (h 0 113).toNat) (tu) from by unfold pt_ok; (try dsimp only); (try simp only [pk_sum]); exact ⟨⟨by omega, by omega, by omega, by omega⟩, by omega, by omega, ⟨by first | omega | simp, by omega, by omega⟩, fun z => absurd z (by omega), fun z => absurd z (by omega), fun z => absurd z (by omega), fun z => absurd z (by omega), fun z => absurd z (by omega), fun z => absurd z (by omega), fun z => absurd z (by omega), fun z => absurd z (by omega), fun z => absurd z (by omega), fun z => absurd z (by omega), fun z => absurd z (by omega), fun z => absurd z (by omega), fun z => absurd z (by omega), fun z => absurd z (by omega), fun z => absurd z (by omega), fun z => absurd z (by omega), fun z => absurd z (by omega), fun z => absurd z (by omega), fun z => absurd z (by omega), fun z => absurd z (by omega), fun z => absurd z (by omega), fun z => absurd z (by omega), fun _ => by first | omega | trivial | (simp only [true_and, and_true]; omega), fun z => absurd z (by omega), fun z => absurd z (by omega), fun z => absurd z (by omega), fun z => absurd z (by omega), fun z => absurd z (by omega)⟩), ⟨⟨⟨by (try simp only [pk_sum]); omega, by (try simp only [pk_sum]); omega⟩, (fun p q => absurd q (by simp [pp]))⟩, ⟨by (try simp only [pk_sum, List.length_cons]); (try dsimp only); omega, (by intro y z e; cases e; dsimp only; omega)⟩, (show pt_ok (h 74) ht st rg (h 0 113) (h 0 88) (h 0 77) r (pi_wn h r) (37, 41, 0) ((35, 0, 0) :: (32, a, 0) :: s) (0) ((h 0 109) + 1) (st (h 0 113).toNat) (tu) from by unfold pt_ok; (try dsimp only); (try simp only [pk_sum]); exact ⟨⟨by omega, by omega, by omega, by omega⟩, by omega, by omega, ⟨by first | omega | simp, by omega, by omega⟩, fun z => absurd z (by omega), fun z => absurd z (by omega), fun z => absurd z (by omega), fun z => absurd z (by omega), fun z => absurd z (by omega), fun z => absurd z (by omega), fun z => absurd z (by omega), fun z => absurd z (by omega), fun z => absurd z (by omega), fun z => absurd z (by omega), fun z => absurd z (by omega), fun z => absurd z (by omega), fun z => absurd z (by omega), fun z => absurd z (by omega), fun z => absurd z (by omega), fun z => absurd z (by omega), fun z => absurd z (by omega), fun z => absurd z (by omega), fun z => absurd z (by omega), fun z => absurd z (by omega), fun z => absurd z (by omega), fun z => absurd z (by omega), fun z => absurd z (by omega), fun z => absurd z (by omega), fun z => absurd z (by omega), fun z => absurd z (by omega), fun z => absurd z (by omega), fun z => absurd z (by omega)⟩), ⟨⟨⟨by (try simp only [pk_sum]); omega, by (try simp only [pk_sum]); omega⟩, (fun p q => absurd q (by simp [pp]))⟩, ⟨by (try simp only [pk_sum, List.length_cons]); (try dsimp only); omega, (by intro y z e; cases e; dsimp only; omega)⟩, (show pt_ok (h 74) ht st rg (h 0 113) (h 0 88) (h 0 77) r (pi_wn h r) (35, 0, 0) ((32, a, 0) :: s) (0) ((h 0 109) + 1) (st (h 0 113).toNat) (tu) from by unfold pt_ok; (try dsimp only); (try simp only [pk_sum]); exact ⟨⟨by omega, by omega, by omega, by omega⟩, by omega, by omega, ⟨by first | omega | simp, by omega, by omega⟩, fun z => absurd z (by omega), fun z => absurd z (by omega), fun z => absurd z (by omega), fun z => absurd z (by omega), fun z => absurd z (by omega), fun z => absurd z (by omega), fun z => absurd z (by omega), fun z => absurd z (by omega), fun z => absurd z (by omega), fun z => absurd z (by omega), fun z => absurd z (by omega), fun z => absurd z (by omega), fun z => absurd z (by omega), fun z => absurd z (by omega), fun z => absurd z (by omega), fun z => absurd z (by omega), fun z => absurd z (by omega), fun z => absurd z (by omega), fun z => absurd z (by omega), fun z => absurd z (by omega), fun z => absurd z (by omega), fun z => absurd z (by omega), fun z => absurd z (by omega), fun z => absurd z (by omega), fun z => absurd z (by omega), fun _ => by first | omega | trivial | (simp only [true_and, and_true]; omega), fun z => absurd z (by omega), fun z => absurd z (by omega)⟩), ⟨⟨⟨by (try simp only [pk_sum]); omega, by (try simp only [pk_sum]); omega⟩, (fun p q => absurd q (by simp [pp]))⟩, ⟨by (try simp only [pk_sum, List.length_cons]); (try dsimp only); omega, (by intro y z e; have q := p2' y z e; dsimp only at q ⊢; omega)⟩, (show pt_ok (h 74) ht st rg (h 0 113) (h 0 88) (h 0 77) r (pi_wn h r) (32, a, 0) (s) (0) ((h 0 109) + 1) (st (h 0 113).toNat) (tu) from by unfold pt_ok; (try dsimp only); (try simp only [pk_sum]); exact ⟨⟨by omega, by omega, by omega, by omega⟩, by omega, by omega, ⟨by first | omega | simp, by omega, by omega⟩, fun z => absurd z (by omega), fun z => absurd z (by omega), fun z => absurd z (by omega), fun z => absurd z (by omega), fun z => absurd z (by omega), fun z => absurd z (by omega), fun z => absurd z (by omega), fun z => absurd z (by omega), fun z => absurd z (by omega), fun z => absurd z (by omega), fun z => absurd z (by omega), fun z => absurd z (by omega), fun z => absurd z (by omega), fun z => absurd z (by omega), fun z => absurd z (by omega), fun z => absurd z (by omega), fun z => absurd z (by omega), fun z => absurd z (by omega), fun z => absurd z (by omega), fun z => absurd z (by omega), fun z => absurd z (by omega), fun z => absurd z (by omega), fun z => absurd z (by omega), fun _ => by first | omega | trivial | (simp only [true_and, and_true]; omega), fun z => absurd z (by omega), fun z => absurd z (by omega), fun z => absurd z (by omega), fun z => absurd z (by omega)⟩), (pt_eq (show _ = 0 by omega) (show _ = (h 0 109) + 1 by omega) (show _ = st (h 0 113).toNat by omega) p4)⟩⟩⟩⟩
  · show 40 * (900 - ((h 0 7) + 1 + 1)) + pk_sum pk_m ((31, 0, 0) :: (37, 41, 0) :: (35, 0, 0) :: (32, a, 0) :: s) + 13 < 40 * (900 - (h 0 7)) + pk_sum pk_m ((31, a, b) :: s) + 13; (try simp only [pk_sum]); omega

theorem ab_pops_end {h : ja_H} {R r ph q0 : Int} {tf : mo_TF} {s : List mo_A} {ht st rg : Nat → Int} {tu a b : Int} (g : mo_G Zz h) (hS : pk_S h (h 0 17).toNat s) (hB : piB h R r ph tf q0 ((32, a, b) :: s) ht st rg tu)  : pi_done h (ja_up (h) 0 18 ((h 0 18) - 1)) R r ph tf q0 (pi_mu h ((32, a, b) :: s)) := by
  have hN := piB_num g hS hB
  obtain ⟨N1, N2, N3, N4, N5, N6, N7, N8, N9, N10, N11, N12, N13, ⟨NK1, NK2⟩, ND1, ND2, ND3, NU1, NU2⟩ := hN
  obtain ⟨⟨n1, n2, n3, n4, n5, n6, n7, n8, n9⟩, ⟨b1, b2, b3, b4⟩, reg, hpt, ⟨hC, hU⟩, hNo, hP, hT, top⟩ := id hB
  obtain ⟨⟨⟨p1, p1'⟩, p1u⟩, ⟨p2, p2'⟩, p3, p4⟩ := hpt
  have w0 := (gF_wTop g).1
  simp only [pk_sum] at n1 n2 n3 n6 n7
  dsimp only at p2 p2' N6
  have ec32 : pk_c 32 = 1 := rfl
  have ev32 : pk_v 32 = 0 := rfl
  have ed32 : pk_d 32 = 0 := rfl
  have eq32 : pk_q 32 = 0 := rfl
  have ef32 : pk_f 32 = 0 := rfl
  have em32 : pk_m 32 = 1 := rfl
  have eoff32 : pk_off 32 = 7 := rfl
  have ek32 : pk_k r 32 = pk_D r := rfl
  replace p3 : pt_ok (h 74) ht st rg (h 0 113) (h 0 88) (h 0 77) r (pi_wn h r) (32, a, b) s ((ht (h 0 113).toNat - 0)) (h 0 109) (st (h 0 113).toNat) tu := p3
  unfold pt_ok at p3; dsimp only at p3
  replace p4 : pt (h 74) ht st rg (h 0 113) (h 0 88) (h 0 77) r tf (pi_wn h r) s (0) ((h 0 109)) (st (h 0 113).toNat) (tu) := p4
  obtain ⟨-, xc, xt, ⟨xe, xu1, xu2⟩, -, -, -, -, -, -, -, -, -, -, -, -, -, -, -, -, -, -, -, -, -, -, -, xo32, -, -, -, -⟩ := p3
  replace xo32 := xo32 (by omega)
  refine fin0 hB (pk_S_ag (ag_up rfl ag_refl) hS) (by (try unfold mo_L); (try unfold mo_tk); (repeat (refine ag_up rfl ?_)); exact ag_refl) (idle_of (show (32 : Int) ≠ 4 ∧ (32 : Int) ≠ 21 ∧ (32 : Int) ≠ 22 ∧ (32 : Int) ≠ 28 ∧ (32 : Int) ≠ 24 by decide)) (fun _ q => q) (fun p q => pp_cons.mpr (Or.inr q)) ?_ ?_ ?_ ?_ ?_ ?_ ⟨?_, ?_, ?_⟩ (pi_if_tail (show (32 : Int) ≠ 36 by decide)) ⟨(fun q y hy => q y (List.mem_cons_of_mem _ hy)), (fun q y hy => q y (List.mem_cons_of_mem _ hy))⟩ ?_ (fin_top0 (show (32 : Int) ≠ 1 by decide) p2' (fun q => absurd q (by dsimp only; omega))) ?_ (by (try unfold mo_L); (try unfold mo_tk); (repeat (refine ag_up rfl ?_)); exact ag_refl)
  · show (h 0 18) - 1 = _; (try simp only [pk_sum]); omega
  · show (h 0 113) + _ < 5 * ((h 0 7)); (try simp only [pk_sum]); omega
  · show (h 0 95) + _ < (h 0 7); (try simp only [pk_sum]); omega
  · show (h 0 7) ≤ (h 0 7); omega
  · show (h 0 84) = _; (try simp only [pk_sum]); omega
  · show (h 0 87) = _; (try simp only [pk_sum]); omega
  · show ph = 1 ∨ (h 0 79) ≤ (h 0 77); omega
  · show ph = 1 ∨ (h 0 77) ≤ 10; omega
  · intro q; show ph = 1 ∨ (h 0 77) ≤ 9; exact b4 (fun z => q (fun y hy => z y (List.mem_cons_of_mem _ hy)))
  · rw [fin_adj p2' (show (32 : Int) ≠ 8 ∧ (32 : Int) ≠ 9 by decide)]; exact pt_eq (by omega) (by omega) (by omega) p4
  · show 40 * (900 - ((h 0 7))) + pk_sum pk_m (s) + 13 < 40 * (900 - (h 0 7)) + pk_sum pk_m ((32, a, b) :: s) + 13; (try simp only [pk_sum]); omega

theorem ab_pops_more {h : ja_H} {R r ph q0 : Int} {tf : mo_TF} {s : List mo_A} {ht st rg : Nat → Int} {tu a b : Int} (g : mo_G Zz h) (hS : pk_S h (h 0 17).toNat s) (hB : piB h R r ph tf q0 ((32, a, b) :: s) ht st rg tu) {v : Int} : pi_done h (mo_L (mo_L (mo_L (mo_tk (h)) 32 a 0 0) 33 v 0 0) 31 v 0 0) R r ph tf q0 (pi_mu h ((32, a, b) :: s)) := by
  have hN := piB_num g hS hB
  obtain ⟨N1, N2, N3, N4, N5, N6, N7, N8, N9, N10, N11, N12, N13, ⟨NK1, NK2⟩, ND1, ND2, ND3, NU1, NU2⟩ := hN
  obtain ⟨⟨n1, n2, n3, n4, n5, n6, n7, n8, n9⟩, ⟨b1, b2, b3, b4⟩, reg, hpt, ⟨hC, hU⟩, hNo, hP, hT, top⟩ := id hB
  obtain ⟨⟨⟨p1, p1'⟩, p1u⟩, ⟨p2, p2'⟩, p3, p4⟩ := hpt
  have w0 := (gF_wTop g).1
  simp only [pk_sum] at n1 n2 n3 n6 n7
  dsimp only at p2 p2' N6
  have ec31 : pk_c 31 = 0 := rfl
  have ev31 : pk_v 31 = 0 := rfl
  have ed31 : pk_d 31 = 0 := rfl
  have eq31 : pk_q 31 = 0 := rfl
  have ef31 : pk_f 31 = 0 := rfl
  have em31 : pk_m 31 = 1 := rfl
  have eoff31 : pk_off 31 = 7 := rfl
  have ek31 : pk_k r 31 = 0 := rfl
  have ec32 : pk_c 32 = 1 := rfl
  have ev32 : pk_v 32 = 0 := rfl
  have ed32 : pk_d 32 = 0 := rfl
  have eq32 : pk_q 32 = 0 := rfl
  have ef32 : pk_f 32 = 0 := rfl
  have em32 : pk_m 32 = 1 := rfl
  have eoff32 : pk_off 32 = 7 := rfl
  have ek32 : pk_k r 32 = pk_D r := rfl
  have ec33 : pk_c 33 = 0 := rfl
  have ev33 : pk_v 33 = 0 := rfl
  have ed33 : pk_d 33 = 1 := rfl
  have eq33 : pk_q 33 = 0 := rfl
  have ef33 : pk_f 33 = 0 := rfl
  have em33 : pk_m 33 = 1 := rfl
  have eoff33 : pk_off 33 = 2 := rfl
  have ek33 : pk_k r 33 = 0 := rfl
  replace p3 : pt_ok (h 74) ht st rg (h 0 113) (h 0 88) (h 0 77) r (pi_wn h r) (32, a, b) s ((ht (h 0 113).toNat - 0)) (h 0 109) (st (h 0 113).toNat) tu := p3
  unfold pt_ok at p3; dsimp only at p3
  replace p4 : pt (h 74) ht st rg (h 0 113) (h 0 88) (h 0 77) r tf (pi_wn h r) s (0) ((h 0 109)) (st (h 0 113).toNat) (tu) := p4
  obtain ⟨-, xc, xt, ⟨xe, xu1, xu2⟩, -, -, -, -, -, -, -, -, -, -, -, -, -, -, -, -, -, -, -, -, -, -, -, xo32, -, -, -, -⟩ := p3
  replace xo32 := xo32 (by omega)
  refine fin0 hB (pk_S_L (show 0 ≤ (h 0 17) + 1 + 1 by omega) (pk_S_L (show 0 ≤ (h 0 17) + 1 by omega) (pk_S_L (show 0 ≤ (h 0 17) by omega) (pk_S_ag (ag_up rfl ag_refl) hS)))) (by (try unfold mo_L); (try unfold mo_tk); (repeat (refine ag_up rfl ?_)); exact ag_refl) (idle_of (show (32 : Int) ≠ 4 ∧ (32 : Int) ≠ 21 ∧ (32 : Int) ≠ 22 ∧ (32 : Int) ≠ 28 ∧ (32 : Int) ≠ 24 by decide)) (fun _ q => List.mem_cons_of_mem _ (List.mem_cons_of_mem _ (List.mem_cons_of_mem _ (q)))) (fun p q => by simp only [pp_cons] at q ⊢; rcases q with q | q | q | q <;> first | (exact Or.inr q) | (exfalso; simp [pp] at q)) ?_ ?_ ?_ ?_ ?_ ?_ ⟨?_, ?_, ?_⟩ (by simp only [pi_if, List.mem_cons, exists_eq_or_imp]; simp) ⟨(fun q y hy => by (try simp only [List.mem_cons] at hy); (rcases hy with rfl | rfl | rfl | hy) <;> first | (exact q _ (List.mem_cons_of_mem _ hy)) | (have := q _ List.mem_cons_self; dsimp only at this ⊢; omega)), (fun q y hy => by (try simp only [List.mem_cons] at hy); (rcases hy with rfl | rfl | rfl | hy) <;> first | (exact q _ (List.mem_cons_of_mem _ hy)) | (have := q _ List.mem_cons_self; dsimp only at this ⊢; omega))⟩ ?_ ⟨fun e => absurd e (by dsimp only; omega), fun e => absurd e (by dsimp only; omega), fun e => absurd e (by dsimp only; omega), fun e => absurd e (by dsimp only; omega)⟩ ?_ (by (try unfold mo_L); (try unfold mo_tk); (repeat (refine ag_up rfl ?_)); exact ag_refl)
  · show (h 0 18) = _; (try simp only [pk_sum]); omega
  · show (h 0 113) + _ < 5 * ((h 0 7) + 1); (try simp only [pk_sum]); omega
  · show (h 0 95) + _ < (h 0 7) + 1; (try simp only [pk_sum]); omega
  · show (h 0 7) ≤ (h 0 7) + 1; omega
  · show (h 0 84) = _; (try simp only [pk_sum]); omega
  · show (h 0 87) = _; (try simp only [pk_sum]); omega
  · show ph = 1 ∨ (h 0 79) ≤ (h 0 77); omega
  · show ph = 1 ∨ (h 0 77) ≤ 10; omega
  · intro q; show ph = 1 ∨ (h 0 77) ≤ 9; refine b4 (fun z => q ?_); intro y hy; simp only [List.mem_cons] at hy; rcases hy with rfl | rfl | rfl | hy
    · show (31 : Int) ≠ 17; decide
    · show (33 : Int) ≠ 17; decide
    · show (32 : Int) ≠ 17; decide
    · exact z y (List.mem_cons_of_mem _ hy)
  · exact ⟨⟨⟨by (try simp only [pk_sum]); omega, by (try simp only [pk_sum]); omega⟩, (fun p q => absurd q (by simp [pp]))⟩, ⟨by (try simp only [pk_sum, List.length_cons]); (try dsimp only); omega, (by intro y z e; cases e; dsimp only; omega)⟩, (show pt_ok (h 74) ht st rg (h 0 113) (h 0 88) (h 0 77) r (pi_wn h r) (31, v, 0) ((33, v, 0) :: (32, a, 0) :: s) (ht (h 0 113).toNat - 0) ((h 0 109)) (st (h 0 113).toNat) (tu) from by unfold pt_ok; (try dsimp only); (try simp only [pk_sum]); exact ⟨⟨by omega, by omega, by omega, by omega⟩, by omega, by omega, ⟨by first | omega | simp, by omega, by omega⟩, fun z => absurd z (by omega), fun z => absurd z (by omega), fun z => absurd z (by omega), fun z => absurd z (by omega), fun z => absurd z (by omega), fun z => absurd z (by omega), fun z => absurd z (by omega), fun z => absurd z (by omega), fun z => absurd z (by omega), fun z => absurd z (by omega), fun z => absurd z (by omega), fun z => absurd z (by omega), fun z => absurd z (by omega), fun z => absurd z (by omega), fun z => absurd z (by omega), fun z => absurd z (by omega), fun z => absurd z (by omega), fun z => absurd z (by omega), fun z => absurd z (by omega), fun z => absurd z (by omega), fun z => absurd z (by omega), fun z => absurd z (by omega), fun _ => by first | omega | trivial | (simp only [true_and, and_true]; omega), fun z => absurd z (by omega), fun z => absurd z (by omega), fun z => absurd z (by omega), fun z => absurd z (by omega), fun z => absurd z (by omega)⟩), ⟨⟨⟨by (try simp only [pk_sum]); omega, by (try simp only [pk_sum]); omega⟩, (fun p q => absurd q (by simp [pp]))⟩, ⟨by (try simp only [pk_sum, List.length_cons]); (try dsimp only); omega, (by intro y z e; cases e; dsimp only; omega)⟩, (show pt_ok (h 74) ht st rg (h 0 113) (h 0 88) (h 0 77) r (pi_wn h r) (33, v, 0) ((32, a, 0) :: s) (0) ((h 0 109) + 1) (st (h 0 113).toNat) (tu) from by unfold pt_ok; (try dsimp only); (try simp only [pk_sum]); exact ⟨⟨by omega, by omega, by omega, by omega⟩, by omega, by omega, ⟨by first | omega | simp, by omega, by omega⟩, fun z => absurd z (by omega), fun z => absurd z (by omega), fun z => absurd z (by omega), fun z => absurd z (by omega), fun z => absurd z (by omega), fun z => absurd z (by omega), fun z => absurd z (by omega), fun z => absurd z (by omega), fun z => absurd z (by omega), fun z => absurd z (by omega), fun z => absurd z (by omega), fun z => absurd z (by omega), fun z => absurd z (by omega), fun z => absurd z (by omega), fun z => absurd z (by omega), fun z => absurd z (by omega), fun z => absurd z (by omega), fun z => absurd z (by omega), fun z => absurd z (by omega), fun z => absurd z (by omega), fun z => absurd z (by omega), fun z => absurd z (by omega), fun z => absurd z (by omega), fun z => absurd z (by omega), fun _ => by first | omega | trivial | (simp only [true_and, and_true]; omega), fun z => absurd z (by omega), fun z => absurd z (by omega), fun z => absurd z (by omega)⟩), ⟨⟨⟨by (try simp only [pk_sum]); omega, by (try simp only [pk_sum]); omega⟩, (fun p q => absurd q (by simp [pp]))⟩, ⟨by (try simp only [pk_sum, List.length_cons]); (try dsimp only); omega, (by intro y z e; have q := p2' y z e; dsimp only at q ⊢; omega)⟩, (show pt_ok (h 74) ht st rg (h 0 113) (h 0 88) (h 0 77) r (pi_wn h r) (32, a, 0) (s) (0) ((h 0 109) + 1 - 1) (st (h 0 113).toNat) (tu) from by unfold pt_ok; (try dsimp only); (try simp only [pk_sum]); exact ⟨⟨by omega, by omega, by omega, by omega⟩, by omega, by omega, ⟨by first | omega | simp, by omega, by omega⟩, fun z => absurd z (by omega), fun z => absurd z (by omega), fun z => absurd z (by omega), fun z => absurd z (by omega), fun z => absurd z (by omega), fun z => absurd z (by omega), fun z => absurd z (by omega), fun z => absurd z (by omega), fun z => absurd z (by omega), fun z => absurd z (by omega), fun z => absurd z (by omega), fun z => absurd z (by omega), fun z => absurd z (by omega), fun z => absurd z (by omega), fun z => absurd z (by omega), fun z => absurd z (by omega), fun z => absurd z (by omega), fun z => absurd z (by omega), fun z => absurd z (by omega), fun z => absurd z (by omega), fun z => absurd z (by omega), fun z => absurd z (by omega), fun z => absurd z (by omega), fun _ => by first | omega | trivial | (simp only [true_and, and_true]; omega), fun z => absurd z (by omega), fun z => absurd z (by omega), fun z => absurd z (by omega), fun z => absurd z (by omega)⟩), (pt_eq (show _ = 0 by omega) (show _ = (h 0 109) + 1 - 1 by omega) (show _ = st (h 0 113).toNat by omega) p4)⟩⟩⟩
  · show 40 * (900 - ((h 0 7) + 1)) + pk_sum pk_m ((31, v, 0) :: (33, v, 0) :: (32, a, 0) :: s) + 13 < 40 * (900 - (h 0 7)) + pk_sum pk_m ((32, a, b) :: s) + 13; (try simp only [pk_sum]); omega
