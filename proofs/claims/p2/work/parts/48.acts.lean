/-! the reference's parser: POINTS that are written, in general -/
variable {Zz : Zc}
theorem piB1 {h H : ja_H} {R r ph q0 c1 e1 tu1 : Int} {tf : mo_TF} {x : mo_A} {s s' : List mo_A} {ht st rg : Nat → Int} {tu : Int} (htu : tu1 = tu ∨ ph = 0) (g : mo_G Zz h) (hB : piB h R r ph tf q0 (x :: s) ht st rg tu) (hreg : x.1 ≤ 30 ∨ 38 ≤ x.1) (ag : mo_ag FE1 h H)
    (hw : (H 0 113) = (h 0 113) + 1) (hold : ∀ w : Nat, (w : Int) < (h 0 113) → (H 74) w = (h 74) w ∧ (H 75) w = (h 75) w ∧ (H 76) w = (h 76) w) (hU : (H 74) (h 0 113).toNat = 15 → ∀ w : Nat, (w : Int) < (h 0 113) → (h 74) w = 15 → (h 75) w ≠ (H 75) (h 0 113).toNat)
    (hx : ∀ w : Int, ¬ pj x w) (hsub : ∀ y ∈ s, y ∈ s') (hpp : ∀ p, pp_in s' p → pp_in (x :: s) p)
    (n1 : (H 0 18) = pk_sum pk_c s') (n2 : (h 0 113) + 1 + pk_sum pk_v s' < 5 * (H 0 7)) (n3 : (h 0 95) + pk_sum pk_d s' < (H 0 7)) (n4 : (h 0 7) ≤ (H 0 7)) (n5 : (H 0 84) = q0 + pk_sum pk_q s') (n6 : (H 0 87) = pk_sum pk_f s')
    (b : (ph = 1 ∨ (H 0 79) ≤ (H 0 77)) ∧ (ph = 1 ∨ (H 0 77) ≤ 10) ∧ (¬ pt_let s' → ph = 1 ∨ (H 0 77) ≤ 9)) (hif : pi_if s' ↔ pi_if (x :: s)) (hal : ((∀ y ∈ x :: s, y.1 ≤ 30 ∨ 37 ≤ y.1) → ∀ y ∈ s', y.1 ≤ 30 ∨ 37 ≤ y.1) ∧ ((∀ y ∈ x :: s, y.1 ≤ 12 ∨ 31 ≤ y.1) → ∀ y ∈ s', y.1 ≤ 12 ∨ 31 ≤ y.1))
    (new : pw H (mo_x ht (h 0 113) c1) (mo_x st (h 0 113) e1) (mo_x rg (h 0 113) (r + 8 * tu1)) ((h 0 113) + 1) s' (h 0 113).toNat)
    (hpt : pt (H 74) (mo_x ht (h 0 113) c1) (mo_x st (h 0 113) e1) (mo_x rg (h 0 113) (r + 8 * tu1)) ((h 0 113) + 1) (h 0 88) (H 0 77) r tf (pi_wn h r) s' (c1 - pi_adj H s') (h 0 109) e1 tu1) (top : pi_top H (mo_x ht (h 0 113) c1) s') : piB H R r ph tf q0 s' (mo_x ht (h 0 113) c1) (mo_x st (h 0 113) e1) (mo_x rg (h 0 113) (r + 8 * tu1)) tu1 := by
  have hr := reg_of hB (by omega) (by omega)
  obtain ⟨⟨o1, o2, o3, o4, o5, o6, o7, o8, o9⟩, ⟨ob, -, -, -⟩, oreg, -, ⟨oC, oU⟩, oN, oP, oT, -⟩ := hB
  have w0 : 0 ≤ (h 0 113) := (gF_words g).1
  have e2 : (H 0 88) = (h 0 88) := ag _ _ rfl
  have e3 : (H 0 109) = (h 0 109) := ag _ _ rfl
  have e4 : (H 0 95) = (h 0 95) := ag _ _ rfl
  have e5 : (H 0 68) = (h 0 68) := ag _ _ rfl
  have e6 : (H 0 72) = (h 0 72) := ag _ _ rfl
  have e7 : (H 0 74) = (h 0 74) := ag _ _ rfl
  have e8 : (H 0 86) = (h 0 86) := ag _ _ rfl
  have e9 : (H 0 11) = (h 0 11) := ag _ _ rfl
  have e10 : (H 0 76) = (h 0 76) := ag _ _ rfl
  have g6 : (H 45) = (h 45) := funext fun j => ag _ _ rfl
  have g7 : (H 44) = (h 44) := funext fun j => ag _ _ rfl
  have g8 : (H 46) = (h 46) := funext fun j => ag _ _ rfl
  have k4 : (H 52) = (h 52) := funext fun j => ag _ _ rfl
  have k5 : (H 55) = (h 55) := funext fun j => ag _ _ rfl
  have hwn : pi_wn H r = pi_wn h r := by
    funext a; unfold pi_wn; rw [e9, e10, e2, pw_wt_ag e5 g6 g7 g8, k4, k5, nf_keep e4 (funext fun j => ag _ _ rfl)]
  have ex : ∀ j : Nat, (j : Int) ≤ (h 0 113) → mo_x ht (h 0 113) c1 j = ht j ∧ mo_x st (h 0 113) e1 j = st j ∧ mo_x rg (h 0 113) (r + 8 * tu1) j = rg j := fun j hj => ⟨mo_xo w0 hj, mo_xo w0 hj, mo_xo w0 hj⟩
  refine ⟨⟨n1, by rw [hw]; exact n2, by rw [e4]; exact n3, by rw [e5]; omega, by rw [e6, e4]; exact o5, n5, n6, o8, o9⟩, ⟨e7.trans ob, b⟩, ?_, ?_, ⟨?_, ?_⟩, ?_, ?_, ?_, top⟩
  · rw [hw, e8, hif, mo_xn w0]
    rcases oreg with ⟨q1, q2, q3, q4, q5⟩ | ⟨q1, q2, q3, q4⟩
    · exact Or.inl ⟨q1, q2, q3, rfl, hal.1 q5⟩
    · exact Or.inr ⟨q1, ⟨q2.1, by omega⟩, hal.2 q3, Or.inl ⟨(hr.2.1 q1).1, (hr.2.1 q1).2, by omega⟩⟩
  · rw [hw, mo_xn w0, mo_xn w0, e2, e3, hwn]; exact hpt
  · rw [hw]
    exact pi_C_emit (pi_C_stack oC (fun w _ => hx w) hsub (fun w _ _ q z => q (hpp _ z))) w0 ex hold (ag_sub FE1_FCe ag) new
  · rw [hw]
    exact pi_U_emit w0 oU (fun w q => ⟨(hold w q).1, (hold w q).2.1⟩) hU
  · rw [hw]
    exact pi_N_ext (by omega) (fun j hj => ⟨(ex j (by omega)).1, (ex j (by omega)).2.2⟩) (ag_sub FE1_FN ag) oN
  · exact pi_P_ag (ag_sub FE1_FP ag) oP
  · exact pi_T_ag (ag_sub FE1_FT ag) oT

theorem pw_point {h H : ja_H} {ht st rg : Nat → Int} {c1 r p tu : Int} {s' : List mo_A} (hhr : rg (h 0 113).toNat = r + 8 * tu) (r0 : 0 ≤ r ∧ r ≤ 3) (t0 : 0 ≤ tu ∧ tu ≤ 16) (ho : (H 74) (h 0 113).toNat = 15) (hA : (H 75) (h 0 113).toNat = p) (hp : 0 ≤ p ∧ p < (H 0 88)) (hns : ¬ pp_in s' p) (h0 : 0 ≤ ht (h 0 113).toNat ∧ ht (h 0 113).toNat ≤ 119) (hst : st (h 0 113).toNat = 0 ∨ st (h 0 113).toNat = 1) (hq : pw_pop H p ≤ ht (h 0 113).toNat) (hc : c1 = ht (h 0 113).toNat + 1 - pw_pop H p) :
    pw H (mo_x ht (h 0 113) c1) (mo_x st (h 0 113) (st (h 0 113).toNat)) (mo_x rg (h 0 113) (r + 8 * tu)) ((h 0 113) + 1) s' (h 0 113).toNat := by
  unfold pw
  rw [ho, hA, mo_xw, mo_xw, mo_xw, mo_xn', mo_xn', mo_xn']
  have m1 : pw_need 15 p (pw_pop H p) = pw_pop H p := rfl
  have m2 : pw_eff 15 p (pw_pop H p) = 1 - pw_pop H p := rfl
  rw [m1, m2]
  refine ⟨⟨by decide, by decide⟩, h0, ⟨by omega, by omega, by omega⟩, hst, hq, fun z => absurd z (by decide), fun _ => ⟨by omega, (show r + 8 * tu = rg (h 0 113).toNat + 8 * 0 by omega), hst, fun _ => Int.le_refl _⟩, fun z => absurd z (by decide), fun z => absurd z (by decide), fun z => absurd z (by unfold pw_jmp; decide), fun z => absurd z (by decide), fun _ => ⟨hp.1, hp.2, hns⟩, fun z => absurd z (by decide), fun z => absurd z (by decide), fun z => absurd z (by decide), fun z => by exfalso; omega⟩
theorem mo_E_G {h : ja_H} {a b c : Int} (g : mo_G Zz h) (ha : 0 ≤ a ∧ a ≤ 26) (hb : -2147483648 ≤ b ∧ b ≤ 2147483647) (hc : -2147483648 ≤ c ∧ c ≤ 2147483647) (hw : (h 0 113) < 5000) : mo_G Zz (mo_E h a b c) := by
  have w0 := (gF_words g).1
  exact gP_words (gW_opB (gW_opA (gW_op g _ (x := a) ha) _ (x := b) hb) _ (x := c) hc) (x := (h 0 113) + 1) (by omega)
theorem ab_as2 {h : ja_H} {R r ph q0 b : Int} {tf : mo_TF} {s : List mo_A} {ht st rg : Nat → Int} {tu : Int} (g : mo_G Zz h) (hS : pk_S h (h 0 17).toNat s) (hB : piB h R r ph tf q0 ((19, 2, b) :: s) ht st rg tu) : pi_done h (mo_E (mo_E h 15 b 0) 17 0 0) R r ph tf q0 (pi_mu h ((19, 2, b) :: s)) := by
  have hN := piB_num g hS hB
  obtain ⟨N1, N2, N3, N4, N5, N6, N7, N8, N9, N10, N11, N12, N13, ⟨NK1, NK2⟩, ND1, ND2, ND3, NU1, NU2⟩ := hN
  have hr := reg_of hB (by dsimp only; omega) (by dsimp only; omega)
  obtain ⟨⟨n1, n2, n3, n4, n5, n6, n7, n8, n9⟩, ⟨b1, b2, b3, b4⟩, reg, hpt, ⟨hC, hU⟩, hNo, hP, hT, top⟩ := id hB
  obtain ⟨⟨⟨p1, p1'⟩, p1u⟩, ⟨p2, p2'⟩, p3, p4⟩ := hpt
  simp only [pk_sum] at n1 n2 n3 n6 n7
  dsimp only at p2 p2' N6
  have W0 : 0 ≤ (h 0 113) := (gF_words g).1
  have hbo := gF_body g
  have gp := gF_points g
  replace p3 : pt_ok (h 74) ht st rg (h 0 113) (h 0 88) (h 0 77) r (pi_wn h r) (19, 2, b) s (ht (h 0 113).toNat - 0) (h 0 109) (st (h 0 113).toNat) tu := p3
  replace p4 : pt (h 74) ht st rg (h 0 113) (h 0 88) (h 0 77) r tf (pi_wn h r) s 0 (h 0 109) 0 tu := p4
  unfold pt_ok at p3
  obtain ⟨-, c0, t0, ⟨e0, xu1, xu2⟩, -, -, -, -, -, -, -, -, -, -, -, -, -, -, -, -, i19, -⟩ := p3
  have j19 := i19 rfl
  obtain ⟨q1, q2, q3⟩ := j19
  have h19 : ht (h 0 113).toNat = 2 ∧ 0 ≤ b ∧ b < (h 0 88) ∧ pi_wn h r (3000000 + b) := by
    rcases q3 with ⟨-, z1, z2, z3, z4⟩ | ⟨z, -⟩ | ⟨z, -⟩
    · exact ⟨by omega, z2, z3, z4⟩
    · exact absurd z (show ¬ (2 : Int) = 1 by decide)
    · exact absurd z (show ¬ (2 : Int) = 0 by decide)
  obtain ⟨k1, k2, k3, k4⟩ := h19
  have k5 := (k4.2.2.2.2 (by omega)).2
  rw [show (3000000 + b - 3000000 : Int) = b by omega] at k5
  have hr3 : 0 ≤ r ∧ r ≤ 3 := by
    rcases reg with ⟨y1, y2, -⟩ | ⟨y1, y2, y3, -⟩
    · omega
    · have := y3 _ List.mem_cons_self; dsimp only at this; omega
  have hpop : pw_pop (mo_E h 15 b 0) b = 2 := by
    show (h 55) b.toNat + (if (h 52) b.toNat = 0 ∨ (h 52) b.toNat = 3 ∨ (h 52) b.toNat = 4 then 1 else if (h 52) b.toNat = 1 then 1000 else 0) = 2
    rw [k5.1, k5.2]; rfl
  have hpx : pp (19, 2, b) b := Or.inr ⟨rfl, rfl, rfl⟩
  have hns := p1u b hpx
  have hns2 : ¬ pp_in ((25, 0, 0) :: s) b := fun z => by
    rcases pp_cons.mp z with z | z
    · simp [pp] at z
    · exact hns z
  have ho : (mo_E h 15 b 0) 74 (h 0 113).toNat = 15 := by simp [mo_E, ja_up]
  have hA : (mo_E h 15 b 0) 75 (h 0 113).toNat = b := by simp [mo_E, ja_up]
  have hold : ∀ w : Nat, (w : Int) < (h 0 113) → (mo_E h 15 b 0) 74 w = (h 74) w ∧ (mo_E h 15 b 0) 75 w = (h 75) w ∧ (mo_E h 15 b 0) 76 w = (h 76) w := by
    intro w hw; refine ⟨?_, ?_, ?_⟩ <;> simp [mo_E, ja_up] <;> (intros; omega)
  have hext : ∀ j : Nat, (j : Int) ≤ (h 0 113) → ((j : Int) < (h 0 113) → (mo_E h 15 b 0) 74 j = (h 74) j) ∧ mo_x ht (h 0 113) 1 j = ht j ∧ mo_x st (h 0 113) (st (h 0 113).toNat) j = st j ∧ mo_x rg (h 0 113) (r + 8 * tu) j = rg j := fun j hj => ⟨fun q => (hold j q).1, mo_xo W0 (by omega), mo_xo W0 (by omega), mo_xo W0 (by omega)⟩
  have ec19 : pk_c 19 = 0 := rfl
  have ev19 : pk_v 19 = 2 := rfl
  have ed19 : pk_d 19 = 0 := rfl
  have eq19 : pk_q 19 = 0 := rfl
  have ef19 : pk_f 19 = 0 := rfl
  have em19 : pk_m 19 = 1 := rfl
  have eoff19 : pk_off 19 = 1 := rfl
  have ek19 : pk_k r 19 = 0 := rfl
  have ec25 : pk_c 25 = 0 := rfl
  have ev25 : pk_v 25 = 1 := rfl
  have ed25 : pk_d 25 = 0 := rfl
  have eq25 : pk_q 25 = 0 := rfl
  have ef25 : pk_f 25 = 0 := rfl
  have em25 : pk_m 25 = 1 := rfl
  have eoff25 : pk_off 25 = 1 := rfl
  have ek25 : pk_k r 25 = 0 := rfl
  have hB1 : piB (mo_E h 15 b 0) R r ph tf q0 ((25, 0, 0) :: s) (mo_x ht (h 0 113) 1) (mo_x st (h 0 113) (st (h 0 113).toNat)) (mo_x rg (h 0 113) (r + 8 * tu)) tu := by
    refine piB1 (Or.inl rfl) g hB (by dsimp only; omega) (by unfold mo_E; (repeat (refine ag_up rfl ?_)); exact ag_refl) rfl hold (fun _ w hw z e => ?_) (idle_of (show (19 : Int) ≠ 4 ∧ (19 : Int) ≠ 21 ∧ (19 : Int) ≠ 22 ∧ (19 : Int) ≠ 28 ∧ (19 : Int) ≠ 24 by decide)) (fun _ q => List.mem_cons_of_mem _ q) (fun p q => ?_) ?_ ?_ ?_ (Int.le_refl _) ?_ ?_ ⟨b2, b3, fun q => ?_⟩ (by simp only [pi_if, List.mem_cons, exists_eq_or_imp]; simp) ⟨(fun q y hy => by (try simp only [List.mem_cons] at hy); (rcases hy with rfl | hy) <;> first | (exact q _ (List.mem_cons_of_mem _ hy)) | (have := q _ List.mem_cons_self; dsimp only at this ⊢; omega)), (fun q y hy => by (try simp only [List.mem_cons] at hy); (rcases hy with rfl | hy) <;> first | (exact q _ (List.mem_cons_of_mem _ hy)) | (have := q _ List.mem_cons_self; dsimp only at this ⊢; omega))⟩ (pw_point hr.1 hr3 ⟨NU1, NU2⟩ ho hA ⟨k2, k3⟩ hns2 ⟨by omega, by omega⟩ e0 (by rw [hpop]; omega) (by rw [hpop]; omega)) ?_ ⟨fun e => absurd e (by dsimp only; omega), fun e => absurd e (by dsimp only; omega), fun e => absurd e (by dsimp only; omega), fun e => absurd e (by dsimp only; omega)⟩
    · rw [hA] at e
      obtain ⟨-, -, -, -, -, -, -, -, -, -, -, c12, -⟩ := hC w hw
      exact (c12 z).2.2 (pp_cons.mpr (Or.inl (by rw [e]; exact hpx)))
    · rcases pp_cons.mp q with q | q
      · simp [pp] at q
      · exact pp_cons.mpr (Or.inr q)
    · show (h 0 18) = _; simp only [pk_sum]; omega
    · show (h 0 113) + 1 + _ < 5 * (h 0 7); simp only [pk_sum]; omega
    · show (h 0 95) + _ < (h 0 7); simp only [pk_sum]; omega
    · show (h 0 84) = _; simp only [pk_sum]; omega
    · show (h 0 87) = _; simp only [pk_sum]; omega
    · refine b4 (fun z => q ?_)
      intro y hy
      rcases List.mem_cons.mp hy with rfl | hy
      · show (25 : Int) ≠ 17; decide
      · exact z y (List.mem_cons_of_mem _ hy)
    · exact ⟨⟨⟨by (try simp only [pk_sum]); omega, by (try simp only [pk_sum]); omega⟩, (fun p q => absurd q (by simp [pp]))⟩, ⟨by (try simp only [pk_sum, List.length_cons]); (try dsimp only); omega, (by intro y z e; have q := p2' y z e; dsimp only at q ⊢; omega)⟩, (show pt_ok ((mo_E h 15 b 0) 74) (mo_x ht (h 0 113) 1) (mo_x st (h 0 113) (st (h 0 113).toNat)) (mo_x rg (h 0 113) (r + 8 * tu)) ((h 0 113) + 1) (h 0 88) (h 0 77) r (pi_wn h r) (25, 0, 0) (s) (1 - 0) ((h 0 109)) (st (h 0 113).toNat) (tu) from by unfold pt_ok; (try dsimp only); (try simp only [pk_sum]); exact ⟨⟨by omega, by omega, by omega, by omega⟩, by omega, by omega, ⟨by first | omega | simp, by omega, by omega⟩, fun z => absurd z (by omega), fun z => absurd z (by omega), fun z => absurd z (by omega), fun z => absurd z (by omega), fun z => absurd z (by omega), fun z => absurd z (by omega), fun z => absurd z (by omega), fun z => absurd z (by omega), fun z => absurd z (by omega), fun z => absurd z (by omega), fun z => absurd z (by omega), fun z => absurd z (by omega), fun z => absurd z (by omega), fun z => absurd z (by omega), fun _ => ⟨by first | trivial | omega, q1, q2⟩, fun z => absurd z (by omega), fun z => absurd z (by omega), fun z => absurd z (by omega), fun z => absurd z (by omega), fun z => absurd z (by omega), fun z => absurd z (by omega), fun z => absurd z (by omega), fun z => absurd z (by omega), fun z => absurd z (by omega), fun z => absurd z (by omega), fun z => absurd z (by omega), fun z => absurd z (by omega), fun z => absurd z (by omega)⟩), (pt_eq (show _ = 0 by omega) (show _ = (h 0 109) by omega) (show _ = 0 by omega) (pt_ext (show (h 0 113) ≤ (h 0 113) + 1 by omega) (Int.le_refl _) (show (h 0 77) ≤ (h 0 77) by omega) (fun _ q => q) hext p4))⟩
  have hS1 : pk_S (mo_E h 15 b 0) ((mo_E h 15 b 0) 0 17).toNat s := pk_S_E hS
  have g1 := mo_E_G (a := 15) (b := b) (c := 0) g (by decide) (by omega) (by decide) (by omega)
  exact pi_done_of (by unfold mo_E; (repeat (refine ag_up rfl ?_)); exact ag_refl) (ab_pop25 (a := 0) (b := 0) g1 hS1 hB1)
