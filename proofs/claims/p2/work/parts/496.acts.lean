/-! the reference's parser: GET -/
variable {Zz : Zc}
theorem fin1U {h H : ja_H} {R r ph q0 m c1 e1 tu1 : Int} {tf : mo_TF} {x : mo_A} {s s' : List mo_A} {ht st rg : Nat → Int} {tu : Int} (htu : tu1 = tu ∨ ph = 0) (g : mo_G Zz h) (hB : piB h R r ph tf q0 (x :: s) ht st rg tu) (hreg : x.1 ≤ 30 ∨ 38 ≤ x.1) (hS' : pk_S H (H 0 17).toNat s') (ag : mo_ag FE1 h H)
    (hw : (H 0 113) = (h 0 113) + 1) (hold : ∀ w : Nat, (w : Int) < (h 0 113) → (H 74) w = (h 74) w ∧ (H 75) w = (h 75) w ∧ (H 76) w = (h 76) w) (hU : (H 74) (h 0 113).toNat = 15 → ∀ w : Nat, (w : Int) < (h 0 113) → (h 74) w = 15 → (h 75) w ≠ (H 75) (h 0 113).toNat)
    (hx : ∀ w : Int, ¬ pj x w) (hsub : ∀ y ∈ s, y ∈ s') (hpp : ∀ p, pp_in s' p → pp_in (x :: s) p)
    (n1 : (H 0 18) = pk_sum pk_c s') (n2 : (h 0 113) + 1 + pk_sum pk_v s' < 5 * (H 0 7)) (n3 : (h 0 95) + pk_sum pk_d s' < (H 0 7)) (n4 : (h 0 7) ≤ (H 0 7)) (n5 : (H 0 84) = q0 + pk_sum pk_q s') (n6 : (H 0 87) = pk_sum pk_f s')
    (b : (ph = 1 ∨ (H 0 79) ≤ (H 0 77)) ∧ (ph = 1 ∨ (H 0 77) ≤ 10) ∧ (¬ pt_let s' → ph = 1 ∨ (H 0 77) ≤ 9)) (hif : pi_if s' ↔ pi_if (x :: s)) (hal : ((∀ y ∈ x :: s, y.1 ≤ 30 ∨ 37 ≤ y.1) → ∀ y ∈ s', y.1 ≤ 30 ∨ 37 ≤ y.1) ∧ ((∀ y ∈ x :: s, y.1 ≤ 12 ∨ 31 ≤ y.1) → ∀ y ∈ s', y.1 ≤ 12 ∨ 31 ≤ y.1))
    (new : pw H (mo_x ht (h 0 113) c1) (mo_x st (h 0 113) e1) (mo_x rg (h 0 113) (r + 8 * tu1)) ((h 0 113) + 1) s' (h 0 113).toNat)
    (hpt : pt (H 74) (mo_x ht (h 0 113) c1) (mo_x st (h 0 113) e1) (mo_x rg (h 0 113) (r + 8 * tu1)) ((h 0 113) + 1) (h 0 88) (H 0 77) r tf (pi_wn h r) s' (c1 - pi_adj H s') (h 0 109) e1 tu1) (top : pi_top H (mo_x ht (h 0 113) c1) s') (mu : pi_mu H s' < m) (agk : mo_ag FK h H) : pi_done h H R r ph tf q0 m := by
  have hr := reg_of hB (by omega) (by omega)
  obtain ⟨⟨o1, o2, o3, o4, o5, o6, o7, o8, o9⟩, ⟨ob, -, -, -⟩, oreg, -, ⟨oC, oU⟩, oN, oP, oT, -⟩ := hB
  have w0 : 0 ≤ (h 0 113) := (gF_words g).1
  have e2 : (H 0 88) = (h 0 88) := ag _ _ rfl
  have e3 : (H 0 109) = (h 0 109) := ag _ _ rfl
  have e4 : (H 0 95) = (h 0 95) := ag _ _ rfl
  have e5 : (H 0 68) = (h 0 68) := ag _ _ rfl
  have e6 : (H 0 72) = (h 0 72) := ag _ _ rfl
  have e7 : (H 0 74) = (h 0 74) := ag _ _ rfl
  have e8 : (H 0 86) = (h 0 86) := ag _ _ rfl
  have e9 : (H 0 11) = (h 0 11) := ag _ _ rfl
  have e10 : (H 0 76) = (h 0 76) := ag _ _ rfl
  have g6 : (H 45) = (h 45) := funext fun j => ag _ _ rfl
  have g7 : (H 44) = (h 44) := funext fun j => ag _ _ rfl
  have g8 : (H 46) = (h 46) := funext fun j => ag _ _ rfl
  have k4 : (H 52) = (h 52) := funext fun j => ag _ _ rfl
  have k5 : (H 55) = (h 55) := funext fun j => ag _ _ rfl
  have hwn : pi_wn H r = pi_wn h r := by
    funext a; unfold pi_wn; rw [e9, e10, e2, pw_wt_ag e5 g6 g7 g8, k4, k5, nf_keep e4 (funext fun j => ag _ _ rfl)]
  have ex : ∀ j : Nat, (j : Int) ≤ (h 0 113) → mo_x ht (h 0 113) c1 j = ht j ∧ mo_x st (h 0 113) e1 j = st j ∧ mo_x rg (h 0 113) (r + 8 * tu1) j = rg j := fun j hj => ⟨mo_xo w0 hj, mo_xo w0 hj, mo_xo w0 hj⟩
  refine ⟨⟨s', mo_x ht (h 0 113) c1, mo_x st (h 0 113) e1, mo_x rg (h 0 113) (r + 8 * tu1), tu1, ⟨hS', ⟨n1, by rw [hw]; exact n2, by rw [e4]; exact n3, by rw [e5]; omega, by rw [e6, e4]; exact o5, n5, n6, o8, o9⟩, ⟨e7.trans ob, b⟩, ?_, ?_, ⟨?_, ?_⟩, ?_, ?_, ?_, top⟩, mu⟩, agk⟩
  · rw [hw, e8, hif, mo_xn w0]
    rcases oreg with ⟨q1, q2, q3, q4, q5⟩ | ⟨q1, q2, q3, q4⟩
    · exact Or.inl ⟨q1, q2, q3, rfl, hal.1 q5⟩
    · exact Or.inr ⟨q1, ⟨q2.1, by omega⟩, hal.2 q3, Or.inl ⟨(hr.2.1 q1).1, (hr.2.1 q1).2, by omega⟩⟩
  · rw [hw, mo_xn w0, mo_xn w0, e2, e3, hwn]; exact hpt
  · rw [hw]
    exact pi_C_emit (pi_C_stack oC (fun w _ => hx w) hsub (fun w _ _ q z => q (hpp _ z))) w0 ex hold (ag_sub FE1_FCe ag) new
  · rw [hw]
    exact pi_U_emit w0 oU (fun w q => ⟨(hold w q).1, (hold w q).2.1⟩) hU
  · rw [hw]
    exact pi_N_ext (by omega) (fun j hj => ⟨(ex j (by omega)).1, (ex j (by omega)).2.2⟩) (ag_sub FE1_FN ag) oN
  · exact pi_P_ag (ag_sub FE1_FP ag) oP
  · exact pi_T_ag (ag_sub FE1_FT ag) oT

theorem ab_get {h : ja_H} {R r ph q0 : Int} {tf : mo_TF} {s : List mo_A} {ht st rg : Nat → Int} {tu a b : Int} (g : mo_G Zz h) (hS : pk_S h (h 0 17).toNat s) (hB : piB h R r ph tf q0 ((38, a, b) :: s) ht st rg tu) {p : Int} (hp : 0 ≤ p ∧ p < (h 0 88)) (hk : (h 52) p.toNat = 3 ∧ (h 55) p.toNat = 0) (hne : ∀ w : Nat, (w : Int) < (h 0 113) → (h 74) w = 15 → (h 75) w ≠ p) (hns : ¬ pp_in s p) (hr3 : r ≤ 3) (hlen : (s.length : Int) ≤ 6 * pk_sum pk_c s + 2) : pi_done h (mo_L (mo_E (ja_up (ja_up (mo_tk (h)) 0 19 (2)) 0 20 (p)) 15 p 0) 7 0 0 0) R r ph tf q0 (pi_mu h ((38, a, b) :: s)) := by
  have hN := piB_num g hS hB
  obtain ⟨N1, N2, N3, N4, N5, N6, N7, N8, N9, N10, N11, N12, N13, ⟨NK1, NK2⟩, ND1, ND2, ND3, NU1, NU2⟩ := hN
  obtain ⟨⟨n1, n2, n3, n4, n5, n6, n7, n8, n9⟩, ⟨b1, b2, b3, b4⟩, reg, hpt, ⟨hC, hU⟩, hNo, hP, hT, top⟩ := id hB
  obtain ⟨⟨⟨p1, p1'⟩, p1u⟩, ⟨p2, p2'⟩, p3, p4⟩ := hpt
  have w0 := (gF_wTop g).1
  simp only [pk_sum] at n1 n2 n3 n6 n7
  dsimp only at p2 p2' N6
  have ec7 : pk_c 7 = 0 := rfl
  have ev7 : pk_v 7 = 0 := rfl
  have ed7 : pk_d 7 = 0 := rfl
  have eq7 : pk_q 7 = 0 := rfl
  have ef7 : pk_f 7 = 0 := rfl
  have em7 : pk_m 7 = 1 := rfl
  have eoff7 : pk_off 7 = 2 := rfl
  have ek7 : pk_k r 7 = 0 := rfl
  have ec38 : pk_c 38 = 0 := rfl
  have ev38 : pk_v 38 = 0 := rfl
  have ed38 : pk_d 38 = 0 := rfl
  have eq38 : pk_q 38 = 0 := rfl
  have ef38 : pk_f 38 = 0 := rfl
  have em38 : pk_m 38 = 1 := rfl
  have eoff38 : pk_off 38 = 3 := rfl
  have ek38 : pk_k r 38 = 0 := rfl
  replace p3 : pt_ok (h 74) ht st rg (h 0 113) (h 0 88) (h 0 77) r (pi_wn h r) (38, a, b) s (ht (h 0 113).toNat - 0) (h 0 109) (st (h 0 113).toNat) tu := p3
  unfold pt_ok at p3; dsimp only at p3
  replace p4 : pt (h 74) ht st rg (h 0 113) (h 0 88) (h 0 77) r tf (pi_wn h r) s ((ht (h 0 113).toNat - 0)) ((h 0 109)) (st (h 0 113).toNat) (tu) := p4
  obtain ⟨-, xc, xt, ⟨xe, xu1, xu2⟩, -, -, -, -, -, -, xo7, -, -, -, -, -, -, -, -, -, -, -, -, -, -, -, -, -, -, -, -, -⟩ := p3
  replace xo7 := xo7 (by omega)
  have hr := reg_of hB (by dsimp only; omega) (by dsimp only; omega)
  have hbo := gF_body g
  have w0 := (gF_wTop g).1
  have W0 : 0 ≤ (h 0 113) := (gF_words g).1
  have hr4 : 0 ≤ r ∧ r ≤ 4 ∧ (r = 4 → tu = 0) := by
    rcases reg with ⟨q1, q2, -⟩ | ⟨q1, q2, q3, -⟩
    · omega
    · omega
  have ho : (mo_L (mo_E (ja_up (ja_up (mo_tk (h)) 0 19 (2)) 0 20 (p)) 15 p 0) 7 0 0 0) 74 (h 0 113).toNat = 15 := by simp [mo_L, mo_E, mo_tk, ja_up]
  have hA : (mo_L (mo_E (ja_up (ja_up (mo_tk (h)) 0 19 (2)) 0 20 (p)) 15 p 0) 7 0 0 0) 75 (h 0 113).toNat = p := by simp [mo_L, mo_E, mo_tk, ja_up]
  have hBB : (mo_L (mo_E (ja_up (ja_up (mo_tk (h)) 0 19 (2)) 0 20 (p)) 15 p 0) 7 0 0 0) 76 (h 0 113).toNat = 0 := by simp [mo_L, mo_E, mo_tk, ja_up]
  have hold : ∀ w : Nat, (w : Int) < (h 0 113) → (mo_L (mo_E (ja_up (ja_up (mo_tk (h)) 0 19 (2)) 0 20 (p)) 15 p 0) 7 0 0 0) 74 w = (h 74) w ∧ (mo_L (mo_E (ja_up (ja_up (mo_tk (h)) 0 19 (2)) 0 20 (p)) 15 p 0) 7 0 0 0) 75 w = (h 75) w ∧ (mo_L (mo_E (ja_up (ja_up (mo_tk (h)) 0 19 (2)) 0 20 (p)) 15 p 0) 7 0 0 0) 76 w = (h 76) w := by
    intro w hw; refine ⟨?_, ?_, ?_⟩ <;> simp [mo_L, mo_E, mo_tk, ja_up] <;> (intros; omega)
  have hext : ∀ j : Nat, (j : Int) ≤ (h 0 113) → ((j : Int) < (h 0 113) → (mo_L (mo_E (ja_up (ja_up (mo_tk (h)) 0 19 (2)) 0 20 (p)) 15 p 0) 7 0 0 0) 74 j = (h 74) j) ∧ mo_x ht (h 0 113) ((ht (h 0 113).toNat)) j = ht j ∧ mo_x st (h 0 113) ((st (h 0 113).toNat)) j = st j ∧ mo_x rg (h 0 113) (r + 8 * tu) j = rg j := fun j hj => ⟨fun q => (hold j q).1, mo_xo W0 (by omega), mo_xo W0 (by omega), mo_xo W0 (by omega)⟩
  have hpop : pw_pop (mo_L (mo_E (ja_up (ja_up (mo_tk (h)) 0 19 (2)) 0 20 (p)) 15 p 0) 7 0 0 0) p = 1 := by
    show (h 55) p.toNat + (if (h 52) p.toNat = 0 ∨ (h 52) p.toNat = 3 ∨ (h 52) p.toNat = 4 then 1 else if (h 52) p.toNat = 1 then 1000 else 0) = 1
    rw [hk.1, hk.2]; rfl
  have hns2 : ¬ pp_in ((7, 0, 0) :: s) p := fun z => by
    rcases pp_cons.mp z with z | z
    · simp [pp] at z
    · exact hns z
  refine fin1U (c1 := (ht (h 0 113).toNat)) (e1 := (st (h 0 113).toNat)) (tu1 := tu) (Or.inl rfl) g hB (by dsimp only; omega) (pk_S_L (show 0 ≤ (h 0 17) by omega) (pk_S_E (pk_S_ag (ag_up rfl ag_refl) (pk_S_ag (ag_up rfl ag_refl) (pk_S_ag (ag_up rfl ag_refl) hS))))) (by (try unfold mo_L); (try unfold mo_E); (try unfold mo_tk); (repeat (refine ag_up rfl ?_)); exact ag_refl) rfl hold (fun _ w hw z => by rw [hA]; exact hne w hw z) (idle_of (show (38 : Int) ≠ 4 ∧ (38 : Int) ≠ 21 ∧ (38 : Int) ≠ 22 ∧ (38 : Int) ≠ 28 ∧ (38 : Int) ≠ 24 by decide)) (fun _ q => List.mem_cons_of_mem _ (q)) (fun p q => by simp only [pp_cons] at q ⊢; rcases q with q | q <;> first | (exact Or.inr q) | (exfalso; simp [pp] at q)) ?_ ?_ ?_ ?_ ?_ ?_ ⟨?_, ?_, ?_⟩ (by simp only [pi_if, List.mem_cons, exists_eq_or_imp]; simp) ⟨(fun q y hy => by (try simp only [List.mem_cons] at hy); (rcases hy with rfl | hy) <;> first | (exact q _ (List.mem_cons_of_mem _ hy)) | (have := q _ List.mem_cons_self; dsimp only at this ⊢; omega)), (fun q y hy => by (try simp only [List.mem_cons] at hy); (rcases hy with rfl | hy) <;> first | (exact q _ (List.mem_cons_of_mem _ hy)) | (have := q _ List.mem_cons_self; dsimp only at this ⊢; omega))⟩ ?_ ?_ ⟨fun _ => ⟨fun e => absurd e (show ¬ (2 : Int) = 1 by decide), fun _ => ⟨by show 1 ≤ (h 0 113) + 1; omega, by show (mo_L (mo_E (ja_up (ja_up (mo_tk (h)) 0 19 (2)) 0 20 (p)) 15 p 0) 7 0 0 0) 74 ((h 0 113) + 1 - 1).toNat = 15; rw [(show (h 0 113) + 1 - 1 = (h 0 113) by omega)]; exact ho, by show (mo_L (mo_E (ja_up (ja_up (mo_tk (h)) 0 19 (2)) 0 20 (p)) 15 p 0) 7 0 0 0) 75 ((h 0 113) + 1 - 1).toNat = p; rw [(show (h 0 113) + 1 - 1 = (h 0 113) by omega)]; exact hA, hk.1, hk.2⟩, fun _ w hw hj => by have q := form_new (s' := (7, 0, 0) :: s) hC (idle_of (show (38 : Int) ≠ 4 ∧ (38 : Int) ≠ 21 ∧ (38 : Int) ≠ 22 ∧ (38 : Int) ≠ 28 ∧ (38 : Int) ≠ 24 by decide)) (fun _ q => List.mem_cons_of_mem _ q) hold (by rw [ho]; unfold pw_jmp; decide) w hw hj; rcases q with q | q; exact Or.inl q; exact Or.inr (show _ ≤ (h 0 113) + 1 - 1 by omega)⟩, fun e => absurd e (by dsimp only; omega), fun e => absurd e (by dsimp only; omega), fun e => absurd e (by dsimp only; omega)⟩ ?_ (by (try unfold mo_L); (try unfold mo_E); (try unfold mo_tk); (repeat (refine ag_up rfl ?_)); exact ag_refl)
  · show (h 0 18) = _; (try simp only [pk_sum]); omega
  · show (h 0 113) + 1 + _ < 5 * ((h 0 7) + 1); (try simp only [pk_sum]); omega
  · show (h 0 95) + _ < (h 0 7) + 1; (try simp only [pk_sum]); omega
  · show (h 0 7) ≤ (h 0 7) + 1; omega
  · show (h 0 84) = _; (try simp only [pk_sum]); omega
  · show (h 0 87) = _; (try simp only [pk_sum]); omega
  · show ph = 1 ∨ (h 0 79) ≤ (h 0 77); omega
  · show ph = 1 ∨ (h 0 77) ≤ 10; omega
  · intro q; show ph = 1 ∨ (h 0 77) ≤ 9; refine b4 (fun z => q ?_); intro y hy; simp only [List.mem_cons] at hy; rcases hy with rfl | hy
    · show (7 : Int) ≠ 17; decide
    · exact z y (List.mem_cons_of_mem _ hy)
  · exact pw_point hr.1 ⟨by omega, hr3⟩ ⟨NU1, NU2⟩ ho hA hp hns2 ⟨by omega, by omega⟩ xe (by rw [hpop]; omega) (by rw [hpop]; omega)
  · exact ⟨⟨⟨by (try simp only [pk_sum]); omega, by (try simp only [pk_sum]); omega⟩, (fun p q => absurd q (by simp [pp]))⟩, ⟨by (try simp only [pk_sum, List.length_cons]); (try dsimp only); omega, (by intro y z e; have q := p2' y z e; dsimp only at q ⊢; omega)⟩, (show pt_ok ((mo_L (mo_E (ja_up (ja_up (mo_tk (h)) 0 19 (2)) 0 20 (p)) 15 p 0) 7 0 0 0) 74) (mo_x ht (h 0 113) ((ht (h 0 113).toNat))) (mo_x st (h 0 113) ((st (h 0 113).toNat))) (mo_x rg (h 0 113) (r + 8 * tu)) ((h 0 113) + 1) (h 0 88) ((h 0 77)) r (pi_wn h r) (7, 0, 0) (s) ((ht (h 0 113).toNat) - 0) ((h 0 109)) ((st (h 0 113).toNat)) (tu) from by unfold pt_ok; (try dsimp only); (try simp only [pk_sum]); exact ⟨⟨by omega, by omega, by omega, by omega⟩, by omega, by omega, ⟨by first | omega | simp, by omega, by omega⟩, fun z => absurd z (by omega), fun z => absurd z (by omega), fun z => absurd z (by omega), fun z => absurd z (by omega), fun z => absurd z (by omega), fun z => absurd z (by omega), fun _ => by first | omega | trivial | (simp only [true_and, and_true]; omega), fun z => absurd z (by omega), fun z => absurd z (by omega), fun z => absurd z (by omega), fun z => absurd z (by omega), fun z => absurd z (by omega), fun z => absurd z (by omega), fun z => absurd z (by omega), fun z => absurd z (by omega), fun z => absurd z (by omega), fun z => absurd z (by omega), fun z => absurd z (by omega), fun z => absurd z (by omega), fun z => absurd z (by omega), fun z => absurd z (by omega), fun z => absurd z (by omega), fun z => absurd z (by omega), fun z => absurd z (by omega), fun z => absurd z (by omega), fun z => absurd z (by omega), fun z => absurd z (by omega), fun z => absurd z (by omega)⟩), (pt_eq (show _ = (ht (h 0 113).toNat) - 0 by omega) (show _ = (h 0 109) by omega) (show _ = (st (h 0 113).toNat) by omega) (pt_ext (show (h 0 113) ≤ (h 0 113) + 1 by omega) (Int.le_refl _) (show (h 0 77) ≤ (h 0 77) by omega) (fun _ q => q) hext p4))⟩
  · show 40 * (900 - ((h 0 7) + 1)) + pk_sum pk_m ((7, 0, 0) :: s) + 13 < 40 * (900 - (h 0 7)) + pk_sum pk_m ((38, a, b) :: s) + 13; (try simp only [pk_sum]); omega

theorem kind_19 {h : ja_H} {R r ph q0 a b : Int} {tf : mo_TF} {s : List mo_A} {ht st rg : Nat → Int} {tu : Int} (q : piB h R r ph tf q0 ((19, a, b) :: s) ht st rg tu) : a = 0 ∨ a = 1 ∨ a = 2 := by
  obtain ⟨-, -, -, hpt, -⟩ := q
  obtain ⟨-, -, q3, -⟩ := hpt
  obtain ⟨-, -, -, -, -, -, -, -, -, -, -, -, -, -, -, -, -, -, -, -, i19, -⟩ := q3
  rcases (i19 rfl).2.2 with z | z | z
  · exact Or.inr (Or.inr z.1)
  · exact Or.inr (Or.inl z.1)
  · exact Or.inl z.1