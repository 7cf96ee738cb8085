/-! the reference's parser: several words in one act -/
variable {Zz : Zc}
theorem piB_numv {h : ja_H} {R r ph q0 : Int} {tf : mo_TF} {x : mo_A} {s : List mo_A} {ht st rg : Nat → Int} {tu : Int} (g : mo_G Zz h) (q : piB h R r ph tf q0 (x :: s) ht st rg tu) :
    (h 0 113) ≤ 4504 ∧ (h 0 95) < 900 ∧ (h 0 68) < 900 ∧ 0 ≤ pk_sum pk_c s ∧ pk_c x.1 + pk_sum pk_c s ≤ 16 ∧ 0 ≤ pk_sum pk_v s ∧ 0 ≤ pk_sum pk_m s ∧ 0 ≤ pk_sum pk_d s ∧ 0 ≤ (h 0 109) ∧ (1 ≤ (h 0 7)) ∧ (0 ≤ pk_sum pk_q s ∧ pk_sum pk_q s ≤ 110) ∧ (0 ≤ pk_sum pk_f s ∧ pk_sum pk_f s ≤ 110) ∧ ((0 ≤ pk_sum (pk_k r) s ∧ pk_sum (pk_k r) s ≤ 7 * pk_sum pk_c s) ∧ (r = 4 → pk_sum (pk_k r) s = 2 * pk_sum pk_c s)) ∧ (2 ≤ pk_D r ∧ pk_D r ≤ 7) ∧ (r ≤ 3 → pk_D r = 7) ∧ (r = 4 → pk_D r = 2) ∧ 0 ≤ tu ∧ tu ≤ 16 := by
  obtain ⟨⟨n1, n2, n3, n4, n5, n6, n7, n8, n9⟩, -, -, hpt, -⟩ := q
  obtain ⟨⟨⟨p1, p1'⟩, -⟩, ⟨p2, -⟩, p3, -⟩ := hpt
  obtain ⟨-, -, -, pu, -⟩ := p3
  have g1 := gF_at g
  have g2 := gF_nest g
  have g3 := gF_wTop g
  have g4 := gF_nodes g
  have g5 := gF_wants g
  have g6 := gF_treeTop g
  have e2 := pk_sum_c0 s
  have e3 := pk_sum_d0 s
  have e4 : pk_off x.1 ≤ 7 := by unfold pk_off; (repeat' split) <;> omega
  have e5 : -4 ≤ pk_v x.1 := by unfold pk_v; (repeat' split) <;> omega
  have e6 : 0 ≤ pk_d x.1 := by unfold pk_d; split <;> omega
  have e7 : 0 ≤ pk_c x.1 := by unfold pk_c; split <;> omega
  have f1 : pk_sum pk_c (x :: s) = pk_c x.1 + pk_sum pk_c s := rfl
  have f2 : pk_sum pk_v (x :: s) = pk_v x.1 + pk_sum pk_v s := rfl
  have f3 : pk_sum pk_d (x :: s) = pk_d x.1 + pk_sum pk_d s := rfl
  rw [f1] at n1; rw [f2] at n2; rw [f3] at n3
  have e8 := pk_sum_le pk_q (fun a => by unfold pk_q; split <;> omega) s
  have e9 := pk_sum_le pk_f (fun a => by unfold pk_f; split <;> omega) s
  refine ⟨?_, ?_, ?_, ?_, ?_, p1, p1', e3, g6.1, ?_, ?_, ?_, pk_sum_k r s, (pk_D_r r).1, (pk_D_r r).2.1, (pk_D_r r).2.2, pu.2.1, ?_⟩ <;> omega
theorem top25 {H : ja_H} {ht : Nat → Int} {s : List mo_A} (hs : ∀ y z, s = y :: z → y.1 = 25) : pi_top H ht s := by
  cases s with
  | nil => trivial
  | cons y z =>
    have := hs y z rfl
    exact ⟨fun e => absurd e (by omega), fun e => absurd e (by omega), fun e => absurd e (by omega), fun e => absurd e (by omega)⟩
theorem mo_L_G {h : ja_H} {a b c d : Int} (g : mo_G Zz h) (ha : 0 ≤ a ∧ a ≤ 38) (hb : -2147483648 ≤ b ∧ b ≤ 2147483647) (hc : -2147483648 ≤ c ∧ c ≤ 2147483647) (hd : -2147483648 ≤ d ∧ d ≤ 2147483647) (hw : (h 0 17) < 2000) : mo_G Zz (mo_L h a b c d) := by
  have w0 := (gF_wTop g).1
  exact gP_wTop (gW_wC (gW_wB (gW_wA (gW_wAct g _ (x := a) ha) _ (x := b) hb) _ (x := c) hc) _ (x := d) hd) (x := (h 0 17) + 1) (by omega)
theorem mo_tk_G {h : ja_H} (g : mo_G Zz h) (ha : (h 0 7) < 900) : mo_G Zz (mo_tk h) := by
  have w0 := (gF_at g).1
  exact gP_at g (x := (h 0 7) + 1) (by omega)

theorem bs_ret {h : ja_H} {R r ph q0 : Int} {tf : mo_TF} {s : List mo_A} {ht st rg : Nat → Int} {tu a b : Int} (g : mo_G Zz h) (hB : piB h R r ph tf q0 ((15, a, b) :: s) ht st rg tu)  : piB (mo_E (mo_L (mo_L (ja_up (h) 0 18 ((h 0 18) + 1)) 15 0 0 0) 30 0 0 0) 25 0 0) R r ph tf q0 ((1, 0, 0) :: (25, 0, 0) :: (30, 0, 0) :: (15, 0, 0) :: s) (mo_x ht (h 0 113) (0)) (mo_x st (h 0 113) (1)) (mo_x rg (h 0 113) (r + 8 * tu)) tu := by
  have hN := piB_numv g hB
  obtain ⟨N2, N3, N4, N5, N6, N7, N8, N9, N10, N11, N12, N13, ⟨NK1, NK2⟩, ND1, ND2, ND3, NU1, NU2⟩ := hN
  obtain ⟨⟨n1, n2, n3, n4, n5, n6, n7, n8, n9⟩, ⟨b1, b2, b3, b4⟩, reg, hpt, ⟨hC, hU⟩, hNo, hP, hT, top⟩ := id hB
  obtain ⟨⟨⟨p1, p1'⟩, p1u⟩, ⟨p2, p2'⟩, p3, p4⟩ := hpt
  have w0 := (gF_wTop g).1
  simp only [pk_sum] at n1 n2 n3 n6 n7
  dsimp only at p2 p2' N6
  have ec1 : pk_c 1 = 0 := rfl
  have ev1 : pk_v 1 = (-4) := rfl
  have ed1 : pk_d 1 = 0 := rfl
  have eq1 : pk_q 1 = 0 := rfl
  have ef1 : pk_f 1 = 0 := rfl
  have em1 : pk_m 1 = (-10) := rfl
  have eoff1 : pk_off 1 = 7 := rfl
  have ek1 : pk_k r 1 = 0 := rfl
  have ec15 : pk_c 15 = 0 := rfl
  have ev15 : pk_v 15 = 0 := rfl
  have ed15 : pk_d 15 = 0 := rfl
  have eq15 : pk_q 15 = 0 := rfl
  have ef15 : pk_f 15 = 0 := rfl
  have em15 : pk_m 15 = 1 := rfl
  have eoff15 : pk_off 15 = 5 := rfl
  have ek15 : pk_k r 15 = 0 := rfl
  have ec25 : pk_c 25 = 0 := rfl
  have ev25 : pk_v 25 = 1 := rfl
  have ed25 : pk_d 25 = 0 := rfl
  have eq25 : pk_q 25 = 0 := rfl
  have ef25 : pk_f 25 = 0 := rfl
  have em25 : pk_m 25 = 1 := rfl
  have eoff25 : pk_off 25 = 1 := rfl
  have ek25 : pk_k r 25 = 0 := rfl
  have ec30 : pk_c 30 = 1 := rfl
  have ev30 : pk_v 30 = 0 := rfl
  have ed30 : pk_d 30 = 0 := rfl
  have eq30 : pk_q 30 = 0 := rfl
  have ef30 : pk_f 30 = 0 := rfl
  have em30 : pk_m 30 = 1 := rfl
  have eoff30 : pk_off 30 = 6 := rfl
  have ek30 : pk_k r 30 = pk_D r := rfl
  replace p3 : pt_ok (h 74) ht st rg (h 0 113) (h 0 88) (h 0 77) r (pi_wn h r) (15, a, b) s (ht (h 0 113).toNat - 0) (h 0 109) (st (h 0 113).toNat) tu := p3
  unfold pt_ok at p3; dsimp only at p3
  replace p4 : pt (h 74) ht st rg (h 0 113) (h 0 88) (h 0 77) r tf (pi_wn h r) s (0) ((h 0 109)) (st (h 0 113).toNat) (tu) := p4
  obtain ⟨-, xc, xt, ⟨xe, xu1, xu2⟩, -, -, -, -, -, -, -, -, -, -, -, -, xo14, -, -, -, -, -, -, -, -, -, -, -, -, -, -, -⟩ := p3
  replace xo14 := xo14 (by omega)
  have xq1o14 := xo14.1
  have xq2o14 := xo14.2.1
  have hr := reg_of hB (by dsimp only; omega) (by dsimp only; omega)
  have hbo := gF_body g
  have w0 := (gF_wTop g).1
  have W0 : 0 ≤ (h 0 113) := (gF_words g).1
  have hr4 : 0 ≤ r ∧ r ≤ 3 ∧ (r = 4 → tu = 0) := by
    rcases reg with ⟨q1, q2, -⟩ | ⟨q1, q2, q3, -⟩
    · omega
    · have := q3 _ List.mem_cons_self; dsimp only at this; omega
  have ho : (mo_E (mo_L (mo_L (ja_up (h) 0 18 ((h 0 18) + 1)) 15 0 0 0) 30 0 0 0) 25 0 0) 74 (h 0 113).toNat = 25 := by simp [mo_L, mo_E, mo_tk, ja_up]
  have hA : (mo_E (mo_L (mo_L (ja_up (h) 0 18 ((h 0 18) + 1)) 15 0 0 0) 30 0 0 0) 25 0 0) 75 (h 0 113).toNat = 0 := by simp [mo_L, mo_E, mo_tk, ja_up]
  have hBB : (mo_E (mo_L (mo_L (ja_up (h) 0 18 ((h 0 18) + 1)) 15 0 0 0) 30 0 0 0) 25 0 0) 76 (h 0 113).toNat = 0 := by simp [mo_L, mo_E, mo_tk, ja_up]
  have hold : ∀ w : Nat, (w : Int) < (h 0 113) → (mo_E (mo_L (mo_L (ja_up (h) 0 18 ((h 0 18) + 1)) 15 0 0 0) 30 0 0 0) 25 0 0) 74 w = (h 74) w ∧ (mo_E (mo_L (mo_L (ja_up (h) 0 18 ((h 0 18) + 1)) 15 0 0 0) 30 0 0 0) 25 0 0) 75 w = (h 75) w ∧ (mo_E (mo_L (mo_L (ja_up (h) 0 18 ((h 0 18) + 1)) 15 0 0 0) 30 0 0 0) 25 0 0) 76 w = (h 76) w := by
    intro w hw; refine ⟨?_, ?_, ?_⟩ <;> simp [mo_L, mo_E, mo_tk, ja_up] <;> (intros; omega)
  have hext : ∀ j : Nat, (j : Int) ≤ (h 0 113) → ((j : Int) < (h 0 113) → (mo_E (mo_L (mo_L (ja_up (h) 0 18 ((h 0 18) + 1)) 15 0 0 0) 30 0 0 0) 25 0 0) 74 j = (h 74) j) ∧ mo_x ht (h 0 113) (0) j = ht j ∧ mo_x st (h 0 113) (1) j = st j ∧ mo_x rg (h 0 113) (r + 8 * tu) j = rg j := fun j hj => ⟨fun q => (hold j q).1, mo_xo W0 (by omega), mo_xo W0 (by omega), mo_xo W0 (by omega)⟩
  refine piB1 (c1 := 0) (e1 := 1) (tu1 := tu) (Or.inl rfl) g hB (by dsimp only; omega) (by (try unfold mo_L); (try unfold mo_E); (try unfold mo_tk); (repeat (refine ag_up rfl ?_)); exact ag_refl) rfl hold (fun z => absurd z (by rw [ho]; decide)) (idle_of (show (15 : Int) ≠ 4 ∧ (15 : Int) ≠ 21 ∧ (15 : Int) ≠ 22 ∧ (15 : Int) ≠ 28 ∧ (15 : Int) ≠ 24 by decide)) (fun _ q => List.mem_cons_of_mem _ (List.mem_cons_of_mem _ (List.mem_cons_of_mem _ (List.mem_cons_of_mem _ (q))))) (fun p q => by simp only [pp_cons] at q ⊢; rcases q with q | q | q | q | q <;> first | (exact Or.inr q) | (exfalso; simp [pp] at q)) ?_ ?_ ?_ ?_ ?_ ?_ ⟨?_, ?_, ?_⟩ (by simp only [pi_if, List.mem_cons, exists_eq_or_imp]; simp) ⟨(fun q y hy => by (try simp only [List.mem_cons] at hy); (rcases hy with rfl | rfl | rfl | rfl | hy) <;> first | (exact q _ (List.mem_cons_of_mem _ hy)) | (have := q _ List.mem_cons_self; dsimp only at this ⊢; omega)), (fun q y hy => by (try simp only [List.mem_cons] at hy); (rcases hy with rfl | rfl | rfl | rfl | hy) <;> first | (exact q _ (List.mem_cons_of_mem _ hy)) | (have := q _ List.mem_cons_self; dsimp only at this ⊢; omega))⟩ ?_ ?_ ⟨fun e => absurd e (by dsimp only; omega), fun e => absurd e (by dsimp only; omega), fun _ y z e => by cases e; intro q; exact absurd q (by dsimp only; omega), fun e => absurd e (by dsimp only; omega)⟩
  · show (h 0 18) + 1 = _; (try simp only [pk_sum]); omega
  · show (h 0 113) + 1 + _ < 5 * ((h 0 7)); (try simp only [pk_sum]); omega
  · show (h 0 95) + _ < (h 0 7); (try simp only [pk_sum]); omega
  · show (h 0 7) ≤ (h 0 7); omega
  · show (h 0 84) = _; (try simp only [pk_sum]); omega
  · show (h 0 87) = _; (try simp only [pk_sum]); omega
  · show ph = 1 ∨ (h 0 79) ≤ (h 0 77); omega
  · show ph = 1 ∨ (h 0 77) ≤ 10; omega
  · intro q; show ph = 1 ∨ (h 0 77) ≤ 9; refine b4 (fun z => q ?_); intro y hy; simp only [List.mem_cons] at hy; rcases hy with rfl | rfl | rfl | rfl | hy
    · show (1 : Int) ≠ 17; decide
    · show (25 : Int) ≠ 17; decide
    · show (30 : Int) ≠ 17; decide
    · show (15 : Int) ≠ 17; decide
    · exact z y (List.mem_cons_of_mem _ hy)
  · unfold pw; rw [ho, hA, hBB, mo_xw, mo_xw, mo_xw, mo_xn', mo_xn', mo_xn']; exact ⟨⟨by decide, by decide⟩, ⟨by omega, by omega⟩, ⟨by omega, by omega, by omega⟩, by omega, (show (0 : Int) ≤ ht (h 0 113).toNat by omega), fun z => absurd z (by decide), fun _ => ⟨(show (0 : Int) = ht (h 0 113).toNat + 0 by omega), (show r + 8 * tu = rg (h 0 113).toNat + 8 * 0 by omega), Or.inr rfl, fun z => absurd rfl z⟩, fun z => absurd z (by decide), fun _ => (show ht (h 0 113).toNat = 0 by omega), fun z => absurd z (by unfold pw_jmp; decide), fun z => absurd z (by decide), fun z => absurd z (by decide), fun z => absurd z (by decide), fun z => absurd z (by decide), fun z => absurd z (by decide), fun z => ⟨⟨by omega, by omega, fun z => absurd z (by decide)⟩, by first | decide | (exfalso; omega)⟩⟩
  · exact ⟨⟨⟨by (try simp only [pk_sum]); omega, by (try simp only [pk_sum]); omega⟩, (fun p q => absurd q (by simp [pp]))⟩, ⟨by (try simp only [pk_sum, List.length_cons]); (try dsimp only); omega, (by intro y z e; cases e; dsimp only; omega)⟩, (show pt_ok ((mo_E (mo_L (mo_L (ja_up (h) 0 18 ((h 0 18) + 1)) 15 0 0 0) 30 0 0 0) 25 0 0) 74) (mo_x ht (h 0 113) (0)) (mo_x st (h 0 113) (1)) (mo_x rg (h 0 113) (r + 8 * tu)) ((h 0 113) + 1) (h 0 88) ((h 0 77)) r (pi_wn h r) (1, 0, 0) ((25, 0, 0) :: (30, 0, 0) :: (15, 0, 0) :: s) (0 - 0) ((h 0 109)) (1) (tu) from by unfold pt_ok; (try dsimp only); (try simp only [pk_sum]); exact ⟨⟨by omega, by omega, by omega, by omega⟩, by omega, by omega, ⟨by first | omega | simp, by omega, by omega⟩, fun _ => by first | omega | trivial | (simp only [true_and, and_true]; omega), fun z => absurd z (by omega), fun z => absurd z (by omega), fun z => absurd z (by omega), fun z => absurd z (by omega), fun z => absurd z (by omega), fun z => absurd z (by omega), fun z => absurd z (by omega), fun z => absurd z (by omega), fun z => absurd z (by omega), fun z => absurd z (by omega), fun z => absurd z (by omega), fun z => absurd z (by omega), fun z => absurd z (by omega), fun z => absurd z (by omega), fun z => absurd z (by omega), fun z => absurd z (by omega), fun z => absurd z (by omega), fun z => absurd z (by omega), fun z => absurd z (by omega), fun z => absurd z (by omega), fun z => absurd z (by omega), fun z => absurd z (by omega), fun z => absurd z (by omega), fun z => absurd z (by omega), fun z => absurd z (by omega), fun z => absurd z (by omega), fun z => absurd z (by omega)⟩), ⟨⟨⟨by (try simp only [pk_sum]); omega, by (try simp only [pk_sum]); omega⟩, (fun p q => absurd q (by simp [pp]))⟩, ⟨by (try simp only [pk_sum, List.length_cons]); (try dsimp only); omega, (by intro y z e; cases e; dsimp only; omega)⟩, (show pt_ok ((mo_E (mo_L (mo_L (ja_up (h) 0 18 ((h 0 18) + 1)) 15 0 0 0) 30 0 0 0) 25 0 0) 74) (mo_x ht (h 0 113) (0)) (mo_x st (h 0 113) (1)) (mo_x rg (h 0 113) (r + 8 * tu)) ((h 0 113) + 1) (h 0 88) ((h 0 77)) r (pi_wn h r) (25, 0, 0) ((30, 0, 0) :: (15, 0, 0) :: s) (0 - 0 + 1) ((h 0 109)) (1) (tu) from by unfold pt_ok; (try dsimp only); (try simp only [pk_sum]); exact ⟨⟨by omega, by omega, by omega, by omega⟩, by omega, by omega, ⟨by first | omega | simp, by omega, by omega⟩, fun z => absurd z (by omega), fun z => absurd z (by omega), fun z => absurd z (by omega), fun z => absurd z (by omega), fun z => absurd z (by omega), fun z => absurd z (by omega), fun z => absurd z (by omega), fun z => absurd z (by omega), fun z => absurd z (by omega), fun z => absurd z (by omega), fun z => absurd z (by omega), fun z => absurd z (by omega), fun z => absurd z (by omega), fun z => absurd z (by omega), fun _ => ⟨by first | trivial | omega, by first | trivial | omega, ((pt_let_cons (show (30 : Int) ≠ 17 by decide)).mpr ((pt_let_cons (show (15 : Int) ≠ 17 by decide)).mpr xo14.2.2))⟩, fun z => absurd z (by omega), fun z => absurd z (by omega), fun z => absurd z (by omega), fun z => absurd z (by omega), fun z => absurd z (by omega), fun z => absurd z (by omega), fun z => absurd z (by omega), fun z => absurd z (by omega), fun z => absurd z (by omega), fun z => absurd z (by omega), fun z => absurd z (by omega), fun z => absurd z (by omega), fun z => absurd z (by omega)⟩), ⟨⟨⟨by (try simp only [pk_sum]); omega, by (try simp only [pk_sum]); omega⟩, (fun p q => absurd q (by simp [pp]))⟩, ⟨by (try simp only [pk_sum, List.length_cons]); (try dsimp only); omega, (by intro y z e; cases e; dsimp only; omega)⟩, (show pt_ok ((mo_E (mo_L (mo_L (ja_up (h) 0 18 ((h 0 18) + 1)) 15 0 0 0) 30 0 0 0) 25 0 0) 74) (mo_x ht (h 0 113) (0)) (mo_x st (h 0 113) (1)) (mo_x rg (h 0 113) (r + 8 * tu)) ((h 0 113) + 1) (h 0 88) ((h 0 77)) r (pi_wn h r) (30, 0, 0) ((15, 0, 0) :: s) (0) ((h 0 109)) (0) (tu) from by unfold pt_ok; (try dsimp only); (try simp only [pk_sum]); exact ⟨⟨by omega, by omega, by omega, by omega⟩, by omega, by omega, ⟨by first | omega | simp, by omega, by omega⟩, fun z => absurd z (by omega), fun z => absurd z (by omega), fun z => absurd z (by omega), fun z => absurd z (by omega), fun z => absurd z (by omega), fun z => absurd z (by omega), fun z => absurd z (by omega), fun z => absurd z (by omega), fun z => absurd z (by omega), fun z => absurd z (by omega), fun z => absurd z (by omega), fun z => absurd z (by omega), fun _ => ⟨by first | trivial | omega, by first | trivial | omega, ((pt_let_cons (show (15 : Int) ≠ 17 by decide)).mpr xo14.2.2)⟩, fun z => absurd z (by omega), fun z => absurd z (by omega), fun z => absurd z (by omega), fun z => absurd z (by omega), fun z => absurd z (by omega), fun z => absurd z (by omega), fun z => absurd z (by omega), fun z => absurd z (by omega), fun z => absurd z (by omega), fun z => absurd z (by omega), fun z => absurd z (by omega), fun z => absurd z (by omega), fun z => absurd z (by omega), fun z => absurd z (by omega), fun z => absurd z (by omega)⟩), ⟨⟨⟨by (try simp only [pk_sum]); omega, by (try simp only [pk_sum]); omega⟩, (fun p q => absurd q (by simp [pp]))⟩, ⟨by (try simp only [pk_sum, List.length_cons]); (try dsimp only); omega, (by intro y z e; have q := p2' y z e; dsimp only at q ⊢; omega)⟩, (show pt_ok ((mo_E (mo_L (mo_L (ja_up (h) 0 18 ((h 0 18) + 1)) 15 0 0 0) 30 0 0 0) 25 0 0) 74) (mo_x ht (h 0 113) (0)) (mo_x st (h 0 113) (1)) (mo_x rg (h 0 113) (r + 8 * tu)) ((h 0 113) + 1) (h 0 88) ((h 0 77)) r (pi_wn h r) (15, 0, 0) (s) (0) ((h 0 109)) (0) (tu) from by unfold pt_ok; (try dsimp only); (try simp only [pk_sum]); exact ⟨⟨by omega, by omega, by omega, by omega⟩, by omega, by omega, ⟨by first | omega | simp, by omega, by omega⟩, fun z => absurd z (by omega), fun z => absurd z (by omega), fun z => absurd z (by omega), fun z => absurd z (by omega), fun z => absurd z (by omega), fun z => absurd z (by omega), fun z => absurd z (by omega), fun z => absurd z (by omega), fun z => absurd z (by omega), fun z => absurd z (by omega), fun z => absurd z (by omega), fun z => absurd z (by omega), fun _ => ⟨by first | trivial | omega, by first | trivial | omega, xo14.2.2⟩, fun z => absurd z (by omega), fun z => absurd z (by omega), fun z => absurd z (by omega), fun z => absurd z (by omega), fun z => absurd z (by omega), fun z => absurd z (by omega), fun z => absurd z (by omega), fun z => absurd z (by omega), fun z => absurd z (by omega), fun z => absurd z (by omega), fun z => absurd z (by omega), fun z => absurd z (by omega), fun z => absurd z (by omega), fun z => absurd z (by omega), fun z => absurd z (by omega)⟩), (pt_eq (show _ = 0 by omega) (show _ = (h 0 109) by omega) (show _ = 0 by omega) (pt_ext (show (h 0 113) ≤ (h 0 113) + 1 by omega) (Int.le_refl _) (show (h 0 77) ≤ (h 0 77) by omega) (fun _ q => q) hext p4))⟩⟩⟩⟩

theorem bs_none {h : ja_H} {R r ph q0 : Int} {tf : mo_TF} {s : List mo_A} {ht st rg : Nat → Int} {tu a b : Int} (g : mo_G Zz h) (hB : piB h R r ph tf q0 ((1, a, b) :: s) ht st rg tu) (hs : ∀ y z, s = y :: z → y.1 = 25) : piB (mo_E (mo_tk (mo_tk (h))) 2 0 0) R r ph tf q0 (s) (mo_x ht (h 0 113) ((ht (h 0 113).toNat + 1))) (mo_x st (h 0 113) ((st (h 0 113).toNat))) (mo_x rg (h 0 113) (r + 8 * tu)) tu := by
  have hN := piB_numv g hB
  obtain ⟨N2, N3, N4, N5, N6, N7, N8, N9, N10, N11, N12, N13, ⟨NK1, NK2⟩, ND1, ND2, ND3, NU1, NU2⟩ := hN
  obtain ⟨⟨n1, n2, n3, n4, n5, n6, n7, n8, n9⟩, ⟨b1, b2, b3, b4⟩, reg, hpt, ⟨hC, hU⟩, hNo, hP, hT, top⟩ := id hB
  obtain ⟨⟨⟨p1, p1'⟩, p1u⟩, ⟨p2, p2'⟩, p3, p4⟩ := hpt
  have w0 := (gF_wTop g).1
  simp only [pk_sum] at n1 n2 n3 n6 n7
  dsimp only at p2 p2' N6
  have ec1 : pk_c 1 = 0 := rfl
  have ev1 : pk_v 1 = (-4) := rfl
  have ed1 : pk_d 1 = 0 := rfl
  have eq1 : pk_q 1 = 0 := rfl
  have ef1 : pk_f 1 = 0 := rfl
  have em1 : pk_m 1 = (-10) := rfl
  have eoff1 : pk_off 1 = 7 := rfl
  have ek1 : pk_k r 1 = 0 := rfl
  replace p3 : pt_ok (h 74) ht st rg (h 0 113) (h 0 88) (h 0 77) r (pi_wn h r) (1, a, b) s (ht (h 0 113).toNat - 0) (h 0 109) (st (h 0 113).toNat) tu := p3
  unfold pt_ok at p3; dsimp only at p3
  replace p4 : pt (h 74) ht st rg (h 0 113) (h 0 88) (h 0 77) r tf (pi_wn h r) s ((ht (h 0 113).toNat - 0) + 1) ((h 0 109)) (st (h 0 113).toNat) (tu) := p4
  obtain ⟨-, xc, xt, ⟨xe, xu1, xu2⟩, xo1, -, -, -, -, -, -, -, -, -, -, -, -, -, -, -, -, -, -, -, -, -, -, -, -, -, -, -⟩ := p3
  replace xo1 := xo1 (by omega)
  have hr := reg_of hB (by dsimp only; omega) (by dsimp only; omega)
  have hbo := gF_body g
  have w0 := (gF_wTop g).1
  have W0 : 0 ≤ (h 0 113) := (gF_words g).1
  have hr4 : 0 ≤ r ∧ r ≤ 4 ∧ (r = 4 → tu = 0) := by
    rcases reg with ⟨q1, q2, -⟩ | ⟨q1, q2, q3, -⟩
    · omega
    · omega
  have ho : (mo_E (mo_tk (mo_tk (h))) 2 0 0) 74 (h 0 113).toNat = 2 := by simp [mo_L, mo_E, mo_tk, ja_up]
  have hA : (mo_E (mo_tk (mo_tk (h))) 2 0 0) 75 (h 0 113).toNat = 0 := by simp [mo_L, mo_E, mo_tk, ja_up]
  have hBB : (mo_E (mo_tk (mo_tk (h))) 2 0 0) 76 (h 0 113).toNat = 0 := by simp [mo_L, mo_E, mo_tk, ja_up]
  have hold : ∀ w : Nat, (w : Int) < (h 0 113) → (mo_E (mo_tk (mo_tk (h))) 2 0 0) 74 w = (h 74) w ∧ (mo_E (mo_tk (mo_tk (h))) 2 0 0) 75 w = (h 75) w ∧ (mo_E (mo_tk (mo_tk (h))) 2 0 0) 76 w = (h 76) w := by
    intro w hw; refine ⟨?_, ?_, ?_⟩ <;> simp [mo_L, mo_E, mo_tk, ja_up] <;> (intros; omega)
  have hext : ∀ j : Nat, (j : Int) ≤ (h 0 113) → ((j : Int) < (h 0 113) → (mo_E (mo_tk (mo_tk (h))) 2 0 0) 74 j = (h 74) j) ∧ mo_x ht (h 0 113) ((ht (h 0 113).toNat + 1)) j = ht j ∧ mo_x st (h 0 113) ((st (h 0 113).toNat)) j = st j ∧ mo_x rg (h 0 113) (r + 8 * tu) j = rg j := fun j hj => ⟨fun q => (hold j q).1, mo_xo W0 (by omega), mo_xo W0 (by omega), mo_xo W0 (by omega)⟩
  refine piB1 (c1 := (ht (h 0 113).toNat + 1)) (e1 := (st (h 0 113).toNat)) (tu1 := tu) (Or.inl rfl) g hB (by dsimp only; omega) (by (try unfold mo_L); (try unfold mo_E); (try unfold mo_tk); (repeat (refine ag_up rfl ?_)); exact ag_refl) rfl hold (fun z => absurd z (by rw [ho]; decide)) (idle_of (show (1 : Int) ≠ 4 ∧ (1 : Int) ≠ 21 ∧ (1 : Int) ≠ 22 ∧ (1 : Int) ≠ 28 ∧ (1 : Int) ≠ 24 by decide)) (fun _ q => q) (fun p q => pp_cons.mpr (Or.inr q)) ?_ ?_ ?_ ?_ ?_ ?_ ⟨?_, ?_, ?_⟩ (pi_if_tail (show (1 : Int) ≠ 36 by decide)) ⟨(fun q y hy => q y (List.mem_cons_of_mem _ hy)), (fun q y hy => q y (List.mem_cons_of_mem _ hy))⟩ ?_ ?_ (top25 hs)
  · show (h 0 18) = _; (try simp only [pk_sum]); omega
  · show (h 0 113) + 1 + _ < 5 * ((h 0 7) + 1 + 1); (try simp only [pk_sum]); omega
  · show (h 0 95) + _ < (h 0 7) + 1 + 1; (try simp only [pk_sum]); omega
  · show (h 0 7) ≤ (h 0 7) + 1 + 1; omega
  · show (h 0 84) = _; (try simp only [pk_sum]); omega
  · show (h 0 87) = _; (try simp only [pk_sum]); omega
  · show ph = 1 ∨ (h 0 79) ≤ (h 0 77); omega
  · show ph = 1 ∨ (h 0 77) ≤ 10; omega
  · intro q; show ph = 1 ∨ (h 0 77) ≤ 9; exact b4 (fun z => q (fun y hy => z y (List.mem_cons_of_mem _ hy)))
  · unfold pw; rw [ho, hA, hBB, mo_xw, mo_xw, mo_xw, mo_xn', mo_xn', mo_xn']; exact ⟨⟨by decide, by decide⟩, ⟨by omega, by omega⟩, ⟨by omega, by omega, by omega⟩, by omega, (show (0 : Int) ≤ ht (h 0 113).toNat by omega), fun z => absurd z (by decide), fun _ => ⟨(show (ht (h 0 113).toNat + 1) = ht (h 0 113).toNat + (1) by omega), (show r + 8 * tu = rg (h 0 113).toNat + 8 * 0 by omega), by omega, fun _ => by omega⟩, fun z => absurd z (by decide), fun z => absurd z (by decide), fun z => absurd z (by unfold pw_jmp; decide), fun z => absurd z (by decide), fun z => absurd z (by decide), fun z => absurd z (by decide), fun z => absurd z (by decide), fun z => absurd z (by decide), fun z => ⟨⟨by omega, by omega, fun z => absurd z (by decide)⟩, by first | decide | (exfalso; omega)⟩⟩
  · rw [fin_adj p2' (show (1 : Int) ≠ 8 ∧ (1 : Int) ≠ 9 by decide)]; exact pt_eq (show _ = (ht (h 0 113).toNat + 1) - 0 by omega) (show _ = (h 0 109) by omega) (show _ = (st (h 0 113).toNat) by omega) (pt_ext (show (h 0 113) ≤ (h 0 113) + 1 by omega) (Int.le_refl _) (show (h 0 77) ≤ (h 0 77) by omega) (fun _ q => q) hext p4)


theorem ab_st_ret0 {h : ja_H} {R r ph q0 : Int} {tf : mo_TF} {s : List mo_A} {ht st rg : Nat → Int} {tu a b : Int} (g : mo_G Zz h) (hS : pk_S h (h 0 17).toNat s) (hB : piB h R r ph tf q0 ((15, a, b) :: s) ht st rg tu) (hat : (h 0 7) + 2 ≤ 900) (hnest : (h 0 18) < 16) :
    pi_done h (mo_E (mo_E (mo_tk (mo_tk (mo_E (mo_L (mo_L (ja_up h 0 18 ((h 0 18) + 1)) 15 0 0 0) 30 0 0 0) 25 0 0))) 2 0 0) 19 0 0) R r ph tf q0 (pi_mu h ((15, a, b) :: s)) := by
  obtain ⟨N1, N2, -, -, N5, N6, -⟩ := piB_num g hS hB
  have w0 := (gF_wTop g).1
  have W0 := (gF_words g).1
  have hn : (h 0 18) = pk_c 15 + pk_sum pk_c s := hB.1.1
  have e15 : pk_c 15 = 0 := rfl
  dsimp only at N6
  have g1 : mo_G Zz (mo_E (mo_L (mo_L (ja_up h 0 18 ((h 0 18) + 1)) 15 0 0 0) 30 0 0 0) 25 0 0) := by
    by_cases hn16 : (h 0 18) + 1 ≤ 16
    · exact mo_E_G (mo_L_G (mo_L_G (gP_nest g (x := (h 0 18) + 1) (by omega)) (by decide) (by decide) (by decide) (by decide) (show (h 0 17) < 2000 by omega)) (by decide) (by decide) (by decide) (by decide) (show (h 0 17) + 1 < 2000 by omega)) (by decide) (by decide) (by decide) (show (h 0 113) < 5000 by omega)
    · exact absurd hn16 (by have := hnest; omega)
  have hB1 := bs_ret g hB
  have g2 := mo_E_G (a := 2) (b := 0) (c := 0) (mo_tk_G (mo_tk_G g1 (show (h 0 7) < 900 by omega)) (show (h 0 7) + 1 < 900 by omega)) (by decide) (by decide) (by decide) (show (h 0 113) + 1 < 5000 by omega)
  have hB2 := bs_none g1 hB1 (fun y z e => by cases e; rfl)
  have hS2 : pk_S (mo_E (mo_tk (mo_tk (mo_E (mo_L (mo_L (ja_up h 0 18 ((h 0 18) + 1)) 15 0 0 0) 30 0 0 0) 25 0 0))) 2 0 0) ((mo_E (mo_tk (mo_tk (mo_E (mo_L (mo_L (ja_up h 0 18 ((h 0 18) + 1)) 15 0 0 0) 30 0 0 0) 25 0 0))) 2 0 0) 0 17).toNat ((30, 0, 0) :: (15, 0, 0) :: s) :=
    pk_S_E (pk_S_ag (ag_up rfl ag_refl) (pk_S_ag (ag_up rfl ag_refl) (pk_S_E (pk_S_L (show 0 ≤ (h 0 17) + 1 by omega) (pk_S_L (show 0 ≤ (h 0 17) by omega) (pk_S_ag (ag_up rfl ag_refl) hS))))))
  obtain ⟨⟨s', ht', st', rg', tu', q1, q2⟩, q3⟩ := ab_ret (a := 0) (b := 0) g2 hS2 hB2
  refine ⟨⟨s', ht', st', rg', tu', q1, ?_⟩, ag_trans (by unfold mo_E mo_L mo_tk; (repeat (refine ag_up rfl ?_)); exact ag_refl) q3⟩
  refine Int.lt_trans q2 ?_
  show 40 * (900 - ((h 0 7) + 1 + 1)) + (pk_m 25 + (pk_m 30 + (pk_m 15 + pk_sum pk_m s))) + 13 < 40 * (900 - (h 0 7)) + (pk_m 15 + pk_sum pk_m s) + 13
  have m1 : pk_m 25 = 1 := rfl
  have m2 : pk_m 30 = 1 := rfl
  have m3 : pk_m 15 = 1 := rfl
  omega
