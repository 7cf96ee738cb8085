/-! the reference's parser: a new POINT, with the acts that wait for it -/
variable {Zz : Zc}
def FNP : Nat → Nat → Bool := mo_F [95, 72, 85, 109, 74, 76, 86, 34, 113, 11] [24, 74, 75, 76, 58, 59, 60, 62, 63, 67, 47, 70]
theorem FNP_FT (k j : Nat) (e : FT k j = true) : FNP k j = true := by
  unfold FT mo_F at e; unfold FNP mo_F
  split at e
  · next z => rw [if_pos z]; simp at e ⊢; omega
  · next z => rw [if_neg z]; simp at e ⊢; omega
theorem piBP {h H : ja_H} {R r ph q0 : Int} {tf : mo_TF} {s s' : List mo_A} {ht st rg : Nat → Int} {tu : Int} (g : mo_G Zz h) (hB : piB h R r ph tf q0 s ht st rg tu) (ag : mo_ag FNP h H) (hpo : (H 0 88) = (h 0 88) + 1) (hv : ∀ k a b, pw_wt h k a b → pw_wt H k a b)
    (old : ∀ j : Nat, j ≠ ((h 0 88)).toNat → (H 52) j = (h 52) j ∧ (H 55) j = (h 55) j ∧ (H 54) j = (h 54) j ∧ (H 56) j = (h 56) j ∧ (H 57) j = (h 57) j)
    (new : ((H 52) ((h 0 88)).toNat = 5 ∨ 0 ≤ (H 54) ((h 0 88)).toNat) ∧ ((H 56) ((h 0 88)).toNat = 2 → (H 57) ((h 0 88)).toNat ≤ 24) ∧ (H 52) ((h 0 88)).toNat ≠ 1 ∧ ((H 52) ((h 0 88)).toNat = 2 → pw_wt H 0 ((H 54) ((h 0 88)).toNat) 0))
    (hpj : ∀ w, pj_in s w → pj_in s' w) (hpp : ∀ p, p < (h 0 88) → ¬ pp_in s p → ¬ pp_in s' p)
    (n1 : (H 0 18) = pk_sum pk_c s') (n2 : (h 0 113) + pk_sum pk_v s' < 5 * (H 0 7)) (n3 : (h 0 95) + pk_sum pk_d s' < (H 0 7)) (hwa : (H 0 68) < (H 0 7)) (n5 : (H 0 84) = q0 + pk_sum pk_q s') (n6 : (H 0 87) = pk_sum pk_f s')
    (b : (ph = 1 ∨ (H 0 79) ≤ (H 0 77)) ∧ (ph = 1 ∨ (H 0 77) ≤ 10) ∧ (¬ pt_let s' → ph = 1 ∨ (H 0 77) ≤ 9))
    (hif : pi_if s' ↔ pi_if s) (hal : ((∀ y ∈ s, y.1 ≤ 30 ∨ 37 ≤ y.1) → ∀ y ∈ s', y.1 ≤ 30 ∨ 37 ≤ y.1) ∧ ((∀ y ∈ s, y.1 ≤ 12 ∨ 31 ≤ y.1) → ∀ y ∈ s', y.1 ≤ 12 ∨ 31 ≤ y.1))
    (hpt : pt (h 74) ht st rg (h 0 113) (H 0 88) (H 0 77) r tf (pi_wn H r) s' (ht (h 0 113).toNat - pi_adj H s') (h 0 109) (st (h 0 113).toNat) tu) (top : pi_top H ht s') : piB H R r ph tf q0 s' ht st rg tu := by
  obtain ⟨⟨o1, o2, o3, o4, o5, o6, o7, o8, o9⟩, ⟨ob, -, -, -⟩, oreg, -, ⟨oC, oU⟩, oN, oP, oT, -⟩ := hB
  have gp := (gF_points g).1
  have e1 : (H 0 113) = (h 0 113) := ag _ _ rfl
  have e3 : (H 0 109) = (h 0 109) := ag _ _ rfl
  have e4 : (H 0 95) = (h 0 95) := ag _ _ rfl
  have e6 : (H 0 72) = (h 0 72) := ag _ _ rfl
  have e7 : (H 0 74) = (h 0 74) := ag _ _ rfl
  have e8 : (H 0 86) = (h 0 86) := ag _ _ rfl
  have e9 : (H 0 11) = (h 0 11) := ag _ _ rfl
  have e10 : (H 0 76) = (h 0 76) := ag _ _ rfl
  have f1 : (H 74) = (h 74) := funext fun j => ag _ _ rfl
  have f2 : (H 75) = (h 75) := funext fun j => ag _ _ rfl
  have f3 : (H 76) = (h 76) := funext fun j => ag _ _ rfl
  have l1 : (H 58) = (h 58) := funext fun j => ag _ _ rfl
  have l2 : (H 59) = (h 59) := funext fun j => ag _ _ rfl
  have l3 : (H 60) = (h 60) := funext fun j => ag _ _ rfl
  have l4 : (H 62) = (h 62) := funext fun j => ag _ _ rfl
  have l5 : (H 63) = (h 63) := funext fun j => ag _ _ rfl
  have l6 : (H 67) = (h 67) := funext fun j => ag _ _ rfl
  have l7 : (H 47) = (h 47) := funext fun j => ag _ _ rfl
  have m1 : (H 0 34) = (h 0 34) := ag _ _ rfl
  have m2 : (H 24) = (h 24) := funext fun j => ag _ _ rfl
  have hf : (H 0 11) = 0 → (h 0 11) = 0 := fun z => by rw [← e9]; exact z
  refine ⟨⟨n1, by rw [e1]; exact n2, by rw [e4]; exact n3, hwa, by rw [e6, e4]; exact o5, n5, n6, o8, o9⟩, ⟨e7.trans ob, b⟩, ?_, ?_, ⟨?_, ?_⟩, ?_, ?_, pi_T_ag (ag_sub FNP_FT ag) oT, top⟩
  · rw [e1, e8, hif]
    rcases oreg with ⟨q1, q2, q3, q4, q5⟩ | ⟨q1, q2, q3, q4⟩
    · exact Or.inl ⟨q1, q2, q3, q4, hal.1 q5⟩
    · exact Or.inr ⟨q1, q2, hal.2 q3, q4⟩
  · rw [e1, e3, f1]; exact hpt
  · rw [e1]
    intro w hw
    refine pw_ext hw (Int.le_refl _) (fun _ _ => ⟨rfl, rfl, rfl⟩) ⟨by rw [f1], by rw [f2], by rw [f3]⟩ hf hv (by omega) (fun _ a1 a2 q => ⟨?_, hpp _ a2 q⟩) (fun _ q => hpj _ q) (oC w hw)
    have o := old ((h 75) w).toNat (by omega)
    unfold pw_pop
    rw [o.1, o.2.1]
  · rw [e1]; unfold pi_U; rw [f1, f2]; exact oU
  · rw [e1]
    exact pN_f l1 l2 l3 l4 l5 l6 l7 e4 e6 hf hv oN
  · refine ⟨fun m hm => ?_, fun p hp => ?_⟩
    · rw [m1] at hm
      rw [m2, hpo]
      obtain ⟨a1, a2, a3⟩ := oP.1 m hm
      exact ⟨a1, by omega, by rw [(old _ (by omega)).1]; exact a3⟩
    · rw [hpo] at hp
      by_cases e : p = ((h 0 88)).toNat
      · subst e
        exact ⟨new.1, new.2.1, fun z => absurd z new.2.2.1, new.2.2.2⟩
      · obtain ⟨y1, y2, y3, y4, y5⟩ := old p e
        rw [y1, y3, y4, y5, m1]
        obtain ⟨a1, a2, a3, a4⟩ := oP.2 p (by omega)
        exact ⟨a1, a2, a3, fun z => hv _ _ _ (a4 z)⟩
/-- what waits goes on when a POINT is new -/
theorem pi_wn_np {h H : ja_H} {r : Int} (g : mo_G Zz h) (ag : mo_ag FNP h H) (hpo : (H 0 88) = (h 0 88) + 1) (hv : ∀ k a b, pw_wt h k a b → pw_wt H k a b)
    (old : ∀ j : Nat, j ≠ ((h 0 88)).toNat → (H 52) j = (h 52) j ∧ (H 55) j = (h 55) j ∧ (H 54) j = (h 54) j ∧ (H 56) j = (h 56) j ∧ (H 57) j = (h 57) j) (a : Int) (z : pi_wn h r a) : pi_wn H r a := by
  have gp := (gF_points g).1
  have e9 : (H 0 11) = (h 0 11) := ag _ _ rfl
  have e10 : (H 0 76) = (h 0 76) := ag _ _ rfl
  unfold pi_wn at z ⊢
  rw [e9, hpo, e10]
  refine ⟨⟨z.1.1, by rw [nf_keep (ag _ _ rfl) (funext fun j => ag _ _ rfl)]; exact z.1.2⟩, fun y e => ⟨(z.2.1 y e).1, hv _ _ _ (z.2.1 y e).2⟩, fun y => ?_, fun y => ?_, fun y => ?_⟩
  · have q := z.2.2.1 y
    exact ⟨by omega, by rw [(old _ (by omega)).1]; exact q.2⟩
  · have q := z.2.2.2.1 y
    exact ⟨by omega, by rw [(old _ (by omega)).1]; exact q.2⟩
  · have q := z.2.2.2.2 y
    exact ⟨by omega, by rw [(old _ (by omega)).1]; exact q.2.1, by rw [(old _ (by omega)).2.1]; exact q.2.2⟩

theorem bs_catch {h : ja_H} {R r ph q0 : Int} {tf : mo_TF} {s : List mo_A} {ht st rg : Nat → Int} {tu a b : Int} (g : mo_G Zz h) (hS : pk_S h (h 0 17).toNat s) (hB : piB h R r ph tf q0 ((28, a, b) :: s) ht st rg tu) {sd wh : Int} (hsw : sd = 2 → wh ≤ 24) : piB (ja_up (mo_NP h 5 sd wh) 55 ((h 0 88)).toNat 1) R r ph tf q0 ((28, a, b) :: s) ht st rg tu := by
  have hN := piB_num g hS hB
  obtain ⟨N1, N2, N3, N4, N5, N6, N7, N8, N9, N10, N11, N12, N13, ⟨NK1, NK2⟩, ND1, ND2, ND3, NU1, NU2⟩ := hN
  obtain ⟨⟨n1, n2, n3, n4, n5, n6, n7, n8, n9⟩, ⟨b1, b2, b3, b4⟩, reg, hpt, ⟨hC, hU⟩, hNo, hP, hT, top⟩ := id hB
  have hpt0 := hpt
  obtain ⟨⟨⟨p1, p1'⟩, p1u⟩, ⟨p2, p2'⟩, p3, p4⟩ := hpt
  have w0 := (gF_wTop g).1
  simp only [pk_sum] at n1 n2 n3 n6 n7
  dsimp only at p2 p2' N6
  have ec28 : pk_c 28 = 0 := rfl
  have ev28 : pk_v 28 = 0 := rfl
  have ed28 : pk_d 28 = 0 := rfl
  have eq28 : pk_q 28 = 0 := rfl
  have ef28 : pk_f 28 = 0 := rfl
  have em28 : pk_m 28 = 1 := rfl
  have eoff28 : pk_off 28 = 1 := rfl
  have ek28 : pk_k r 28 = 0 := rfl
  replace p3 : pt_ok (h 74) ht st rg (h 0 113) (h 0 88) (h 0 77) r (pi_wn h r) (28, a, b) s (ht (h 0 113).toNat - 0) (h 0 109) (st (h 0 113).toNat) tu := p3
  unfold pt_ok at p3; dsimp only at p3
  replace p4 : pt (h 74) ht st rg (h 0 113) (h 0 88) (h 0 77) r tf (pi_wn h r) s (0) ((h 0 109)) (st (h 0 113).toNat) (tu - 1) := p4
  obtain ⟨-, xc, xt, ⟨xe, xu1, xu2⟩, -, -, -, -, -, -, -, -, -, -, -, -, xo14, -, -, -, -, -, -, -, -, xo28, -, -, -, -, -, -⟩ := p3
  replace xo14 := xo14 (by omega)
  have xq1o14 := xo14.1
  have xq2o14 := xo14.2.1
  replace xo28 := xo28 (by omega)
  have gp := (gF_points g).1
  have W0 : 0 ≤ (h 0 113) := (gF_words g).1
  generalize hH : ja_up (mo_NP h 5 sd wh) 55 ((h 0 88)).toNat 1 = H
  have v_nest : (H 0 18) = (h 0 18) := by subst hH; rfl
  have v_at : (H 0 7) = (h 0 7) := by subst hH; rfl
  have v_nodes : (H 0 95) = (h 0 95) := by subst hH; rfl
  have v_wants : (H 0 68) = (h 0 68) := by subst hH; rfl
  have v_quiet : (H 0 84) = (h 0 84) := by subst hH; rfl
  have v_inFlow : (H 0 87) = (h 0 87) := by subst hH; rfl
  have v_known : (H 0 79) = (h 0 79) := by subst hH; rfl
  have v_locals : (H 0 77) = (h 0 77) := by subst hH; rfl
  have v_points : (H 0 88) = (h 0 88) + 1 := by subst hH; rfl
  have v_given : (H 0 21) = (h 0 21) := by subst hH; rfl
  have agX : mo_ag FNP h H := by subst hH; (try unfold mo_L); (try unfold mo_W); (try unfold mo_tk); (try unfold mo_NP); (repeat (refine ag_up rfl ?_)); exact ag_refl
  have hv : ∀ k a b, pw_wt h k a b → pw_wt H k a b := by subst hH; exact fun k x y q => q
  have old : ∀ j : Nat, j ≠ ((h 0 88)).toNat → (H 52) j = (h 52) j ∧ (H 55) j = (h 55) j ∧ (H 54) j = (h 54) j ∧ (H 56) j = (h 56) j ∧ (H 57) j = (h 57) j := by
    intro j hj; subst hH; refine ⟨?_, ?_, ?_, ?_, ?_⟩ <;> simp [mo_L, mo_W, mo_tk, mo_NP, ja_up, hj]
  have nw : (H 52) ((h 0 88)).toNat = 5 ∧ (H 54) ((h 0 88)).toNat = -1 ∧ (H 56) ((h 0 88)).toNat = sd ∧ (H 57) ((h 0 88)).toNat = wh ∧ (H 55) ((h 0 88)).toNat = 1 := by
    subst hH; refine ⟨?_, ?_, ?_, ?_, ?_⟩ <;> simp [mo_L, mo_W, mo_tk, mo_NP, ja_up]
  clear hH
  refine piBP g hB agX v_points hv old ⟨(by rw [nw.1, nw.2.1]; first | exact Or.inl rfl | (exact Or.inr (by omega))), (fun z => by rw [nw.2.2.1] at z; rw [nw.2.2.2.1]; exact hsw z), by rw [nw.1]; decide, (fun z => by rw [nw.1] at z; first | exact absurd z (by decide) | (rw [nw.2.1]; exact hmk))⟩ (fun _ q => q) (fun _ _ q => q) ?_ ?_ ?_ ?_ ?_ ?_ ⟨?_, ?_, ?_⟩ Iff.rfl ⟨id, id⟩ ?_ (⟨fun e => absurd e (by dsimp only; omega), fun e => absurd e (by dsimp only; omega), fun e => absurd e (by dsimp only; omega), fun e => absurd e (by dsimp only; omega)⟩)
  · rw [v_nest]; (try simp only [pk_sum]); omega
  · rw [v_at]; (try simp only [pk_sum]); omega
  · rw [v_at]; (try simp only [pk_sum]); omega
  · rw [v_wants, v_at]; omega
  · rw [v_quiet]; (try simp only [pk_sum]); omega
  · rw [v_inFlow]; (try simp only [pk_sum]); omega
  · rw [v_known, v_locals]; omega
  · rw [v_locals]; omega
  · intro q; rw [v_locals]; exact b4 q
  · rw [v_points, v_locals]
    have hw := fun a => pi_wn_np (r := r) g agX v_points hv old a
    exact pt_ext (Int.le_refl _) (show (h 0 88) ≤ (h 0 88) + 1 by omega) (Int.le_refl _) hw (fun j hj => ⟨fun _ => rfl, rfl, rfl, rfl⟩) hpt0

theorem bs_get {h : ja_H} {R r ph q0 : Int} {tf : mo_TF} {s : List mo_A} {ht st rg : Nat → Int} {tu a b : Int} (g : mo_G Zz h) (hS : pk_S h (h 0 17).toNat s) (hB : piB h R r ph tf q0 ((7, a, b) :: s) ht st rg tu) {sd wh : Int} (hsw : sd = 2 → wh ≤ 24) : piB (ja_up (mo_tk (mo_NP h 3 sd wh)) 54 ((h 0 88)).toNat ((h 0 7) + 1)) R r ph tf q0 ((38, 0, 0) :: s) ht st rg tu := by
  have hN := piB_num g hS hB
  obtain ⟨N1, N2, N3, N4, N5, N6, N7, N8, N9, N10, N11, N12, N13, ⟨NK1, NK2⟩, ND1, ND2, ND3, NU1, NU2⟩ := hN
  obtain ⟨⟨n1, n2, n3, n4, n5, n6, n7, n8, n9⟩, ⟨b1, b2, b3, b4⟩, reg, hpt, ⟨hC, hU⟩, hNo, hP, hT, top⟩ := id hB
  obtain ⟨⟨⟨p1, p1'⟩, p1u⟩, ⟨p2, p2'⟩, p3, p4⟩ := hpt
  have w0 := (gF_wTop g).1
  simp only [pk_sum] at n1 n2 n3 n6 n7
  dsimp only at p2 p2' N6
  have ec7 : pk_c 7 = 0 := rfl
  have ev7 : pk_v 7 = 0 := rfl
  have ed7 : pk_d 7 = 0 := rfl
  have eq7 : pk_q 7 = 0 := rfl
  have ef7 : pk_f 7 = 0 := rfl
  have em7 : pk_m 7 = 1 := rfl
  have eoff7 : pk_off 7 = 2 := rfl
  have ek7 : pk_k r 7 = 0 := rfl
  have ec38 : pk_c 38 = 0 := rfl
  have ev38 : pk_v 38 = 0 := rfl
  have ed38 : pk_d 38 = 0 := rfl
  have eq38 : pk_q 38 = 0 := rfl
  have ef38 : pk_f 38 = 0 := rfl
  have em38 : pk_m 38 = 1 := rfl
  have eoff38 : pk_off 38 = 3 := rfl
  have ek38 : pk_k r 38 = 0 := rfl
  replace p3 : pt_ok (h 74) ht st rg (h 0 113) (h 0 88) (h 0 77) r (pi_wn h r) (7, a, b) s (ht (h 0 113).toNat - 0) (h 0 109) (st (h 0 113).toNat) tu := p3
  unfold pt_ok at p3; dsimp only at p3
  replace p4 : pt (h 74) ht st rg (h 0 113) (h 0 88) (h 0 77) r tf (pi_wn h r) s ((ht (h 0 113).toNat - 0)) ((h 0 109)) (st (h 0 113).toNat) (tu) := p4
  obtain ⟨-, xc, xt, ⟨xe, xu1, xu2⟩, -, -, -, -, -, -, xo7, -, -, -, -, -, -, -, -, -, -, -, -, -, -, -, -, -, -, -, -, -⟩ := p3
  replace xo7 := xo7 (by omega)
  have gp := (gF_points g).1
  have W0 : 0 ≤ (h 0 113) := (gF_words g).1
  generalize hH : ja_up (mo_tk (mo_NP h 3 sd wh)) 54 ((h 0 88)).toNat ((h 0 7) + 1) = H
  have v_nest : (H 0 18) = (h 0 18) := by subst hH; rfl
  have v_at : (H 0 7) = (h 0 7) + 1 := by subst hH; rfl
  have v_nodes : (H 0 95) = (h 0 95) := by subst hH; rfl
  have v_wants : (H 0 68) = (h 0 68) := by subst hH; rfl
  have v_quiet : (H 0 84) = (h 0 84) := by subst hH; rfl
  have v_inFlow : (H 0 87) = (h 0 87) := by subst hH; rfl
  have v_known : (H 0 79) = (h 0 79) := by subst hH; rfl
  have v_locals : (H 0 77) = (h 0 77) := by subst hH; rfl
  have v_points : (H 0 88) = (h 0 88) + 1 := by subst hH; rfl
  have v_given : (H 0 21) = (h 0 21) := by subst hH; rfl
  have agX : mo_ag FNP h H := by subst hH; (try unfold mo_L); (try unfold mo_W); (try unfold mo_tk); (try unfold mo_NP); (repeat (refine ag_up rfl ?_)); exact ag_refl
  have hv : ∀ k a b, pw_wt h k a b → pw_wt H k a b := by subst hH; exact fun k x y q => q
  have old : ∀ j : Nat, j ≠ ((h 0 88)).toNat → (H 52) j = (h 52) j ∧ (H 55) j = (h 55) j ∧ (H 54) j = (h 54) j ∧ (H 56) j = (h 56) j ∧ (H 57) j = (h 57) j := by
    intro j hj; subst hH; refine ⟨?_, ?_, ?_, ?_, ?_⟩ <;> simp [mo_L, mo_W, mo_tk, mo_NP, ja_up, hj]
  have nw : (H 52) ((h 0 88)).toNat = 3 ∧ (H 54) ((h 0 88)).toNat = ((h 0 7) + 1) ∧ (H 56) ((h 0 88)).toNat = sd ∧ (H 57) ((h 0 88)).toNat = wh ∧ (H 55) ((h 0 88)).toNat = 0 := by
    subst hH; refine ⟨?_, ?_, ?_, ?_, ?_⟩ <;> simp [mo_L, mo_W, mo_tk, mo_NP, ja_up]
  clear hH
  refine piBP g hB agX v_points hv old ⟨(by rw [nw.1, nw.2.1]; first | exact Or.inl rfl | (exact Or.inr (by omega))), (fun z => by rw [nw.2.2.1] at z; rw [nw.2.2.2.1]; exact hsw z), by rw [nw.1]; decide, (fun z => by rw [nw.1] at z; first | exact absurd z (by decide) | (rw [nw.2.1]; exact hmk))⟩ (fun w q => by simp only [pj_cons] at q ⊢; rcases q with q | q; exact absurd q ((idle_of (show (7 : Int) ≠ 4 ∧ (7 : Int) ≠ 21 ∧ (7 : Int) ≠ 22 ∧ (7 : Int) ≠ 28 ∧ (7 : Int) ≠ 24 by decide)) w); (repeat (first | exact q | refine Or.inr ?_))) (fun p hp q z => q (by simp only [pp_cons] at z ⊢; rcases z with z | z <;> first | (exact Or.inr z) | (exfalso; simp [pp] at z; try omega))) ?_ ?_ ?_ ?_ ?_ ?_ ⟨?_, ?_, ?_⟩ (by simp only [pi_if, List.mem_cons, exists_eq_or_imp]; simp) ⟨(fun q y hy => by (try simp only [List.mem_cons] at hy); (rcases hy with rfl | hy) <;> first | (exact q _ (List.mem_cons_of_mem _ hy)) | (have := q _ List.mem_cons_self; dsimp only at this ⊢; omega)), (fun q y hy => by (try simp only [List.mem_cons] at hy); (rcases hy with rfl | hy) <;> first | (exact q _ (List.mem_cons_of_mem _ hy)) | (have := q _ List.mem_cons_self; dsimp only at this ⊢; omega))⟩ ?_ (⟨fun e => absurd e (by dsimp only; omega), fun e => absurd e (by dsimp only; omega), fun e => absurd e (by dsimp only; omega), fun e => absurd e (by dsimp only; omega)⟩)
  · rw [v_nest]; (try simp only [pk_sum]); omega
  · rw [v_at]; (try simp only [pk_sum]); omega
  · rw [v_at]; (try simp only [pk_sum]); omega
  · rw [v_wants, v_at]; omega
  · rw [v_quiet]; (try simp only [pk_sum]); omega
  · rw [v_inFlow]; (try simp only [pk_sum]); omega
  · rw [v_known, v_locals]; omega
  · rw [v_locals]; omega
  · intro q; rw [v_locals]; refine b4 (fun z => q ?_); intro y hy; simp only [List.mem_cons] at hy; rcases hy with rfl | hy
    · show (38 : Int) ≠ 17; decide
    · exact z y (List.mem_cons_of_mem _ hy)
  · rw [v_points, v_locals]
    have hw := fun a => pi_wn_np (r := r) g agX v_points hv old a
    exact ⟨⟨⟨by (try simp only [pk_sum]); omega, by (try simp only [pk_sum]); omega⟩, (fun p q => absurd q (by simp [pp]))⟩, ⟨by (try simp only [pk_sum, List.length_cons]); (try dsimp only); omega, (by intro y z e; have q := p2' y z e; dsimp only at q ⊢; omega)⟩, (show pt_ok (h 74) ht st rg (h 0 113) ((h 0 88) + 1) (h 0 77) r (pi_wn H r) (38, 0, 0) (s) (ht (h 0 113).toNat - 0) ((h 0 109)) (st (h 0 113).toNat) (tu) from by unfold pt_ok; (try dsimp only); (try simp only [pk_sum]); exact ⟨⟨by omega, by omega, by omega, by omega⟩, by omega, by omega, ⟨by first | omega | simp, by omega, by omega⟩, fun z => absurd z (by omega), fun z => absurd z (by omega), fun z => absurd z (by omega), fun z => absurd z (by omega), fun z => absurd z (by omega), fun z => absurd z (by omega), fun _ => by first | omega | trivial | (simp only [true_and, and_true]; omega), fun z => absurd z (by omega), fun z => absurd z (by omega), fun z => absurd z (by omega), fun z => absurd z (by omega), fun z => absurd z (by omega), fun z => absurd z (by omega), fun z => absurd z (by omega), fun z => absurd z (by omega), fun z => absurd z (by omega), fun z => absurd z (by omega), fun z => absurd z (by omega), fun z => absurd z (by omega), fun z => absurd z (by omega), fun z => absurd z (by omega), fun z => absurd z (by omega), fun z => absurd z (by omega), fun z => absurd z (by omega), fun z => absurd z (by omega), fun z => absurd z (by omega), fun z => absurd z (by omega), fun z => absurd z (by omega)⟩), (pt_eq (show _ = ht (h 0 113).toNat - 0 by omega) (show _ = (h 0 109) by omega) (show _ = st (h 0 113).toNat by omega) (pt_ext (Int.le_refl _) (show (h 0 88) ≤ (h 0 88) + 1 by omega) (Int.le_refl _) hw (fun j hj => ⟨fun _ => rfl, rfl, rfl, rfl⟩) p4))⟩

theorem bs_call {h : ja_H} {R r ph q0 : Int} {tf : mo_TF} {s : List mo_A} {ht st rg : Nat → Int} {tu a b : Int} (g : mo_G Zz h) (hS : pk_S h (h 0 17).toNat s) (hB : piB h R r ph tf q0 ((7, a, b) :: s) ht st rg tu) {sd wh : Int} (hsw : sd = 2 → wh ≤ 24) (hr3 : r ≤ 3) (hnp : ¬ pp_in s (h 0 88)) : piB (mo_L (mo_L (mo_L (ja_up (mo_tk (ja_up (mo_tk (mo_NP h 3 sd wh)) 54 ((h 0 88)).toNat ((h 0 7) + 1))) 52 ((h 0 88)).toNat 0) 7 0 0 0) 10 ((h 0 88)) 0 0) 8 0 0 0) R r ph tf q0 ((8, 0, 0) :: (10, (h 0 88), 0) :: (7, 0, 0) :: s) ht st rg tu := by
  have hN := piB_num g hS hB
  obtain ⟨N1, N2, N3, N4, N5, N6, N7, N8, N9, N10, N11, N12, N13, ⟨NK1, NK2⟩, ND1, ND2, ND3, NU1, NU2⟩ := hN
  obtain ⟨⟨n1, n2, n3, n4, n5, n6, n7, n8, n9⟩, ⟨b1, b2, b3, b4⟩, reg, hpt, ⟨hC, hU⟩, hNo, hP, hT, top⟩ := id hB
  obtain ⟨⟨⟨p1, p1'⟩, p1u⟩, ⟨p2, p2'⟩, p3, p4⟩ := hpt
  have w0 := (gF_wTop g).1
  simp only [pk_sum] at n1 n2 n3 n6 n7
  dsimp only at p2 p2' N6
  have ec7 : pk_c 7 = 0 := rfl
  have ev7 : pk_v 7 = 0 := rfl
  have ed7 : pk_d 7 = 0 := rfl
  have eq7 : pk_q 7 = 0 := rfl
  have ef7 : pk_f 7 = 0 := rfl
  have em7 : pk_m 7 = 1 := rfl
  have eoff7 : pk_off 7 = 2 := rfl
  have ek7 : pk_k r 7 = 0 := rfl
  have ec8 : pk_c 8 = 0 := rfl
  have ev8 : pk_v 8 = 0 := rfl
  have ed8 : pk_d 8 = 0 := rfl
  have eq8 : pk_q 8 = 0 := rfl
  have ef8 : pk_f 8 = 0 := rfl
  have em8 : pk_m 8 = 1 := rfl
  have eoff8 : pk_off 8 = 4 := rfl
  have ek8 : pk_k r 8 = 0 := rfl
  have ec10 : pk_c 10 = 0 := rfl
  have ev10 : pk_v 10 = 1 := rfl
  have ed10 : pk_d 10 = 0 := rfl
  have eq10 : pk_q 10 = 0 := rfl
  have ef10 : pk_f 10 = 0 := rfl
  have em10 : pk_m 10 = 1 := rfl
  have eoff10 : pk_off 10 = 3 := rfl
  have ek10 : pk_k r 10 = 0 := rfl
  replace p3 : pt_ok (h 74) ht st rg (h 0 113) (h 0 88) (h 0 77) r (pi_wn h r) (7, a, b) s (ht (h 0 113).toNat - 0) (h 0 109) (st (h 0 113).toNat) tu := p3
  unfold pt_ok at p3; dsimp only at p3
  replace p4 : pt (h 74) ht st rg (h 0 113) (h 0 88) (h 0 77) r tf (pi_wn h r) s ((ht (h 0 113).toNat - 0)) ((h 0 109)) (st (h 0 113).toNat) (tu) := p4
  obtain ⟨-, xc, xt, ⟨xe, xu1, xu2⟩, -, -, -, -, -, -, xo7, -, -, -, -, -, -, -, -, -, -, -, -, -, -, -, -, -, -, -, -, -⟩ := p3
  replace xo7 := xo7 (by omega)
  have gp := (gF_points g).1
  have W0 : 0 ≤ (h 0 113) := (gF_words g).1
  generalize hH : mo_L (mo_L (mo_L (ja_up (mo_tk (ja_up (mo_tk (mo_NP h 3 sd wh)) 54 ((h 0 88)).toNat ((h 0 7) + 1))) 52 ((h 0 88)).toNat 0) 7 0 0 0) 10 ((h 0 88)) 0 0) 8 0 0 0 = H
  have v_nest : (H 0 18) = (h 0 18) := by subst hH; rfl
  have v_at : (H 0 7) = (h 0 7) + 1 + 1 := by subst hH; rfl
  have v_nodes : (H 0 95) = (h 0 95) := by subst hH; rfl
  have v_wants : (H 0 68) = (h 0 68) := by subst hH; rfl
  have v_quiet : (H 0 84) = (h 0 84) := by subst hH; rfl
  have v_inFlow : (H 0 87) = (h 0 87) := by subst hH; rfl
  have v_known : (H 0 79) = (h 0 79) := by subst hH; rfl
  have v_locals : (H 0 77) = (h 0 77) := by subst hH; rfl
  have v_points : (H 0 88) = (h 0 88) + 1 := by subst hH; rfl
  have v_given : (H 0 21) = (h 0 21) := by subst hH; rfl
  have agX : mo_ag FNP h H := by subst hH; (try unfold mo_L); (try unfold mo_W); (try unfold mo_tk); (try unfold mo_NP); (repeat (refine ag_up rfl ?_)); exact ag_refl
  have hv : ∀ k a b, pw_wt h k a b → pw_wt H k a b := by subst hH; exact fun k x y q => q
  have old : ∀ j : Nat, j ≠ ((h 0 88)).toNat → (H 52) j = (h 52) j ∧ (H 55) j = (h 55) j ∧ (H 54) j = (h 54) j ∧ (H 56) j = (h 56) j ∧ (H 57) j = (h 57) j := by
    intro j hj; subst hH; refine ⟨?_, ?_, ?_, ?_, ?_⟩ <;> simp [mo_L, mo_W, mo_tk, mo_NP, ja_up, hj]
  have nw : (H 52) ((h 0 88)).toNat = 0 ∧ (H 54) ((h 0 88)).toNat = ((h 0 7) + 1) ∧ (H 56) ((h 0 88)).toNat = sd ∧ (H 57) ((h 0 88)).toNat = wh ∧ (H 55) ((h 0 88)).toNat = 0 := by
    subst hH; refine ⟨?_, ?_, ?_, ?_, ?_⟩ <;> simp [mo_L, mo_W, mo_tk, mo_NP, ja_up]
  clear hH
  refine piBP g hB agX v_points hv old ⟨(by rw [nw.1, nw.2.1]; first | exact Or.inl rfl | (exact Or.inr (by omega))), (fun z => by rw [nw.2.2.1] at z; rw [nw.2.2.2.1]; exact hsw z), by rw [nw.1]; decide, (fun z => by rw [nw.1] at z; first | exact absurd z (by decide) | (rw [nw.2.1]; exact hmk))⟩ (fun w q => by simp only [pj_cons] at q ⊢; rcases q with q | q; exact absurd q ((idle_of (show (7 : Int) ≠ 4 ∧ (7 : Int) ≠ 21 ∧ (7 : Int) ≠ 22 ∧ (7 : Int) ≠ 28 ∧ (7 : Int) ≠ 24 by decide)) w); (repeat (first | exact q | refine Or.inr ?_))) (fun p hp q z => q (by simp only [pp_cons] at z ⊢; rcases z with z | z | z | z <;> first | (exact Or.inr z) | (exfalso; simp [pp] at z; try omega))) ?_ ?_ ?_ ?_ ?_ ?_ ⟨?_, ?_, ?_⟩ (by simp only [pi_if, List.mem_cons, exists_eq_or_imp]; simp) ⟨(fun q y hy => by (try simp only [List.mem_cons] at hy); (rcases hy with rfl | rfl | rfl | hy) <;> first | (exact q _ (List.mem_cons_of_mem _ hy)) | (have := q _ List.mem_cons_self; dsimp only at this ⊢; omega)), (fun q y hy => by (try simp only [List.mem_cons] at hy); (rcases hy with rfl | rfl | rfl | hy) <;> first | (exact q _ (List.mem_cons_of_mem _ hy)) | (have := q _ List.mem_cons_self; dsimp only at this ⊢; omega))⟩ ?_ (⟨fun e => absurd e (by dsimp only; omega), fun e => absurd e (by dsimp only; omega), fun e => absurd e (by dsimp only; omega), fun e => absurd e (by dsimp only; omega)⟩)
  · rw [v_nest]; (try simp only [pk_sum]); omega
  · rw [v_at]; (try simp only [pk_sum]); omega
  · rw [v_at]; (try simp only [pk_sum]); omega
  · rw [v_wants, v_at]; omega
  · rw [v_quiet]; (try simp only [pk_sum]); omega
  · rw [v_inFlow]; (try simp only [pk_sum]); omega
  · rw [v_known, v_locals]; omega
  · rw [v_locals]; omega
  · intro q; rw [v_locals]; refine b4 (fun z => q ?_); intro y hy; simp only [List.mem_cons] at hy; rcases hy with rfl | rfl | rfl | hy
    · show (8 : Int) ≠ 17; decide
    · show (10 : Int) ≠ 17; decide
    · show (7 : Int) ≠ 17; decide
    · exact z y (List.mem_cons_of_mem _ hy)
  · rw [v_points, v_locals]
    have hw := fun a => pi_wn_np (r := r) g agX v_points hv old a
    exact ⟨⟨⟨by (try simp only [pk_sum]); omega, by (try simp only [pk_sum]); omega⟩, (fun p q => absurd q (by simp [pp]))⟩, ⟨by (try simp only [pk_sum, List.length_cons]); (try dsimp only); omega, (by intro y z e; cases e; dsimp only; omega)⟩, (show pt_ok (h 74) ht st rg (h 0 113) ((h 0 88) + 1) (h 0 77) r (pi_wn H r) (8, 0, 0) ((10, (h 0 88), 0) :: (7, 0, 0) :: s) (ht (h 0 113).toNat - 0) ((h 0 109)) (st (h 0 113).toNat) (tu) from by unfold pt_ok; (try dsimp only); (try simp only [pk_sum]); exact ⟨⟨by omega, by omega, by omega, by omega⟩, by omega, by omega, ⟨by first | omega | simp, by omega, by omega⟩, fun z => absurd z (by omega), fun z => absurd z (by omega), fun z => absurd z (by omega), fun z => absurd z (by omega), fun z => absurd z (by omega), fun z => absurd z (by omega), fun z => absurd z (by omega), fun _ => ⟨_, _, rfl, by dsimp only; omega⟩, fun z => absurd z (by omega), fun z => absurd z (by omega), fun z => absurd z (by omega), fun z => absurd z (by omega), fun z => absurd z (by omega), fun z => absurd z (by omega), fun z => absurd z (by omega), fun z => absurd z (by omega), fun z => absurd z (by omega), fun z => absurd z (by omega), fun z => absurd z (by omega), fun z => absurd z (by omega), fun z => absurd z (by omega), fun z => absurd z (by omega), fun z => absurd z (by omega), fun z => absurd z (by omega), fun z => absurd z (by omega), fun z => absurd z (by omega), fun z => absurd z (by omega), fun z => absurd z (by omega)⟩), ⟨⟨⟨by (try simp only [pk_sum]); omega, by (try simp only [pk_sum]); omega⟩, (fun p q z => by have hq : p = (h 0 88) := (by simp [pp] at q; omega); subst hq; simp only [pp_cons] at z; rcases z with z | z; (simp [pp] at z); exact hnp z)⟩, ⟨by (try simp only [pk_sum, List.length_cons]); (try dsimp only); omega, (by intro y z e; cases e; dsimp only; omega)⟩, (show pt_ok (h 74) ht st rg (h 0 113) ((h 0 88) + 1) (h 0 77) r (pi_wn H r) (10, (h 0 88), 0) ((7, 0, 0) :: s) (ht (h 0 113).toNat - 0) ((h 0 109)) (st (h 0 113).toNat) (tu) from by unfold pt_ok; (try dsimp only); (try simp only [pk_sum]); exact ⟨⟨by omega, by omega, by omega, by omega⟩, by omega, by omega, ⟨by first | omega | simp, by omega, by omega⟩, fun z => absurd z (by omega), fun z => absurd z (by omega), fun z => absurd z (by omega), fun z => absurd z (by omega), fun z => absurd z (by omega), fun z => absurd z (by omega), fun z => absurd z (by omega), fun z => absurd z (by omega), fun z => absurd z (by omega), fun _ => ⟨by omega, by omega, by omega, by omega, ⟨⟨fun z => absurd z (by omega), fun z => absurd z (by omega)⟩, fun z => absurd z.2 (by omega), fun _ => by rw [v_points, show (1000000 + (h 0 88) - 1000000 : Int) = (h 0 88) by omega]; exact ⟨by omega, nw.1⟩, fun z => absurd z.2 (by have := (gF_points g).2; omega), fun z => absurd z (by have := (gF_points g).2; omega)⟩, hr3⟩, fun z => absurd z (by omega), fun z => absurd z (by omega), fun z => absurd z (by omega), fun z => absurd z (by omega), fun z => absurd z (by omega), fun z => absurd z (by omega), fun z => absurd z (by omega), fun z => absurd z (by omega), fun z => absurd z (by omega), fun z => absurd z (by omega), fun z => absurd z (by omega), fun z => absurd z (by omega), fun z => absurd z (by omega), fun z => absurd z (by omega), fun z => absurd z (by omega), fun z => absurd z (by omega), fun z => absurd z (by omega), fun z => absurd z (by omega)⟩), ⟨⟨⟨by (try simp only [pk_sum]); omega, by (try simp only [pk_sum]); omega⟩, (fun p q => absurd q (by simp [pp]))⟩, ⟨by (try simp only [pk_sum, List.length_cons]); (try dsimp only); omega, (by intro y z e; have q := p2' y z e; dsimp only at q ⊢; omega)⟩, (show pt_ok (h 74) ht st rg (h 0 113) ((h 0 88) + 1) (h 0 77) r (pi_wn H r) (7, 0, 0) (s) (ht (h 0 113).toNat - 0) ((h 0 109)) (st (h 0 113).toNat) (tu) from by unfold pt_ok; (try dsimp only); (try simp only [pk_sum]); exact ⟨⟨by omega, by omega, by omega, by omega⟩, by omega, by omega, ⟨by first | omega | simp, by omega, by omega⟩, fun z => absurd z (by omega), fun z => absurd z (by omega), fun z => absurd z (by omega), fun z => absurd z (by omega), fun z => absurd z (by omega), fun z => absurd z (by omega), fun _ => by first | omega | trivial | (simp only [true_and, and_true]; omega), fun z => absurd z (by omega), fun z => absurd z (by omega), fun z => absurd z (by omega), fun z => absurd z (by omega), fun z => absurd z (by omega), fun z => absurd z (by omega), fun z => absurd z (by omega), fun z => absurd z (by omega), fun z => absurd z (by omega), fun z => absurd z (by omega), fun z => absurd z (by omega), fun z => absurd z (by omega), fun z => absurd z (by omega), fun z => absurd z (by omega), fun z => absurd z (by omega), fun z => absurd z (by omega), fun z => absurd z (by omega), fun z => absurd z (by omega), fun z => absurd z (by omega), fun z => absurd z (by omega), fun z => absurd z (by omega)⟩), (pt_eq (show _ = ht (h 0 113).toNat - 0 by omega) (show _ = (h 0 109) by omega) (show _ = st (h 0 113).toNat by omega) (pt_ext (Int.le_refl _) (show (h 0 88) ≤ (h 0 88) + 1 by omega) (Int.le_refl _) hw (fun j hj => ⟨fun _ => rfl, rfl, rfl, rfl⟩) p4))⟩⟩⟩

theorem bs_new {h : ja_H} {R r ph q0 : Int} {tf : mo_TF} {s : List mo_A} {ht st rg : Nat → Int} {tu a b : Int} (g : mo_G Zz h) (hS : pk_S h (h 0 17).toNat s) (hB : piB h R r ph tf q0 ((6, a, b) :: s) ht st rg tu) {sd wh : Int} (hsw : sd = 2 → wh ≤ 24) (hr3 : r ≤ 3) (hnp : ¬ pp_in s (h 0 88)) : piB (mo_L (mo_L (mo_L (mo_W (mo_tk (ja_up (mo_tk (mo_NP h 2 sd wh)) 54 ((h 0 88)).toNat ((h 0 7) + 1))) 0 ((h 0 7) + 1) 0) 7 0 0 0) 11 ((h 0 88)) 0 0) 8 0 0 0) R r ph tf q0 ((8, 0, 0) :: (11, (h 0 88), 0) :: (7, 0, 0) :: s) ht st rg tu := by
  have hN := piB_num g hS hB
  obtain ⟨N1, N2, N3, N4, N5, N6, N7, N8, N9, N10, N11, N12, N13, ⟨NK1, NK2⟩, ND1, ND2, ND3, NU1, NU2⟩ := hN
  obtain ⟨⟨n1, n2, n3, n4, n5, n6, n7, n8, n9⟩, ⟨b1, b2, b3, b4⟩, reg, hpt, ⟨hC, hU⟩, hNo, hP, hT, top⟩ := id hB
  obtain ⟨⟨⟨p1, p1'⟩, p1u⟩, ⟨p2, p2'⟩, p3, p4⟩ := hpt
  have w0 := (gF_wTop g).1
  simp only [pk_sum] at n1 n2 n3 n6 n7
  dsimp only at p2 p2' N6
  have ec6 : pk_c 6 = 0 := rfl
  have ev6 : pk_v 6 = (-4) := rfl
  have ed6 : pk_d 6 = 0 := rfl
  have eq6 : pk_q 6 = 0 := rfl
  have ef6 : pk_f 6 = 0 := rfl
  have em6 : pk_m 6 = (-12) := rfl
  have eoff6 : pk_off 6 = 2 := rfl
  have ek6 : pk_k r 6 = 0 := rfl
  have ec7 : pk_c 7 = 0 := rfl
  have ev7 : pk_v 7 = 0 := rfl
  have ed7 : pk_d 7 = 0 := rfl
  have eq7 : pk_q 7 = 0 := rfl
  have ef7 : pk_f 7 = 0 := rfl
  have em7 : pk_m 7 = 1 := rfl
  have eoff7 : pk_off 7 = 2 := rfl
  have ek7 : pk_k r 7 = 0 := rfl
  have ec8 : pk_c 8 = 0 := rfl
  have ev8 : pk_v 8 = 0 := rfl
  have ed8 : pk_d 8 = 0 := rfl
  have eq8 : pk_q 8 = 0 := rfl
  have ef8 : pk_f 8 = 0 := rfl
  have em8 : pk_m 8 = 1 := rfl
  have eoff8 : pk_off 8 = 4 := rfl
  have ek8 : pk_k r 8 = 0 := rfl
  have ec11 : pk_c 11 = 0 := rfl
  have ev11 : pk_v 11 = 1 := rfl
  have ed11 : pk_d 11 = 0 := rfl
  have eq11 : pk_q 11 = 0 := rfl
  have ef11 : pk_f 11 = 0 := rfl
  have em11 : pk_m 11 = 1 := rfl
  have eoff11 : pk_off 11 = 3 := rfl
  have ek11 : pk_k r 11 = 0 := rfl
  replace p3 : pt_ok (h 74) ht st rg (h 0 113) (h 0 88) (h 0 77) r (pi_wn h r) (6, a, b) s (ht (h 0 113).toNat - 0) (h 0 109) (st (h 0 113).toNat) tu := p3
  unfold pt_ok at p3; dsimp only at p3
  replace p4 : pt (h 74) ht st rg (h 0 113) (h 0 88) (h 0 77) r tf (pi_wn h r) s ((ht (h 0 113).toNat - 0) + 1) ((h 0 109)) (st (h 0 113).toNat) (tu) := p4
  obtain ⟨-, xc, xt, ⟨xe, xu1, xu2⟩, -, -, -, -, -, xo6, -, -, -, -, -, -, -, -, -, -, -, -, -, -, -, -, -, -, -, -, -, -⟩ := p3
  replace xo6 := xo6 (by omega)
  have gp := (gF_points g).1
  have W0 : 0 ≤ (h 0 113) := (gF_words g).1
  have hvq : ∀ k x y, pw_wt h k x y → pw_wt (mo_L (mo_L (mo_L (mo_W (mo_tk (ja_up (mo_tk (mo_NP h 2 sd wh)) 54 ((h 0 88)).toNat ((h 0 7) + 1))) 0 ((h 0 7) + 1) 0) 7 0 0 0) 11 ((h 0 88)) 0 0) 8 0 0 0) k x y := fun k x y q => mo_W_wt (h := mo_tk (ja_up (mo_tk (mo_NP h 2 sd wh)) 54 ((h 0 88)).toNat ((h 0 7) + 1))) (gF_wants g).1 q
  have hmk0 : pw_wt (mo_L (mo_L (mo_L (mo_W (mo_tk (ja_up (mo_tk (mo_NP h 2 sd wh)) 54 ((h 0 88)).toNat ((h 0 7) + 1))) 0 ((h 0 7) + 1) 0) 7 0 0 0) 11 ((h 0 88)) 0 0) 8 0 0 0) 0 ((h 0 7) + 1) 0 := mo_W_new (h := mo_tk (ja_up (mo_tk (mo_NP h 2 sd wh)) 54 ((h 0 88)).toNat ((h 0 7) + 1))) (gF_wants g).1
  generalize hH : mo_L (mo_L (mo_L (mo_W (mo_tk (ja_up (mo_tk (mo_NP h 2 sd wh)) 54 ((h 0 88)).toNat ((h 0 7) + 1))) 0 ((h 0 7) + 1) 0) 7 0 0 0) 11 ((h 0 88)) 0 0) 8 0 0 0 = H
  have v_nest : (H 0 18) = (h 0 18) := by subst hH; rfl
  have v_at : (H 0 7) = (h 0 7) + 1 + 1 := by subst hH; rfl
  have v_nodes : (H 0 95) = (h 0 95) := by subst hH; rfl
  have v_wants : (H 0 68) = (h 0 68) + 1 := by subst hH; rfl
  have v_quiet : (H 0 84) = (h 0 84) := by subst hH; rfl
  have v_inFlow : (H 0 87) = (h 0 87) := by subst hH; rfl
  have v_known : (H 0 79) = (h 0 79) := by subst hH; rfl
  have v_locals : (H 0 77) = (h 0 77) := by subst hH; rfl
  have v_points : (H 0 88) = (h 0 88) + 1 := by subst hH; rfl
  have v_given : (H 0 21) = (h 0 21) := by subst hH; rfl
  have agX : mo_ag FNP h H := by subst hH; (try unfold mo_L); (try unfold mo_W); (try unfold mo_tk); (try unfold mo_NP); (repeat (refine ag_up rfl ?_)); exact ag_refl
  have hv : ∀ k a b, pw_wt h k a b → pw_wt H k a b := by subst hH; exact fun k x y q => hvq k x y q
  have old : ∀ j : Nat, j ≠ ((h 0 88)).toNat → (H 52) j = (h 52) j ∧ (H 55) j = (h 55) j ∧ (H 54) j = (h 54) j ∧ (H 56) j = (h 56) j ∧ (H 57) j = (h 57) j := by
    intro j hj; subst hH; refine ⟨?_, ?_, ?_, ?_, ?_⟩ <;> simp [mo_L, mo_W, mo_tk, mo_NP, ja_up, hj]
  have nw : (H 52) ((h 0 88)).toNat = 2 ∧ (H 54) ((h 0 88)).toNat = ((h 0 7) + 1) ∧ (H 56) ((h 0 88)).toNat = sd ∧ (H 57) ((h 0 88)).toNat = wh ∧ (H 55) ((h 0 88)).toNat = 0 := by
    subst hH; refine ⟨?_, ?_, ?_, ?_, ?_⟩ <;> simp [mo_L, mo_W, mo_tk, mo_NP, ja_up]
  have hmk : pw_wt H 0 ((h 0 7) + 1) 0 := by subst hH; exact hmk0
  clear hH
  refine piBP g hB agX v_points hv old ⟨(by rw [nw.1, nw.2.1]; first | exact Or.inl rfl | (exact Or.inr (by omega))), (fun z => by rw [nw.2.2.1] at z; rw [nw.2.2.2.1]; exact hsw z), by rw [nw.1]; decide, (fun z => by rw [nw.1] at z; first | exact absurd z (by decide) | (rw [nw.2.1]; exact hmk))⟩ (fun w q => by simp only [pj_cons] at q ⊢; rcases q with q | q; exact absurd q ((idle_of (show (6 : Int) ≠ 4 ∧ (6 : Int) ≠ 21 ∧ (6 : Int) ≠ 22 ∧ (6 : Int) ≠ 28 ∧ (6 : Int) ≠ 24 by decide)) w); (repeat (first | exact q | refine Or.inr ?_))) (fun p hp q z => q (by simp only [pp_cons] at z ⊢; rcases z with z | z | z | z <;> first | (exact Or.inr z) | (exfalso; simp [pp] at z; try omega))) ?_ ?_ ?_ ?_ ?_ ?_ ⟨?_, ?_, ?_⟩ (by simp only [pi_if, List.mem_cons, exists_eq_or_imp]; simp) ⟨(fun q y hy => by (try simp only [List.mem_cons] at hy); (rcases hy with rfl | rfl | rfl | hy) <;> first | (exact q _ (List.mem_cons_of_mem _ hy)) | (have := q _ List.mem_cons_self; dsimp only at this ⊢; omega)), (fun q y hy => by (try simp only [List.mem_cons] at hy); (rcases hy with rfl | rfl | rfl | hy) <;> first | (exact q _ (List.mem_cons_of_mem _ hy)) | (have := q _ List.mem_cons_self; dsimp only at this ⊢; omega))⟩ ?_ (⟨fun e => absurd e (by dsimp only; omega), fun e => absurd e (by dsimp only; omega), fun e => absurd e (by dsimp only; omega), fun e => absurd e (by dsimp only; omega)⟩)
  · rw [v_nest]; (try simp only [pk_sum]); omega
  · rw [v_at]; (try simp only [pk_sum]); omega
  · rw [v_at]; (try simp only [pk_sum]); omega
  · rw [v_wants, v_at]; omega
  · rw [v_quiet]; (try simp only [pk_sum]); omega
  · rw [v_inFlow]; (try simp only [pk_sum]); omega
  · rw [v_known, v_locals]; omega
  · rw [v_locals]; omega
  · intro q; rw [v_locals]; refine b4 (fun z => q ?_); intro y hy; simp only [List.mem_cons] at hy; rcases hy with rfl | rfl | rfl | hy
    · show (8 : Int) ≠ 17; decide
    · show (11 : Int) ≠ 17; decide
    · show (7 : Int) ≠ 17; decide
    · exact z y (List.mem_cons_of_mem _ hy)
  · rw [v_points, v_locals]
    have hw := fun a => pi_wn_np (r := r) g agX v_points hv old a
    exact ⟨⟨⟨by (try simp only [pk_sum]); omega, by (try simp only [pk_sum]); omega⟩, (fun p q => absurd q (by simp [pp]))⟩, ⟨by (try simp only [pk_sum, List.length_cons]); (try dsimp only); omega, (by intro y z e; cases e; dsimp only; omega)⟩, (show pt_ok (h 74) ht st rg (h 0 113) ((h 0 88) + 1) (h 0 77) r (pi_wn H r) (8, 0, 0) ((11, (h 0 88), 0) :: (7, 0, 0) :: s) (ht (h 0 113).toNat - 0) ((h 0 109)) (st (h 0 113).toNat) (tu) from by unfold pt_ok; (try dsimp only); (try simp only [pk_sum]); exact ⟨⟨by omega, by omega, by omega, by omega⟩, by omega, by omega, ⟨by first | omega | simp, by omega, by omega⟩, fun z => absurd z (by omega), fun z => absurd z (by omega), fun z => absurd z (by omega), fun z => absurd z (by omega), fun z => absurd z (by omega), fun z => absurd z (by omega), fun z => absurd z (by omega), fun _ => ⟨_, _, rfl, by dsimp only; omega⟩, fun z => absurd z (by omega), fun z => absurd z (by omega), fun z => absurd z (by omega), fun z => absurd z (by omega), fun z => absurd z (by omega), fun z => absurd z (by omega), fun z => absurd z (by omega), fun z => absurd z (by omega), fun z => absurd z (by omega), fun z => absurd z (by omega), fun z => absurd z (by omega), fun z => absurd z (by omega), fun z => absurd z (by omega), fun z => absurd z (by omega), fun z => absurd z (by omega), fun z => absurd z (by omega), fun z => absurd z (by omega), fun z => absurd z (by omega), fun z => absurd z (by omega), fun z => absurd z (by omega)⟩), ⟨⟨⟨by (try simp only [pk_sum]); omega, by (try simp only [pk_sum]); omega⟩, (fun p q z => by have hq : p = (h 0 88) := (by simp [pp] at q; omega); subst hq; simp only [pp_cons] at z; rcases z with z | z; (simp [pp] at z); exact hnp z)⟩, ⟨by (try simp only [pk_sum, List.length_cons]); (try dsimp only); omega, (by intro y z e; cases e; dsimp only; omega)⟩, (show pt_ok (h 74) ht st rg (h 0 113) ((h 0 88) + 1) (h 0 77) r (pi_wn H r) (11, (h 0 88), 0) ((7, 0, 0) :: s) (ht (h 0 113).toNat - 0) ((h 0 109)) (st (h 0 113).toNat) (tu) from by unfold pt_ok; (try dsimp only); (try simp only [pk_sum]); exact ⟨⟨by omega, by omega, by omega, by omega⟩, by omega, by omega, ⟨by first | omega | simp, by omega, by omega⟩, fun z => absurd z (by omega), fun z => absurd z (by omega), fun z => absurd z (by omega), fun z => absurd z (by omega), fun z => absurd z (by omega), fun z => absurd z (by omega), fun z => absurd z (by omega), fun z => absurd z (by omega), fun z => absurd z (by omega), fun z => absurd z (by omega), fun _ => ⟨by omega, by omega, by omega, ⟨⟨fun z => absurd z (by omega), fun z => absurd z (by omega)⟩, fun z => absurd z.2 (by omega), fun z => absurd z.2 (by omega), fun _ => by rw [v_points, show (2000000 + (h 0 88) - 2000000 : Int) = (h 0 88) by omega]; exact ⟨by omega, nw.1⟩, fun z => absurd z (by have := (gF_points g).2; omega)⟩, hr3⟩, fun z => absurd z (by omega), fun z => absurd z (by omega), fun z => absurd z (by omega), fun z => absurd z (by omega), fun z => absurd z (by omega), fun z => absurd z (by omega), fun z => absurd z (by omega), fun z => absurd z (by omega), fun z => absurd z (by omega), fun z => absurd z (by omega), fun z => absurd z (by omega), fun z => absurd z (by omega), fun z => absurd z (by omega), fun z => absurd z (by omega), fun z => absurd z (by omega), fun z => absurd z (by omega), fun z => absurd z (by omega)⟩), ⟨⟨⟨by (try simp only [pk_sum]); omega, by (try simp only [pk_sum]); omega⟩, (fun p q => absurd q (by simp [pp]))⟩, ⟨by (try simp only [pk_sum, List.length_cons]); (try dsimp only); omega, (by intro y z e; have q := p2' y z e; dsimp only at q ⊢; omega)⟩, (show pt_ok (h 74) ht st rg (h 0 113) ((h 0 88) + 1) (h 0 77) r (pi_wn H r) (7, 0, 0) (s) (ht (h 0 113).toNat - 0 + 1) ((h 0 109)) (st (h 0 113).toNat) (tu) from by unfold pt_ok; (try dsimp only); (try simp only [pk_sum]); exact ⟨⟨by omega, by omega, by omega, by omega⟩, by omega, by omega, ⟨by first | omega | simp, by omega, by omega⟩, fun z => absurd z (by omega), fun z => absurd z (by omega), fun z => absurd z (by omega), fun z => absurd z (by omega), fun z => absurd z (by omega), fun z => absurd z (by omega), fun _ => by first | omega | trivial | (simp only [true_and, and_true]; omega), fun z => absurd z (by omega), fun z => absurd z (by omega), fun z => absurd z (by omega), fun z => absurd z (by omega), fun z => absurd z (by omega), fun z => absurd z (by omega), fun z => absurd z (by omega), fun z => absurd z (by omega), fun z => absurd z (by omega), fun z => absurd z (by omega), fun z => absurd z (by omega), fun z => absurd z (by omega), fun z => absurd z (by omega), fun z => absurd z (by omega), fun z => absurd z (by omega), fun z => absurd z (by omega), fun z => absurd z (by omega), fun z => absurd z (by omega), fun z => absurd z (by omega), fun z => absurd z (by omega), fun z => absurd z (by omega)⟩), (pt_eq (show _ = ht (h 0 113).toNat - 0 + 1 by omega) (show _ = (h 0 109) by omega) (show _ = st (h 0 113).toNat by omega) (pt_ext (Int.le_refl _) (show (h 0 88) ≤ (h 0 88) + 1 by omega) (Int.le_refl _) hw (fun j hj => ⟨fun _ => rfl, rfl, rfl, rfl⟩) p4))⟩⟩⟩

/-- a POINT that is none yet doesn't wait -/
theorem pp_old {op ht st rg : Nat → Int} {W P lo r : Int} {tf : mo_TF} {wn : Int → Prop} : ∀ {s : List mo_A} {c t e tu : Int}, pt op ht st rg W P lo r tf wn s c t e tu → ∀ p, pp_in s p → p < P
  | [], _, _, _, _, _, p, ⟨y, hy, _⟩ => by cases hy
  | x :: s, c, t, e, tu, q, p, z => by
    obtain ⟨-, -, q3, q4⟩ := q
    rcases pp_cons.mp z with z | z
    · obtain ⟨-, -, -, -, -, -, -, -, -, -, -, -, -, o10, o11, -, -, -, -, -, o19, -⟩ := q3
      rcases z with ⟨z1 | z1, z2⟩ | ⟨z1, z2, z3⟩
      · rw [← z2]; exact (o10 z1).2.2.2.1
      · rw [← z2]; exact (o11 z1).2.2.1
      · rcases (o19 z1).2.2 with a | a | a
        · rw [← z3]; exact a.2.2.2.1
        · omega
        · omega
    · exact pp_old q4 p z
theorem pp_new {h : ja_H} {R r ph q0 : Int} {tf : mo_TF} {x : mo_A} {s : List mo_A} {ht st rg : Nat → Int} {tu : Int} (hB : piB h R r ph tf q0 (x :: s) ht st rg tu) : ¬ pp_in s (h 0 88) := by
  obtain ⟨-, -, -, hpt, -⟩ := hB
  intro z
  have := pp_old hpt _ (pp_cons.mpr (Or.inr z))
  omega
theorem pw_new {h : ja_H} {R r ph q0 : Int} {tf : mo_TF} {s : List mo_A} {ht st rg : Nat → Int} {tu : Int} (hB : piB h R r ph tf q0 s ht st rg tu) (w : Nat) (hw : (w : Int) < (h 0 113)) (z : (h 74) w = 15) : (h 75) w ≠ (h 0 88) := by
  obtain ⟨-, -, -, -, ⟨hC, -⟩, -⟩ := hB
  obtain ⟨-, -, -, -, -, -, -, -, -, -, -, c12, -⟩ := hC w hw
  have := (c12 z).2.1
  omega

theorem bs_tried {h : ja_H} {R r ph q0 : Int} {tf : mo_TF} {s : List mo_A} {ht st rg : Nat → Int} {tu a b : Int} (g : mo_G Zz h) (hS : pk_S h (h 0 17).toNat s) (hB : piB h R r ph tf q0 ((28, a, b) :: s) ht st rg tu) {p f fa v : Int} (hp : 0 ≤ p ∧ p < (h 0 88)) (hk : (h 52) p.toNat = 5 ∧ (h 55) p.toNat = 1) (hne : ∀ w : Nat, (w : Int) < (h 0 113) → (h 74) w = 15 → (h 75) w ≠ p) (hns : ¬ pp_in s p) (hl : (h 0 77) ≤ 9) (hf0 : f = 0 → (h 0 11) = 0) : pi_done h (mo_L (mo_L (mo_L (mo_E (mo_E (ja_up (ja_up (ja_up (ja_up (ja_up (ja_up (mo_tk (mo_tk (ja_up (mo_E (h) 24 0 0) 75 (a).toNat ((h 0 113) + 1)))) 0 11 (f)) 0 12 (fa)) 49 ((h 0 79)).toNat (v)) 50 ((h 0 79)).toNat ((h 0 77))) 0 79 ((h 0 79) + 1)) 0 77 ((h 0 77) + 1)) 15 p 0) 5 ((h 0 77) + 1 - 1) 0) 22 (h 0 113) 0 0) 16 (h 0 79) 0 0) 14 0 0 0) R r ph tf q0 (pi_mu h ((28, a, b) :: s)) := by
  have hN := piB_num g hS hB
  obtain ⟨N1, N2, N3, N4, N5, N6, N7, N8, N9, N10, N11, N12, N13, ⟨NK1, NK2⟩, ND1, ND2, ND3, NU1, NU2⟩ := hN
  obtain ⟨⟨n1, n2, n3, n4, n5, n6, n7, n8, n9⟩, ⟨b1, b2, b3, b4⟩, reg, hpt, ⟨hC, hU⟩, hNo, hP, hT, top⟩ := id hB
  obtain ⟨⟨⟨p1, p1'⟩, p1u⟩, ⟨p2, p2'⟩, p3, p4⟩ := hpt
  have w0 := (gF_wTop g).1
  simp only [pk_sum] at n1 n2 n3 n6 n7
  dsimp only at p2 p2' N6
  have ec14 : pk_c 14 = 0 := rfl
  have ev14 : pk_v 14 = 0 := rfl
  have ed14 : pk_d 14 = 0 := rfl
  have eq14 : pk_q 14 = 0 := rfl
  have ef14 : pk_f 14 = 0 := rfl
  have em14 : pk_m 14 = 1 := rfl
  have eoff14 : pk_off 14 = 4 := rfl
  have ek14 : pk_k r 14 = 0 := rfl
  have ec16 : pk_c 16 = 0 := rfl
  have ev16 : pk_v 16 = 0 := rfl
  have ed16 : pk_d 16 = 0 := rfl
  have eq16 : pk_q 16 = 0 := rfl
  have ef16 : pk_f 16 = 0 := rfl
  have em16 : pk_m 16 = 1 := rfl
  have eoff16 : pk_off 16 = 4 := rfl
  have ek16 : pk_k r 16 = 0 := rfl
  have ec22 : pk_c 22 = 0 := rfl
  have ev22 : pk_v 22 = 0 := rfl
  have ed22 : pk_d 22 = 0 := rfl
  have eq22 : pk_q 22 = 0 := rfl
  have ef22 : pk_f 22 = 0 := rfl
  have em22 : pk_m 22 = 1 := rfl
  have eoff22 : pk_off 22 = 1 := rfl
  have ek22 : pk_k r 22 = 0 := rfl
  have ec28 : pk_c 28 = 0 := rfl
  have ev28 : pk_v 28 = 0 := rfl
  have ed28 : pk_d 28 = 0 := rfl
  have eq28 : pk_q 28 = 0 := rfl
  have ef28 : pk_f 28 = 0 := rfl
  have em28 : pk_m 28 = 1 := rfl
  have eoff28 : pk_off 28 = 1 := rfl
  have ek28 : pk_k r 28 = 0 := rfl
  replace p3 : pt_ok (h 74) ht st rg (h 0 113) (h 0 88) (h 0 77) r (pi_wn h r) (28, a, b) s (ht (h 0 113).toNat - 0) (h 0 109) (st (h 0 113).toNat) tu := p3
  unfold pt_ok at p3; dsimp only at p3
  replace p4 : pt (h 74) ht st rg (h 0 113) (h 0 88) (h 0 77) r tf (pi_wn h r) s (0) ((h 0 109)) (st (h 0 113).toNat) (tu - 1) := p4
  obtain ⟨-, xc, xt, ⟨xe, xu1, xu2⟩, -, -, -, -, -, -, -, -, -, -, -, -, xo14, -, -, -, -, -, -, -, -, xo28, -, -, -, -, -, -⟩ := p3
  replace xo14 := xo14 (by omega)
  have xq1o14 := xo14.1
  have xq2o14 := xo14.2.1
  replace xo28 := xo28 (by omega)
  have hr := reg_of hB (by dsimp only; omega) (by dsimp only; omega)
  have hbo := gF_body g
  have W0 : 0 ≤ (h 0 113) := (gF_words g).1
  have hr4 : 0 ≤ r ∧ r ≤ 3 ∧ (r = 4 → tu = 0) := by
    rcases reg with ⟨q1, q2, -⟩ | ⟨q1, q2, q3, -⟩
    · omega
    · have := q3 _ List.mem_cons_self; dsimp only at this; omega
  have hph : ph ≠ 1 := by
    rcases reg with ⟨q1, -⟩ | ⟨q1, q2, q3, -⟩
    · omega
    · have := q3 _ List.mem_cons_self; dsimp only at this; omega
  obtain ⟨z1, z2, z3, z4, z5⟩ := xo28.1
  have ea : ((a.toNat : Nat) : Int) = a := by omega
  have ca : 0 ≤ rg a.toNat := (hC a.toNat (by omega)).2.2.1.1
  have gk := gF_known g
  generalize hH : mo_L (mo_L (mo_L (mo_E (mo_E (ja_up (ja_up (ja_up (ja_up (ja_up (ja_up (mo_tk (mo_tk (ja_up (mo_E (h) 24 0 0) 75 (a).toNat ((h 0 113) + 1)))) 0 11 (f)) 0 12 (fa)) 49 ((h 0 79)).toNat (v)) 50 ((h 0 79)).toNat ((h 0 77))) 0 79 ((h 0 79) + 1)) 0 77 ((h 0 77) + 1)) 15 p 0) 5 ((h 0 77) + 1 - 1) 0) 22 (h 0 113) 0 0) 16 (h 0 79) 0 0) 14 0 0 0 = H
  have v_nest : (H 0 18) = (h 0 18) := by subst hH; rfl
  have v_at : (H 0 7) = (h 0 7) + 1 + 1 := by subst hH; rfl
  have v_nodes : (H 0 95) = (h 0 95) := by subst hH; rfl
  have v_wants : (H 0 68) = (h 0 68) := by subst hH; rfl
  have v_quiet : (H 0 84) = (h 0 84) := by subst hH; rfl
  have v_inFlow : (H 0 87) = (h 0 87) := by subst hH; rfl
  have v_known : (H 0 79) = (h 0 79) + 1 := by subst hH; rfl
  have v_locals : (H 0 77) = (h 0 77) + 1 := by subst hH; rfl
  have v_words : (H 0 113) = (h 0 113) + 1 + 1 + 1 := by subst hH; rfl
  have v_given : (H 0 21) = (h 0 21) := by subst hH; rfl
  have hS' : pk_S H (H 0 17).toNat ((14, 0, 0) :: (16, (h 0 79), 0) :: (22, (h 0 113), 0) :: s) := by subst hH; exact (pk_S_L (show 0 ≤ (h 0 17) + 1 + 1 by omega) (pk_S_L (show 0 ≤ (h 0 17) + 1 by omega) (pk_S_L (show 0 ≤ (h 0 17) by omega) (pk_S_E (pk_S_E (pk_S_ag (ag_up rfl ag_refl) (pk_S_ag (ag_up rfl ag_refl) (pk_S_ag (ag_up rfl ag_refl) (pk_S_ag (ag_up rfl ag_refl) (pk_S_ag (ag_up rfl ag_refl) (pk_S_ag (ag_up rfl ag_refl) (pk_S_ag (ag_up rfl ag_refl) (pk_S_ag (ag_up rfl ag_refl) (pk_S_ag (ag_up rfl ag_refl) (pk_S_E hS)))))))))))))))
  have agX : mo_ag FEX h H := by subst hH; (try unfold mo_L); (try unfold mo_E); (try unfold mo_W); (try unfold mo_tk); (repeat (refine ag_up rfl ?_)); exact ag_refl
  have agk : mo_ag FK h H := by subst hH; (try unfold mo_L); (try unfold mo_E); (try unfold mo_W); (try unfold mo_tk); (repeat (refine ag_up rfl ?_)); exact ag_refl
  have hv : ∀ k a b, pw_wt h k a b → pw_wt H k a b := by subst hH; exact fun k x y q => q
  have hpo : ∀ w : Nat, (w : Int) < (h 0 113) → (H 74) w = (h 74) w ∧ (H 76) w = (h 76) w ∧ (w ≠ (a).toNat → (H 75) w = (h 75) w) := by
    intro w hw; subst hH; refine ⟨?_, ?_, fun hne => ?_⟩ <;> simp [mo_L, mo_E, mo_W, mo_tk, ja_up] <;> (intros; omega)
  have hpa : (H 75) (a).toNat = ((h 0 113) + 1) := by subst hH; simp [mo_L, mo_E, mo_W, mo_tk, ja_up] <;> (intros; omega)
  have ho0 : (H 74) ((h 0 113).toNat) = 24 ∧ (H 75) ((h 0 113).toNat) = 0 ∧ (H 76) ((h 0 113).toNat) = 0 := by
    subst hH; refine ⟨?_, ?_, ?_⟩ <;> (try simp [mo_L, mo_E, mo_W, mo_tk, ja_up]) <;> (intros; omega)
  have ho1 : (H 74) ((h 0 113).toNat + 1) = 15 ∧ (H 75) ((h 0 113).toNat + 1) = p ∧ (H 76) ((h 0 113).toNat + 1) = 0 := by
    subst hH; refine ⟨?_, ?_, ?_⟩ <;> (try simp [mo_L, mo_E, mo_W, mo_tk, ja_up]) <;> (intros; omega)
  have ho2 : (H 74) ((h 0 113).toNat + 1 + 1) = 5 ∧ (H 75) ((h 0 113).toNat + 1 + 1) = ((h 0 77) + 1 - 1) ∧ (H 76) ((h 0 113).toNat + 1 + 1) = 0 := by
    subst hH; refine ⟨?_, ?_, ?_⟩ <;> (try simp [mo_L, mo_E, mo_W, mo_tk, ja_up]) <;> (intros; omega)
  have k1 : (H 52) = (h 52) := funext fun j => agX _ _ rfl
  have k2 : (H 55) = (h 55) := funext fun j => agX _ _ rfl
  have hpop : pw_pop H p = 1 := by
    unfold pw_pop; rw [k1, k2, hk.1, hk.2]; rfl
  have hpts : (H 0 88) = (h 0 88) := agX _ _ rfl
  have v_f1 : (H 0 11) = f := by subst hH; rfl
  have hns2 : ¬ pp_in ((14, 0, 0) :: (16, (h 0 79), 0) :: (22, (h 0 113), 0) :: s) p := fun z => by
    simp only [pp_cons] at z; rcases z with z | z | z | z
    · simp [pp] at z
    · simp [pp] at z
    · simp [pp] at z
    · exact hns z
  clear hH
  have yht0 : (mo_y ht (h 0 113) [1, 1, 0]) (h 0 113).toNat = ht (h 0 113).toNat := mo_yo (by omega)
  have yht1 : (mo_y ht (h 0 113) [1, 1, 0]) ((h 0 113).toNat + 1) = 1 := mo_yn 0 W0 (by omega)
  have yht2 : (mo_y ht (h 0 113) [1, 1, 0]) ((h 0 113).toNat + 1 + 1) = 1 := mo_yn 1 W0 (by omega)
  have yht3 : (mo_y ht (h 0 113) [1, 1, 0]) ((h 0 113).toNat + 1 + 1 + 1) = 0 := mo_yn 2 W0 (by omega)
  have yhte : (mo_y ht (h 0 113) [1, 1, 0]) ((h 0 113) + 1 + 1 + 1).toNat = 0 := mo_yn 2 W0 (by omega)
  have yst0 : (mo_y st (h 0 113) [0, 0, 0]) (h 0 113).toNat = st (h 0 113).toNat := mo_yo (by omega)
  have yst1 : (mo_y st (h 0 113) [0, 0, 0]) ((h 0 113).toNat + 1) = 0 := mo_yn 0 W0 (by omega)
  have yst2 : (mo_y st (h 0 113) [0, 0, 0]) ((h 0 113).toNat + 1 + 1) = 0 := mo_yn 1 W0 (by omega)
  have yst3 : (mo_y st (h 0 113) [0, 0, 0]) ((h 0 113).toNat + 1 + 1 + 1) = 0 := mo_yn 2 W0 (by omega)
  have yste : (mo_y st (h 0 113) [0, 0, 0]) ((h 0 113) + 1 + 1 + 1).toNat = 0 := mo_yn 2 W0 (by omega)
  have yrg0 : (mo_y rg (h 0 113) [r + 8 * (tu - 1), r + 8 * (tu - 1), r + 8 * (tu - 1)]) (h 0 113).toNat = rg (h 0 113).toNat := mo_yo (by omega)
  have yrg1 : (mo_y rg (h 0 113) [r + 8 * (tu - 1), r + 8 * (tu - 1), r + 8 * (tu - 1)]) ((h 0 113).toNat + 1) = r + 8 * (tu - 1) := mo_yn 0 W0 (by omega)
  have yrg2 : (mo_y rg (h 0 113) [r + 8 * (tu - 1), r + 8 * (tu - 1), r + 8 * (tu - 1)]) ((h 0 113).toNat + 1 + 1) = r + 8 * (tu - 1) := mo_yn 1 W0 (by omega)
  have yrg3 : (mo_y rg (h 0 113) [r + 8 * (tu - 1), r + 8 * (tu - 1), r + 8 * (tu - 1)]) ((h 0 113).toNat + 1 + 1 + 1) = r + 8 * (tu - 1) := mo_yn 2 W0 (by omega)
  have yrge : (mo_y rg (h 0 113) [r + 8 * (tu - 1), r + 8 * (tu - 1), r + 8 * (tu - 1)]) ((h 0 113) + 1 + 1 + 1).toNat = r + 8 * (tu - 1) := mo_yn 2 W0 (by omega)
  refine ⟨⟨(14, 0, 0) :: (16, (h 0 79), 0) :: (22, (h 0 113), 0) :: s, mo_y ht (h 0 113) [1, 1, 0], mo_y st (h 0 113) [0, 0, 0], mo_y rg (h 0 113) [r + 8 * (tu - 1), r + 8 * (tu - 1), r + 8 * (tu - 1)], tu - 1, ⟨hS', ?_⟩, ?_⟩, agk⟩
  · refine piBX g hB agX (fun z => hf0 (by rw [← v_f1]; exact z)) hv (by omega) (fun j hj => ⟨mo_yo hj, mo_yo hj, mo_yo hj⟩) (fun w hw => ⟨(hpo w hw).1, (hpo w hw).2.1, by
    by_cases hwa : w = (a).toNat
    · subst hwa; exact Or.inr ⟨(by rw [xo28.2]; exact Or.inr (Or.inr (Or.inr (Or.inr (Or.inl rfl))))), (by unfold pj_told; rw [hpa, v_words, xo28.2]; exact ⟨by omega, by omega, (by rw [show ((h 0 113) + 1).toNat = (h 0 113).toNat + 1 by omega, yht1]; show (1 : Int) = ht a.toNat + 1; omega), (by rw [show ((h 0 113) + 1).toNat = (h 0 113).toNat + 1 by omega, yrg1]; show r + 8 * (tu - 1) = rg a.toNat + 8 * 0; omega), (by rw [show ((h 0 113) + 1).toNat = (h 0 113).toNat + 1 by omega, yst1]; show (0 : Int) + 1 ≤ st a.toNat; omega)⟩)⟩
    · exact Or.inl ⟨(hpo w hw).2.2 hwa, fun q => by
        simp only [pj_cons] at q ⊢
        rcases q with q | q
        · exact absurd ((fun w q => by rcases q with ⟨-, q⟩ | ⟨q, -⟩; (dsimp only at q; omega); exact absurd q (show ¬ (28 : Int) = 24 by decide)) w q) hwa
        · (repeat (first | exact q | refine Or.inr ?_))⟩⟩) (fun w _ _ q z => q (by simp only [pp_cons] at z ⊢; rcases z with z | z | z | z <;> first | (exact Or.inr z) | (exfalso; simp [pp] at z))) ?_ ?_ ?_ ?_ ?_ ?_ ?_ ?_ ⟨?_, ?_, ?_⟩ ?_ (fun z => absurd z hph) ⟨(fun q y hy => by (try simp only [List.mem_cons] at hy); (rcases hy with rfl | rfl | rfl | hy) <;> first | (exact q _ (List.mem_cons_of_mem _ hy)) | (have := q _ List.mem_cons_self; dsimp only at this ⊢; omega)), (fun q y hy => by (try simp only [List.mem_cons] at hy); (rcases hy with rfl | rfl | rfl | hy) <;> first | (exact q _ (List.mem_cons_of_mem _ hy)) | (have := q _ List.mem_cons_self; dsimp only at this ⊢; omega))⟩ ?_ (⟨fun e => absurd e (by dsimp only; omega), fun e => absurd e (by dsimp only; omega), fun e => absurd e (by dsimp only; omega), fun e => absurd e (by dsimp only; omega)⟩)
    · intro w hw1 hw2
      rw [v_words] at hw2
      have hwc : w = (h 0 113).toNat ∨ w = (h 0 113).toNat + 1 ∨ w = (h 0 113).toNat + 1 + 1 := by omega
      rcases hwc with rfl | rfl | rfl
      · unfold pw; rw [v_words, ho0.1, ho0.2.1, ho0.2.2, yht0, yst0, yrg0, yht1, yst1, yrg1]; exact ⟨⟨by decide, by decide⟩, ⟨by omega, by omega⟩, ⟨by omega, by omega, by omega⟩, by omega, (show (0 : Int) ≤ ht (h 0 113).toNat by omega), fun z => absurd z (by decide), fun _ => ⟨(show 1 = ht (h 0 113).toNat + (1) by omega), (show r + 8 * (tu - 1) = rg (h 0 113).toNat + 8 * (-1) by omega), by omega, fun _ => by omega⟩, fun z => absurd z (by decide), fun _ => (show ht (h 0 113).toNat = 0 by omega), fun _ => Or.inl ⟨_, List.mem_cons_of_mem _ (List.mem_cons_of_mem _ (List.mem_cons_self)), Or.inl ⟨Or.inr (Or.inr (Or.inl rfl)), (show (h 0 113) = ((((h 0 113).toNat) : Nat) : Int) by omega)⟩⟩, fun z => absurd z (by decide), fun z => absurd z (by decide), fun z => absurd z (by decide), fun z => absurd z (by decide), fun z => absurd z (by decide), fun z => ⟨⟨by omega, by omega, fun z => absurd z (by decide)⟩, by first | decide | (exfalso; omega)⟩⟩
      · unfold pw; rw [v_words, ho1.1, ho1.2.1, ho1.2.2, yht1, yst1, yrg1, yht2, yst2, yrg2]; exact ⟨⟨by decide, by decide⟩, ⟨by omega, by omega⟩, ⟨by omega, by omega, by omega⟩, by omega, (show pw_pop H p ≤ 1 by rw [hpop]; decide), fun z => absurd z (by decide), fun _ => ⟨(show (1 : Int) = 1 + (1 - pw_pop H p) by rw [hpop]; rfl), (show r + 8 * (tu - 1) = r + 8 * (tu - 1) + 8 * 0 by omega), by omega, fun _ => by omega⟩, fun z => absurd z (by decide), fun z => absurd z (by decide), fun z => absurd z (by unfold pw_jmp; decide), fun z => absurd z (by decide), fun _ => ⟨hp.1, by rw [hpts]; exact hp.2, hns2⟩, fun z => absurd z (by decide), fun z => absurd z (by decide), fun z => absurd z (by decide), fun z => ⟨⟨by omega, by omega, fun z => absurd z (by decide)⟩, by first | decide | (exfalso; omega)⟩⟩
      · unfold pw; rw [v_words, ho2.1, ho2.2.1, ho2.2.2, yht2, yst2, yrg2, yht3, yst3, yrg3]; exact ⟨⟨by decide, by decide⟩, ⟨by omega, by omega⟩, ⟨by omega, by omega, by omega⟩, by omega, (show (1 : Int) ≤ 1 by omega), fun z => absurd z (by decide), fun _ => ⟨(show 0 = 1 + (-1) by omega), (show r + 8 * (tu - 1) = r + 8 * (tu - 1) + 8 * (0) by omega), by omega, fun _ => by omega⟩, fun z => absurd z (by decide), fun z => absurd z (by decide), fun z => absurd z (by unfold pw_jmp; decide), fun _ => ⟨by omega, by omega⟩, fun z => absurd z (by decide), fun z => absurd z (by decide), fun z => absurd z (by decide), fun z => absurd z (by decide), fun z => ⟨⟨by omega, by omega, fun z => absurd z (by decide)⟩, by first | decide | (exfalso; omega)⟩⟩
    · intro w v hwv h1 h2 z1 z2 zz
      rw [v_words] at h2
      have hvc : v = (h 0 113).toNat ∨ v = (h 0 113).toNat + 1 ∨ v = (h 0 113).toNat + 1 + 1 := by omega
      rcases hvc with rfl | rfl | rfl
      · rw [ho0.1] at z2; exact absurd z2 (by decide)
      · rw [ho1.2.1] at zz
        rcases Int.lt_or_le (w : Int) (h 0 113) with l | l
        · rw [(hpo w l).1] at z1
          have hwa : w ≠ a.toNat := by
            intro e; subst e; rw [xo28.2] at z1; exact absurd z1 (by decide)
          rw [(hpo w l).2.2 hwa] at zz
          exact hne w l z1 zz
        · have e : w = (h 0 113).toNat := by omega
          subst e; rw [ho0.1] at z1; exact absurd z1 (by decide)
      · rw [ho2.1] at z2; exact absurd z2 (by decide)
    · rw [v_nest]; (try simp only [pk_sum]); omega
    · rw [v_words, v_at]; (try simp only [pk_sum]); omega
    · rw [v_at]; (try simp only [pk_sum]); omega
    · rw [v_wants, v_at]; omega
    · rw [v_quiet]; (try simp only [pk_sum]); omega
    · rw [v_inFlow]; (try simp only [pk_sum]); omega
    · rw [v_known, v_locals]; omega
    · rw [v_locals]; omega
    · intro q; exact absurd (((pt_let_cons (show (14 : Int) ≠ 17 by decide)).mpr ((pt_let_cons (show (16 : Int) ≠ 17 by decide)).mpr ((pt_let_cons (show (22 : Int) ≠ 17 by decide)).mpr xo14.2.2)))) q
    · rw [v_words, yrge]
    · rw [v_words, v_locals, yhte, yste]
      exact ⟨⟨⟨by (try simp only [pk_sum]); omega, by (try simp only [pk_sum]); omega⟩, (fun p q => absurd q (by simp [pp]))⟩, ⟨by (try simp only [pk_sum, List.length_cons]); (try dsimp only); omega, (by intro y z e; cases e; dsimp only; omega)⟩, (show pt_ok (H 74) (mo_y ht (h 0 113) [1, 1, 0]) (mo_y st (h 0 113) [0, 0, 0]) (mo_y rg (h 0 113) [r + 8 * (tu - 1), r + 8 * (tu - 1), r + 8 * (tu - 1)]) ((h 0 113) + 1 + 1 + 1) (h 0 88) ((h 0 77) + 1) r (pi_wn h r) (14, 0, 0) ((16, (h 0 79), 0) :: (22, (h 0 113), 0) :: s) (0 - 0) ((h 0 109)) (0) (tu - 1) from by unfold pt_ok; (try dsimp only); (try simp only [pk_sum]); exact ⟨⟨by omega, by omega, by omega, by omega⟩, by omega, by omega, ⟨by first | omega | simp, by omega, by omega⟩, fun z => absurd z (by omega), fun z => absurd z (by omega), fun z => absurd z (by omega), fun z => absurd z (by omega), fun z => absurd z (by omega), fun z => absurd z (by omega), fun z => absurd z (by omega), fun z => absurd z (by omega), fun z => absurd z (by omega), fun z => absurd z (by omega), fun z => absurd z (by omega), fun z => absurd z (by omega), fun _ => ⟨by first | trivial | omega, by first | trivial | omega, ((pt_let_cons (show (16 : Int) ≠ 17 by decide)).mpr ((pt_let_cons (show (22 : Int) ≠ 17 by decide)).mpr xo14.2.2))⟩, fun z => absurd z (by omega), fun z => absurd z (by omega), fun z => absurd z (by omega), fun z => absurd z (by omega), fun z => absurd z (by omega), fun z => absurd z (by omega), fun z => absurd z (by omega), fun z => absurd z (by omega), fun z => absurd z (by omega), fun z => absurd z (by omega), fun z => absurd z (by omega), fun z => absurd z (by omega), fun z => absurd z (by omega), fun z => absurd z (by omega), fun z => absurd z (by omega)⟩), ⟨⟨⟨by (try simp only [pk_sum]); omega, by (try simp only [pk_sum]); omega⟩, (fun p q => absurd q (by simp [pp]))⟩, ⟨by (try simp only [pk_sum, List.length_cons]); (try dsimp only); omega, (by intro y z e; cases e; dsimp only; omega)⟩, (show pt_ok (H 74) (mo_y ht (h 0 113) [1, 1, 0]) (mo_y st (h 0 113) [0, 0, 0]) (mo_y rg (h 0 113) [r + 8 * (tu - 1), r + 8 * (tu - 1), r + 8 * (tu - 1)]) ((h 0 113) + 1 + 1 + 1) (h 0 88) ((h 0 77) + 1) r (pi_wn h r) (16, (h 0 79), 0) ((22, (h 0 113), 0) :: s) (0) ((h 0 109)) (0) (tu - 1) from by unfold pt_ok; (try dsimp only); (try simp only [pk_sum]); exact ⟨⟨by omega, by omega, by omega, by omega⟩, by omega, by omega, ⟨by first | omega | simp, by omega, by omega⟩, fun z => absurd z (by omega), fun z => absurd z (by omega), fun z => absurd z (by omega), fun z => absurd z (by omega), fun z => absurd z (by omega), fun z => absurd z (by omega), fun z => absurd z (by omega), fun z => absurd z (by omega), fun z => absurd z (by omega), fun z => absurd z (by omega), fun z => absurd z (by omega), fun z => absurd z (by omega), fun _ => ⟨by first | trivial | omega, by first | trivial | omega, ((pt_let_cons (show (22 : Int) ≠ 17 by decide)).mpr xo14.2.2)⟩, fun _ => ⟨by omega, by omega⟩, fun z => absurd z (by omega), fun z => absurd z (by omega), fun z => absurd z (by omega), fun z => absurd z (by omega), fun z => absurd z (by omega), fun z => absurd z (by omega), fun z => absurd z (by omega), fun z => absurd z (by omega), fun z => absurd z (by omega), fun z => absurd z (by omega), fun z => absurd z (by omega), fun z => absurd z (by omega), fun z => absurd z (by omega), fun z => absurd z (by omega)⟩), ⟨⟨⟨by (try simp only [pk_sum]); omega, by (try simp only [pk_sum]); omega⟩, (fun p q => absurd q (by simp [pp]))⟩, ⟨by (try simp only [pk_sum, List.length_cons]); (try dsimp only); omega, (by intro y z e; have q := p2' y z e; dsimp only at q ⊢; omega)⟩, (show pt_ok (H 74) (mo_y ht (h 0 113) [1, 1, 0]) (mo_y st (h 0 113) [0, 0, 0]) (mo_y rg (h 0 113) [r + 8 * (tu - 1), r + 8 * (tu - 1), r + 8 * (tu - 1)]) ((h 0 113) + 1 + 1 + 1) (h 0 88) ((h 0 77) + 1) r (pi_wn h r) (22, (h 0 113), 0) (s) (0) ((h 0 109)) (0) (tu - 1) from by unfold pt_ok; (try dsimp only); (try simp only [pk_sum]); exact ⟨⟨by omega, by omega, by omega, by omega⟩, by omega, by omega, ⟨by first | omega | simp, by omega, by omega⟩, fun z => absurd z (by omega), fun z => absurd z (by omega), fun z => absurd z (by omega), fun z => absurd z (by omega), fun z => absurd z (by omega), fun z => absurd z (by omega), fun z => absurd z (by omega), fun z => absurd z (by omega), fun z => absurd z (by omega), fun z => absurd z (by omega), fun z => absurd z (by omega), fun z => absurd z (by omega), fun _ => ⟨by first | trivial | omega, by first | trivial | omega, xo14.2.2⟩, fun z => absurd z (by omega), fun z => absurd z (by omega), fun z => absurd z (by omega), fun z => absurd z (by omega), fun z => absurd z (by omega), fun _ => ⟨⟨by omega, by omega, yht0.trans (by omega), (by rw [ho0.1, yrg0]; show rg (h 0 113).toNat = r + 8 * (tu - 1 - (-1)); omega), yst0.trans (by omega)⟩, Or.inr ho0.1⟩, fun z => absurd z (by omega), fun z => absurd z (by omega), fun z => absurd z (by omega), fun z => absurd z (by omega), fun z => absurd z (by omega), fun z => absurd z (by omega), fun z => absurd z (by omega), fun z => absurd z (by omega), fun z => absurd z (by omega)⟩), (pt_equ (show _ = 0 by omega) (show _ = (h 0 109) by omega) (show _ = 0 by omega) (show _ = tu - 1 by omega) (pt_ext (show (h 0 113) ≤ (h 0 113) + 1 + 1 + 1 by omega) (Int.le_refl _) (show (h 0 77) ≤ (h 0 77) + 1 by omega) (fun _ q => q) (fun j hj => ⟨fun q => (hpo j q).1, mo_yo hj, mo_yo hj, mo_yo hj⟩) p4))⟩⟩⟩
  · show 40 * (900 - (H 0 7)) + pk_sum pk_m ((14, 0, 0) :: (16, (h 0 79), 0) :: (22, (h 0 113), 0) :: s) + 13 < 40 * (900 - (h 0 7)) + pk_sum pk_m ((28, a, b) :: s) + 13; rw [v_at]; (try simp only [pk_sum]); omega
