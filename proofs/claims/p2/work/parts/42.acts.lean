/-! the reference's parser: the ends of acts that tell a word its place -/
variable {Zz : Zc}
theorem mo_L_P {h : ja_H} {i : Nat} {t a b c d : Int} : mo_L (ja_up h 75 i t) a b c d = ja_up (mo_L h a b c d) 75 i t := by
  funext k j
  unfold mo_L ja_up
  by_cases e : k = 75
  · subst e; simp
  · simp [e]
theorem fin0P {h H : ja_H} {R r ph q0 m : Int} {tf : mo_TF} {a : Nat} {x : mo_A} {s : List mo_A} {ht st rg : Nat → Int} {tu : Int} (g : mo_G Zz h) (hB : piB h R r ph tf q0 (x :: s) ht st rg tu) (hS' : pk_S H (H 0 17).toNat s) (hH : H = ja_up h 75 a (h 0 113)) (hc : 14 ≤ x.1 ∧ x.1 ≤ 30)
    (ha : (a : Int) < (h 0 113)) (hx : ∀ w : Nat, pj x w → w = a) (hj : pw_jmp ((h 74) a)) (h2 : ht (h 0 113).toNat = ht a + pw_th ((h 74) a)) (h3 : r + 8 * tu = rg a + 8 * pw_tj ((h 74) a)) (h4 : st (h 0 113).toNat + pw_ts ((h 74) a) ≤ st a)
    (n1 : (h 0 18) = pk_sum pk_c s) (n2 : (h 0 113) + pk_sum pk_v s < 5 * (h 0 7)) (n3 : (h 0 95) + pk_sum pk_d s < (h 0 7)) (n5 : (h 0 84) = q0 + pk_sum pk_q s) (n6 : (h 0 87) = pk_sum pk_f s) (b : ¬ pt_let s → ph = 1 ∨ (h 0 77) ≤ 9)
    (hpt : pt (h 74) ht st rg (h 0 113) (h 0 88) (h 0 77) r tf (pi_wn h r) s (ht (h 0 113).toNat - pi_adj H s) (h 0 109) (st (h 0 113).toNat) tu) (top : pi_top H ht s) (mu : pi_mu h s < m) : pi_done h H R r ph tf q0 m := by
  have hr := reg_of hB (by omega) (by omega)
  have w0 : 0 ≤ (h 0 113) := (gF_words g).1
  subst hH
  obtain ⟨⟨o1, o2, o3, o4, o5, o6, o7, o8, o9⟩, ⟨ob, ob2, ob3, -⟩, oreg, -, ⟨oC, oU⟩, oN, oP, oT, -⟩ := hB
  refine ⟨⟨s, ht, st, rg, tu, ⟨hS', ⟨n1, n2, n3, o4, o5, n5, n6, o8, o9⟩, ⟨ob, ob2, ob3, b⟩, ?_, hpt, ⟨?_, ?_⟩, ?_, ?_, ?_, top⟩, mu⟩, ag_up rfl ag_refl⟩
  · rcases oreg with ⟨q1, q2, q3, q4, q5⟩ | ⟨q1, q2, q3, q4⟩
    · exact Or.inl ⟨q1, q2, q3, q4, fun y hy => q5 y (List.mem_cons_of_mem _ hy)⟩
    · exfalso
      have := q3 x List.mem_cons_self
      omega
  · exact pi_C_patch oC ha hx hj ha (Int.le_refl _) h2 (hr.1.trans h3) h4
  · exact pi_U_patch hj oU
  · exact pi_N_ag (ag_up rfl ag_refl) oN
  · exact pi_P_ag (ag_up rfl ag_refl) oP
  · exact pi_T_ag (ag_up rfl ag_refl) oT
theorem fin1P {h H1 H : ja_H} {R r ph q0 m c1 e1 tu1 : Int} {tf : mo_TF} {a : Nat} {x : mo_A} {s s' : List mo_A} {ht st rg : Nat → Int} {tu : Int} (htu : tu1 = tu ∨ ph = 0) (g : mo_G Zz h) (hB : piB h R r ph tf q0 (x :: s) ht st rg tu) (hreg : x.1 ≤ 30 ∨ 38 ≤ x.1) (hS' : pk_S H (H 0 17).toNat s') (ag : mo_ag FE1 h H1) (hH : H = ja_up H1 75 a ((h 0 113) + 1))
    (hw : (H1 0 113) = (h 0 113) + 1) (hold : ∀ w : Nat, (w : Int) < (h 0 113) → (H1 74) w = (h 74) w ∧ (H1 75) w = (h 75) w ∧ (H1 76) w = (h 76) w) (ho : (H1 74) (h 0 113).toNat ≠ 15)
    (ha : (a : Int) < (h 0 113)) (hx : ∀ w : Nat, pj x w → w = a) (hj : pw_jmp ((h 74) a)) (h2 : c1 = ht a + pw_th ((h 74) a)) (h3 : r + 8 * tu1 = rg a + 8 * pw_tj ((h 74) a)) (h4 : e1 + pw_ts ((h 74) a) ≤ st a) (hsub : ∀ y ∈ s, y ∈ s') (hpp : ∀ p, pp_in s' p → pp_in (x :: s) p)
    (n1 : (H 0 18) = pk_sum pk_c s') (n2 : (h 0 113) + 1 + pk_sum pk_v s' < 5 * (H 0 7)) (n3 : (h 0 95) + pk_sum pk_d s' < (H 0 7)) (n4 : (h 0 7) ≤ (H 0 7)) (n5 : (H 0 84) = q0 + pk_sum pk_q s') (n6 : (H 0 87) = pk_sum pk_f s')
    (b : (ph = 1 ∨ (H 0 79) ≤ (H 0 77)) ∧ (ph = 1 ∨ (H 0 77) ≤ 10) ∧ (¬ pt_let s' → ph = 1 ∨ (H 0 77) ≤ 9)) (hif : pi_if s' ↔ pi_if (x :: s)) (hal : ((∀ y ∈ x :: s, y.1 ≤ 30 ∨ 37 ≤ y.1) → ∀ y ∈ s', y.1 ≤ 30 ∨ 37 ≤ y.1) ∧ ((∀ y ∈ x :: s, y.1 ≤ 12 ∨ 31 ≤ y.1) → ∀ y ∈ s', y.1 ≤ 12 ∨ 31 ≤ y.1))
    (new : pw H1 (mo_x ht (h 0 113) c1) (mo_x st (h 0 113) e1) (mo_x rg (h 0 113) (r + 8 * tu1)) ((h 0 113) + 1) (x :: s') (h 0 113).toNat)
    (hpt : pt (H1 74) (mo_x ht (h 0 113) c1) (mo_x st (h 0 113) e1) (mo_x rg (h 0 113) (r + 8 * tu1)) ((h 0 113) + 1) (h 0 88) (H 0 77) r tf (pi_wn h r) s' (c1 - pi_adj H s') (h 0 109) e1 tu1) (top : pi_top H (mo_x ht (h 0 113) c1) s') (mu : pi_mu H s' < m) (agk : mo_ag FK h H) : pi_done h H R r ph tf q0 m := by
  have hr := reg_of hB (by omega) (by omega)
  obtain ⟨⟨o1, o2, o3, o4, o5, o6, o7, o8, o9⟩, ⟨ob, -, -, -⟩, oreg, -, ⟨oC, oU⟩, oN, oP, oT, -⟩ := hB
  have w0 : 0 ≤ (h 0 113) := (gF_words g).1
  have e0 : (H 0 113) = (h 0 113) + 1 := by rw [hH]; exact hw
  have e2 : (H 0 88) = (h 0 88) := by rw [hH]; exact ag _ _ rfl
  have e3 : (H 0 109) = (h 0 109) := by rw [hH]; exact ag _ _ rfl
  have e4 : (H 0 95) = (h 0 95) := by rw [hH]; exact ag _ _ rfl
  have e5 : (H 0 68) = (h 0 68) := by rw [hH]; exact ag _ _ rfl
  have e6 : (H 0 72) = (h 0 72) := by rw [hH]; exact ag _ _ rfl
  have e7 : (H 0 74) = (h 0 74) := by rw [hH]; exact ag _ _ rfl
  have e8 : (H 0 86) = (h 0 86) := by rw [hH]; exact ag _ _ rfl
  have e9 : (H 0 11) = (h 0 11) := by rw [hH]; exact ag _ _ rfl
  have e10 : (H 0 76) = (h 0 76) := by rw [hH]; exact ag _ _ rfl
  have f1 : (H 74) = (H1 74) := by rw [hH]; funext j; exact mo_upK (by decide)
  have g6 : (H 45) = (h 45) := by rw [hH]; funext j; exact ag _ _ rfl
  have g7 : (H 44) = (h 44) := by rw [hH]; funext j; exact ag _ _ rfl
  have g8 : (H 46) = (h 46) := by rw [hH]; funext j; exact ag _ _ rfl
  have k4 : (H 52) = (h 52) := by rw [hH]; funext j; exact ag _ _ rfl
  have k5 : (H 55) = (h 55) := by rw [hH]; funext j; exact ag _ _ rfl
  have hwn : pi_wn H r = pi_wn h r := by
    funext a; unfold pi_wn; rw [e9, e10, e2, pw_wt_ag e5 g6 g7 g8, k4, k5, nf_keep e4 (by rw [hH]; funext j; exact ag _ _ rfl)]
  have ex : ∀ j : Nat, (j : Int) ≤ (h 0 113) → mo_x ht (h 0 113) c1 j = ht j ∧ mo_x st (h 0 113) e1 j = st j ∧ mo_x rg (h 0 113) (r + 8 * tu1) j = rg j := fun j hj => ⟨mo_xo w0 hj, mo_xo w0 hj, mo_xo w0 hj⟩
  have hop : (H1 74) a = (h 74) a := (hold a ha).1
  have xa := ex a (by omega)
  have C1 : pi_C H1 (mo_x ht (h 0 113) c1) (mo_x st (h 0 113) e1) (mo_x rg (h 0 113) (r + 8 * tu1)) ((h 0 113) + 1) (x :: s') := by
    refine pi_C_emit (s := x :: s') (h := h) (ht := ht) (st := st) (rg := rg) ?_ w0 ex hold (ag_sub FE1_FCe ag) new
    intro w hw
    refine pw_ext hw (Int.le_refl _) (fun _ _ => ⟨rfl, rfl, rfl⟩) ⟨rfl, rfl, rfl⟩ id (fun _ _ _ q => q) (Int.le_refl _) (fun z _ _ q => ⟨rfl, fun y => ?_⟩) (fun _ q => ?_) (oC w hw)
    · rcases pp_cons.mp y with y | y
      · exact q (pp_cons.mpr (Or.inl y))
      · exact q (hpp _ y)
    · rcases pj_cons.mp q with q | ⟨y, hy, e⟩
      · exact pj_cons.mpr (Or.inl q)
      · exact pj_cons.mpr (Or.inr ⟨y, hsub y hy, e⟩)
  refine ⟨⟨s', mo_x ht (h 0 113) c1, mo_x st (h 0 113) e1, mo_x rg (h 0 113) (r + 8 * tu1), tu1, ⟨hS', ⟨n1, by rw [e0]; exact n2, by rw [e4]; exact n3, by rw [e5]; omega, by rw [e6, e4]; exact o5, n5, n6, o8, o9⟩, ⟨e7.trans ob, b⟩, ?_, ?_, ⟨?_, ?_⟩, ?_, ?_, ?_, top⟩, mu⟩, agk⟩
  · rw [e0, e8, hif, mo_xn w0]
    rcases oreg with ⟨q1, q2, q3, q4, q5⟩ | ⟨q1, q2, q3, q4⟩
    · exact Or.inl ⟨q1, q2, q3, rfl, hal.1 q5⟩
    · exact Or.inr ⟨q1, ⟨q2.1, by omega⟩, hal.2 q3, Or.inl ⟨(hr.2.1 q1).1, (hr.2.1 q1).2, by omega⟩⟩
  · rw [e0, mo_xn w0, mo_xn w0, e2, e3, hwn, f1]; exact hpt
  · rw [e0, hH]
    exact pi_C_patch C1 (by omega) hx (by rw [hop]; exact hj) (by omega) (Int.le_refl _) (by rw [mo_xn w0, xa.1, hop]; exact h2) (by rw [mo_xn w0, xa.2.2, hop]; exact h3) (by rw [mo_xn w0, xa.2.1, hop]; exact h4)
  · rw [e0, hH]
    exact pi_U_patch (by rw [hop]; exact hj) (pi_U_emit w0 oU (fun w q => ⟨(hold w q).1, (hold w q).2.1⟩) (fun z => absurd z ho))
  · rw [e0, hH]
    exact pi_N_ext (by omega) (fun j hj => ⟨(ex j (by omega)).1, (ex j (by omega)).2.2⟩) (ag_up rfl (ag_sub FE1_FN ag)) oN
  · rw [hH]; exact pi_P_ag (ag_up rfl (ag_sub FE1_FP ag)) oP
  · rw [hH]; exact pi_T_ag (ag_up rfl (ag_sub FE1_FT ag)) oT

theorem ab_else_end {h : ja_H} {R r ph q0 : Int} {tf : mo_TF} {s : List mo_A} {ht st rg : Nat → Int} {tu a b : Int} (g : mo_G Zz h) (hS : pk_S h (h 0 17).toNat s) (hB : piB h R r ph tf q0 ((21, a, b) :: s) ht st rg tu) : pi_done h (ja_up h 75 a.toNat (h 0 113)) R r ph tf q0 (pi_mu h ((21, a, b) :: s)) := by
  have hN := piB_num g hS hB
  obtain ⟨N1, N2, N3, N4, N5, N6, N7, N8, N9, N10, N11, N12, N13, ⟨NK1, NK2⟩, ND1, ND2, ND3, NU1, NU2⟩ := hN
  obtain ⟨⟨n1, n2, n3, n4, n5, n6, n7, n8, n9⟩, ⟨b1, b2, b3, b4⟩, reg, hpt, ⟨hC, hU⟩, hNo, hP, hT, top⟩ := id hB
  obtain ⟨⟨⟨p1, p1'⟩, p1u⟩, ⟨p2, p2'⟩, p3, p4⟩ := hpt
  have w0 := (gF_wTop g).1
  simp only [pk_sum] at n1 n2 n3 n6 n7
  dsimp only at p2 p2' N6
  have ec21 : pk_c 21 = 0 := rfl
  have ev21 : pk_v 21 = 0 := rfl
  have ed21 : pk_d 21 = 0 := rfl
  have eq21 : pk_q 21 = 0 := rfl
  have ef21 : pk_f 21 = 0 := rfl
  have em21 : pk_m 21 = 1 := rfl
  have eoff21 : pk_off 21 = 1 := rfl
  have ek21 : pk_k r 21 = 0 := rfl
  replace p3 : pt_ok (h 74) ht st rg (h 0 113) (h 0 88) (h 0 77) r (pi_wn h r) (21, a, b) s (ht (h 0 113).toNat - 0) (h 0 109) (st (h 0 113).toNat) tu := p3
  unfold pt_ok at p3; dsimp only at p3
  replace p4 : pt (h 74) ht st rg (h 0 113) (h 0 88) (h 0 77) r tf (pi_wn h r) s (0) ((h 0 109)) (st (h 0 113).toNat) (tu) := p4
  obtain ⟨-, xc, xt, ⟨xe, xu1, xu2⟩, -, -, -, -, -, -, -, -, -, -, -, -, xo14, -, -, -, -, xo21, -, -, -, -, -, -, -, -, -, -⟩ := p3
  replace xo14 := xo14 (by omega)
  have xq1o14 := xo14.1
  have xq2o14 := xo14.2.1
  replace xo21 := xo21 (by omega)
  have W0 : 0 ≤ (h 0 113) := (gF_words g).1
  obtain ⟨z1, z2, z3, z4, z5⟩ := xo21.1
  have ea : ((a.toNat : Nat) : Int) = a := by omega
  refine fin0P (a := a.toNat) g hB (pk_S_ag (ag_up rfl ag_refl) hS) rfl (by dsimp only; omega) (by omega) (fun w q => ?_) ?_ ?_ ?_ ?_ (by omega) (by omega) (by omega) (by omega) (by omega) ?_ ?_ (fin_top0 (show (21 : Int) ≠ 1 by decide) p2' (fun q => absurd q (by dsimp only; omega))) ?_
  · rcases q with ⟨-, q⟩ | ⟨q, -⟩
    · dsimp only at q; omega
    · exact absurd q (show ¬ (21 : Int) = 24 by decide)
  · rw [show (h 74) a.toNat = 22 from xo21.2]; exact Or.inr (Or.inr (Or.inr (Or.inl rfl)))
  · rw [show (h 74) a.toNat = 22 from xo21.2]; show ht (h 0 113).toNat = ht a.toNat + (-1); omega
  · rw [show (h 74) a.toNat = 22 from xo21.2]; show r + 8 * tu = rg a.toNat + 8 * 0; omega
  · rw [show (h 74) a.toNat = 22 from xo21.2]; show st (h 0 113).toNat + 0 ≤ st a.toNat; omega
  · intro q; exact b4 (fun z => q (fun y hy => z y (List.mem_cons_of_mem _ hy)))
  · rw [fin_adj p2' (show (21 : Int) ≠ 8 ∧ (21 : Int) ≠ 9 by decide)]; exact pt_eq (by omega) (by omega) (by omega) p4
  · show 40 * (900 - (h 0 7)) + pk_sum pk_m s + 13 < 40 * (900 - (h 0 7)) + pk_sum pk_m ((21, a, b) :: s) + 13; simp only [pk_sum]; omega

theorem ab_patch {h : ja_H} {R r ph q0 : Int} {tf : mo_TF} {s : List mo_A} {ht st rg : Nat → Int} {tu a b : Int} (g : mo_G Zz h) (hS : pk_S h (h 0 17).toNat s) (hB : piB h R r ph tf q0 ((22, a, b) :: s) ht st rg tu) : pi_done h (ja_up h 75 a.toNat (h 0 113)) R r ph tf q0 (pi_mu h ((22, a, b) :: s)) := by
  have hN := piB_num g hS hB
  obtain ⟨N1, N2, N3, N4, N5, N6, N7, N8, N9, N10, N11, N12, N13, ⟨NK1, NK2⟩, ND1, ND2, ND3, NU1, NU2⟩ := hN
  obtain ⟨⟨n1, n2, n3, n4, n5, n6, n7, n8, n9⟩, ⟨b1, b2, b3, b4⟩, reg, hpt, ⟨hC, hU⟩, hNo, hP, hT, top⟩ := id hB
  obtain ⟨⟨⟨p1, p1'⟩, p1u⟩, ⟨p2, p2'⟩, p3, p4⟩ := hpt
  have w0 := (gF_wTop g).1
  simp only [pk_sum] at n1 n2 n3 n6 n7
  dsimp only at p2 p2' N6
  have ec22 : pk_c 22 = 0 := rfl
  have ev22 : pk_v 22 = 0 := rfl
  have ed22 : pk_d 22 = 0 := rfl
  have eq22 : pk_q 22 = 0 := rfl
  have ef22 : pk_f 22 = 0 := rfl
  have em22 : pk_m 22 = 1 := rfl
  have eoff22 : pk_off 22 = 1 := rfl
  have ek22 : pk_k r 22 = 0 := rfl
  replace p3 : pt_ok (h 74) ht st rg (h 0 113) (h 0 88) (h 0 77) r (pi_wn h r) (22, a, b) s (ht (h 0 113).toNat - 0) (h 0 109) (st (h 0 113).toNat) tu := p3
  unfold pt_ok at p3; dsimp only at p3
  replace p4 : pt (h 74) ht st rg (h 0 113) (h 0 88) (h 0 77) r tf (pi_wn h r) s (0) ((h 0 109)) (st (h 0 113).toNat) (tu) := p4
  obtain ⟨-, xc, xt, ⟨xe, xu1, xu2⟩, -, -, -, -, -, -, -, -, -, -, -, -, xo14, -, -, -, -, -, xo22, -, -, -, -, -, -, -, -, -⟩ := p3
  replace xo14 := xo14 (by omega)
  have xq1o14 := xo14.1
  have xq2o14 := xo14.2.1
  replace xo22 := xo22 (by omega)
  have W0 : 0 ≤ (h 0 113) := (gF_words g).1
  obtain ⟨z1, z2, z3, z4, z5⟩ := xo22.1
  have ea : ((a.toNat : Nat) : Int) = a := by omega
  refine fin0P (a := a.toNat) g hB (pk_S_ag (ag_up rfl ag_refl) hS) rfl (by dsimp only; omega) (by omega) (fun w q => ?_) ?_ ?_ ?_ ?_ (by omega) (by omega) (by omega) (by omega) (by omega) ?_ ?_ (fin_top0 (show (22 : Int) ≠ 1 by decide) p2' (fun q => absurd q (by dsimp only; omega))) ?_
  · rcases q with ⟨-, q⟩ | ⟨q, -⟩
    · dsimp only at q; omega
    · exact absurd q (show ¬ (22 : Int) = 24 by decide)
  · rcases xo22.2 with e | e <;> rw [e]
    · exact Or.inr (Or.inr (Or.inl rfl))
    · exact Or.inr (Or.inr (Or.inr (Or.inr (Or.inr rfl))))
  · rcases xo22.2 with e | e <;> rw [e]
    · show ht (h 0 113).toNat = ht a.toNat + 0; omega
    · show ht (h 0 113).toNat = ht a.toNat + 0; omega
  · omega
  · rcases xo22.2 with e | e <;> rw [e]
    · show st (h 0 113).toNat + 0 ≤ st a.toNat; omega
    · show st (h 0 113).toNat + 0 ≤ st a.toNat; omega
  · intro q; exact b4 (fun z => q (fun y hy => z y (List.mem_cons_of_mem _ hy)))
  · rw [fin_adj p2' (show (22 : Int) ≠ 8 ∧ (22 : Int) ≠ 9 by decide)]; exact pt_eq (by omega) (by omega) (by omega) p4
  · show 40 * (900 - (h 0 7)) + pk_sum pk_m s + 13 < 40 * (900 - (h 0 7)) + pk_sum pk_m ((22, a, b) :: s) + 13; simp only [pk_sum]; omega

theorem ab_short {h : ja_H} {R r ph q0 : Int} {tf : mo_TF} {s : List mo_A} {ht st rg : Nat → Int} {tu a b : Int} (g : mo_G Zz h) (hS : pk_S h (h 0 17).toNat s) (hB : piB h R r ph tf q0 ((4, a, b) :: s) ht st rg tu) : pi_done h (ja_up (mo_E (ja_up (h) 0 19 (0)) 14 0 0) 75 (a).toNat ((h 0 113) + 1)) R r ph tf q0 (pi_mu h ((4, a, b) :: s)) := by
  have hN := piB_num g hS hB
  obtain ⟨N1, N2, N3, N4, N5, N6, N7, N8, N9, N10, N11, N12, N13, ⟨NK1, NK2⟩, ND1, ND2, ND3, NU1, NU2⟩ := hN
  obtain ⟨⟨n1, n2, n3, n4, n5, n6, n7, n8, n9⟩, ⟨b1, b2, b3, b4⟩, reg, hpt, ⟨hC, hU⟩, hNo, hP, hT, top⟩ := id hB
  obtain ⟨⟨⟨p1, p1'⟩, p1u⟩, ⟨p2, p2'⟩, p3, p4⟩ := hpt
  have w0 := (gF_wTop g).1
  simp only [pk_sum] at n1 n2 n3 n6 n7
  dsimp only at p2 p2' N6
  have ec4 : pk_c 4 = 0 := rfl
  have ev4 : pk_v 4 = 1 := rfl
  have ed4 : pk_d 4 = 0 := rfl
  have eq4 : pk_q 4 = 0 := rfl
  have ef4 : pk_f 4 = 0 := rfl
  have em4 : pk_m 4 = 1 := rfl
  have eoff4 : pk_off 4 = 2 := rfl
  have ek4 : pk_k r 4 = 0 := rfl
  replace p3 : pt_ok (h 74) ht st rg (h 0 113) (h 0 88) (h 0 77) r (pi_wn h r) (4, a, b) s (ht (h 0 113).toNat - 0) (h 0 109) (st (h 0 113).toNat) tu := p3
  unfold pt_ok at p3; dsimp only at p3
  replace p4 : pt (h 74) ht st rg (h 0 113) (h 0 88) (h 0 77) r tf (pi_wn h r) s ((ht (h 0 113).toNat - 0)) ((h 0 109)) (st (h 0 113).toNat) (tu) := p4
  obtain ⟨-, xc, xt, ⟨xe, xu1, xu2⟩, -, -, -, xo4, -, -, -, -, -, -, -, -, -, -, -, -, -, -, -, -, -, -, -, -, -, -, -, -⟩ := p3
  replace xo4 := xo4 (by omega)
  have xq1o4 := xo4.1
  have hr := reg_of hB (by dsimp only; omega) (by dsimp only; omega)
  have hbo := gF_body g
  have W0 : 0 ≤ (h 0 113) := (gF_words g).1
  have hr4 : 0 ≤ r ∧ r ≤ 4 ∧ (r = 4 → tu = 0) := by
    rcases reg with ⟨q1, q2, -⟩ | ⟨q1, q2, q3, -⟩
    · omega
    · omega
  have ho : (mo_E (ja_up (h) 0 19 (0)) 14 0 0) 74 (h 0 113).toNat = 14 := by simp [mo_L, mo_E, mo_tk, ja_up]
  have hA : (mo_E (ja_up (h) 0 19 (0)) 14 0 0) 75 (h 0 113).toNat = 0 := by simp [mo_L, mo_E, mo_tk, ja_up]
  have hBB : (mo_E (ja_up (h) 0 19 (0)) 14 0 0) 76 (h 0 113).toNat = 0 := by simp [mo_L, mo_E, mo_tk, ja_up]
  have hold : ∀ w : Nat, (w : Int) < (h 0 113) → (mo_E (ja_up (h) 0 19 (0)) 14 0 0) 74 w = (h 74) w ∧ (mo_E (ja_up (h) 0 19 (0)) 14 0 0) 75 w = (h 75) w ∧ (mo_E (ja_up (h) 0 19 (0)) 14 0 0) 76 w = (h 76) w := by
    intro w hw; refine ⟨?_, ?_, ?_⟩ <;> simp [mo_L, mo_E, mo_tk, ja_up] <;> (intros; omega)
  have hext : ∀ j : Nat, (j : Int) ≤ (h 0 113) → ((j : Int) < (h 0 113) → (mo_E (ja_up (h) 0 19 (0)) 14 0 0) 74 j = (h 74) j) ∧ mo_x ht (h 0 113) ((ht (h 0 113).toNat)) j = ht j ∧ mo_x st (h 0 113) ((st (h 0 113).toNat)) j = st j ∧ mo_x rg (h 0 113) (r + 8 * tu) j = rg j := fun j hj => ⟨fun q => (hold j q).1, mo_xo W0 (by omega), mo_xo W0 (by omega), mo_xo W0 (by omega)⟩
  obtain ⟨z1, z2, z3, z4, z5⟩ := xo4.2.1
  have ea : ((a.toNat : Nat) : Int) = a := by omega
  refine fin1P (c1 := (ht (h 0 113).toNat)) (e1 := (st (h 0 113).toNat)) (tu1 := tu) (a := (a).toNat) (H1 := mo_E (ja_up (h) 0 19 (0)) 14 0 0) (Or.inl rfl) g hB (by dsimp only; omega) (pk_S_ag (ag_up rfl ag_refl) (pk_S_E (pk_S_ag (ag_up rfl ag_refl) hS))) (by (try unfold mo_L); (try unfold mo_E); (try unfold mo_tk); (repeat (refine ag_up rfl ?_)); exact ag_refl) rfl rfl hold (by rw [ho]; decide) (by omega) (fun w q => by rcases q with ⟨-, q⟩ | ⟨q, -⟩; (dsimp only at q; omega); exact absurd q (show ¬ (4 : Int) = 24 by decide)) (by rcases xo4.2.2 with e | e <;> rw [e] <;> first | exact Or.inl rfl | exact Or.inr (Or.inl rfl)) (by rcases xo4.2.2 with e | e <;> rw [e] <;> (show ht (h 0 113).toNat = ht a.toNat + 0; omega)) (by rcases xo4.2.2 with e | e <;> rw [e] <;> (show r + 8 * tu = rg a.toNat + 8 * 0; omega)) (by rcases xo4.2.2 with e | e <;> rw [e] <;> (show st (h 0 113).toNat + 0 ≤ st a.toNat; omega)) (fun _ q => q) (fun p q => pp_cons.mpr (Or.inr q)) ?_ ?_ ?_ ?_ ?_ ?_ ⟨?_, ?_, ?_⟩ (pi_if_tail (show (4 : Int) ≠ 36 by decide)) ⟨(fun q y hy => q y (List.mem_cons_of_mem _ hy)), (fun q y hy => q y (List.mem_cons_of_mem _ hy))⟩ ?_ ?_ (fin_top0 (show (4 : Int) ≠ 1 by decide) p2' (fun _ => form_0 ⟨by show (0 : Int) ≠ 1; decide, by show (0 : Int) ≠ 2; decide⟩)) ?_ (by (try unfold mo_L); (try unfold mo_E); (try unfold mo_tk); (repeat (refine ag_up rfl ?_)); exact ag_refl)
  · show (h 0 18) = _; (try simp only [pk_sum]); omega
  · show (h 0 113) + 1 + _ < 5 * ((h 0 7)); (try simp only [pk_sum]); omega
  · show (h 0 95) + _ < (h 0 7); (try simp only [pk_sum]); omega
  · show (h 0 7) ≤ (h 0 7); omega
  · show (h 0 84) = _; (try simp only [pk_sum]); omega
  · show (h 0 87) = _; (try simp only [pk_sum]); omega
  · show ph = 1 ∨ (h 0 79) ≤ (h 0 77); omega
  · show ph = 1 ∨ (h 0 77) ≤ 10; omega
  · intro q; show ph = 1 ∨ (h 0 77) ≤ 9; exact b4 (fun z => q (fun y hy => z y (List.mem_cons_of_mem _ hy)))
  · unfold pw; rw [ho, hA, hBB, mo_xw, mo_xw, mo_xw, mo_xn', mo_xn', mo_xn']; exact ⟨⟨by decide, by decide⟩, ⟨by omega, by omega⟩, ⟨by omega, by omega, by omega⟩, by omega, (show (1 : Int) ≤ ht (h 0 113).toNat by omega), fun z => absurd z (by decide), fun _ => ⟨(show (ht (h 0 113).toNat) = ht (h 0 113).toNat + (0) by omega), (show r + 8 * tu = rg (h 0 113).toNat + 8 * 0 by omega), by omega, fun _ => by omega⟩, fun z => absurd z (by decide), fun z => absurd z (by decide), fun z => absurd z (by unfold pw_jmp; decide), fun z => absurd z (by decide), fun z => absurd z (by decide), fun z => absurd z (by decide), fun z => absurd z (by decide), fun z => absurd z (by decide), fun z => ⟨⟨by omega, by omega, fun z => absurd z (by decide)⟩, by first | decide | (exfalso; omega)⟩⟩
  · rw [fin_adj p2' (show (4 : Int) ≠ 8 ∧ (4 : Int) ≠ 9 by decide)]; exact pt_eq (show _ = (ht (h 0 113).toNat) - 0 by omega) (show _ = (h 0 109) by omega) (show _ = (st (h 0 113).toNat) by omega) (pt_ext (show (h 0 113) ≤ (h 0 113) + 1 by omega) (Int.le_refl _) (show (h 0 77) ≤ (h 0 77) by omega) (fun _ q => q) hext p4)
  · show 40 * (900 - ((h 0 7))) + pk_sum pk_m (s) + 13 < 40 * (900 - (h 0 7)) + pk_sum pk_m ((4, a, b) :: s) + 13; (try simp only [pk_sum]); omega

theorem ab_loop {h : ja_H} {R r ph q0 : Int} {tf : mo_TF} {s : List mo_A} {ht st rg : Nat → Int} {tu a b : Int} (g : mo_G Zz h) (hS : pk_S h (h 0 17).toNat s) (hB : piB h R r ph tf q0 ((24, a, b) :: s) ht st rg tu) : pi_done h (ja_up (mo_E (h) 21 a 0) 75 (b).toNat ((h 0 113) + 1)) R r ph tf q0 (pi_mu h ((24, a, b) :: s)) := by
  have hN := piB_num g hS hB
  obtain ⟨N1, N2, N3, N4, N5, N6, N7, N8, N9, N10, N11, N12, N13, ⟨NK1, NK2⟩, ND1, ND2, ND3, NU1, NU2⟩ := hN
  obtain ⟨⟨n1, n2, n3, n4, n5, n6, n7, n8, n9⟩, ⟨b1, b2, b3, b4⟩, reg, hpt, ⟨hC, hU⟩, hNo, hP, hT, top⟩ := id hB
  obtain ⟨⟨⟨p1, p1'⟩, p1u⟩, ⟨p2, p2'⟩, p3, p4⟩ := hpt
  have w0 := (gF_wTop g).1
  simp only [pk_sum] at n1 n2 n3 n6 n7
  dsimp only at p2 p2' N6
  have ec24 : pk_c 24 = 0 := rfl
  have ev24 : pk_v 24 = 1 := rfl
  have ed24 : pk_d 24 = 0 := rfl
  have eq24 : pk_q 24 = 0 := rfl
  have ef24 : pk_f 24 = 0 := rfl
  have em24 : pk_m 24 = 1 := rfl
  have eoff24 : pk_off 24 = 1 := rfl
  have ek24 : pk_k r 24 = 0 := rfl
  replace p3 : pt_ok (h 74) ht st rg (h 0 113) (h 0 88) (h 0 77) r (pi_wn h r) (24, a, b) s (ht (h 0 113).toNat - 0) (h 0 109) (st (h 0 113).toNat) tu := p3
  unfold pt_ok at p3; dsimp only at p3
  replace p4 : pt (h 74) ht st rg (h 0 113) (h 0 88) (h 0 77) r tf (pi_wn h r) s (0) ((h 0 109)) (st (h 0 113).toNat) (tu) := p4
  obtain ⟨-, xc, xt, ⟨xe, xu1, xu2⟩, -, -, -, -, -, -, -, -, -, -, -, -, xo14, -, -, -, -, -, -, -, xo24, -, -, -, -, -, -, -⟩ := p3
  replace xo14 := xo14 (by omega)
  have xq1o14 := xo14.1
  have xq2o14 := xo14.2.1
  replace xo24 := xo24 (by omega)
  have hr := reg_of hB (by dsimp only; omega) (by dsimp only; omega)
  have hbo := gF_body g
  have W0 : 0 ≤ (h 0 113) := (gF_words g).1
  have hr4 : 0 ≤ r ∧ r ≤ 3 ∧ (r = 4 → tu = 0) := by
    rcases reg with ⟨q1, q2, -⟩ | ⟨q1, q2, q3, -⟩
    · omega
    · have := q3 _ List.mem_cons_self; dsimp only at this; omega
  have ho : (mo_E (h) 21 a 0) 74 (h 0 113).toNat = 21 := by simp [mo_L, mo_E, mo_tk, ja_up]
  have hA : (mo_E (h) 21 a 0) 75 (h 0 113).toNat = a := by simp [mo_L, mo_E, mo_tk, ja_up]
  have hBB : (mo_E (h) 21 a 0) 76 (h 0 113).toNat = 0 := by simp [mo_L, mo_E, mo_tk, ja_up]
  have hold : ∀ w : Nat, (w : Int) < (h 0 113) → (mo_E (h) 21 a 0) 74 w = (h 74) w ∧ (mo_E (h) 21 a 0) 75 w = (h 75) w ∧ (mo_E (h) 21 a 0) 76 w = (h 76) w := by
    intro w hw; refine ⟨?_, ?_, ?_⟩ <;> simp [mo_L, mo_E, mo_tk, ja_up] <;> (intros; omega)
  have hext : ∀ j : Nat, (j : Int) ≤ (h 0 113) → ((j : Int) < (h 0 113) → (mo_E (h) 21 a 0) 74 j = (h 74) j) ∧ mo_x ht (h 0 113) (0) j = ht j ∧ mo_x st (h 0 113) (0) j = st j ∧ mo_x rg (h 0 113) (r + 8 * tu) j = rg j := fun j hj => ⟨fun q => (hold j q).1, mo_xo W0 (by omega), mo_xo W0 (by omega), mo_xo W0 (by omega)⟩
  obtain ⟨z1, z2, z3, z4, z5⟩ := xo24.2.1
  have ea : ((b.toNat : Nat) : Int) = b := by omega
  obtain ⟨⟨y1, y2, y3, y4, y5⟩, y6⟩ := xo24.1
  have ey : ((a.toNat : Nat) : Int) = a := by omega
  refine fin1P (c1 := 0) (e1 := 0) (tu1 := tu) (a := (b).toNat) (H1 := mo_E (h) 21 a 0) (Or.inl rfl) g hB (by dsimp only; omega) (pk_S_ag (ag_up rfl ag_refl) (pk_S_E hS)) (by (try unfold mo_L); (try unfold mo_E); (try unfold mo_tk); (repeat (refine ag_up rfl ?_)); exact ag_refl) rfl rfl hold (by rw [ho]; decide) (by omega) (fun w q => by rcases q with ⟨q, -⟩ | ⟨-, q⟩; exact absurd q (show ¬ ((24 : Int) = 4 ∨ (24 : Int) = 21 ∨ (24 : Int) = 22 ∨ (24 : Int) = 28) by decide); (dsimp only at q; omega)) (by rw [xo24.2.2]; exact Or.inr (Or.inr (Or.inr (Or.inl rfl)))) (by rw [xo24.2.2]; show (0 : Int) = ht b.toNat + (-1); omega) (by rw [xo24.2.2]; show r + 8 * tu = rg b.toNat + 8 * 0; omega) (by rw [xo24.2.2]; show (0 : Int) + 0 ≤ st b.toNat; omega) (fun _ q => q) (fun p q => pp_cons.mpr (Or.inr q)) ?_ ?_ ?_ ?_ ?_ ?_ ⟨?_, ?_, ?_⟩ (pi_if_tail (show (24 : Int) ≠ 36 by decide)) ⟨(fun q y hy => q y (List.mem_cons_of_mem _ hy)), (fun q y hy => q y (List.mem_cons_of_mem _ hy))⟩ ?_ ?_ (fin_top0 (show (24 : Int) ≠ 1 by decide) p2' (fun q => absurd q (by dsimp only; omega))) ?_ (by (try unfold mo_L); (try unfold mo_E); (try unfold mo_tk); (repeat (refine ag_up rfl ?_)); exact ag_refl)
  · show (h 0 18) = _; (try simp only [pk_sum]); omega
  · show (h 0 113) + 1 + _ < 5 * ((h 0 7)); (try simp only [pk_sum]); omega
  · show (h 0 95) + _ < (h 0 7); (try simp only [pk_sum]); omega
  · show (h 0 7) ≤ (h 0 7); omega
  · show (h 0 84) = _; (try simp only [pk_sum]); omega
  · show (h 0 87) = _; (try simp only [pk_sum]); omega
  · show ph = 1 ∨ (h 0 79) ≤ (h 0 77); omega
  · show ph = 1 ∨ (h 0 77) ≤ 10; omega
  · intro q; show ph = 1 ∨ (h 0 77) ≤ 9; exact b4 (fun z => q (fun y hy => z y (List.mem_cons_of_mem _ hy)))
  · unfold pw; rw [ho, hA, hBB, mo_xw, mo_xw, mo_xw, mo_xn', mo_xn', mo_xn']; exact ⟨⟨by decide, by decide⟩, ⟨by omega, by omega⟩, ⟨by omega, by omega, by omega⟩, by omega, (show (0 : Int) ≤ ht (h 0 113).toNat by omega), fun z => absurd z (by decide), fun _ => ⟨(show 0 = ht (h 0 113).toNat + (0) by omega), (show r + 8 * tu = rg (h 0 113).toNat + 8 * 0 by omega), by omega, fun _ => by omega⟩, fun z => absurd z (by decide), fun _ => (show ht (h 0 113).toNat = 0 by omega), fun _ => Or.inr ⟨y1, by omega, (mo_xo W0 (by omega)).trans (show ht a.toNat = ht (h 0 113).toNat + 0 by omega), (mo_xo W0 (by omega)).trans (show rg a.toNat = rg (h 0 113).toNat + 8 * 0 by omega), Int.le_trans (Int.add_le_add_right (Int.le_of_eq (mo_xo W0 (by omega))) 0) (by omega), Or.inr ⟨by omega, (mo_xo W0 (by omega)).trans y5, (mo_xo W0 (by omega)).trans y6⟩⟩, fun z => absurd z (by decide), fun z => absurd z (by decide), fun z => absurd z (by decide), fun z => absurd z (by decide), fun z => absurd z (by decide), fun z => ⟨⟨by omega, by omega, fun z => absurd z (by decide)⟩, by first | decide | (exfalso; omega)⟩⟩
  · rw [fin_adj p2' (show (24 : Int) ≠ 8 ∧ (24 : Int) ≠ 9 by decide)]; exact pt_eq (show _ = 0 - 0 by omega) (show _ = (h 0 109) by omega) (show _ = 0 by omega) (pt_ext (show (h 0 113) ≤ (h 0 113) + 1 by omega) (Int.le_refl _) (show (h 0 77) ≤ (h 0 77) by omega) (fun _ q => q) hext p4)
  · show 40 * (900 - ((h 0 7))) + pk_sum pk_m (s) + 13 < 40 * (900 - (h 0 7)) + pk_sum pk_m ((24, a, b) :: s) + 13; (try simp only [pk_sum]); omega

theorem ab_else_bl {h : ja_H} {R r ph q0 : Int} {tf : mo_TF} {s : List mo_A} {ht st rg : Nat → Int} {tu a b : Int} (g : mo_G Zz h) (hS : pk_S h (h 0 17).toNat s) (hB : piB h R r ph tf q0 ((21, a, b) :: s) ht st rg tu) : pi_done h (mo_L (mo_L (ja_up (mo_E (mo_tk (h)) 21 0 0) 75 (a).toNat ((h 0 113) + 1)) 22 (h 0 113) 0 0) 14 0 0 0) R r ph tf q0 (pi_mu h ((21, a, b) :: s)) := by
  have hN := piB_num g hS hB
  obtain ⟨N1, N2, N3, N4, N5, N6, N7, N8, N9, N10, N11, N12, N13, ⟨NK1, NK2⟩, ND1, ND2, ND3, NU1, NU2⟩ := hN
  obtain ⟨⟨n1, n2, n3, n4, n5, n6, n7, n8, n9⟩, ⟨b1, b2, b3, b4⟩, reg, hpt, ⟨hC, hU⟩, hNo, hP, hT, top⟩ := id hB
  obtain ⟨⟨⟨p1, p1'⟩, p1u⟩, ⟨p2, p2'⟩, p3, p4⟩ := hpt
  have w0 := (gF_wTop g).1
  simp only [pk_sum] at n1 n2 n3 n6 n7
  dsimp only at p2 p2' N6
  have ec14 : pk_c 14 = 0 := rfl
  have ev14 : pk_v 14 = 0 := rfl
  have ed14 : pk_d 14 = 0 := rfl
  have eq14 : pk_q 14 = 0 := rfl
  have ef14 : pk_f 14 = 0 := rfl
  have em14 : pk_m 14 = 1 := rfl
  have eoff14 : pk_off 14 = 4 := rfl
  have ek14 : pk_k r 14 = 0 := rfl
  have ec21 : pk_c 21 = 0 := rfl
  have ev21 : pk_v 21 = 0 := rfl
  have ed21 : pk_d 21 = 0 := rfl
  have eq21 : pk_q 21 = 0 := rfl
  have ef21 : pk_f 21 = 0 := rfl
  have em21 : pk_m 21 = 1 := rfl
  have eoff21 : pk_off 21 = 1 := rfl
  have ek21 : pk_k r 21 = 0 := rfl
  have ec22 : pk_c 22 = 0 := rfl
  have ev22 : pk_v 22 = 0 := rfl
  have ed22 : pk_d 22 = 0 := rfl
  have eq22 : pk_q 22 = 0 := rfl
  have ef22 : pk_f 22 = 0 := rfl
  have em22 : pk_m 22 = 1 := rfl
  have eoff22 : pk_off 22 = 1 := rfl
  have ek22 : pk_k r 22 = 0 := rfl
  replace p3 : pt_ok (h 74) ht st rg (h 0 113) (h 0 88) (h 0 77) r (pi_wn h r) (21, a, b) s (ht (h 0 113).toNat - 0) (h 0 109) (st (h 0 113).toNat) tu := p3
  unfold pt_ok at p3; dsimp only at p3
  replace p4 : pt (h 74) ht st rg (h 0 113) (h 0 88) (h 0 77) r tf (pi_wn h r) s (0) ((h 0 109)) (st (h 0 113).toNat) (tu) := p4
  obtain ⟨-, xc, xt, ⟨xe, xu1, xu2⟩, -, -, -, -, -, -, -, -, -, -, -, -, xo14, -, -, -, -, xo21, -, -, -, -, -, -, -, -, -, -⟩ := p3
  replace xo14 := xo14 (by omega)
  have xq1o14 := xo14.1
  have xq2o14 := xo14.2.1
  replace xo21 := xo21 (by omega)
  have hr := reg_of hB (by dsimp only; omega) (by dsimp only; omega)
  have hbo := gF_body g
  have W0 : 0 ≤ (h 0 113) := (gF_words g).1
  have hr4 : 0 ≤ r ∧ r ≤ 3 ∧ (r = 4 → tu = 0) := by
    rcases reg with ⟨q1, q2, -⟩ | ⟨q1, q2, q3, -⟩
    · omega
    · have := q3 _ List.mem_cons_self; dsimp only at this; omega
  have ho : (mo_L (mo_L (mo_E (mo_tk (h)) 21 0 0) 22 (h 0 113) 0 0) 14 0 0 0) 74 (h 0 113).toNat = 21 := by simp [mo_L, mo_E, mo_tk, ja_up]
  have hA : (mo_L (mo_L (mo_E (mo_tk (h)) 21 0 0) 22 (h 0 113) 0 0) 14 0 0 0) 75 (h 0 113).toNat = 0 := by simp [mo_L, mo_E, mo_tk, ja_up]
  have hBB : (mo_L (mo_L (mo_E (mo_tk (h)) 21 0 0) 22 (h 0 113) 0 0) 14 0 0 0) 76 (h 0 113).toNat = 0 := by simp [mo_L, mo_E, mo_tk, ja_up]
  have hold : ∀ w : Nat, (w : Int) < (h 0 113) → (mo_L (mo_L (mo_E (mo_tk (h)) 21 0 0) 22 (h 0 113) 0 0) 14 0 0 0) 74 w = (h 74) w ∧ (mo_L (mo_L (mo_E (mo_tk (h)) 21 0 0) 22 (h 0 113) 0 0) 14 0 0 0) 75 w = (h 75) w ∧ (mo_L (mo_L (mo_E (mo_tk (h)) 21 0 0) 22 (h 0 113) 0 0) 14 0 0 0) 76 w = (h 76) w := by
    intro w hw; refine ⟨?_, ?_, ?_⟩ <;> simp [mo_L, mo_E, mo_tk, ja_up] <;> (intros; omega)
  have hext : ∀ j : Nat, (j : Int) ≤ (h 0 113) → ((j : Int) < (h 0 113) → (mo_L (mo_L (mo_E (mo_tk (h)) 21 0 0) 22 (h 0 113) 0 0) 14 0 0 0) 74 j = (h 74) j) ∧ mo_x ht (h 0 113) (0) j = ht j ∧ mo_x st (h 0 113) (0) j = st j ∧ mo_x rg (h 0 113) (r + 8 * tu) j = rg j := fun j hj => ⟨fun q => (hold j q).1, mo_xo W0 (by omega), mo_xo W0 (by omega), mo_xo W0 (by omega)⟩
  obtain ⟨z1, z2, z3, z4, z5⟩ := xo21.1
  have ea : ((a.toNat : Nat) : Int) = a := by omega
  refine fin1P (c1 := 0) (e1 := 0) (tu1 := tu) (a := (a).toNat) (H1 := mo_L (mo_L (mo_E (mo_tk (h)) 21 0 0) 22 (h 0 113) 0 0) 14 0 0 0) (Or.inl rfl) g hB (by dsimp only; omega) (pk_S_L (show 0 ≤ (h 0 17) + 1 by omega) (pk_S_L (show 0 ≤ (h 0 17) by omega) (pk_S_ag (ag_up rfl ag_refl) (pk_S_E (pk_S_ag (ag_up rfl ag_refl) hS))))) (by (try unfold mo_L); (try unfold mo_E); (try unfold mo_tk); (repeat (refine ag_up rfl ?_)); exact ag_refl) (by rw [mo_L_P, mo_L_P]) rfl hold (by rw [ho]; decide) (by omega) (fun w q => by rcases q with ⟨-, q⟩ | ⟨q, -⟩; (dsimp only at q; omega); exact absurd q (show ¬ (21 : Int) = 24 by decide)) (by rw [xo21.2]; exact Or.inr (Or.inr (Or.inr (Or.inl rfl)))) (by rw [xo21.2]; show (0 : Int) = ht a.toNat + (-1); omega) (by rw [xo21.2]; show r + 8 * tu = rg a.toNat + 8 * 0; omega) (by rw [xo21.2]; show (0 : Int) + 0 ≤ st a.toNat; omega) (fun _ q => List.mem_cons_of_mem _ (List.mem_cons_of_mem _ (q))) (fun p q => by simp only [pp_cons] at q ⊢; rcases q with q | q | q <;> first | (exact Or.inr q) | (exfalso; simp [pp] at q)) ?_ ?_ ?_ ?_ ?_ ?_ ⟨?_, ?_, ?_⟩ (by simp only [pi_if, List.mem_cons, exists_eq_or_imp]; simp) ⟨(fun q y hy => by (try simp only [List.mem_cons] at hy); (rcases hy with rfl | rfl | hy) <;> first | (exact q _ (List.mem_cons_of_mem _ hy)) | (have := q _ List.mem_cons_self; dsimp only at this ⊢; omega)), (fun q y hy => by (try simp only [List.mem_cons] at hy); (rcases hy with rfl | rfl | hy) <;> first | (exact q _ (List.mem_cons_of_mem _ hy)) | (have := q _ List.mem_cons_self; dsimp only at this ⊢; omega))⟩ ?_ ?_ ⟨fun e => absurd e (by dsimp only; omega), fun e => absurd e (by dsimp only; omega), fun e => absurd e (by dsimp only; omega), fun e => absurd e (by dsimp only; omega)⟩ ?_ (by (try unfold mo_L); (try unfold mo_E); (try unfold mo_tk); (repeat (refine ag_up rfl ?_)); exact ag_refl)
  · show (h 0 18) = _; (try simp only [pk_sum]); omega
  · show (h 0 113) + 1 + _ < 5 * ((h 0 7) + 1); (try simp only [pk_sum]); omega
  · show (h 0 95) + _ < (h 0 7) + 1; (try simp only [pk_sum]); omega
  · show (h 0 7) ≤ (h 0 7) + 1; omega
  · show (h 0 84) = _; (try simp only [pk_sum]); omega
  · show (h 0 87) = _; (try simp only [pk_sum]); omega
  · show ph = 1 ∨ (h 0 79) ≤ (h 0 77); omega
  · show ph = 1 ∨ (h 0 77) ≤ 10; omega
  · intro q; show ph = 1 ∨ (h 0 77) ≤ 9; refine b4 (fun z => q ?_); intro y hy; simp only [List.mem_cons] at hy; rcases hy with rfl | rfl | hy
    · show (14 : Int) ≠ 17; decide
    · show (22 : Int) ≠ 17; decide
    · exact z y (List.mem_cons_of_mem _ hy)
  · unfold pw; rw [ho, hA, hBB, mo_xw, mo_xw, mo_xw, mo_xn', mo_xn', mo_xn']; exact ⟨⟨by decide, by decide⟩, ⟨by omega, by omega⟩, ⟨by omega, by omega, by omega⟩, by omega, (show (0 : Int) ≤ ht (h 0 113).toNat by omega), fun z => absurd z (by decide), fun _ => ⟨(show 0 = ht (h 0 113).toNat + (0) by omega), (show r + 8 * tu = rg (h 0 113).toNat + 8 * 0 by omega), by omega, fun _ => by omega⟩, fun z => absurd z (by decide), fun _ => (show ht (h 0 113).toNat = 0 by omega), fun _ => Or.inl ⟨_, List.mem_cons_of_mem _ (List.mem_cons_of_mem _ (List.mem_cons_self)), Or.inl ⟨Or.inr (Or.inr (Or.inl rfl)), (show (h 0 113) = (((h 0 113).toNat : Nat) : Int) by omega)⟩⟩, fun z => absurd z (by decide), fun z => absurd z (by decide), fun z => absurd z (by decide), fun z => absurd z (by decide), fun z => absurd z (by decide), fun z => ⟨⟨by omega, by omega, fun z => absurd z (by decide)⟩, by first | decide | (exfalso; omega)⟩⟩
  · exact ⟨⟨⟨by (try simp only [pk_sum]); omega, by (try simp only [pk_sum]); omega⟩, (fun p q => absurd q (by simp [pp]))⟩, ⟨by (try simp only [pk_sum, List.length_cons]); (try dsimp only); omega, (by intro y z e; cases e; dsimp only; omega)⟩, (show pt_ok ((mo_L (mo_L (mo_E (mo_tk (h)) 21 0 0) 22 (h 0 113) 0 0) 14 0 0 0) 74) (mo_x ht (h 0 113) (0)) (mo_x st (h 0 113) (0)) (mo_x rg (h 0 113) (r + 8 * tu)) ((h 0 113) + 1) (h 0 88) (h 0 77) r (pi_wn h r) (14, 0, 0) ((22, (h 0 113), 0) :: s) (0 - 0) ((h 0 109)) (0) (tu) from by unfold pt_ok; (try dsimp only); (try simp only [pk_sum]); exact ⟨⟨by omega, by omega, by omega, by omega⟩, by omega, by omega, ⟨by first | omega | simp, by omega, by omega⟩, fun z => absurd z (by omega), fun z => absurd z (by omega), fun z => absurd z (by omega), fun z => absurd z (by omega), fun z => absurd z (by omega), fun z => absurd z (by omega), fun z => absurd z (by omega), fun z => absurd z (by omega), fun z => absurd z (by omega), fun z => absurd z (by omega), fun z => absurd z (by omega), fun z => absurd z (by omega), fun _ => ⟨by first | trivial | omega, by first | trivial | omega, (pt_let_cons (show (22 : Int) ≠ 17 by decide)).mpr xo14.2.2⟩, fun z => absurd z (by omega), fun z => absurd z (by omega), fun z => absurd z (by omega), fun z => absurd z (by omega), fun z => absurd z (by omega), fun z => absurd z (by omega), fun z => absurd z (by omega), fun z => absurd z (by omega), fun z => absurd z (by omega), fun z => absurd z (by omega), fun z => absurd z (by omega), fun z => absurd z (by omega), fun z => absurd z (by omega), fun z => absurd z (by omega), fun z => absurd z (by omega)⟩), ⟨⟨⟨by (try simp only [pk_sum]); omega, by (try simp only [pk_sum]); omega⟩, (fun p q => absurd q (by simp [pp]))⟩, ⟨by (try simp only [pk_sum, List.length_cons]); (try dsimp only); omega, (by intro y z e; have q := p2' y z e; dsimp only at q ⊢; omega)⟩, (show pt_ok ((mo_L (mo_L (mo_E (mo_tk (h)) 21 0 0) 22 (h 0 113) 0 0) 14 0 0 0) 74) (mo_x ht (h 0 113) (0)) (mo_x st (h 0 113) (0)) (mo_x rg (h 0 113) (r + 8 * tu)) ((h 0 113) + 1) (h 0 88) (h 0 77) r (pi_wn h r) (22, (h 0 113), 0) (s) (0) ((h 0 109)) (0) (tu) from by unfold pt_ok; (try dsimp only); (try simp only [pk_sum]); exact ⟨⟨by omega, by omega, by omega, by omega⟩, by omega, by omega, ⟨by first | omega | simp, by omega, by omega⟩, fun z => absurd z (by omega), fun z => absurd z (by omega), fun z => absurd z (by omega), fun z => absurd z (by omega), fun z => absurd z (by omega), fun z => absurd z (by omega), fun z => absurd z (by omega), fun z => absurd z (by omega), fun z => absurd z (by omega), fun z => absurd z (by omega), fun z => absurd z (by omega), fun z => absurd z (by omega), fun _ => ⟨by first | trivial | omega, by first | trivial | omega, xo14.2.2⟩, fun z => absurd z (by omega), fun z => absurd z (by omega), fun z => absurd z (by omega), fun z => absurd z (by omega), fun z => absurd z (by omega), fun _ => ⟨⟨W0, by omega, (mo_xw).trans (by omega), (mo_xw).trans (by rw [ho]; show rg (h 0 113).toNat = r + 8 * (tu - 0); omega), (mo_xw).trans (by omega)⟩, Or.inl ho⟩, fun z => absurd z (by omega), fun z => absurd z (by omega), fun z => absurd z (by omega), fun z => absurd z (by omega), fun z => absurd z (by omega), fun z => absurd z (by omega), fun z => absurd z (by omega), fun z => absurd z (by omega), fun z => absurd z (by omega)⟩), (pt_eq (show _ = 0 by omega) (show _ = (h 0 109) by omega) (show _ = 0 by omega) (pt_ext (show (h 0 113) ≤ (h 0 113) + 1 by omega) (Int.le_refl _) (show (h 0 77) ≤ (h 0 77) by omega) (fun _ q => q) hext p4))⟩⟩
  · show 40 * (900 - ((h 0 7) + 1)) + pk_sum pk_m ((14, 0, 0) :: (22, (h 0 113), 0) :: s) + 13 < 40 * (900 - (h 0 7)) + pk_sum pk_m ((21, a, b) :: s) + 13; (try simp only [pk_sum]); omega
