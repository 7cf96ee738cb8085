/-! the reference's parser: POINTS that are written, go, judge -/
variable {Zz : Zc}
theorem pi_done_of {h h1 h' : ja_H} {R r ph q0 mu : Int} {tf : mo_TF} (a : mo_ag FK h h1) (q : pi_done h1 h' R r ph tf q0 mu) : pi_done h h' R r ph tf q0 mu := ⟨q.1, ag_trans a q.2⟩
theorem pn_f {h H : ja_H} {ht st rg : Nat → Int} {W : Int} {n : Nat} (f1 : (H 58) = (h 58)) (f2 : (H 59) = (h 59)) (f3 : (H 60) = (h 60)) (f4 : (H 62) = (h 62)) (f5 : (H 63) = (h 63)) (f6 : (H 67) = (h 67)) (f7 : (H 47) = (h 47)) (e4 : (H 0 72) = (h 0 72)) (hf : (H 0 11) = 0 → (h 0 11) = 0) (hv : ∀ k a b, pw_wt h k a b → pw_wt H k a b) (q : pn h ht st rg W n) : pn H ht st rg W n := by
  unfold pn at q ⊢
  rw [f1, f2, f3, f4, f5, f6, f7, e4]
  obtain ⟨q1, q2, q3, q4, q5, q6⟩ := q
  refine ⟨q1, q2, q3, fun z => ⟨(q4 z).1, fun y => (q4 z).2.1 (hf y), (q4 z).2.2⟩, fun z => ?_, fun z k hk => ?_⟩
  · rcases q5 z with a | ⟨a1, a2, a3⟩
    · exact Or.inl a
    · exact Or.inr ⟨a1, a2, hv _ _ _ a3⟩
  · rcases q6 z k hk with a | a | ⟨a1, a2, a3⟩
    · exact Or.inl a
    · exact Or.inr (Or.inl a)
    · exact Or.inr (Or.inr ⟨a1, a2, hv _ _ _ a3⟩)
theorem pN_f {h H : ja_H} {ht st rg : Nat → Int} {W : Int} (f1 : (H 58) = (h 58)) (f2 : (H 59) = (h 59)) (f3 : (H 60) = (h 60)) (f4 : (H 62) = (h 62)) (f5 : (H 63) = (h 63)) (f6 : (H 67) = (h 67)) (f7 : (H 47) = (h 47)) (e3 : (H 0 95) = (h 0 95)) (e4 : (H 0 72) = (h 0 72)) (hf : (H 0 11) = 0 → (h 0 11) = 0) (hv : ∀ k a b, pw_wt h k a b → pw_wt H k a b) (q : pi_N h ht st rg W) : pi_N H ht st rg W :=
  ⟨fun n hn => pn_f f1 f2 f3 f4 f5 f6 f7 e4 hf hv (q.1 n (by rw [← e3]; exact hn)), by unfold pi_V; rw [e4, f7, e3, f1]; exact q.2⟩
theorem piB_judge {h : ja_H} {R r ph q0 f p : Int} {tf : mo_TF} {s : List mo_A} {ht st rg : Nat → Int} {tu : Int} (hf : f = 0 → (h 0 11) = 0) (q : piB h R r ph tf q0 s ht st rg tu) : piB (ja_up (ja_up h 0 11 f) 0 12 p) R r ph tf q0 s ht st rg tu := by
  obtain ⟨n, b, reg, hpt, ⟨hC, hU⟩, hN, hP, hT, top⟩ := q
  have ef : (ja_up (ja_up h 0 11 f) 0 12 p) 0 11 = f := rfl
  have hz : (ja_up (ja_up h 0 11 f) 0 12 p) 0 11 = 0 → (h 0 11) = 0 := fun z => hf (by rw [ef] at z; exact z)
  have hwt : ∀ k a b, pw_wt h k a b → pw_wt (ja_up (ja_up h 0 11 f) 0 12 p) k a b := fun k a b z => z
  refine ⟨n, b, reg, pt_ext (Int.le_refl _) (Int.le_refl _) (Int.le_refl _) (fun a z => ?_) (fun j _ => ⟨fun _ => rfl, rfl, rfl, rfl⟩) hpt, ⟨?_, hU⟩, ?_, hP, hT, ?_⟩
  · exact ⟨⟨fun y e => z.1.1 y (hz e), z.1.2⟩, fun y e => z.2.1 y (hz e), z.2.2.1, z.2.2.2.1, z.2.2.2.2⟩
  · intro w hw
    exact pw_ext (h := h) hw (Int.le_refl _) (fun _ _ => ⟨rfl, rfl, rfl⟩) ⟨rfl, rfl, rfl⟩ hz hwt (Int.le_refl _) (fun _ _ _ q => ⟨rfl, q⟩) (fun _ q => q) (hC w hw)
  · exact pN_f (h := h) rfl rfl rfl rfl rfl rfl rfl rfl rfl hz hwt hN
  · cases s with
    | nil => trivial
    | cons x z => exact top
theorem ab_point {h : ja_H} {R r ph q0 k fv dk p b : Int} {tf : mo_TF} {s : List mo_A} {ht st rg : Nat → Int} {tu : Int} (hk : (k = 10 ∧ fv = 3 ∧ dk = 1) ∨ (k = 11 ∧ fv = 4 ∧ dk = 0)) (g : mo_G Zz h) (hS : pk_S h (h 0 17).toNat s) (hB : piB h R r ph tf q0 ((k, p, b) :: s) ht st rg tu) :
    pi_done h (mo_E (ja_up (ja_up h 55 p.toNat (h 0 21)) 0 19 fv) 15 p 0) R r ph tf q0 (pi_mu h ((k, p, b) :: s)) := by
  have hN := piB_num g hS hB
  obtain ⟨N1, N2, N3, N4, N5, N6, N7, N8, N9, N10, N11, N12, N13, ⟨NK1, NK2⟩, ND1, ND2, ND3, NU1, NU2⟩ := hN
  have hr := reg_of hB (by dsimp only; omega) (by dsimp only; omega)
  obtain ⟨⟨n1, n2, n3, n4, n5, n6, n7, n8, n9⟩, ⟨b1, b2, b3, b4⟩, reg, hpt, ⟨hC, hU⟩, hNo, hP, hT, top⟩ := id hB
  obtain ⟨⟨⟨p1, p1'⟩, p1u⟩, ⟨p2, p2'⟩, p3, p4⟩ := hpt
  have W0 : 0 ≤ (h 0 113) := (gF_words g).1
  have gv := gF_given g
  have hbo := gF_body g
  have ea : pi_adj h ((k, p, b) :: s) = (h 0 21) := if_pos (by dsimp only; omega)
  rw [ea] at p3 p4
  unfold pt_ok at p3
  obtain ⟨-, c0, t0, ⟨e0, -, -⟩, -, -, -, -, -, -, -, -, -, i10, i11, -⟩ := p3
  dsimp only at i10 i11 p2' N6
  simp only [pk_sum] at n1 n2 n3 n6 n7
  have hkp : pp (k, p, b) p := Or.inl ⟨by dsimp only; omega, rfl⟩
  have hns := p1u p hkp
  have hfact : (0 ≤ p ∧ p < (h 0 88)) ∧ dk ≤ ht (h 0 113).toNat - (h 0 21) ∧ ht (h 0 113).toNat - (h 0 21) ≤ pk_sum (pk_k r) s - 6 ∧ r ≤ 3 ∧ (h 52) p.toNat = (if k = 10 then 0 else 2) := by
    rcases hk with ⟨k1, k2, k3⟩ | ⟨k1, k2, k3⟩
    · obtain ⟨a1, a2, a3, a4, a5, a6⟩ := i10 k1
      have := (a5.2.2.1 (by have := (gF_points g).2; omega)).2
      rw [show (1000000 + p - 1000000 : Int) = p by omega] at this
      rw [if_pos k1]
      exact ⟨⟨a3, a4⟩, by omega, by omega, a6, this⟩
    · obtain ⟨a1, a3, a4, a5, a6⟩ := i11 k1
      have := (a5.2.2.2.1 (by have := (gF_points g).2; omega)).2
      rw [show (2000000 + p - 2000000 : Int) = p by omega] at this
      rw [if_neg (by omega)]
      exact ⟨⟨a3, a4⟩, by omega, by omega, a6, this⟩
  obtain ⟨⟨q1, q2⟩, q3, q4, q5, q6⟩ := hfact
  have hkc : pk_c k = 0 ∧ pk_v k = 1 ∧ pk_d k = 0 ∧ pk_q k = 0 ∧ pk_f k = 0 ∧ pk_m k = 1 := by rcases hk with ⟨k1, -, -⟩ | ⟨k1, -, -⟩ <;> subst k1 <;> exact ⟨rfl, rfl, rfl, rfl, rfl, rfl⟩
  obtain ⟨kc, kv, kd, kq, kf, km⟩ := hkc
  generalize hH : mo_E (ja_up (ja_up h 55 p.toNat (h 0 21)) 0 19 fv) 15 p 0 = H
  have hold : ∀ w : Nat, (w : Int) < (h 0 113) → (H 74) w = (h 74) w ∧ (H 75) w = (h 75) w ∧ (H 76) w = (h 76) w := by
    intro w hw; subst hH; refine ⟨?_, ?_, ?_⟩ <;> simp [mo_E, ja_up] <;> (intros; omega)
  have ho : (H 74) (h 0 113).toNat = 15 := by subst hH; simp [mo_E, ja_up]
  have hA : (H 75) (h 0 113).toNat = p := by subst hH; simp [mo_E, ja_up]
  have hw : (H 0 113) = (h 0 113) + 1 := by subst hH; rfl
  have hpk : (H 52) = (h 52) := by subst hH; rfl
  have hpa : ∀ j : Nat, j ≠ p.toNat → (H 55) j = (h 55) j := by
    intro j hj; subst hH; simp [mo_E, ja_up]; intros; omega
  have hpp : (H 55) p.toNat = (h 0 21) := by subst hH; simp [mo_E, ja_up]
  have agN : mo_ag FN h H := by subst hH; unfold mo_E; repeat (refine ag_up rfl ?_)
                                exact ag_refl
  have agP : mo_ag FP h H := by subst hH; unfold mo_E; repeat (refine ag_up rfl ?_)
                                exact ag_refl
  have agT : mo_ag FT h H := by subst hH; unfold mo_E; repeat (refine ag_up rfl ?_)
                                exact ag_refl
  have agk : mo_ag FK h H := by subst hH; unfold mo_E; repeat (refine ag_up rfl ?_)
                                exact ag_refl
  have hwt : ∀ x y z, pw_wt h x y z → pw_wt H x y z := by subst hH; exact fun x y z q => q
  have hpops : pw_pop H p = (h 0 21) + dk := by
    unfold pw_pop; rw [hpp, hpk, q6]
    rcases hk with ⟨k1, k2, k3⟩ | ⟨k1, k2, k3⟩
    · rw [if_pos k1, k3]; rfl
    · rw [if_neg (show ¬ k = 10 by omega), k3]; rfl
  have hf1 : (H 0 11) = (h 0 11) := by subst hH; rfl
  have hpo : (H 0 88) = (h 0 88) := by subst hH; rfl
  have hS' : pk_S H (H 0 17).toNat s := by subst hH; exact pk_S_ag (H := mo_E (ja_up (ja_up h 55 p.toNat (h 0 21)) 0 19 fv) 15 p 0) (ag_up rfl (ag_up rfl (ag_up rfl (ag_up rfl (ag_up rfl (ag_up rfl ag_refl)))))) hS
  have vN : (H 0 18) = (h 0 18) ∧ (H 0 7) = (h 0 7) ∧ (H 0 95) = (h 0 95) ∧ (H 0 68) = (h 0 68) ∧ (H 0 72) = (h 0 72) ∧ (H 0 84) = (h 0 84) ∧ (H 0 87) = (h 0 87) ∧ (H 0 74) = (h 0 74) ∧ (H 0 79) = (h 0 79) ∧ (H 0 77) = (h 0 77) ∧ (H 0 86) = (h 0 86) ∧ (H 0 109) = (h 0 109) ∧ (H 0 19) = fv ∧ (H 0 76) = (h 0 76) := by
    subst hH; exact ⟨rfl, rfl, rfl, rfl, rfl, rfl, rfl, rfl, rfl, rfl, rfl, rfl, rfl, rfl⟩
  clear hH
  obtain ⟨v1, v2, v3, v4, v5, v6, v7, v8, v9, v10, v11, v12, v13, v14⟩ := vN
  have hx : ∀ w : Int, ¬ pj (k, p, b) w := idle_of (by omega)
  have ex : ∀ j : Nat, (j : Int) ≤ (h 0 113) → mo_x ht (h 0 113) (ht (h 0 113).toNat - (h 0 21) + 1 - dk) j = ht j ∧ mo_x st (h 0 113) (st (h 0 113).toNat) j = st j ∧ mo_x rg (h 0 113) (r + 8 * tu) j = rg j := fun j hj => ⟨mo_xo W0 hj, mo_xo W0 hj, mo_xo W0 hj⟩
  refine ⟨⟨s, mo_x ht (h 0 113) (ht (h 0 113).toNat - (h 0 21) + 1 - dk), mo_x st (h 0 113) (st (h 0 113).toNat), mo_x rg (h 0 113) (r + 8 * tu), tu, ⟨hS', ⟨by omega, by rw [hw]; omega, by omega, by omega, by omega, by omega, by omega, n8, n9⟩, ⟨v8.trans b1, by omega, by omega, fun q => ?_⟩, ?_, ?_, ⟨?_, ?_⟩, ?_, pi_P_ag agP hP, pi_T_ag agT hT, fin_top0 (show k ≠ 1 by omega) p2' (fun _ => form_0 (by omega))⟩, ?_⟩, agk⟩
  · rw [v10]; exact b4 (fun z => q (fun y hy => z y (List.mem_cons_of_mem _ hy)))
  · rw [hw, v11, mo_xn W0]
    have hif : pi_if s ↔ pi_if ((k, p, b) :: s) := pi_if_tail (show k ≠ 36 by omega)
    rcases reg with ⟨z1, z2, z3, z4, z5⟩ | ⟨z1, z2, z3, z4⟩
    · exact Or.inl ⟨z1, z2, z3, rfl, fun y hy => z5 y (List.mem_cons_of_mem _ hy)⟩
    · exact Or.inr ⟨z1, z2, fun y hy => z3 y (List.mem_cons_of_mem _ hy), Or.inl ⟨hif.mpr (hr.2.1 z1).1, (hr.2.1 z1).2, by omega⟩⟩
  · rw [hw, mo_xn W0, mo_xn W0, hpo, v10, v12, fin_adj p2' (show k ≠ 8 ∧ k ≠ 9 by omega)]
    have e1 : pt_c (k, p, b) (ht (h 0 113).toNat - (h 0 21)) = ht (h 0 113).toNat - (h 0 21) + 1 - dk - 0 := by
      rcases hk with ⟨k1, -, k3⟩ | ⟨k1, -, k3⟩ <;> subst k1 <;> subst k3
      · show ht (h 0 113).toNat - (h 0 21) = _; omega
      · show ht (h 0 113).toNat - (h 0 21) + 1 = _; omega
    have e2 : pt_t (k, p, b) (h 0 109) = (h 0 109) := by rcases hk with ⟨k1, -, -⟩ | ⟨k1, -, -⟩ <;> subst k1 <;> rfl
    have e3 : pt_e (k, p, b) (st (h 0 113).toNat) = st (h 0 113).toNat := by rcases hk with ⟨k1, -, -⟩ | ⟨k1, -, -⟩ <;> subst k1 <;> rfl
    have e4 : pt_u (k, p, b) tu = tu := by rcases hk with ⟨k1, -, -⟩ | ⟨k1, -, -⟩ <;> subst k1 <;> rfl
    rw [e4] at p4
    refine pt_ext (show (h 0 113) ≤ (h 0 113) + 1 by omega) (Int.le_refl _) (Int.le_refl _) (fun a z => ?_) (fun j hj => ⟨fun q => (hold j q).1, (ex j (by omega)).1, (ex j (by omega)).2.1, (ex j (by omega)).2.2⟩) (pt_eq e1 e2 e3 p4)
    unfold pi_wn at z ⊢
    rw [hf1, hpk, v14, hpo]
    refine ⟨⟨z.1.1, by rw [nf_keep v3 (funext fun j => agN _ _ rfl)]; exact z.1.2⟩, fun y e => ⟨(z.2.1 y e).1, hwt _ _ _ (z.2.1 y e).2⟩, z.2.2.1, z.2.2.2.1, fun y => ?_⟩
    have y2 := z.2.2.2.2 y
    refine ⟨y2.1, y2.2.1, ?_⟩
    rw [hpa _ (fun e => ?_)]
    · exact y2.2.2
    · rw [e, q6] at y2
      have := y2.2.1
      split at this <;> omega
  · rw [hw]
    refine pi_C_emit (s := s) (h := H) (ht := ht) (st := st) (rg := rg) ?_ W0 ex (fun w _ => ⟨rfl, rfl, rfl⟩) ag_refl ?_
    · intro w hw2
      refine pw_ext hw2 (Int.le_refl _) (fun _ _ => ⟨rfl, rfl, rfl⟩) (hold w hw2) (fun z => by rw [← hf1]; exact z) hwt (Int.le_of_eq hpo.symm) (fun z a1 a2 a3 => ⟨?_, fun y => a3 (pp_cons.mpr (Or.inr y))⟩) (fun _ q => pj_tail (hx w) (fun _ q => q) q) (hC w hw2)
      have hne : (h 75) w ≠ p := fun e => a3 (pp_cons.mpr (Or.inl (by rw [e]; exact hkp)))
      unfold pw_pop
      rw [hpk, hpa _ (by omega)]
    · unfold pw
      rw [ho, hA, hpops, mo_xw, mo_xw, mo_xw, mo_xn', mo_xn', mo_xn']
      have m1 : pw_need 15 p ((h 0 21) + dk) = (h 0 21) + dk := rfl
      have m2 : pw_eff 15 p ((h 0 21) + dk) = 1 - ((h 0 21) + dk) := rfl
      rw [m1, m2]
      refine ⟨⟨by decide, by decide⟩, ⟨by omega, by omega⟩, ⟨by omega, by omega, by omega⟩, e0, by omega, fun z => absurd z (by decide), fun _ => ⟨by omega, (show r + 8 * tu = rg (h 0 113).toNat + 8 * 0 by omega), e0, fun _ => Int.le_refl _⟩, fun z => absurd z (by decide), fun z => absurd z (by decide), fun z => absurd z (by unfold pw_jmp; decide), fun z => absurd z (by decide), fun _ => ⟨q1, by omega, hns⟩, fun z => absurd z (by decide), fun z => absurd z (by decide), fun z => absurd z (by decide), fun z => by exfalso; omega⟩
  · rw [hw]
    refine pi_U_emit W0 hU (fun w q => ⟨(hold w q).1, (hold w q).2.1⟩) (fun _ w hw2 z e => ?_)
    rw [hA] at e
    obtain ⟨-, -, -, -, -, -, -, -, -, -, -, c12, -⟩ := hC w hw2
    exact (c12 z).2.2 (pp_cons.mpr (Or.inl (by rw [e]; exact hkp)))
  · rw [hw]
    exact pi_N_ext (by omega) (fun j hj => ⟨(ex j (by omega)).1, (ex j (by omega)).2.2⟩) agN hNo
  · show 40 * (900 - (H 0 7)) + pk_sum pk_m s + 13 < 40 * (900 - (h 0 7)) + (pk_m k + pk_sum pk_m s) + 13
    omega

theorem ab_went {h : ja_H} {R r ph q0 : Int} {tf : mo_TF} {s : List mo_A} {ht st rg : Nat → Int} {tu a b : Int} (g : mo_G Zz h) (hS : pk_S h (h 0 17).toNat s) (hB : piB h R r ph tf q0 ((12, a, b) :: s) ht st rg tu)  : pi_done h (mo_E (ja_up (h) 0 19 (5)) 16 (1 + (h 0 21)) 0) R r ph tf q0 (pi_mu h ((12, a, b) :: s)) := by
  have hN := piB_num g hS hB
  obtain ⟨N1, N2, N3, N4, N5, N6, N7, N8, N9, N10, N11, N12, N13, ⟨NK1, NK2⟩, ND1, ND2, ND3, NU1, NU2⟩ := hN
  obtain ⟨⟨n1, n2, n3, n4, n5, n6, n7, n8, n9⟩, ⟨b1, b2, b3, b4⟩, reg, hpt, ⟨hC, hU⟩, hNo, hP, hT, top⟩ := id hB
  obtain ⟨⟨⟨p1, p1'⟩, p1u⟩, ⟨p2, p2'⟩, p3, p4⟩ := hpt
  have w0 := (gF_wTop g).1
  simp only [pk_sum] at n1 n2 n3 n6 n7
  dsimp only at p2 p2' N6
  have ec12 : pk_c 12 = 0 := rfl
  have ev12 : pk_v 12 = 1 := rfl
  have ed12 : pk_d 12 = 0 := rfl
  have eq12 : pk_q 12 = 0 := rfl
  have ef12 : pk_f 12 = 0 := rfl
  have em12 : pk_m 12 = 1 := rfl
  have eoff12 : pk_off 12 = 3 := rfl
  have ek12 : pk_k r 12 = 0 := rfl
  have ea : pi_adj h ((12, a, b) :: s) = (h 0 21) := rfl
  rw [ea] at p3 p4
  replace p3 : pt_ok (h 74) ht st rg (h 0 113) (h 0 88) (h 0 77) r (pi_wn h r) (12, a, b) s (ht (h 0 113).toNat - (h 0 21)) (h 0 109) (st (h 0 113).toNat) tu := p3
  unfold pt_ok at p3; dsimp only at p3
  replace p4 : pt (h 74) ht st rg (h 0 113) (h 0 88) (h 0 77) r tf (pi_wn h r) s ((ht (h 0 113).toNat - (h 0 21)) + 1) ((h 0 109)) (st (h 0 113).toNat) (tu) := p4
  obtain ⟨-, xc, xt, ⟨xe, xu1, xu2⟩, -, -, -, -, -, -, -, -, -, -, -, xo12, -, -, -, -, -, -, -, -, -, -, -, -, -, -, -, -⟩ := p3
  replace xo12 := xo12 (by omega)
  have hr := reg_of hB (by dsimp only; omega) (by dsimp only; omega)
  have hbo := gF_body g
  have w0 := (gF_wTop g).1
  have W0 : 0 ≤ (h 0 113) := (gF_words g).1
  have xr12 := xo12.1
  have hr4 : 0 ≤ r ∧ r ≤ 4 ∧ (r = 4 → tu = 0) := by
    rcases reg with ⟨q1, q2, -⟩ | ⟨q1, q2, q3, -⟩
    · omega
    · omega
  have ho : (mo_E (ja_up (h) 0 19 (5)) 16 (1 + (h 0 21)) 0) 74 (h 0 113).toNat = 16 := by simp [mo_L, mo_E, mo_tk, ja_up]
  have hA : (mo_E (ja_up (h) 0 19 (5)) 16 (1 + (h 0 21)) 0) 75 (h 0 113).toNat = (1 + (h 0 21)) := by simp [mo_L, mo_E, mo_tk, ja_up]
  have hBB : (mo_E (ja_up (h) 0 19 (5)) 16 (1 + (h 0 21)) 0) 76 (h 0 113).toNat = 0 := by simp [mo_L, mo_E, mo_tk, ja_up]
  have hold : ∀ w : Nat, (w : Int) < (h 0 113) → (mo_E (ja_up (h) 0 19 (5)) 16 (1 + (h 0 21)) 0) 74 w = (h 74) w ∧ (mo_E (ja_up (h) 0 19 (5)) 16 (1 + (h 0 21)) 0) 75 w = (h 75) w ∧ (mo_E (ja_up (h) 0 19 (5)) 16 (1 + (h 0 21)) 0) 76 w = (h 76) w := by
    intro w hw; refine ⟨?_, ?_, ?_⟩ <;> simp [mo_L, mo_E, mo_tk, ja_up] <;> (intros; omega)
  have hext : ∀ j : Nat, (j : Int) ≤ (h 0 113) → ((j : Int) < (h 0 113) → (mo_E (ja_up (h) 0 19 (5)) 16 (1 + (h 0 21)) 0) 74 j = (h 74) j) ∧ mo_x ht (h 0 113) ((ht (h 0 113).toNat - (h 0 21) + 1)) j = ht j ∧ mo_x st (h 0 113) ((st (h 0 113).toNat)) j = st j ∧ mo_x rg (h 0 113) (r + 8 * tu) j = rg j := fun j hj => ⟨fun q => (hold j q).1, mo_xo W0 (by omega), mo_xo W0 (by omega), mo_xo W0 (by omega)⟩
  have gv := gF_given g
  have m5 : ∀ q, pw_need 16 (1 + (h 0 21)) q = (h 0 21) := by
    intro q; unfold pw_need; rw [if_neg (by decide), if_neg (by decide), if_pos rfl, if_neg (by omega)]; omega
  have m7 : ∀ q, pw_eff 16 (1 + (h 0 21)) q = 1 - (h 0 21) := by
    intro q; unfold pw_eff; rw [if_neg (by decide), if_neg (by decide), if_pos rfl, if_neg (by omega)]; omega
  refine fin1 (c1 := (ht (h 0 113).toNat - (h 0 21) + 1)) (e1 := (st (h 0 113).toNat)) (tu1 := tu) (Or.inl rfl) g hB (by dsimp only; omega) (pk_S_E (pk_S_ag (ag_up rfl ag_refl) hS)) (by (try unfold mo_L); (try unfold mo_E); (try unfold mo_tk); (repeat (refine ag_up rfl ?_)); exact ag_refl) rfl hold (by rw [ho]; decide) (idle_of (show (12 : Int) ≠ 4 ∧ (12 : Int) ≠ 21 ∧ (12 : Int) ≠ 22 ∧ (12 : Int) ≠ 28 ∧ (12 : Int) ≠ 24 by decide)) (fun _ q => q) (fun p q => pp_cons.mpr (Or.inr q)) ?_ ?_ ?_ ?_ ?_ ?_ ⟨?_, ?_, ?_⟩ (pi_if_tail (show (12 : Int) ≠ 36 by decide)) ⟨(fun q y hy => q y (List.mem_cons_of_mem _ hy)), (fun q y hy => q y (List.mem_cons_of_mem _ hy))⟩ ?_ ?_ (fin_top0 (show (12 : Int) ≠ 1 by decide) p2' (fun _ => form_0 ⟨by show (5 : Int) ≠ 1; decide, by show (5 : Int) ≠ 2; decide⟩)) ?_ (by (try unfold mo_L); (try unfold mo_E); (try unfold mo_tk); (repeat (refine ag_up rfl ?_)); exact ag_refl)
  · show (h 0 18) = _; (try simp only [pk_sum]); omega
  · show (h 0 113) + 1 + _ < 5 * ((h 0 7)); (try simp only [pk_sum]); omega
  · show (h 0 95) + _ < (h 0 7); (try simp only [pk_sum]); omega
  · show (h 0 7) ≤ (h 0 7); omega
  · show (h 0 84) = _; (try simp only [pk_sum]); omega
  · show (h 0 87) = _; (try simp only [pk_sum]); omega
  · show ph = 1 ∨ (h 0 79) ≤ (h 0 77); omega
  · show ph = 1 ∨ (h 0 77) ≤ 10; omega
  · intro q; show ph = 1 ∨ (h 0 77) ≤ 9; exact b4 (fun z => q (fun y hy => z y (List.mem_cons_of_mem _ hy)))
  · unfold pw; rw [ho, hA, hBB, mo_xw, mo_xw, mo_xw, mo_xn', mo_xn', mo_xn']; exact ⟨⟨by decide, by decide⟩, ⟨by omega, by omega⟩, ⟨by omega, by omega, by omega⟩, by omega, (by rw [m5]; omega), fun z => absurd z (by decide), fun _ => ⟨by rw [m7]; omega, (show r + 8 * tu = rg (h 0 113).toNat + 8 * 0 by omega), by omega, fun _ => by omega⟩, fun z => absurd z (by decide), fun z => absurd z (by decide), fun z => absurd z (by unfold pw_jmp; decide), fun z => absurd z (by decide), fun z => absurd z (by decide), fun _ => ⟨by omega, by omega, fun z => by have := xo12.2.1.1.1 rfl z; omega⟩, fun z => absurd z (by decide), fun z => absurd z (by decide), fun z => by exfalso; have := xo12.2.2; omega⟩
  · rw [fin_adj p2' (show (12 : Int) ≠ 8 ∧ (12 : Int) ≠ 9 by decide)]; exact pt_eq (show _ = (ht (h 0 113).toNat - (h 0 21) + 1) - 0 by omega) (show _ = (h 0 109) by omega) (show _ = (st (h 0 113).toNat) by omega) (pt_ext (show (h 0 113) ≤ (h 0 113) + 1 by omega) (Int.le_refl _) (show (h 0 77) ≤ (h 0 77) by omega) (fun _ q => q) hext p4)
  · show 40 * (900 - ((h 0 7))) + pk_sum pk_m (s) + 13 < 40 * (900 - (h 0 7)) + pk_sum pk_m ((12, a, b) :: s) + 13; (try simp only [pk_sum]); omega
