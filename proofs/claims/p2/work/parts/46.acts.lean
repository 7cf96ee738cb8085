/-! the reference's parser: a word, with a want or a judgement -/
variable {Zz : Zc}
def FE1g : Nat → Nat → Bool := mo_F [88, 95, 72, 85, 109, 74, 76, 86, 34] [24, 52, 55, 54, 56, 57, 58, 59, 60, 62, 63, 67, 47, 70]
theorem FE1g_FT (k j : Nat) (e : FT k j = true) : FE1g k j = true := by
  unfold FT mo_F at e; unfold FE1g mo_F
  split at e
  · next z => rw [if_pos z]; simp at e ⊢; omega
  · next z => rw [if_neg z]; simp at e ⊢; omega
def mo_W (h : ja_H) (a b c : Int) : ja_H := ja_up (ja_up (ja_up (ja_up h 45 ((h 0 68)).toNat a) 44 ((h 0 68)).toNat b) 46 ((h 0 68)).toNat c) 0 68 ((h 0 68) + 1)
theorem mo_W_wt {h : ja_H} {a b c k x y : Int} (h0 : 0 ≤ (h 0 68)) (q : pw_wt h k x y) : pw_wt (mo_W h a b c) k x y := by
  refine pw_wt_ext (h := h) (show (h 0 68) ≤ (h 0 68) + 1 by omega) (fun j hj => ?_) q
  refine ⟨?_, ?_, ?_⟩ <;> simp [mo_W, ja_up] <;> (intros; omega)
theorem mo_W_new {h : ja_H} {a b c : Int} (h0 : 0 ≤ (h 0 68)) : pw_wt (mo_W h a b c) a b c := by
  refine ⟨(h 0 68).toNat, show (((h 0 68).toNat : Nat) : Int) < (h 0 68) + 1 by omega, ?_, ?_, fun _ => ?_⟩ <;> simp [mo_W, ja_up]
theorem fin1g {h H : ja_H} {R r ph q0 m c1 e1 tu1 : Int} {tf : mo_TF} {x : mo_A} {s s' : List mo_A} {ht st rg : Nat → Int} {tu : Int} (htu : tu1 = tu ∨ ph = 0) (g : mo_G Zz h) (hB : piB h R r ph tf q0 (x :: s) ht st rg tu) (hreg : x.1 ≤ 30 ∨ 38 ≤ x.1) (hS' : pk_S H (H 0 17).toNat s') (ag : mo_ag FE1g h H) (hf : (H 0 11) = 0 → (h 0 11) = 0) (hv : ∀ k a b, pw_wt h k a b → pw_wt H k a b) (hwa : (H 0 68) < (H 0 7))
    (hw : (H 0 113) = (h 0 113) + 1) (hold : ∀ w : Nat, (w : Int) < (h 0 113) → (H 74) w = (h 74) w ∧ (H 75) w = (h 75) w ∧ (H 76) w = (h 76) w) (ho : (H 74) (h 0 113).toNat ≠ 15)
    (hx : ∀ w : Int, ¬ pj x w) (hsub : ∀ y ∈ s, y ∈ s') (hpp : ∀ p, pp_in s' p → pp_in (x :: s) p)
    (n1 : (H 0 18) = pk_sum pk_c s') (n2 : (h 0 113) + 1 + pk_sum pk_v s' < 5 * (H 0 7)) (n3 : (h 0 95) + pk_sum pk_d s' < (H 0 7)) (n5 : (H 0 84) = q0 + pk_sum pk_q s') (n6 : (H 0 87) = pk_sum pk_f s')
    (b : (ph = 1 ∨ (H 0 79) ≤ (H 0 77)) ∧ (ph = 1 ∨ (H 0 77) ≤ 10) ∧ (¬ pt_let s' → ph = 1 ∨ (H 0 77) ≤ 9)) (hif : pi_if s' ↔ pi_if (x :: s)) (hal : ((∀ y ∈ x :: s, y.1 ≤ 30 ∨ 37 ≤ y.1) → ∀ y ∈ s', y.1 ≤ 30 ∨ 37 ≤ y.1) ∧ ((∀ y ∈ x :: s, y.1 ≤ 12 ∨ 31 ≤ y.1) → ∀ y ∈ s', y.1 ≤ 12 ∨ 31 ≤ y.1))
    (new : pw H (mo_x ht (h 0 113) c1) (mo_x st (h 0 113) e1) (mo_x rg (h 0 113) (r + 8 * tu1)) ((h 0 113) + 1) s' (h 0 113).toNat)
    (hpt : pt (H 74) (mo_x ht (h 0 113) c1) (mo_x st (h 0 113) e1) (mo_x rg (h 0 113) (r + 8 * tu1)) ((h 0 113) + 1) (h 0 88) (H 0 77) r tf (pi_wn h r) s' (c1 - pi_adj H s') (h 0 109) e1 tu1) (top : pi_top H (mo_x ht (h 0 113) c1) s') (mu : pi_mu H s' < m) (agk : mo_ag FK h H) : pi_done h H R r ph tf q0 m := by
  have hr := reg_of hB (by omega) (by omega)
  obtain ⟨⟨o1, o2, o3, o4, o5, o6, o7, o8, o9⟩, ⟨ob, -, -, -⟩, oreg, -, ⟨oC, oU⟩, oN, oP, oT, -⟩ := hB
  have w0 : 0 ≤ (h 0 113) := (gF_words g).1
  have e2 : (H 0 88) = (h 0 88) := ag _ _ rfl
  have e3 : (H 0 109) = (h 0 109) := ag _ _ rfl
  have e4 : (H 0 95) = (h 0 95) := ag _ _ rfl
  have e6 : (H 0 72) = (h 0 72) := ag _ _ rfl
  have e7 : (H 0 74) = (h 0 74) := ag _ _ rfl
  have e8 : (H 0 86) = (h 0 86) := ag _ _ rfl
  have e10 : (H 0 76) = (h 0 76) := ag _ _ rfl
  have k1 : (H 52) = (h 52) := funext fun j => ag _ _ rfl
  have k2 : (H 55) = (h 55) := funext fun j => ag _ _ rfl
  have k3 : (H 54) = (h 54) := funext fun j => ag _ _ rfl
  have k4 : (H 56) = (h 56) := funext fun j => ag _ _ rfl
  have k5 : (H 57) = (h 57) := funext fun j => ag _ _ rfl
  have l1 : (H 58) = (h 58) := funext fun j => ag _ _ rfl
  have l2 : (H 59) = (h 59) := funext fun j => ag _ _ rfl
  have l3 : (H 60) = (h 60) := funext fun j => ag _ _ rfl
  have l4 : (H 62) = (h 62) := funext fun j => ag _ _ rfl
  have l5 : (H 63) = (h 63) := funext fun j => ag _ _ rfl
  have l6 : (H 67) = (h 67) := funext fun j => ag _ _ rfl
  have l7 : (H 47) = (h 47) := funext fun j => ag _ _ rfl
  have ex : ∀ j : Nat, (j : Int) ≤ (h 0 113) → mo_x ht (h 0 113) c1 j = ht j ∧ mo_x st (h 0 113) e1 j = st j ∧ mo_x rg (h 0 113) (r + 8 * tu1) j = rg j := fun j hj => ⟨mo_xo w0 hj, mo_xo w0 hj, mo_xo w0 hj⟩
  refine ⟨⟨s', mo_x ht (h 0 113) c1, mo_x st (h 0 113) e1, mo_x rg (h 0 113) (r + 8 * tu1), tu1, ⟨hS', ⟨n1, by rw [hw]; exact n2, by rw [e4]; exact n3, hwa, by rw [e6, e4]; exact o5, n5, n6, o8, o9⟩, ⟨e7.trans ob, b⟩, ?_, ?_, ⟨?_, ?_⟩, ?_, ?_, ?_, top⟩, mu⟩, agk⟩
  · rw [hw, e8, hif, mo_xn w0]
    rcases oreg with ⟨q1, q2, q3, q4, q5⟩ | ⟨q1, q2, q3, q4⟩
    · exact Or.inl ⟨q1, q2, q3, rfl, hal.1 q5⟩
    · exact Or.inr ⟨q1, ⟨q2.1, by omega⟩, hal.2 q3, Or.inl ⟨(hr.2.1 q1).1, (hr.2.1 q1).2, by omega⟩⟩
  · rw [hw, mo_xn w0, mo_xn w0, e2, e3]
    refine pt_ext (Int.le_refl _) (Int.le_refl _) (Int.le_refl _) (fun a z => ?_) (fun _ _ => ⟨fun _ => rfl, rfl, rfl, rfl⟩) hpt
    unfold pi_wn at z ⊢
    rw [k1, k2, e10, e2]
    exact ⟨⟨fun y e => z.1.1 y (hf e), by rw [nf_keep e4 l6]; exact z.1.2⟩, fun y e => ⟨(z.2.1 y (hf e)).1, hv _ _ _ (z.2.1 y (hf e)).2⟩, z.2.2⟩
  · rw [hw]
    intro w hw2
    rcases Int.lt_or_le (w : Int) (h 0 113) with q | q
    · refine pw_ext q (by omega) ex (hold w q) hf hv (Int.le_of_eq e2.symm) (fun _ _ _ q => ⟨?_, fun z => q (hpp _ z)⟩) (fun _ q => pj_tail (hx w) hsub q) (oC w q)
      unfold pw_pop; rw [k1, k2]
    · have e : w = (h 0 113).toNat := by omega
      rw [e]; exact new
  · rw [hw]
    exact pi_U_emit w0 oU (fun w q => ⟨(hold w q).1, (hold w q).2.1⟩) (fun z => absurd z ho)
  · rw [hw]
    refine pi_N_ext (h := H) (ht := ht) (st := st) (rg := rg) (W := (h 0 113)) (by omega) (fun j hj => ⟨(ex j (by omega)).1, (ex j (by omega)).2.2⟩) ag_refl ?_
    exact pN_f l1 l2 l3 l4 l5 l6 l7 e4 e6 hf hv oN
  · have m1 : (H 0 34) = (h 0 34) := ag _ _ rfl
    have m2 : (H 24) = (h 24) := funext fun j => ag _ _ rfl
    refine ⟨fun m hm => ?_, fun p hp => ?_⟩
    · rw [m1] at hm
      rw [m2, e2, k1]
      exact oP.1 m hm
    · rw [e2] at hp
      rw [k1, k3, k4, k5, m1]
      obtain ⟨a1, a2, a3, a4⟩ := oP.2 p hp
      exact ⟨a1, a2, a3, fun z => hv _ _ _ (a4 z)⟩
  · exact pi_T_ag (ag_sub FE1g_FT ag) oT

theorem pk_S_W {h : ja_H} {s : List mo_A} {a b c : Int} (q : pk_S h (h 0 17).toNat s) : pk_S (mo_W h a b c) (mo_W h a b c 0 17).toNat s := pk_S_ag (H := mo_W h a b c) (ag_up rfl (ag_up rfl (ag_up rfl (ag_up rfl ag_refl)))) q
theorem ab_od_loadf {h : ja_H} {R r ph q0 : Int} {tf : mo_TF} {s : List mo_A} {ht st rg : Nat → Int} {tu a b : Int} (g : mo_G Zz h) (hS : pk_S h (h 0 17).toNat s) (hB : piB h R r ph tf q0 ((6, a, b) :: s) ht st rg tu) {tok : Int} (htk : 0 ≤ tok ∧ tok ≤ 900) (hib : (h 0 86) = 1 ∨ 2 ≤ (h 0 74)) : pi_done h (mo_L (mo_tk (mo_E (mo_W (ja_up (h) 0 19 (1)) 1 tok (h 0 76)) 6 tok (h 0 76))) 7 0 0 0) R r ph tf q0 (pi_mu h ((6, a, b) :: s)) := by
  have hN := piB_num g hS hB
  obtain ⟨N1, N2, N3, N4, N5, N6, N7, N8, N9, N10, N11, N12, N13, ⟨NK1, NK2⟩, ND1, ND2, ND3, NU1, NU2⟩ := hN
  obtain ⟨⟨n1, n2, n3, n4, n5, n6, n7, n8, n9⟩, ⟨b1, b2, b3, b4⟩, reg, hpt, ⟨hC, hU⟩, hNo, hP, hT, top⟩ := id hB
  obtain ⟨⟨⟨p1, p1'⟩, p1u⟩, ⟨p2, p2'⟩, p3, p4⟩ := hpt
  have w0 := (gF_wTop g).1
  simp only [pk_sum] at n1 n2 n3 n6 n7
  dsimp only at p2 p2' N6
  have ec6 : pk_c 6 = 0 := rfl
  have ev6 : pk_v 6 = (-4) := rfl
  have ed6 : pk_d 6 = 0 := rfl
  have eq6 : pk_q 6 = 0 := rfl
  have ef6 : pk_f 6 = 0 := rfl
  have em6 : pk_m 6 = (-12) := rfl
  have eoff6 : pk_off 6 = 2 := rfl
  have ek6 : pk_k r 6 = 0 := rfl
  have ec7 : pk_c 7 = 0 := rfl
  have ev7 : pk_v 7 = 0 := rfl
  have ed7 : pk_d 7 = 0 := rfl
  have eq7 : pk_q 7 = 0 := rfl
  have ef7 : pk_f 7 = 0 := rfl
  have em7 : pk_m 7 = 1 := rfl
  have eoff7 : pk_off 7 = 2 := rfl
  have ek7 : pk_k r 7 = 0 := rfl
  replace p3 : pt_ok (h 74) ht st rg (h 0 113) (h 0 88) (h 0 77) r (pi_wn h r) (6, a, b) s (ht (h 0 113).toNat - 0) (h 0 109) (st (h 0 113).toNat) tu := p3
  unfold pt_ok at p3; dsimp only at p3
  replace p4 : pt (h 74) ht st rg (h 0 113) (h 0 88) (h 0 77) r tf (pi_wn h r) s ((ht (h 0 113).toNat - 0) + 1) ((h 0 109)) (st (h 0 113).toNat) (tu) := p4
  obtain ⟨-, xc, xt, ⟨xe, xu1, xu2⟩, -, -, -, -, -, xo6, -, -, -, -, -, -, -, -, -, -, -, -, -, -, -, -, -, -, -, -, -, -⟩ := p3
  replace xo6 := xo6 (by omega)
  have hr := reg_of hB (by dsimp only; omega) (by dsimp only; omega)
  have hbo := gF_body g
  have w0 := (gF_wTop g).1
  have W0 : 0 ≤ (h 0 113) := (gF_words g).1
  have hr4 : 0 ≤ r ∧ r ≤ 4 ∧ (r = 4 → tu = 0) := by
    rcases reg with ⟨q1, q2, -⟩ | ⟨q1, q2, q3, -⟩
    · omega
    · omega
  have ho : (mo_L (mo_tk (mo_E (mo_W (ja_up (h) 0 19 (1)) 1 tok (h 0 76)) 6 tok (h 0 76))) 7 0 0 0) 74 (h 0 113).toNat = 6 := by simp [mo_L, mo_E, mo_W, mo_tk, ja_up]
  have hA : (mo_L (mo_tk (mo_E (mo_W (ja_up (h) 0 19 (1)) 1 tok (h 0 76)) 6 tok (h 0 76))) 7 0 0 0) 75 (h 0 113).toNat = tok := by simp [mo_L, mo_E, mo_W, mo_tk, ja_up]
  have hBB : (mo_L (mo_tk (mo_E (mo_W (ja_up (h) 0 19 (1)) 1 tok (h 0 76)) 6 tok (h 0 76))) 7 0 0 0) 76 (h 0 113).toNat = (h 0 76) := by simp [mo_L, mo_E, mo_W, mo_tk, ja_up]
  have hold : ∀ w : Nat, (w : Int) < (h 0 113) → (mo_L (mo_tk (mo_E (mo_W (ja_up (h) 0 19 (1)) 1 tok (h 0 76)) 6 tok (h 0 76))) 7 0 0 0) 74 w = (h 74) w ∧ (mo_L (mo_tk (mo_E (mo_W (ja_up (h) 0 19 (1)) 1 tok (h 0 76)) 6 tok (h 0 76))) 7 0 0 0) 75 w = (h 75) w ∧ (mo_L (mo_tk (mo_E (mo_W (ja_up (h) 0 19 (1)) 1 tok (h 0 76)) 6 tok (h 0 76))) 7 0 0 0) 76 w = (h 76) w := by
    intro w hw; refine ⟨?_, ?_, ?_⟩ <;> simp [mo_L, mo_E, mo_W, mo_tk, ja_up] <;> (intros; omega)
  have hext : ∀ j : Nat, (j : Int) ≤ (h 0 113) → ((j : Int) < (h 0 113) → (mo_L (mo_tk (mo_E (mo_W (ja_up (h) 0 19 (1)) 1 tok (h 0 76)) 6 tok (h 0 76))) 7 0 0 0) 74 j = (h 74) j) ∧ mo_x ht (h 0 113) ((ht (h 0 113).toNat + 1)) j = ht j ∧ mo_x st (h 0 113) ((st (h 0 113).toNat)) j = st j ∧ mo_x rg (h 0 113) (r + 8 * tu) j = rg j := fun j hj => ⟨fun q => (hold j q).1, mo_xo W0 (by omega), mo_xo W0 (by omega), mo_xo W0 (by omega)⟩
  have ga := gF_inAspect g
  have hr2 : 2 ≤ r := by
    rcases reg with ⟨q1, q2, q3, -⟩ | ⟨q1, q2, -⟩
    · omega
    · omega
  refine fin1g (c1 := (ht (h 0 113).toNat + 1)) (e1 := (st (h 0 113).toNat)) (tu1 := tu) (Or.inl rfl) g hB (by dsimp only; omega) (pk_S_L (show 0 ≤ (h 0 17) by omega) (pk_S_ag (ag_up rfl ag_refl) (pk_S_E (pk_S_W (pk_S_ag (ag_up rfl ag_refl) hS))))) (by (try unfold mo_L); (try unfold mo_E); (try unfold mo_W); (try unfold mo_tk); (repeat (refine ag_up rfl ?_)); exact ag_refl) (fun z => z) (fun k x y q => mo_W_wt (gF_wants g).1 q) (show (h 0 68) + 1 < (h 0 7) + 1 by omega) rfl hold (by rw [ho]; decide) (idle_of (show (6 : Int) ≠ 4 ∧ (6 : Int) ≠ 21 ∧ (6 : Int) ≠ 22 ∧ (6 : Int) ≠ 28 ∧ (6 : Int) ≠ 24 by decide)) (fun _ q => List.mem_cons_of_mem _ (q)) (fun p q => by simp only [pp_cons] at q ⊢; rcases q with q | q <;> first | (exact Or.inr q) | (exfalso; simp [pp] at q)) ?_ ?_ ?_ ?_ ?_ ⟨?_, ?_, ?_⟩ (by simp only [pi_if, List.mem_cons, exists_eq_or_imp]; simp) ⟨(fun q y hy => by (try simp only [List.mem_cons] at hy); (rcases hy with rfl | hy) <;> first | (exact q _ (List.mem_cons_of_mem _ hy)) | (have := q _ List.mem_cons_self; dsimp only at this ⊢; omega)), (fun q y hy => by (try simp only [List.mem_cons] at hy); (rcases hy with rfl | hy) <;> first | (exact q _ (List.mem_cons_of_mem _ hy)) | (have := q _ List.mem_cons_self; dsimp only at this ⊢; omega))⟩ ?_ ?_ ⟨fun _ => ⟨fun _ => ⟨by show 1 ≤ (h 0 113) + 1; omega, Or.inr ⟨(by show (mo_L (mo_tk (mo_E (mo_W (ja_up (h) 0 19 (1)) 1 tok (h 0 76)) 6 tok (h 0 76))) 7 0 0 0) 74 ((h 0 113) + 1 - 1).toNat = 6; rw [show (h 0 113) + 1 - 1 = (h 0 113) by omega]; exact ho), (by show (mo_L (mo_tk (mo_E (mo_W (ja_up (h) 0 19 (1)) 1 tok (h 0 76)) 6 tok (h 0 76))) 7 0 0 0) 76 ((h 0 113) + 1 - 1).toNat = (h 0 76); rw [show (h 0 113) + 1 - 1 = (h 0 113) by omega]; exact hBB)⟩⟩, fun e => absurd e (show ¬ (1 : Int) = 2 by decide), fun _ w hw hj => by have q := form_new (s' := (7, 0, 0) :: s) hC (idle_of (show (6 : Int) ≠ 4 ∧ (6 : Int) ≠ 21 ∧ (6 : Int) ≠ 22 ∧ (6 : Int) ≠ 28 ∧ (6 : Int) ≠ 24 by decide)) (fun _ q => List.mem_cons_of_mem _ q) hold (by rw [ho]; unfold pw_jmp; decide) w hw hj; rcases q with q | q; exact Or.inl q; exact Or.inr (show _ ≤ (h 0 113) + 1 - 1 by omega)⟩, fun e => absurd e (by dsimp only; omega), fun e => absurd e (by dsimp only; omega), fun e => absurd e (by dsimp only; omega)⟩ ?_ (by (try unfold mo_L); (try unfold mo_E); (try unfold mo_W); (try unfold mo_tk); (repeat (refine ag_up rfl ?_)); exact ag_refl)
  · show (h 0 18) = _; (try simp only [pk_sum]); omega
  · show (h 0 113) + 1 + _ < 5 * ((h 0 7) + 1); (try simp only [pk_sum]); omega
  · show (h 0 95) + _ < (h 0 7) + 1; (try simp only [pk_sum]); omega
  · show (h 0 84) = _; (try simp only [pk_sum]); omega
  · show (h 0 87) = _; (try simp only [pk_sum]); omega
  · show ph = 1 ∨ (h 0 79) ≤ (h 0 77); omega
  · show ph = 1 ∨ (h 0 77) ≤ 10; omega
  · intro q; show ph = 1 ∨ (h 0 77) ≤ 9; refine b4 (fun z => q ?_); intro y hy; simp only [List.mem_cons] at hy; rcases hy with rfl | hy
    · show (7 : Int) ≠ 17; decide
    · exact z y (List.mem_cons_of_mem _ hy)
  · unfold pw; rw [ho, hA, hBB, mo_xw, mo_xw, mo_xw, mo_xn', mo_xn', mo_xn']; exact ⟨⟨by decide, by decide⟩, ⟨by omega, by omega⟩, ⟨by omega, by omega, by omega⟩, by omega, (show (0 : Int) ≤ ht (h 0 113).toNat by omega), fun z => absurd z (by decide), fun _ => ⟨(show (ht (h 0 113).toNat + 1) = ht (h 0 113).toNat + (1) by omega), (show r + 8 * tu = rg (h 0 113).toNat + 8 * 0 by omega), by omega, fun _ => by omega⟩, fun z => absurd z (by decide), fun z => absurd z (by decide), fun z => absurd z (by unfold pw_jmp; decide), fun z => absurd z (by decide), fun z => absurd z (by decide), fun z => absurd z (by decide), fun _ => ⟨htk.1, htk.2, ga.1, ga.2, fun _ => ⟨by omega, mo_W_new (h := ja_up h 0 19 1) (gF_wants g).1⟩⟩, fun z => absurd z (by decide), fun z => ⟨⟨by omega, by omega, fun z => absurd z (by decide)⟩, by first | decide | (exfalso; omega)⟩⟩
  · exact ⟨⟨⟨by (try simp only [pk_sum]); omega, by (try simp only [pk_sum]); omega⟩, (fun p q => absurd q (by simp [pp]))⟩, ⟨by (try simp only [pk_sum, List.length_cons]); (try dsimp only); omega, (by intro y z e; have q := p2' y z e; dsimp only at q ⊢; omega)⟩, (show pt_ok ((mo_L (mo_tk (mo_E (mo_W (ja_up (h) 0 19 (1)) 1 tok (h 0 76)) 6 tok (h 0 76))) 7 0 0 0) 74) (mo_x ht (h 0 113) ((ht (h 0 113).toNat + 1))) (mo_x st (h 0 113) ((st (h 0 113).toNat))) (mo_x rg (h 0 113) (r + 8 * tu)) ((h 0 113) + 1) (h 0 88) ((h 0 77)) r (pi_wn h r) (7, 0, 0) (s) ((ht (h 0 113).toNat + 1) - 0) ((h 0 109)) ((st (h 0 113).toNat)) (tu) from by unfold pt_ok; (try dsimp only); (try simp only [pk_sum]); exact ⟨⟨by omega, by omega, by omega, by omega⟩, by omega, by omega, ⟨by first | omega | simp, by omega, by omega⟩, fun z => absurd z (by omega), fun z => absurd z (by omega), fun z => absurd z (by omega), fun z => absurd z (by omega), fun z => absurd z (by omega), fun z => absurd z (by omega), fun _ => by first | omega | trivial | (simp only [true_and, and_true]; omega), fun z => absurd z (by omega), fun z => absurd z (by omega), fun z => absurd z (by omega), fun z => absurd z (by omega), fun z => absurd z (by omega), fun z => absurd z (by omega), fun z => absurd z (by omega), fun z => absurd z (by omega), fun z => absurd z (by omega), fun z => absurd z (by omega), fun z => absurd z (by omega), fun z => absurd z (by omega), fun z => absurd z (by omega), fun z => absurd z (by omega), fun z => absurd z (by omega), fun z => absurd z (by omega), fun z => absurd z (by omega), fun z => absurd z (by omega), fun z => absurd z (by omega), fun z => absurd z (by omega), fun z => absurd z (by omega)⟩), (pt_eq (show _ = (ht (h 0 113).toNat + 1) - 0 by omega) (show _ = (h 0 109) by omega) (show _ = (st (h 0 113).toNat) by omega) (pt_ext (show (h 0 113) ≤ (h 0 113) + 1 by omega) (Int.le_refl _) (show (h 0 77) ≤ (h 0 77) by omega) (fun _ q => q) hext p4))⟩
  · show 40 * (900 - ((h 0 7) + 1)) + pk_sum pk_m ((7, 0, 0) :: s) + 13 < 40 * (900 - (h 0 7)) + pk_sum pk_m ((6, a, b) :: s) + 13; (try simp only [pk_sum]); omega

theorem ab_od_loadj {h : ja_H} {R r ph q0 : Int} {tf : mo_TF} {s : List mo_A} {ht st rg : Nat → Int} {tu a b : Int} (g : mo_G Zz h) (hS : pk_S h (h 0 17).toNat s) (hB : piB h R r ph tf q0 ((6, a, b) :: s) ht st rg tu) {tok : Int} (htk : 0 ≤ tok ∧ tok ≤ 900) (hfo : (h 0 19) = 1) (hf1 : (h 0 11) ≠ 0) : pi_done h (mo_L (mo_tk (mo_E (h) 6 tok (h 0 76))) 7 0 0 0) R r ph tf q0 (pi_mu h ((6, a, b) :: s)) := by
  have hN := piB_num g hS hB
  obtain ⟨N1, N2, N3, N4, N5, N6, N7, N8, N9, N10, N11, N12, N13, ⟨NK1, NK2⟩, ND1, ND2, ND3, NU1, NU2⟩ := hN
  obtain ⟨⟨n1, n2, n3, n4, n5, n6, n7, n8, n9⟩, ⟨b1, b2, b3, b4⟩, reg, hpt, ⟨hC, hU⟩, hNo, hP, hT, top⟩ := id hB
  obtain ⟨⟨⟨p1, p1'⟩, p1u⟩, ⟨p2, p2'⟩, p3, p4⟩ := hpt
  have w0 := (gF_wTop g).1
  simp only [pk_sum] at n1 n2 n3 n6 n7
  dsimp only at p2 p2' N6
  have ec6 : pk_c 6 = 0 := rfl
  have ev6 : pk_v 6 = (-4) := rfl
  have ed6 : pk_d 6 = 0 := rfl
  have eq6 : pk_q 6 = 0 := rfl
  have ef6 : pk_f 6 = 0 := rfl
  have em6 : pk_m 6 = (-12) := rfl
  have eoff6 : pk_off 6 = 2 := rfl
  have ek6 : pk_k r 6 = 0 := rfl
  have ec7 : pk_c 7 = 0 := rfl
  have ev7 : pk_v 7 = 0 := rfl
  have ed7 : pk_d 7 = 0 := rfl
  have eq7 : pk_q 7 = 0 := rfl
  have ef7 : pk_f 7 = 0 := rfl
  have em7 : pk_m 7 = 1 := rfl
  have eoff7 : pk_off 7 = 2 := rfl
  have ek7 : pk_k r 7 = 0 := rfl
  replace p3 : pt_ok (h 74) ht st rg (h 0 113) (h 0 88) (h 0 77) r (pi_wn h r) (6, a, b) s (ht (h 0 113).toNat - 0) (h 0 109) (st (h 0 113).toNat) tu := p3
  unfold pt_ok at p3; dsimp only at p3
  replace p4 : pt (h 74) ht st rg (h 0 113) (h 0 88) (h 0 77) r tf (pi_wn h r) s ((ht (h 0 113).toNat - 0) + 1) ((h 0 109)) (st (h 0 113).toNat) (tu) := p4
  obtain ⟨-, xc, xt, ⟨xe, xu1, xu2⟩, -, -, -, -, -, xo6, -, -, -, -, -, -, -, -, -, -, -, -, -, -, -, -, -, -, -, -, -, -⟩ := p3
  replace xo6 := xo6 (by omega)
  have hr := reg_of hB (by dsimp only; omega) (by dsimp only; omega)
  have hbo := gF_body g
  have w0 := (gF_wTop g).1
  have W0 : 0 ≤ (h 0 113) := (gF_words g).1
  have hr4 : 0 ≤ r ∧ r ≤ 4 ∧ (r = 4 → tu = 0) := by
    rcases reg with ⟨q1, q2, -⟩ | ⟨q1, q2, q3, -⟩
    · omega
    · omega
  have ho : (mo_L (mo_tk (mo_E (h) 6 tok (h 0 76))) 7 0 0 0) 74 (h 0 113).toNat = 6 := by simp [mo_L, mo_E, mo_tk, ja_up]
  have hA : (mo_L (mo_tk (mo_E (h) 6 tok (h 0 76))) 7 0 0 0) 75 (h 0 113).toNat = tok := by simp [mo_L, mo_E, mo_tk, ja_up]
  have hBB : (mo_L (mo_tk (mo_E (h) 6 tok (h 0 76))) 7 0 0 0) 76 (h 0 113).toNat = (h 0 76) := by simp [mo_L, mo_E, mo_tk, ja_up]
  have hold : ∀ w : Nat, (w : Int) < (h 0 113) → (mo_L (mo_tk (mo_E (h) 6 tok (h 0 76))) 7 0 0 0) 74 w = (h 74) w ∧ (mo_L (mo_tk (mo_E (h) 6 tok (h 0 76))) 7 0 0 0) 75 w = (h 75) w ∧ (mo_L (mo_tk (mo_E (h) 6 tok (h 0 76))) 7 0 0 0) 76 w = (h 76) w := by
    intro w hw; refine ⟨?_, ?_, ?_⟩ <;> simp [mo_L, mo_E, mo_tk, ja_up] <;> (intros; omega)
  have hext : ∀ j : Nat, (j : Int) ≤ (h 0 113) → ((j : Int) < (h 0 113) → (mo_L (mo_tk (mo_E (h) 6 tok (h 0 76))) 7 0 0 0) 74 j = (h 74) j) ∧ mo_x ht (h 0 113) ((ht (h 0 113).toNat + 1)) j = ht j ∧ mo_x st (h 0 113) ((st (h 0 113).toNat)) j = st j ∧ mo_x rg (h 0 113) (r + 8 * tu) j = rg j := fun j hj => ⟨fun q => (hold j q).1, mo_xo W0 (by omega), mo_xo W0 (by omega), mo_xo W0 (by omega)⟩
  have ga := gF_inAspect g
  refine fin1 (c1 := (ht (h 0 113).toNat + 1)) (e1 := (st (h 0 113).toNat)) (tu1 := tu) (Or.inl rfl) g hB (by dsimp only; omega) (pk_S_L (show 0 ≤ (h 0 17) by omega) (pk_S_ag (ag_up rfl ag_refl) (pk_S_E hS))) (by (try unfold mo_L); (try unfold mo_E); (try unfold mo_tk); (repeat (refine ag_up rfl ?_)); exact ag_refl) rfl hold (by rw [ho]; decide) (idle_of (show (6 : Int) ≠ 4 ∧ (6 : Int) ≠ 21 ∧ (6 : Int) ≠ 22 ∧ (6 : Int) ≠ 28 ∧ (6 : Int) ≠ 24 by decide)) (fun _ q => List.mem_cons_of_mem _ (q)) (fun p q => by simp only [pp_cons] at q ⊢; rcases q with q | q <;> first | (exact Or.inr q) | (exfalso; simp [pp] at q)) ?_ ?_ ?_ ?_ ?_ ?_ ⟨?_, ?_, ?_⟩ (by simp only [pi_if, List.mem_cons, exists_eq_or_imp]; simp) ⟨(fun q y hy => by (try simp only [List.mem_cons] at hy); (rcases hy with rfl | hy) <;> first | (exact q _ (List.mem_cons_of_mem _ hy)) | (have := q _ List.mem_cons_self; dsimp only at this ⊢; omega)), (fun q y hy => by (try simp only [List.mem_cons] at hy); (rcases hy with rfl | hy) <;> first | (exact q _ (List.mem_cons_of_mem _ hy)) | (have := q _ List.mem_cons_self; dsimp only at this ⊢; omega))⟩ ?_ ?_ ⟨fun _ => ⟨fun _ => ⟨by show 1 ≤ (h 0 113) + 1; omega, Or.inr ⟨(by show (mo_L (mo_tk (mo_E (h) 6 tok (h 0 76))) 7 0 0 0) 74 ((h 0 113) + 1 - 1).toNat = 6; rw [show (h 0 113) + 1 - 1 = (h 0 113) by omega]; exact ho), (by show (mo_L (mo_tk (mo_E (h) 6 tok (h 0 76))) 7 0 0 0) 76 ((h 0 113) + 1 - 1).toNat = (h 0 76); rw [show (h 0 113) + 1 - 1 = (h 0 113) by omega]; exact hBB)⟩⟩, fun e => absurd e (show ¬ (h 0 19) = 2 by omega), fun _ w hw hj => by have q := form_new (s' := (7, 0, 0) :: s) hC (idle_of (show (6 : Int) ≠ 4 ∧ (6 : Int) ≠ 21 ∧ (6 : Int) ≠ 22 ∧ (6 : Int) ≠ 28 ∧ (6 : Int) ≠ 24 by decide)) (fun _ q => List.mem_cons_of_mem _ q) hold (by rw [ho]; unfold pw_jmp; decide) w hw hj; rcases q with q | q; exact Or.inl q; exact Or.inr (show _ ≤ (h 0 113) + 1 - 1 by omega)⟩, fun e => absurd e (by dsimp only; omega), fun e => absurd e (by dsimp only; omega), fun e => absurd e (by dsimp only; omega)⟩ ?_ (by (try unfold mo_L); (try unfold mo_E); (try unfold mo_tk); (repeat (refine ag_up rfl ?_)); exact ag_refl)
  · show (h 0 18) = _; (try simp only [pk_sum]); omega
  · show (h 0 113) + 1 + _ < 5 * ((h 0 7) + 1); (try simp only [pk_sum]); omega
  · show (h 0 95) + _ < (h 0 7) + 1; (try simp only [pk_sum]); omega
  · show (h 0 7) ≤ (h 0 7) + 1; omega
  · show (h 0 84) = _; (try simp only [pk_sum]); omega
  · show (h 0 87) = _; (try simp only [pk_sum]); omega
  · show ph = 1 ∨ (h 0 79) ≤ (h 0 77); omega
  · show ph = 1 ∨ (h 0 77) ≤ 10; omega
  · intro q; show ph = 1 ∨ (h 0 77) ≤ 9; refine b4 (fun z => q ?_); intro y hy; simp only [List.mem_cons] at hy; rcases hy with rfl | hy
    · show (7 : Int) ≠ 17; decide
    · exact z y (List.mem_cons_of_mem _ hy)
  · unfold pw; rw [ho, hA, hBB, mo_xw, mo_xw, mo_xw, mo_xn', mo_xn', mo_xn']; exact ⟨⟨by decide, by decide⟩, ⟨by omega, by omega⟩, ⟨by omega, by omega, by omega⟩, by omega, (show (0 : Int) ≤ ht (h 0 113).toNat by omega), fun z => absurd z (by decide), fun _ => ⟨(show (ht (h 0 113).toNat + 1) = ht (h 0 113).toNat + (1) by omega), (show r + 8 * tu = rg (h 0 113).toNat + 8 * 0 by omega), by omega, fun _ => by omega⟩, fun z => absurd z (by decide), fun z => absurd z (by decide), fun z => absurd z (by unfold pw_jmp; decide), fun z => absurd z (by decide), fun z => absurd z (by decide), fun z => absurd z (by decide), fun _ => ⟨htk.1, htk.2, ga.1, ga.2, fun z => absurd z hf1⟩, fun z => absurd z (by decide), fun z => ⟨⟨by omega, by omega, fun z => absurd z (by decide)⟩, by first | decide | (exfalso; omega)⟩⟩
  · exact ⟨⟨⟨by (try simp only [pk_sum]); omega, by (try simp only [pk_sum]); omega⟩, (fun p q => absurd q (by simp [pp]))⟩, ⟨by (try simp only [pk_sum, List.length_cons]); (try dsimp only); omega, (by intro y z e; have q := p2' y z e; dsimp only at q ⊢; omega)⟩, (show pt_ok ((mo_L (mo_tk (mo_E (h) 6 tok (h 0 76))) 7 0 0 0) 74) (mo_x ht (h 0 113) ((ht (h 0 113).toNat + 1))) (mo_x st (h 0 113) ((st (h 0 113).toNat))) (mo_x rg (h 0 113) (r + 8 * tu)) ((h 0 113) + 1) (h 0 88) ((h 0 77)) r (pi_wn h r) (7, 0, 0) (s) ((ht (h 0 113).toNat + 1) - 0) ((h 0 109)) ((st (h 0 113).toNat)) (tu) from by unfold pt_ok; (try dsimp only); (try simp only [pk_sum]); exact ⟨⟨by omega, by omega, by omega, by omega⟩, by omega, by omega, ⟨by first | omega | simp, by omega, by omega⟩, fun z => absurd z (by omega), fun z => absurd z (by omega), fun z => absurd z (by omega), fun z => absurd z (by omega), fun z => absurd z (by omega), fun z => absurd z (by omega), fun _ => by first | omega | trivial | (simp only [true_and, and_true]; omega), fun z => absurd z (by omega), fun z => absurd z (by omega), fun z => absurd z (by omega), fun z => absurd z (by omega), fun z => absurd z (by omega), fun z => absurd z (by omega), fun z => absurd z (by omega), fun z => absurd z (by omega), fun z => absurd z (by omega), fun z => absurd z (by omega), fun z => absurd z (by omega), fun z => absurd z (by omega), fun z => absurd z (by omega), fun z => absurd z (by omega), fun z => absurd z (by omega), fun z => absurd z (by omega), fun z => absurd z (by omega), fun z => absurd z (by omega), fun z => absurd z (by omega), fun z => absurd z (by omega), fun z => absurd z (by omega)⟩), (pt_eq (show _ = (ht (h 0 113).toNat + 1) - 0 by omega) (show _ = (h 0 109) by omega) (show _ = (st (h 0 113).toNat) by omega) (pt_ext (show (h 0 113) ≤ (h 0 113) + 1 by omega) (Int.le_refl _) (show (h 0 77) ≤ (h 0 77) by omega) (fun _ q => q) hext p4))⟩
  · show 40 * (900 - ((h 0 7) + 1)) + pk_sum pk_m ((7, 0, 0) :: s) + 13 < 40 * (900 - (h 0 7)) + pk_sum pk_m ((6, a, b) :: s) + 13; (try simp only [pk_sum]); omega

theorem ab_tail_is {h : ja_H} {R r ph q0 : Int} {tf : mo_TF} {s : List mo_A} {ht st rg : Nat → Int} {tu a b : Int} (g : mo_G Zz h) (hS : pk_S h (h 0 17).toNat s) (hB : piB h R r ph tf q0 ((7, a, b) :: s) ht st rg tu) (hat : (h 0 7) + 1 ≤ 900) : pi_done h (mo_E (ja_up (mo_W (mo_tk (mo_tk (h))) 0 ((h 0 7) + 1) 0) 0 19 (0)) 8 ((h 0 7) + 1) 0) R r ph tf q0 (pi_mu h ((7, a, b) :: s)) := by
  have hN := piB_num g hS hB
  obtain ⟨N1, N2, N3, N4, N5, N6, N7, N8, N9, N10, N11, N12, N13, ⟨NK1, NK2⟩, ND1, ND2, ND3, NU1, NU2⟩ := hN
  obtain ⟨⟨n1, n2, n3, n4, n5, n6, n7, n8, n9⟩, ⟨b1, b2, b3, b4⟩, reg, hpt, ⟨hC, hU⟩, hNo, hP, hT, top⟩ := id hB
  obtain ⟨⟨⟨p1, p1'⟩, p1u⟩, ⟨p2, p2'⟩, p3, p4⟩ := hpt
  have w0 := (gF_wTop g).1
  simp only [pk_sum] at n1 n2 n3 n6 n7
  dsimp only at p2 p2' N6
  have ec7 : pk_c 7 = 0 := rfl
  have ev7 : pk_v 7 = 0 := rfl
  have ed7 : pk_d 7 = 0 := rfl
  have eq7 : pk_q 7 = 0 := rfl
  have ef7 : pk_f 7 = 0 := rfl
  have em7 : pk_m 7 = 1 := rfl
  have eoff7 : pk_off 7 = 2 := rfl
  have ek7 : pk_k r 7 = 0 := rfl
  replace p3 : pt_ok (h 74) ht st rg (h 0 113) (h 0 88) (h 0 77) r (pi_wn h r) (7, a, b) s (ht (h 0 113).toNat - 0) (h 0 109) (st (h 0 113).toNat) tu := p3
  unfold pt_ok at p3; dsimp only at p3
  replace p4 : pt (h 74) ht st rg (h 0 113) (h 0 88) (h 0 77) r tf (pi_wn h r) s ((ht (h 0 113).toNat - 0)) ((h 0 109)) (st (h 0 113).toNat) (tu) := p4
  obtain ⟨-, xc, xt, ⟨xe, xu1, xu2⟩, -, -, -, -, -, -, xo7, -, -, -, -, -, -, -, -, -, -, -, -, -, -, -, -, -, -, -, -, -⟩ := p3
  replace xo7 := xo7 (by omega)
  have hr := reg_of hB (by dsimp only; omega) (by dsimp only; omega)
  have hbo := gF_body g
  have w0 := (gF_wTop g).1
  have W0 : 0 ≤ (h 0 113) := (gF_words g).1
  have hr4 : 0 ≤ r ∧ r ≤ 4 ∧ (r = 4 → tu = 0) := by
    rcases reg with ⟨q1, q2, -⟩ | ⟨q1, q2, q3, -⟩
    · omega
    · omega
  have ho : (mo_E (ja_up (mo_W (mo_tk (mo_tk (h))) 0 ((h 0 7) + 1) 0) 0 19 (0)) 8 ((h 0 7) + 1) 0) 74 (h 0 113).toNat = 8 := by simp [mo_L, mo_E, mo_W, mo_tk, ja_up]
  have hA : (mo_E (ja_up (mo_W (mo_tk (mo_tk (h))) 0 ((h 0 7) + 1) 0) 0 19 (0)) 8 ((h 0 7) + 1) 0) 75 (h 0 113).toNat = ((h 0 7) + 1) := by simp [mo_L, mo_E, mo_W, mo_tk, ja_up]
  have hBB : (mo_E (ja_up (mo_W (mo_tk (mo_tk (h))) 0 ((h 0 7) + 1) 0) 0 19 (0)) 8 ((h 0 7) + 1) 0) 76 (h 0 113).toNat = 0 := by simp [mo_L, mo_E, mo_W, mo_tk, ja_up]
  have hold : ∀ w : Nat, (w : Int) < (h 0 113) → (mo_E (ja_up (mo_W (mo_tk (mo_tk (h))) 0 ((h 0 7) + 1) 0) 0 19 (0)) 8 ((h 0 7) + 1) 0) 74 w = (h 74) w ∧ (mo_E (ja_up (mo_W (mo_tk (mo_tk (h))) 0 ((h 0 7) + 1) 0) 0 19 (0)) 8 ((h 0 7) + 1) 0) 75 w = (h 75) w ∧ (mo_E (ja_up (mo_W (mo_tk (mo_tk (h))) 0 ((h 0 7) + 1) 0) 0 19 (0)) 8 ((h 0 7) + 1) 0) 76 w = (h 76) w := by
    intro w hw; refine ⟨?_, ?_, ?_⟩ <;> simp [mo_L, mo_E, mo_W, mo_tk, ja_up] <;> (intros; omega)
  have hext : ∀ j : Nat, (j : Int) ≤ (h 0 113) → ((j : Int) < (h 0 113) → (mo_E (ja_up (mo_W (mo_tk (mo_tk (h))) 0 ((h 0 7) + 1) 0) 0 19 (0)) 8 ((h 0 7) + 1) 0) 74 j = (h 74) j) ∧ mo_x ht (h 0 113) ((ht (h 0 113).toNat)) j = ht j ∧ mo_x st (h 0 113) ((st (h 0 113).toNat)) j = st j ∧ mo_x rg (h 0 113) (r + 8 * tu) j = rg j := fun j hj => ⟨fun q => (hold j q).1, mo_xo W0 (by omega), mo_xo W0 (by omega), mo_xo W0 (by omega)⟩
  refine fin1g (c1 := (ht (h 0 113).toNat)) (e1 := (st (h 0 113).toNat)) (tu1 := tu) (Or.inl rfl) g hB (by dsimp only; omega) (pk_S_E (pk_S_ag (ag_up rfl ag_refl) (pk_S_W (pk_S_ag (ag_up rfl ag_refl) (pk_S_ag (ag_up rfl ag_refl) hS))))) (by (try unfold mo_L); (try unfold mo_E); (try unfold mo_W); (try unfold mo_tk); (repeat (refine ag_up rfl ?_)); exact ag_refl) (fun z => z) (fun k x y q => mo_W_wt (gF_wants g).1 q) (show (h 0 68) + 1 < (h 0 7) + 1 + 1 by omega) rfl hold (by rw [ho]; decide) (idle_of (show (7 : Int) ≠ 4 ∧ (7 : Int) ≠ 21 ∧ (7 : Int) ≠ 22 ∧ (7 : Int) ≠ 28 ∧ (7 : Int) ≠ 24 by decide)) (fun _ q => q) (fun p q => pp_cons.mpr (Or.inr q)) ?_ ?_ ?_ ?_ ?_ ⟨?_, ?_, ?_⟩ (pi_if_tail (show (7 : Int) ≠ 36 by decide)) ⟨(fun q y hy => q y (List.mem_cons_of_mem _ hy)), (fun q y hy => q y (List.mem_cons_of_mem _ hy))⟩ ?_ ?_ (fin_top0 (show (7 : Int) ≠ 1 by decide) p2' (fun _ => form_0 ⟨by show (0 : Int) ≠ 1; decide, by show (0 : Int) ≠ 2; decide⟩)) ?_ (by (try unfold mo_L); (try unfold mo_E); (try unfold mo_W); (try unfold mo_tk); (repeat (refine ag_up rfl ?_)); exact ag_refl)
  · show (h 0 18) = _; (try simp only [pk_sum]); omega
  · show (h 0 113) + 1 + _ < 5 * ((h 0 7) + 1 + 1); (try simp only [pk_sum]); omega
  · show (h 0 95) + _ < (h 0 7) + 1 + 1; (try simp only [pk_sum]); omega
  · show (h 0 84) = _; (try simp only [pk_sum]); omega
  · show (h 0 87) = _; (try simp only [pk_sum]); omega
  · show ph = 1 ∨ (h 0 79) ≤ (h 0 77); omega
  · show ph = 1 ∨ (h 0 77) ≤ 10; omega
  · intro q; show ph = 1 ∨ (h 0 77) ≤ 9; exact b4 (fun z => q (fun y hy => z y (List.mem_cons_of_mem _ hy)))
  · unfold pw; rw [ho, hA, hBB, mo_xw, mo_xw, mo_xw, mo_xn', mo_xn', mo_xn']; exact ⟨⟨by decide, by decide⟩, ⟨by omega, by omega⟩, ⟨by omega, by omega, by omega⟩, by omega, (show (1 : Int) ≤ ht (h 0 113).toNat by omega), fun z => absurd z (by decide), fun _ => ⟨(show (ht (h 0 113).toNat) = ht (h 0 113).toNat + (0) by omega), (show r + 8 * tu = rg (h 0 113).toNat + 8 * 0 by omega), by omega, fun _ => by omega⟩, fun z => absurd z (by decide), fun z => absurd z (by decide), fun z => absurd z (by unfold pw_jmp; decide), fun z => absurd z (by decide), fun z => absurd z (by decide), fun z => absurd z (by decide), fun z => absurd z (by decide), fun _ => ⟨by omega, by omega, mo_W_new (h := mo_tk (mo_tk h)) (gF_wants g).1⟩, fun z => ⟨⟨by omega, by omega, fun z => absurd z (by decide)⟩, by first | decide | (exfalso; omega)⟩⟩
  · rw [fin_adj p2' (show (7 : Int) ≠ 8 ∧ (7 : Int) ≠ 9 by decide)]; exact pt_eq (show _ = (ht (h 0 113).toNat) - 0 by omega) (show _ = (h 0 109) by omega) (show _ = (st (h 0 113).toNat) by omega) (pt_ext (show (h 0 113) ≤ (h 0 113) + 1 by omega) (Int.le_refl _) (show (h 0 77) ≤ (h 0 77) by omega) (fun _ q => q) hext p4)
  · show 40 * (900 - ((h 0 7) + 1 + 1)) + pk_sum pk_m (s) + 13 < 40 * (900 - (h 0 7)) + pk_sum pk_m ((7, a, b) :: s) + 13; (try simp only [pk_sum]); omega

theorem ab_let {h : ja_H} {R r ph q0 : Int} {tf : mo_TF} {s : List mo_A} {ht st rg : Nat → Int} {tu a b : Int} (g : mo_G Zz h) (hS : pk_S h (h 0 17).toNat s) (hB : piB h R r ph tf q0 ((17, a, b) :: s) ht st rg tu) {v : Int} : pi_done h (mo_E (ja_up (ja_up (ja_up (ja_up (h) 49 ((h 0 79)).toNat (v)) 50 ((h 0 79)).toNat ((h 0 77))) 0 79 ((h 0 79) + 1)) 0 77 ((h 0 77) + 1)) 5 ((h 0 77) + 1 - 1) 0) R r ph tf q0 (pi_mu h ((17, a, b) :: s)) := by
  have hN := piB_num g hS hB
  obtain ⟨N1, N2, N3, N4, N5, N6, N7, N8, N9, N10, N11, N12, N13, ⟨NK1, NK2⟩, ND1, ND2, ND3, NU1, NU2⟩ := hN
  obtain ⟨⟨n1, n2, n3, n4, n5, n6, n7, n8, n9⟩, ⟨b1, b2, b3, b4⟩, reg, hpt, ⟨hC, hU⟩, hNo, hP, hT, top⟩ := id hB
  obtain ⟨⟨⟨p1, p1'⟩, p1u⟩, ⟨p2, p2'⟩, p3, p4⟩ := hpt
  have w0 := (gF_wTop g).1
  simp only [pk_sum] at n1 n2 n3 n6 n7
  dsimp only at p2 p2' N6
  have ec17 : pk_c 17 = 0 := rfl
  have ev17 : pk_v 17 = 1 := rfl
  have ed17 : pk_d 17 = 0 := rfl
  have eq17 : pk_q 17 = 0 := rfl
  have ef17 : pk_f 17 = 0 := rfl
  have em17 : pk_m 17 = 1 := rfl
  have eoff17 : pk_off 17 = 1 := rfl
  have ek17 : pk_k r 17 = 0 := rfl
  replace p3 : pt_ok (h 74) ht st rg (h 0 113) (h 0 88) (h 0 77) r (pi_wn h r) (17, a, b) s (ht (h 0 113).toNat - 0) (h 0 109) (st (h 0 113).toNat) tu := p3
  unfold pt_ok at p3; dsimp only at p3
  replace p4 : pt (h 74) ht st rg (h 0 113) (h 0 88) (h 0 77) r tf (pi_wn h r) s (0) ((h 0 109)) (0) (tu) := p4
  obtain ⟨-, xc, xt, ⟨xe, xu1, xu2⟩, -, -, -, -, -, -, -, -, -, -, -, -, -, -, xo17, xo17b, -, -, -, -, -, -, -, -, -, -, -, -⟩ := p3
  replace xo17 := xo17 (by omega)
  have xq1o17 := xo17.1
  have xq2o17 := xo17.2.1
  replace xo17b := xo17b (by omega)
  have hr := reg_of hB (by dsimp only; omega) (by dsimp only; omega)
  have hbo := gF_body g
  have w0 := (gF_wTop g).1
  have W0 : 0 ≤ (h 0 113) := (gF_words g).1
  have hr4 : 0 ≤ r ∧ r ≤ 3 ∧ (r = 4 → tu = 0) := by
    rcases reg with ⟨q1, q2, -⟩ | ⟨q1, q2, q3, -⟩
    · omega
    · have := q3 _ List.mem_cons_self; dsimp only at this; omega
  have ho : (mo_E (ja_up (ja_up (ja_up (ja_up (h) 49 ((h 0 79)).toNat (v)) 50 ((h 0 79)).toNat ((h 0 77))) 0 79 ((h 0 79) + 1)) 0 77 ((h 0 77) + 1)) 5 ((h 0 77) + 1 - 1) 0) 74 (h 0 113).toNat = 5 := by simp [mo_L, mo_E, mo_tk, ja_up]
  have hA : (mo_E (ja_up (ja_up (ja_up (ja_up (h) 49 ((h 0 79)).toNat (v)) 50 ((h 0 79)).toNat ((h 0 77))) 0 79 ((h 0 79) + 1)) 0 77 ((h 0 77) + 1)) 5 ((h 0 77) + 1 - 1) 0) 75 (h 0 113).toNat = ((h 0 77) + 1 - 1) := by simp [mo_L, mo_E, mo_tk, ja_up]
  have hBB : (mo_E (ja_up (ja_up (ja_up (ja_up (h) 49 ((h 0 79)).toNat (v)) 50 ((h 0 79)).toNat ((h 0 77))) 0 79 ((h 0 79) + 1)) 0 77 ((h 0 77) + 1)) 5 ((h 0 77) + 1 - 1) 0) 76 (h 0 113).toNat = 0 := by simp [mo_L, mo_E, mo_tk, ja_up]
  have hold : ∀ w : Nat, (w : Int) < (h 0 113) → (mo_E (ja_up (ja_up (ja_up (ja_up (h) 49 ((h 0 79)).toNat (v)) 50 ((h 0 79)).toNat ((h 0 77))) 0 79 ((h 0 79) + 1)) 0 77 ((h 0 77) + 1)) 5 ((h 0 77) + 1 - 1) 0) 74 w = (h 74) w ∧ (mo_E (ja_up (ja_up (ja_up (ja_up (h) 49 ((h 0 79)).toNat (v)) 50 ((h 0 79)).toNat ((h 0 77))) 0 79 ((h 0 79) + 1)) 0 77 ((h 0 77) + 1)) 5 ((h 0 77) + 1 - 1) 0) 75 w = (h 75) w ∧ (mo_E (ja_up (ja_up (ja_up (ja_up (h) 49 ((h 0 79)).toNat (v)) 50 ((h 0 79)).toNat ((h 0 77))) 0 79 ((h 0 79) + 1)) 0 77 ((h 0 77) + 1)) 5 ((h 0 77) + 1 - 1) 0) 76 w = (h 76) w := by
    intro w hw; refine ⟨?_, ?_, ?_⟩ <;> simp [mo_L, mo_E, mo_tk, ja_up] <;> (intros; omega)
  have hext : ∀ j : Nat, (j : Int) ≤ (h 0 113) → ((j : Int) < (h 0 113) → (mo_E (ja_up (ja_up (ja_up (ja_up (h) 49 ((h 0 79)).toNat (v)) 50 ((h 0 79)).toNat ((h 0 77))) 0 79 ((h 0 79) + 1)) 0 77 ((h 0 77) + 1)) 5 ((h 0 77) + 1 - 1) 0) 74 j = (h 74) j) ∧ mo_x ht (h 0 113) (0) j = ht j ∧ mo_x st (h 0 113) (0) j = st j ∧ mo_x rg (h 0 113) (r + 8 * tu) j = rg j := fun j hj => ⟨fun q => (hold j q).1, mo_xo W0 (by omega), mo_xo W0 (by omega), mo_xo W0 (by omega)⟩
  have hph : ph ≠ 1 := by
    rcases reg with ⟨q1, -⟩ | ⟨q1, q2, q3, -⟩
    · omega
    · have := q3 _ List.mem_cons_self; dsimp only at this; omega
  have hl9 : (h 0 77) ≤ 9 := (b4 (fun z => z _ List.mem_cons_self rfl)).resolve_left hph
  have gk := gF_known g
  refine fin1 (c1 := 0) (e1 := 0) (tu1 := tu) (Or.inl rfl) g hB (by dsimp only; omega) (pk_S_E (pk_S_ag (ag_up rfl ag_refl) (pk_S_ag (ag_up rfl ag_refl) (pk_S_ag (ag_up rfl ag_refl) (pk_S_ag (ag_up rfl ag_refl) hS))))) (by (try unfold mo_L); (try unfold mo_E); (try unfold mo_tk); (repeat (refine ag_up rfl ?_)); exact ag_refl) rfl hold (by rw [ho]; decide) (idle_of (show (17 : Int) ≠ 4 ∧ (17 : Int) ≠ 21 ∧ (17 : Int) ≠ 22 ∧ (17 : Int) ≠ 28 ∧ (17 : Int) ≠ 24 by decide)) (fun _ q => q) (fun p q => pp_cons.mpr (Or.inr q)) ?_ ?_ ?_ ?_ ?_ ?_ ⟨?_, ?_, ?_⟩ (pi_if_tail (show (17 : Int) ≠ 36 by decide)) ⟨(fun q y hy => q y (List.mem_cons_of_mem _ hy)), (fun q y hy => q y (List.mem_cons_of_mem _ hy))⟩ ?_ ?_ (fin_top0 (show (17 : Int) ≠ 1 by decide) p2' (fun q => absurd q (by dsimp only; omega))) ?_ (by (try unfold mo_L); (try unfold mo_E); (try unfold mo_tk); (repeat (refine ag_up rfl ?_)); exact ag_refl)
  · show (h 0 18) = _; (try simp only [pk_sum]); omega
  · show (h 0 113) + 1 + _ < 5 * ((h 0 7)); (try simp only [pk_sum]); omega
  · show (h 0 95) + _ < (h 0 7); (try simp only [pk_sum]); omega
  · show (h 0 7) ≤ (h 0 7); omega
  · show (h 0 84) = _; (try simp only [pk_sum]); omega
  · show (h 0 87) = _; (try simp only [pk_sum]); omega
  · show ph = 1 ∨ (h 0 79) + 1 ≤ (h 0 77) + 1; omega
  · show ph = 1 ∨ (h 0 77) + 1 ≤ 10; omega
  · intro q; exact absurd xo17.2.2 q
  · unfold pw; rw [ho, hA, hBB, mo_xw, mo_xw, mo_xw, mo_xn', mo_xn', mo_xn']; exact ⟨⟨by decide, by decide⟩, ⟨by omega, by omega⟩, ⟨by omega, by omega, by omega⟩, by omega, (show (1 : Int) ≤ ht (h 0 113).toNat by omega), fun z => absurd z (by decide), fun _ => ⟨(show 0 = ht (h 0 113).toNat + (-1) by omega), (show r + 8 * tu = rg (h 0 113).toNat + 8 * 0 by omega), by omega, fun _ => by omega⟩, fun z => absurd z (by decide), fun z => absurd z (by decide), fun z => absurd z (by unfold pw_jmp; decide), fun _ => ⟨by omega, by omega⟩, fun z => absurd z (by decide), fun z => absurd z (by decide), fun z => absurd z (by decide), fun z => absurd z (by decide), fun z => ⟨⟨by omega, by omega, fun z => absurd z (by decide)⟩, by first | decide | (exfalso; omega)⟩⟩
  · rw [fin_adj p2' (show (17 : Int) ≠ 8 ∧ (17 : Int) ≠ 9 by decide)]; exact pt_eq (show _ = 0 - 0 by omega) (show _ = (h 0 109) by omega) (show _ = 0 by omega) (pt_ext (show (h 0 113) ≤ (h 0 113) + 1 by omega) (Int.le_refl _) (show (h 0 77) ≤ (h 0 77) + 1 by omega) (fun _ q => q) hext p4)
  · show 40 * (900 - ((h 0 7))) + pk_sum pk_m (s) + 13 < 40 * (900 - (h 0 7)) + pk_sum pk_m ((17, a, b) :: s) + 13; (try simp only [pk_sum]); omega
