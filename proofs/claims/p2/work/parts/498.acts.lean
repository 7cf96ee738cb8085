/-! the reference's parser: acts of several words -/
variable {Zz : Zc}
theorem pt_equ {op ht st rg : Nat → Int} {W P lo r : Int} {tf : mo_TF} {wn : Int → Prop} {s : List mo_A} {c t e c' t' e' tu tu' : Int} (h1 : c = c') (h2 : t = t') (h3 : e = e') (h4 : tu = tu') (q : pt op ht st rg W P lo r tf wn s c t e tu) : pt op ht st rg W P lo r tf wn s c' t' e' tu' := by
  subst h1; subst h2; subst h3; subst h4; exact q

theorem ab_st_try {h : ja_H} {R r ph q0 : Int} {tf : mo_TF} {s : List mo_A} {ht st rg : Nat → Int} {tu a b : Int} (g : mo_G Zz h) (hS : pk_S h (h 0 17).toNat s) (hB : piB h R r ph tf q0 ((15, a, b) :: s) ht st rg tu)  : pi_done h (mo_L (mo_L (mo_E (mo_tk (mo_E (mo_L (mo_L (ja_up (h) 0 18 ((h 0 18) + 1)) 15 0 0 0) 30 0 0 0) 25 0 0)) 23 0 0) 28 ((h 0 113) + 1) 0 0) 14 0 0 0) R r ph tf q0 (pi_mu h ((15, a, b) :: s)) := by
  have hN := piB_num g hS hB
  obtain ⟨N1, N2, N3, N4, N5, N6, N7, N8, N9, N10, N11, N12, N13, ⟨NK1, NK2⟩, ND1, ND2, ND3, NU1, NU2⟩ := hN
  obtain ⟨⟨n1, n2, n3, n4, n5, n6, n7, n8, n9⟩, ⟨b1, b2, b3, b4⟩, reg, hpt, ⟨hC, hU⟩, hNo, hP, hT, top⟩ := id hB
  obtain ⟨⟨⟨p1, p1'⟩, p1u⟩, ⟨p2, p2'⟩, p3, p4⟩ := hpt
  have w0 := (gF_wTop g).1
  simp only [pk_sum] at n1 n2 n3 n6 n7
  dsimp only at p2 p2' N6
  have ec14 : pk_c 14 = 0 := rfl
  have ev14 : pk_v 14 = 0 := rfl
  have ed14 : pk_d 14 = 0 := rfl
  have eq14 : pk_q 14 = 0 := rfl
  have ef14 : pk_f 14 = 0 := rfl
  have em14 : pk_m 14 = 1 := rfl
  have eoff14 : pk_off 14 = 4 := rfl
  have ek14 : pk_k r 14 = 0 := rfl
  have ec15 : pk_c 15 = 0 := rfl
  have ev15 : pk_v 15 = 0 := rfl
  have ed15 : pk_d 15 = 0 := rfl
  have eq15 : pk_q 15 = 0 := rfl
  have ef15 : pk_f 15 = 0 := rfl
  have em15 : pk_m 15 = 1 := rfl
  have eoff15 : pk_off 15 = 5 := rfl
  have ek15 : pk_k r 15 = 0 := rfl
  have ec28 : pk_c 28 = 0 := rfl
  have ev28 : pk_v 28 = 0 := rfl
  have ed28 : pk_d 28 = 0 := rfl
  have eq28 : pk_q 28 = 0 := rfl
  have ef28 : pk_f 28 = 0 := rfl
  have em28 : pk_m 28 = 1 := rfl
  have eoff28 : pk_off 28 = 1 := rfl
  have ek28 : pk_k r 28 = 0 := rfl
  have ec30 : pk_c 30 = 1 := rfl
  have ev30 : pk_v 30 = 0 := rfl
  have ed30 : pk_d 30 = 0 := rfl
  have eq30 : pk_q 30 = 0 := rfl
  have ef30 : pk_f 30 = 0 := rfl
  have em30 : pk_m 30 = 1 := rfl
  have eoff30 : pk_off 30 = 6 := rfl
  have ek30 : pk_k r 30 = pk_D r := rfl
  replace p3 : pt_ok (h 74) ht st rg (h 0 113) (h 0 88) (h 0 77) r (pi_wn h r) (15, a, b) s (ht (h 0 113).toNat - 0) (h 0 109) (st (h 0 113).toNat) tu := p3
  unfold pt_ok at p3; dsimp only at p3
  replace p4 : pt (h 74) ht st rg (h 0 113) (h 0 88) (h 0 77) r tf (pi_wn h r) s (0) ((h 0 109)) (st (h 0 113).toNat) (tu) := p4
  obtain ⟨-, xc, xt, ⟨xe, xu1, xu2⟩, -, -, -, -, -, -, -, -, -, -, -, -, xo14, -, -, -, -, -, -, -, -, -, -, -, -, -, -, -⟩ := p3
  replace xo14 := xo14 (by omega)
  have xq1o14 := xo14.1
  have xq2o14 := xo14.2.1
  have hr := reg_of hB (by dsimp only; omega) (by dsimp only; omega)
  have hbo := gF_body g
  have W0 : 0 ≤ (h 0 113) := (gF_words g).1
  have hr4 : 0 ≤ r ∧ r ≤ 3 ∧ (r = 4 → tu = 0) := by
    rcases reg with ⟨q1, q2, -⟩ | ⟨q1, q2, q3, -⟩
    · omega
    · have := q3 _ List.mem_cons_self; dsimp only at this; omega
  have hph : ph ≠ 1 := by
    rcases reg with ⟨q1, -⟩ | ⟨q1, q2, q3, -⟩
    · omega
    · have := q3 _ List.mem_cons_self; dsimp only at this; omega
  generalize hH : mo_L (mo_L (mo_E (mo_tk (mo_E (mo_L (mo_L (ja_up (h) 0 18 ((h 0 18) + 1)) 15 0 0 0) 30 0 0 0) 25 0 0)) 23 0 0) 28 ((h 0 113) + 1) 0 0) 14 0 0 0 = H
  have v_nest : (H 0 18) = (h 0 18) + 1 := by subst hH; rfl
  have v_at : (H 0 7) = (h 0 7) + 1 := by subst hH; rfl
  have v_nodes : (H 0 95) = (h 0 95) := by subst hH; rfl
  have v_wants : (H 0 68) = (h 0 68) := by subst hH; rfl
  have v_quiet : (H 0 84) = (h 0 84) := by subst hH; rfl
  have v_inFlow : (H 0 87) = (h 0 87) := by subst hH; rfl
  have v_known : (H 0 79) = (h 0 79) := by subst hH; rfl
  have v_locals : (H 0 77) = (h 0 77) := by subst hH; rfl
  have v_words : (H 0 113) = (h 0 113) + 1 + 1 := by subst hH; rfl
  have v_given : (H 0 21) = (h 0 21) := by subst hH; rfl
  have hS' : pk_S H (H 0 17).toNat ((14, 0, 0) :: (28, ((h 0 113) + 1), 0) :: (30, 0, 0) :: (15, 0, 0) :: s) := by subst hH; exact (pk_S_L (show 0 ≤ (h 0 17) + 1 + 1 + 1 by omega) (pk_S_L (show 0 ≤ (h 0 17) + 1 + 1 by omega) (pk_S_E (pk_S_ag (ag_up rfl ag_refl) (pk_S_E (pk_S_L (show 0 ≤ (h 0 17) + 1 by omega) (pk_S_L (show 0 ≤ (h 0 17) by omega) (pk_S_ag (ag_up rfl ag_refl) hS))))))))
  have agX : mo_ag FEX h H := by subst hH; (try unfold mo_L); (try unfold mo_E); (try unfold mo_W); (try unfold mo_tk); (repeat (refine ag_up rfl ?_)); exact ag_refl
  have agk : mo_ag FK h H := by subst hH; (try unfold mo_L); (try unfold mo_E); (try unfold mo_W); (try unfold mo_tk); (repeat (refine ag_up rfl ?_)); exact ag_refl
  have hfe : (H 0 11) = (h 0 11) := by subst hH; rfl
  have hv : ∀ k a b, pw_wt h k a b → pw_wt H k a b := by subst hH; exact fun k x y q => q
  have hpo : ∀ w : Nat, (w : Int) < (h 0 113) → (H 74) w = (h 74) w ∧ (H 76) w = (h 76) w ∧ (H 75) w = (h 75) w := by
    intro w hw; subst hH; refine ⟨?_, ?_, ?_⟩ <;> simp [mo_L, mo_E, mo_W, mo_tk, ja_up] <;> (intros; omega)
  have ho0 : (H 74) ((h 0 113).toNat) = 25 ∧ (H 75) ((h 0 113).toNat) = 0 ∧ (H 76) ((h 0 113).toNat) = 0 := by
    subst hH; refine ⟨?_, ?_, ?_⟩ <;> (try simp [mo_L, mo_E, mo_W, mo_tk, ja_up]) <;> (intros; omega)
  have ho1 : (H 74) ((h 0 113).toNat + 1) = 23 ∧ (H 75) ((h 0 113).toNat + 1) = 0 ∧ (H 76) ((h 0 113).toNat + 1) = 0 := by
    subst hH; refine ⟨?_, ?_, ?_⟩ <;> (try simp [mo_L, mo_E, mo_W, mo_tk, ja_up]) <;> (intros; omega)
  clear hH
  have yht0 : (mo_y ht (h 0 113) [0, 0]) (h 0 113).toNat = ht (h 0 113).toNat := mo_yo (by omega)
  have yht1 : (mo_y ht (h 0 113) [0, 0]) ((h 0 113).toNat + 1) = 0 := mo_yn 0 W0 (by omega)
  have yht2 : (mo_y ht (h 0 113) [0, 0]) ((h 0 113).toNat + 1 + 1) = 0 := mo_yn 1 W0 (by omega)
  have yhte : (mo_y ht (h 0 113) [0, 0]) ((h 0 113) + 1 + 1).toNat = 0 := mo_yn 1 W0 (by omega)
  have yst0 : (mo_y st (h 0 113) [1, 0]) (h 0 113).toNat = st (h 0 113).toNat := mo_yo (by omega)
  have yst1 : (mo_y st (h 0 113) [1, 0]) ((h 0 113).toNat + 1) = 1 := mo_yn 0 W0 (by omega)
  have yst2 : (mo_y st (h 0 113) [1, 0]) ((h 0 113).toNat + 1 + 1) = 0 := mo_yn 1 W0 (by omega)
  have yste : (mo_y st (h 0 113) [1, 0]) ((h 0 113) + 1 + 1).toNat = 0 := mo_yn 1 W0 (by omega)
  have yrg0 : (mo_y rg (h 0 113) [r + 8 * (tu), r + 8 * (tu + 1)]) (h 0 113).toNat = rg (h 0 113).toNat := mo_yo (by omega)
  have yrg1 : (mo_y rg (h 0 113) [r + 8 * (tu), r + 8 * (tu + 1)]) ((h 0 113).toNat + 1) = r + 8 * (tu) := mo_yn 0 W0 (by omega)
  have yrg2 : (mo_y rg (h 0 113) [r + 8 * (tu), r + 8 * (tu + 1)]) ((h 0 113).toNat + 1 + 1) = r + 8 * (tu + 1) := mo_yn 1 W0 (by omega)
  have yrge : (mo_y rg (h 0 113) [r + 8 * (tu), r + 8 * (tu + 1)]) ((h 0 113) + 1 + 1).toNat = r + 8 * (tu + 1) := mo_yn 1 W0 (by omega)
  refine ⟨⟨(14, 0, 0) :: (28, ((h 0 113) + 1), 0) :: (30, 0, 0) :: (15, 0, 0) :: s, mo_y ht (h 0 113) [0, 0], mo_y st (h 0 113) [1, 0], mo_y rg (h 0 113) [r + 8 * (tu), r + 8 * (tu + 1)], tu + 1, ⟨hS', ?_⟩, ?_⟩, agk⟩
  · refine piBX g hB agX (fun z => by have e : (H 0 11) = (h 0 11) := hfe; rw [← e]; exact z) hv (by omega) (fun j hj => ⟨mo_yo hj, mo_yo hj, mo_yo hj⟩) (fun w hw => ⟨(hpo w hw).1, (hpo w hw).2.1, Or.inl ⟨(hpo w hw).2.2, (fun q => by simp only [pj_cons] at q ⊢; rcases q with q | q; exact absurd q (idle_of (show (15 : Int) ≠ 4 ∧ (15 : Int) ≠ 21 ∧ (15 : Int) ≠ 22 ∧ (15 : Int) ≠ 28 ∧ (15 : Int) ≠ 24 by decide) _); (repeat (first | exact q | refine Or.inr ?_)))⟩⟩) (fun w _ _ q z => q (by simp only [pp_cons] at z ⊢; rcases z with z | z | z | z | z <;> first | (exact Or.inr z) | (exfalso; simp [pp] at z))) ?_ ?_ ?_ ?_ ?_ ?_ ?_ ?_ ⟨?_, ?_, ?_⟩ ?_ (fun z => absurd z hph) ⟨(fun q y hy => by (try simp only [List.mem_cons] at hy); (rcases hy with rfl | rfl | rfl | rfl | hy) <;> first | (exact q _ (List.mem_cons_of_mem _ hy)) | (have := q _ List.mem_cons_self; dsimp only at this ⊢; omega)), (fun q y hy => by (try simp only [List.mem_cons] at hy); (rcases hy with rfl | rfl | rfl | rfl | hy) <;> first | (exact q _ (List.mem_cons_of_mem _ hy)) | (have := q _ List.mem_cons_self; dsimp only at this ⊢; omega))⟩ ?_ (⟨fun e => absurd e (by dsimp only; omega), fun e => absurd e (by dsimp only; omega), fun e => absurd e (by dsimp only; omega), fun e => absurd e (by dsimp only; omega)⟩)
    · intro w hw1 hw2
      rw [v_words] at hw2
      have hwc : w = (h 0 113).toNat ∨ w = (h 0 113).toNat + 1 := by omega
      rcases hwc with rfl | rfl
      · unfold pw; rw [v_words, ho0.1, ho0.2.1, ho0.2.2, yht0, yst0, yrg0, yht1, yst1, yrg1]; exact ⟨⟨by decide, by decide⟩, ⟨by omega, by omega⟩, ⟨by omega, by omega, by omega⟩, by omega, (show (0 : Int) ≤ ht (h 0 113).toNat by omega), fun z => absurd z (by decide), fun _ => ⟨(show 0 = ht (h 0 113).toNat + 0 by omega), (show r + 8 * (tu) = rg (h 0 113).toNat + 8 * 0 by omega), by omega, fun z => absurd rfl z⟩, fun z => absurd z (by decide), fun _ => (show ht (h 0 113).toNat = 0 by omega), fun z => absurd z (by unfold pw_jmp; decide), fun z => absurd z (by decide), fun z => absurd z (by decide), fun z => absurd z (by decide), fun z => absurd z (by decide), fun z => absurd z (by decide), fun z => ⟨⟨by omega, by omega, fun z => absurd z (by decide)⟩, by first | decide | (exfalso; omega)⟩⟩
      · unfold pw; rw [v_words, ho1.1, ho1.2.1, ho1.2.2, yht1, yst1, yrg1, yht2, yst2, yrg2]; exact ⟨⟨by decide, by decide⟩, ⟨by omega, by omega⟩, ⟨by omega, by omega, by omega⟩, by omega, (show (0 : Int) ≤ 0 by omega), fun z => absurd z (by decide), fun _ => ⟨(show 0 = 0 + (0) by omega), (show r + 8 * (tu + 1) = r + 8 * (tu) + 8 * (1) by omega), by omega, fun _ => by omega⟩, fun _ => ⟨(show 1 = 1 by omega), (show 0 = 0 by omega)⟩, fun _ => (show 0 = 0 by omega), fun _ => Or.inl ⟨_, List.mem_cons_of_mem _ (List.mem_cons_self), Or.inl ⟨Or.inr (Or.inr (Or.inr rfl)), (show (h 0 113) + 1 = ((((h 0 113).toNat + 1) : Nat) : Int) by omega)⟩⟩, fun z => absurd z (by decide), fun z => absurd z (by decide), fun z => absurd z (by decide), fun z => absurd z (by decide), fun z => absurd z (by decide), fun z => ⟨⟨by omega, by omega, fun z => absurd z (by decide)⟩, by first | decide | (exfalso; omega)⟩⟩
    · intro w v hwv h1 h2 z1 z2
      rw [v_words] at h2
      have hvc : v = (h 0 113).toNat ∨ v = (h 0 113).toNat + 1 := by omega
      exfalso
      rcases hvc with rfl | rfl
      · rw [ho0.1] at z2; exact absurd z2 (by decide)
      · rw [ho1.1] at z2; exact absurd z2 (by decide)
    · rw [v_nest]; (try simp only [pk_sum]); omega
    · rw [v_words, v_at]; (try simp only [pk_sum]); omega
    · rw [v_at]; (try simp only [pk_sum]); omega
    · rw [v_wants, v_at]; omega
    · rw [v_quiet]; (try simp only [pk_sum]); omega
    · rw [v_inFlow]; (try simp only [pk_sum]); omega
    · rw [v_known, v_locals]; omega
    · rw [v_locals]; omega
    · intro q; rw [v_locals]; refine b4 (fun z => q ?_); intro y hy; simp only [List.mem_cons] at hy; rcases hy with rfl | rfl | rfl | rfl | hy
      · show (14 : Int) ≠ 17; decide
      · show (28 : Int) ≠ 17; decide
      · show (30 : Int) ≠ 17; decide
      · show (15 : Int) ≠ 17; decide
      · exact z y (List.mem_cons_of_mem _ hy)
    · rw [v_words, yrge]
    · rw [v_words, v_locals, yhte, yste]
      exact ⟨⟨⟨by (try simp only [pk_sum]); omega, by (try simp only [pk_sum]); omega⟩, (fun p q => absurd q (by simp [pp]))⟩, ⟨by (try simp only [pk_sum, List.length_cons]); (try dsimp only); omega, (by intro y z e; cases e; dsimp only; omega)⟩, (show pt_ok (H 74) (mo_y ht (h 0 113) [0, 0]) (mo_y st (h 0 113) [1, 0]) (mo_y rg (h 0 113) [r + 8 * (tu), r + 8 * (tu + 1)]) ((h 0 113) + 1 + 1) (h 0 88) ((h 0 77)) r (pi_wn h r) (14, 0, 0) ((28, ((h 0 113) + 1), 0) :: (30, 0, 0) :: (15, 0, 0) :: s) (0 - 0) ((h 0 109)) (0) (tu + 1) from by unfold pt_ok; (try dsimp only); (try simp only [pk_sum]); exact ⟨⟨by omega, by omega, by omega, by omega⟩, by omega, by omega, ⟨by first | omega | simp, by omega, by omega⟩, fun z => absurd z (by omega), fun z => absurd z (by omega), fun z => absurd z (by omega), fun z => absurd z (by omega), fun z => absurd z (by omega), fun z => absurd z (by omega), fun z => absurd z (by omega), fun z => absurd z (by omega), fun z => absurd z (by omega), fun z => absurd z (by omega), fun z => absurd z (by omega), fun z => absurd z (by omega), fun _ => ⟨by first | trivial | omega, by first | trivial | omega, ((pt_let_cons (show (28 : Int) ≠ 17 by decide)).mpr ((pt_let_cons (show (30 : Int) ≠ 17 by decide)).mpr ((pt_let_cons (show (15 : Int) ≠ 17 by decide)).mpr xo14.2.2)))⟩, fun z => absurd z (by omega), fun z => absurd z (by omega), fun z => absurd z (by omega), fun z => absurd z (by omega), fun z => absurd z (by omega), fun z => absurd z (by omega), fun z => absurd z (by omega), fun z => absurd z (by omega), fun z => absurd z (by omega), fun z => absurd z (by omega), fun z => absurd z (by omega), fun z => absurd z (by omega), fun z => absurd z (by omega), fun z => absurd z (by omega), fun z => absurd z (by omega)⟩), ⟨⟨⟨by (try simp only [pk_sum]); omega, by (try simp only [pk_sum]); omega⟩, (fun p q => absurd q (by simp [pp]))⟩, ⟨by (try simp only [pk_sum, List.length_cons]); (try dsimp only); omega, (by intro y z e; cases e; dsimp only; omega)⟩, (show pt_ok (H 74) (mo_y ht (h 0 113) [0, 0]) (mo_y st (h 0 113) [1, 0]) (mo_y rg (h 0 113) [r + 8 * (tu), r + 8 * (tu + 1)]) ((h 0 113) + 1 + 1) (h 0 88) ((h 0 77)) r (pi_wn h r) (28, ((h 0 113) + 1), 0) ((30, 0, 0) :: (15, 0, 0) :: s) (0) ((h 0 109)) (0) (tu + 1) from by unfold pt_ok; (try dsimp only); (try simp only [pk_sum]); exact ⟨⟨by omega, by omega, by omega, by omega⟩, by omega, by omega, ⟨by first | omega | simp, by omega, by omega⟩, fun z => absurd z (by omega), fun z => absurd z (by omega), fun z => absurd z (by omega), fun z => absurd z (by omega), fun z => absurd z (by omega), fun z => absurd z (by omega), fun z => absurd z (by omega), fun z => absurd z (by omega), fun z => absurd z (by omega), fun z => absurd z (by omega), fun z => absurd z (by omega), fun z => absurd z (by omega), fun _ => ⟨by first | trivial | omega, by first | trivial | omega, ((pt_let_cons (show (30 : Int) ≠ 17 by decide)).mpr ((pt_let_cons (show (15 : Int) ≠ 17 by decide)).mpr xo14.2.2))⟩, fun z => absurd z (by omega), fun z => absurd z (by omega), fun z => absurd z (by omega), fun z => absurd z (by omega), fun z => absurd z (by omega), fun z => absurd z (by omega), fun z => absurd z (by omega), fun z => absurd z (by omega), fun _ => ⟨⟨by omega, by omega, (by rw [show ((h 0 113) + 1).toNat = (h 0 113).toNat + 1 by omega]; exact yht1), (by rw [show ((h 0 113) + 1).toNat = (h 0 113).toNat + 1 by omega, yrg1]; omega), (by rw [show ((h 0 113) + 1).toNat = (h 0 113).toNat + 1 by omega]; exact yst1)⟩, (by rw [show ((h 0 113) + 1).toNat = (h 0 113).toNat + 1 by omega]; exact ho1.1)⟩, fun z => absurd z (by omega), fun z => absurd z (by omega), fun z => absurd z (by omega), fun z => absurd z (by omega), fun z => absurd z (by omega), fun z => absurd z (by omega)⟩), ⟨⟨⟨by (try simp only [pk_sum]); omega, by (try simp only [pk_sum]); omega⟩, (fun p q => absurd q (by simp [pp]))⟩, ⟨by (try simp only [pk_sum, List.length_cons]); (try dsimp only); omega, (by intro y z e; cases e; dsimp only; omega)⟩, (show pt_ok (H 74) (mo_y ht (h 0 113) [0, 0]) (mo_y st (h 0 113) [1, 0]) (mo_y rg (h 0 113) [r + 8 * (tu), r + 8 * (tu + 1)]) ((h 0 113) + 1 + 1) (h 0 88) ((h 0 77)) r (pi_wn h r) (30, 0, 0) ((15, 0, 0) :: s) (0) ((h 0 109)) (0) (tu + 1 - 1) from by unfold pt_ok; (try dsimp only); (try simp only [pk_sum]); exact ⟨⟨by omega, by omega, by omega, by omega⟩, by omega, by omega, ⟨by first | omega | simp, by omega, by omega⟩, fun z => absurd z (by omega), fun z => absurd z (by omega), fun z => absurd z (by omega), fun z => absurd z (by omega), fun z => absurd z (by omega), fun z => absurd z (by omega), fun z => absurd z (by omega), fun z => absurd z (by omega), fun z => absurd z (by omega), fun z => absurd z (by omega), fun z => absurd z (by omega), fun z => absurd z (by omega), fun _ => ⟨by first | trivial | omega, by first | trivial | omega, ((pt_let_cons (show (15 : Int) ≠ 17 by decide)).mpr xo14.2.2)⟩, fun z => absurd z (by omega), fun z => absurd z (by omega), fun z => absurd z (by omega), fun z => absurd z (by omega), fun z => absurd z (by omega), fun z => absurd z (by omega), fun z => absurd z (by omega), fun z => absurd z (by omega), fun z => absurd z (by omega), fun z => absurd z (by omega), fun z => absurd z (by omega), fun z => absurd z (by omega), fun z => absurd z (by omega), fun z => absurd z (by omega), fun z => absurd z (by omega)⟩), ⟨⟨⟨by (try simp only [pk_sum]); omega, by (try simp only [pk_sum]); omega⟩, (fun p q => absurd q (by simp [pp]))⟩, ⟨by (try simp only [pk_sum, List.length_cons]); (try dsimp only); omega, (by intro y z e; have q := p2' y z e; dsimp only at q ⊢; omega)⟩, (show pt_ok (H 74) (mo_y ht (h 0 113) [0, 0]) (mo_y st (h 0 113) [1, 0]) (mo_y rg (h 0 113) [r + 8 * (tu), r + 8 * (tu + 1)]) ((h 0 113) + 1 + 1) (h 0 88) ((h 0 77)) r (pi_wn h r) (15, 0, 0) (s) (0) ((h 0 109)) (0) (tu + 1 - 1) from by unfold pt_ok; (try dsimp only); (try simp only [pk_sum]); exact ⟨⟨by omega, by omega, by omega, by omega⟩, by omega, by omega, ⟨by first | omega | simp, by omega, by omega⟩, fun z => absurd z (by omega), fun z => absurd z (by omega), fun z => absurd z (by omega), fun z => absurd z (by omega), fun z => absurd z (by omega), fun z => absurd z (by omega), fun z => absurd z (by omega), fun z => absurd z (by omega), fun z => absurd z (by omega), fun z => absurd z (by omega), fun z => absurd z (by omega), fun z => absurd z (by omega), fun _ => ⟨by first | trivial | omega, by first | trivial | omega, xo14.2.2⟩, fun z => absurd z (by omega), fun z => absurd z (by omega), fun z => absurd z (by omega), fun z => absurd z (by omega), fun z => absurd z (by omega), fun z => absurd z (by omega), fun z => absurd z (by omega), fun z => absurd z (by omega), fun z => absurd z (by omega), fun z => absurd z (by omega), fun z => absurd z (by omega), fun z => absurd z (by omega), fun z => absurd z (by omega), fun z => absurd z (by omega), fun z => absurd z (by omega)⟩), (pt_equ (show _ = 0 by omega) (show _ = (h 0 109) by omega) (show _ = 0 by omega) (show _ = tu + 1 - 1 by omega) (pt_ext (show (h 0 113) ≤ (h 0 113) + 1 + 1 by omega) (Int.le_refl _) (show (h 0 77) ≤ (h 0 77) by omega) (fun _ q => q) (fun j hj => ⟨fun q => (hpo j q).1, mo_yo hj, mo_yo hj, mo_yo hj⟩) p4))⟩⟩⟩⟩
  · show 40 * (900 - (H 0 7)) + pk_sum pk_m ((14, 0, 0) :: (28, ((h 0 113) + 1), 0) :: (30, 0, 0) :: (15, 0, 0) :: s) + 13 < 40 * (900 - (h 0 7)) + pk_sum pk_m ((15, a, b) :: s) + 13; rw [v_at]; (try simp only [pk_sum]); omega

theorem ab_else_if {h : ja_H} {R r ph q0 : Int} {tf : mo_TF} {s : List mo_A} {ht st rg : Nat → Int} {tu a b : Int} (g : mo_G Zz h) (hS : pk_S h (h 0 17).toNat s) (hB : piB h R r ph tf q0 ((21, a, b) :: s) ht st rg tu)  : pi_done h (mo_L (mo_L (mo_tk (mo_L (mo_E (ja_up (mo_L (ja_up (mo_E (mo_tk (h)) 21 0 0) 75 (a).toNat ((h 0 113) + 1)) 22 (h 0 113) 0 0) 0 18 ((h 0 18) + 1)) 25 0 0) 30 0 0 0)) 20 0 0 0) 1 0 0 0) R r ph tf q0 (pi_mu h ((21, a, b) :: s)) := by
  have hN := piB_num g hS hB
  obtain ⟨N1, N2, N3, N4, N5, N6, N7, N8, N9, N10, N11, N12, N13, ⟨NK1, NK2⟩, ND1, ND2, ND3, NU1, NU2⟩ := hN
  obtain ⟨⟨n1, n2, n3, n4, n5, n6, n7, n8, n9⟩, ⟨b1, b2, b3, b4⟩, reg, hpt, ⟨hC, hU⟩, hNo, hP, hT, top⟩ := id hB
  obtain ⟨⟨⟨p1, p1'⟩, p1u⟩, ⟨p2, p2'⟩, p3, p4⟩ := hpt
  have w0 := (gF_wTop g).1
  simp only [pk_sum] at n1 n2 n3 n6 n7
  dsimp only at p2 p2' N6
  have ec1 : pk_c 1 = 0 := rfl
  have ev1 : pk_v 1 = (-4) := rfl
  have ed1 : pk_d 1 = 0 := rfl
  have eq1 : pk_q 1 = 0 := rfl
  have ef1 : pk_f 1 = 0 := rfl
  have em1 : pk_m 1 = (-10) := rfl
  have eoff1 : pk_off 1 = 7 := rfl
  have ek1 : pk_k r 1 = 0 := rfl
  have ec20 : pk_c 20 = 0 := rfl
  have ev20 : pk_v 20 = 1 := rfl
  have ed20 : pk_d 20 = 0 := rfl
  have eq20 : pk_q 20 = 0 := rfl
  have ef20 : pk_f 20 = 0 := rfl
  have em20 : pk_m 20 = 3 := rfl
  have eoff20 : pk_off 20 = 1 := rfl
  have ek20 : pk_k r 20 = 0 := rfl
  have ec21 : pk_c 21 = 0 := rfl
  have ev21 : pk_v 21 = 0 := rfl
  have ed21 : pk_d 21 = 0 := rfl
  have eq21 : pk_q 21 = 0 := rfl
  have ef21 : pk_f 21 = 0 := rfl
  have em21 : pk_m 21 = 1 := rfl
  have eoff21 : pk_off 21 = 1 := rfl
  have ek21 : pk_k r 21 = 0 := rfl
  have ec22 : pk_c 22 = 0 := rfl
  have ev22 : pk_v 22 = 0 := rfl
  have ed22 : pk_d 22 = 0 := rfl
  have eq22 : pk_q 22 = 0 := rfl
  have ef22 : pk_f 22 = 0 := rfl
  have em22 : pk_m 22 = 1 := rfl
  have eoff22 : pk_off 22 = 1 := rfl
  have ek22 : pk_k r 22 = 0 := rfl
  have ec30 : pk_c 30 = 1 := rfl
  have ev30 : pk_v 30 = 0 := rfl
  have ed30 : pk_d 30 = 0 := rfl
  have eq30 : pk_q 30 = 0 := rfl
  have ef30 : pk_f 30 = 0 := rfl
  have em30 : pk_m 30 = 1 := rfl
  have eoff30 : pk_off 30 = 6 := rfl
  have ek30 : pk_k r 30 = pk_D r := rfl
  replace p3 : pt_ok (h 74) ht st rg (h 0 113) (h 0 88) (h 0 77) r (pi_wn h r) (21, a, b) s (ht (h 0 113).toNat - 0) (h 0 109) (st (h 0 113).toNat) tu := p3
  unfold pt_ok at p3; dsimp only at p3
  replace p4 : pt (h 74) ht st rg (h 0 113) (h 0 88) (h 0 77) r tf (pi_wn h r) s (0) ((h 0 109)) (st (h 0 113).toNat) (tu) := p4
  obtain ⟨-, xc, xt, ⟨xe, xu1, xu2⟩, -, -, -, -, -, -, -, -, -, -, -, -, xo14, -, -, -, -, xo21, -, -, -, -, -, -, -, -, -, -⟩ := p3
  replace xo14 := xo14 (by omega)
  have xq1o14 := xo14.1
  have xq2o14 := xo14.2.1
  replace xo21 := xo21 (by omega)
  have hr := reg_of hB (by dsimp only; omega) (by dsimp only; omega)
  have hbo := gF_body g
  have W0 : 0 ≤ (h 0 113) := (gF_words g).1
  have hr4 : 0 ≤ r ∧ r ≤ 3 ∧ (r = 4 → tu = 0) := by
    rcases reg with ⟨q1, q2, -⟩ | ⟨q1, q2, q3, -⟩
    · omega
    · have := q3 _ List.mem_cons_self; dsimp only at this; omega
  have hph : ph ≠ 1 := by
    rcases reg with ⟨q1, -⟩ | ⟨q1, q2, q3, -⟩
    · omega
    · have := q3 _ List.mem_cons_self; dsimp only at this; omega
  obtain ⟨z1, z2, z3, z4, z5⟩ := xo21.1
  have ea : ((a.toNat : Nat) : Int) = a := by omega
  generalize hH : mo_L (mo_L (mo_tk (mo_L (mo_E (ja_up (mo_L (ja_up (mo_E (mo_tk (h)) 21 0 0) 75 (a).toNat ((h 0 113) + 1)) 22 (h 0 113) 0 0) 0 18 ((h 0 18) + 1)) 25 0 0) 30 0 0 0)) 20 0 0 0) 1 0 0 0 = H
  have v_nest : (H 0 18) = (h 0 18) + 1 := by subst hH; rfl
  have v_at : (H 0 7) = (h 0 7) + 1 + 1 := by subst hH; rfl
  have v_nodes : (H 0 95) = (h 0 95) := by subst hH; rfl
  have v_wants : (H 0 68) = (h 0 68) := by subst hH; rfl
  have v_quiet : (H 0 84) = (h 0 84) := by subst hH; rfl
  have v_inFlow : (H 0 87) = (h 0 87) := by subst hH; rfl
  have v_known : (H 0 79) = (h 0 79) := by subst hH; rfl
  have v_locals : (H 0 77) = (h 0 77) := by subst hH; rfl
  have v_words : (H 0 113) = (h 0 113) + 1 + 1 := by subst hH; rfl
  have v_given : (H 0 21) = (h 0 21) := by subst hH; rfl
  have hS' : pk_S H (H 0 17).toNat ((1, 0, 0) :: (20, 0, 0) :: (30, 0, 0) :: (22, (h 0 113), 0) :: s) := by subst hH; exact (pk_S_L (show 0 ≤ (h 0 17) + 1 + 1 + 1 by omega) (pk_S_L (show 0 ≤ (h 0 17) + 1 + 1 by omega) (pk_S_ag (ag_up rfl ag_refl) (pk_S_L (show 0 ≤ (h 0 17) + 1 by omega) (pk_S_E (pk_S_ag (ag_up rfl ag_refl) (pk_S_L (show 0 ≤ (h 0 17) by omega) (pk_S_ag (ag_up rfl ag_refl) (pk_S_E (pk_S_ag (ag_up rfl ag_refl) hS))))))))))
  have agX : mo_ag FEX h H := by subst hH; (try unfold mo_L); (try unfold mo_E); (try unfold mo_W); (try unfold mo_tk); (repeat (refine ag_up rfl ?_)); exact ag_refl
  have agk : mo_ag FK h H := by subst hH; (try unfold mo_L); (try unfold mo_E); (try unfold mo_W); (try unfold mo_tk); (repeat (refine ag_up rfl ?_)); exact ag_refl
  have hfe : (H 0 11) = (h 0 11) := by subst hH; rfl
  have hv : ∀ k a b, pw_wt h k a b → pw_wt H k a b := by subst hH; exact fun k x y q => q
  have hpo : ∀ w : Nat, (w : Int) < (h 0 113) → (H 74) w = (h 74) w ∧ (H 76) w = (h 76) w ∧ (w ≠ (a).toNat → (H 75) w = (h 75) w) := by
    intro w hw; subst hH; refine ⟨?_, ?_, fun hne => ?_⟩ <;> simp [mo_L, mo_E, mo_W, mo_tk, ja_up] <;> (intros; omega)
  have hpa : (H 75) (a).toNat = ((h 0 113) + 1) := by subst hH; simp [mo_L, mo_E, mo_W, mo_tk, ja_up] <;> (intros; omega)
  have ho0 : (H 74) ((h 0 113).toNat) = 21 ∧ (H 75) ((h 0 113).toNat) = 0 ∧ (H 76) ((h 0 113).toNat) = 0 := by
    subst hH; refine ⟨?_, ?_, ?_⟩ <;> (try simp [mo_L, mo_E, mo_W, mo_tk, ja_up]) <;> (intros; omega)
  have ho1 : (H 74) ((h 0 113).toNat + 1) = 25 ∧ (H 75) ((h 0 113).toNat + 1) = 0 ∧ (H 76) ((h 0 113).toNat + 1) = 0 := by
    subst hH; refine ⟨?_, ?_, ?_⟩ <;> (try simp [mo_L, mo_E, mo_W, mo_tk, ja_up]) <;> (intros; omega)
  clear hH
  have yht0 : (mo_y ht (h 0 113) [0, 0]) (h 0 113).toNat = ht (h 0 113).toNat := mo_yo (by omega)
  have yht1 : (mo_y ht (h 0 113) [0, 0]) ((h 0 113).toNat + 1) = 0 := mo_yn 0 W0 (by omega)
  have yht2 : (mo_y ht (h 0 113) [0, 0]) ((h 0 113).toNat + 1 + 1) = 0 := mo_yn 1 W0 (by omega)
  have yhte : (mo_y ht (h 0 113) [0, 0]) ((h 0 113) + 1 + 1).toNat = 0 := mo_yn 1 W0 (by omega)
  have yst0 : (mo_y st (h 0 113) [0, 1]) (h 0 113).toNat = st (h 0 113).toNat := mo_yo (by omega)
  have yst1 : (mo_y st (h 0 113) [0, 1]) ((h 0 113).toNat + 1) = 0 := mo_yn 0 W0 (by omega)
  have yst2 : (mo_y st (h 0 113) [0, 1]) ((h 0 113).toNat + 1 + 1) = 1 := mo_yn 1 W0 (by omega)
  have yste : (mo_y st (h 0 113) [0, 1]) ((h 0 113) + 1 + 1).toNat = 1 := mo_yn 1 W0 (by omega)
  have yrg0 : (mo_y rg (h 0 113) [r + 8 * (tu), r + 8 * (tu)]) (h 0 113).toNat = rg (h 0 113).toNat := mo_yo (by omega)
  have yrg1 : (mo_y rg (h 0 113) [r + 8 * (tu), r + 8 * (tu)]) ((h 0 113).toNat + 1) = r + 8 * (tu) := mo_yn 0 W0 (by omega)
  have yrg2 : (mo_y rg (h 0 113) [r + 8 * (tu), r + 8 * (tu)]) ((h 0 113).toNat + 1 + 1) = r + 8 * (tu) := mo_yn 1 W0 (by omega)
  have yrge : (mo_y rg (h 0 113) [r + 8 * (tu), r + 8 * (tu)]) ((h 0 113) + 1 + 1).toNat = r + 8 * (tu) := mo_yn 1 W0 (by omega)
  refine ⟨⟨(1, 0, 0) :: (20, 0, 0) :: (30, 0, 0) :: (22, (h 0 113), 0) :: s, mo_y ht (h 0 113) [0, 0], mo_y st (h 0 113) [0, 1], mo_y rg (h 0 113) [r + 8 * (tu), r + 8 * (tu)], tu, ⟨hS', ?_⟩, ?_⟩, agk⟩
  · refine piBX g hB agX (fun z => by have e : (H 0 11) = (h 0 11) := hfe; rw [← e]; exact z) hv (by omega) (fun j hj => ⟨mo_yo hj, mo_yo hj, mo_yo hj⟩) (fun w hw => ⟨(hpo w hw).1, (hpo w hw).2.1, by
    by_cases hwa : w = (a).toNat
    · subst hwa; exact Or.inr ⟨(by rw [xo21.2]; exact Or.inr (Or.inr (Or.inr (Or.inl rfl)))), (by unfold pj_told; rw [hpa, v_words, xo21.2]; exact ⟨by omega, by omega, (by rw [show ((h 0 113) + 1).toNat = (h 0 113).toNat + 1 by omega, yht1]; show (0 : Int) = ht a.toNat + (-1); omega), (by rw [show ((h 0 113) + 1).toNat = (h 0 113).toNat + 1 by omega, yrg1]; show r + 8 * tu = rg a.toNat + 8 * 0; omega), (by rw [show ((h 0 113) + 1).toNat = (h 0 113).toNat + 1 by omega, yst1]; show (0 : Int) + 0 ≤ st a.toNat; omega)⟩)⟩
    · exact Or.inl ⟨(hpo w hw).2.2 hwa, fun q => by
        simp only [pj_cons] at q ⊢
        rcases q with q | q
        · exact absurd ((fun w q => by rcases q with ⟨-, q⟩ | ⟨q, -⟩; (dsimp only at q; omega); exact absurd q (show ¬ (21 : Int) = 24 by decide)) w q) hwa
        · (repeat (first | exact q | refine Or.inr ?_))⟩⟩) (fun w _ _ q z => q (by simp only [pp_cons] at z ⊢; rcases z with z | z | z | z | z <;> first | (exact Or.inr z) | (exfalso; simp [pp] at z))) ?_ ?_ ?_ ?_ ?_ ?_ ?_ ?_ ⟨?_, ?_, ?_⟩ ?_ (fun z => absurd z hph) ⟨(fun q y hy => by (try simp only [List.mem_cons] at hy); (rcases hy with rfl | rfl | rfl | rfl | hy) <;> first | (exact q _ (List.mem_cons_of_mem _ hy)) | (have := q _ List.mem_cons_self; dsimp only at this ⊢; omega)), (fun q y hy => by (try simp only [List.mem_cons] at hy); (rcases hy with rfl | rfl | rfl | rfl | hy) <;> first | (exact q _ (List.mem_cons_of_mem _ hy)) | (have := q _ List.mem_cons_self; dsimp only at this ⊢; omega))⟩ ?_ (⟨fun e => absurd e (by dsimp only; omega), fun e => absurd e (by dsimp only; omega), fun _ y z e => by cases e; intro q; exact absurd q (by dsimp only; omega), fun e => absurd e (by dsimp only; omega)⟩)
    · intro w hw1 hw2
      rw [v_words] at hw2
      have hwc : w = (h 0 113).toNat ∨ w = (h 0 113).toNat + 1 := by omega
      rcases hwc with rfl | rfl
      · unfold pw; rw [v_words, ho0.1, ho0.2.1, ho0.2.2, yht0, yst0, yrg0, yht1, yst1, yrg1]; exact ⟨⟨by decide, by decide⟩, ⟨by omega, by omega⟩, ⟨by omega, by omega, by omega⟩, by omega, (show (0 : Int) ≤ ht (h 0 113).toNat by omega), fun z => absurd z (by decide), fun _ => ⟨(show 0 = ht (h 0 113).toNat + (0) by omega), (show r + 8 * (tu) = rg (h 0 113).toNat + 8 * (0) by omega), by omega, fun _ => by omega⟩, fun z => absurd z (by decide), fun _ => (show ht (h 0 113).toNat = 0 by omega), fun _ => Or.inl ⟨_, List.mem_cons_of_mem _ (List.mem_cons_of_mem _ (List.mem_cons_of_mem _ (List.mem_cons_self))), Or.inl ⟨Or.inr (Or.inr (Or.inl rfl)), (show (h 0 113) = ((((h 0 113).toNat) : Nat) : Int) by omega)⟩⟩, fun z => absurd z (by decide), fun z => absurd z (by decide), fun z => absurd z (by decide), fun z => absurd z (by decide), fun z => absurd z (by decide), fun z => ⟨⟨by omega, by omega, fun z => absurd z (by decide)⟩, by first | decide | (exfalso; omega)⟩⟩
      · unfold pw; rw [v_words, ho1.1, ho1.2.1, ho1.2.2, yht1, yst1, yrg1, yht2, yst2, yrg2]; exact ⟨⟨by decide, by decide⟩, ⟨by omega, by omega⟩, ⟨by omega, by omega, by omega⟩, by omega, (show (0 : Int) ≤ 0 by omega), fun z => absurd z (by decide), fun _ => ⟨(show 0 = 0 + 0 by omega), (show r + 8 * (tu) = r + 8 * (tu) + 8 * 0 by omega), by omega, fun z => absurd rfl z⟩, fun z => absurd z (by decide), fun _ => (show 0 = 0 by omega), fun z => absurd z (by unfold pw_jmp; decide), fun z => absurd z (by decide), fun z => absurd z (by decide), fun z => absurd z (by decide), fun z => absurd z (by decide), fun z => absurd z (by decide), fun z => ⟨⟨by omega, by omega, fun z => absurd z (by decide)⟩, by first | decide | (exfalso; omega)⟩⟩
    · intro w v hwv h1 h2 z1 z2
      rw [v_words] at h2
      have hvc : v = (h 0 113).toNat ∨ v = (h 0 113).toNat + 1 := by omega
      exfalso
      rcases hvc with rfl | rfl
      · rw [ho0.1] at z2; exact absurd z2 (by decide)
      · rw [ho1.1] at z2; exact absurd z2 (by decide)
    · rw [v_nest]; (try simp only [pk_sum]); omega
    · rw [v_words, v_at]; (try simp only [pk_sum]); omega
    · rw [v_at]; (try simp only [pk_sum]); omega
    · rw [v_wants, v_at]; omega
    · rw [v_quiet]; (try simp only [pk_sum]); omega
    · rw [v_inFlow]; (try simp only [pk_sum]); omega
    · rw [v_known, v_locals]; omega
    · rw [v_locals]; omega
    · intro q; rw [v_locals]; refine b4 (fun z => q ?_); intro y hy; simp only [List.mem_cons] at hy; rcases hy with rfl | rfl | rfl | rfl | hy
      · show (1 : Int) ≠ 17; decide
      · show (20 : Int) ≠ 17; decide
      · show (30 : Int) ≠ 17; decide
      · show (22 : Int) ≠ 17; decide
      · exact z y (List.mem_cons_of_mem _ hy)
    · rw [v_words, yrge]
    · rw [v_words, v_locals, yhte, yste]
      exact ⟨⟨⟨by (try simp only [pk_sum]); omega, by (try simp only [pk_sum]); omega⟩, (fun p q => absurd q (by simp [pp]))⟩, ⟨by (try simp only [pk_sum, List.length_cons]); (try dsimp only); omega, (by intro y z e; cases e; dsimp only; omega)⟩, (show pt_ok (H 74) (mo_y ht (h 0 113) [0, 0]) (mo_y st (h 0 113) [0, 1]) (mo_y rg (h 0 113) [r + 8 * (tu), r + 8 * (tu)]) ((h 0 113) + 1 + 1) (h 0 88) ((h 0 77)) r (pi_wn h r) (1, 0, 0) ((20, 0, 0) :: (30, 0, 0) :: (22, (h 0 113), 0) :: s) (0 - 0) ((h 0 109)) (1) (tu) from by unfold pt_ok; (try dsimp only); (try simp only [pk_sum]); exact ⟨⟨by omega, by omega, by omega, by omega⟩, by omega, by omega, ⟨by first | omega | simp, by omega, by omega⟩, fun _ => by first | omega | trivial | (simp only [true_and, and_true]; omega), fun z => absurd z (by omega), fun z => absurd z (by omega), fun z => absurd z (by omega), fun z => absurd z (by omega), fun z => absurd z (by omega), fun z => absurd z (by omega), fun z => absurd z (by omega), fun z => absurd z (by omega), fun z => absurd z (by omega), fun z => absurd z (by omega), fun z => absurd z (by omega), fun z => absurd z (by omega), fun z => absurd z (by omega), fun z => absurd z (by omega), fun z => absurd z (by omega), fun z => absurd z (by omega), fun z => absurd z (by omega), fun z => absurd z (by omega), fun z => absurd z (by omega), fun z => absurd z (by omega), fun z => absurd z (by omega), fun z => absurd z (by omega), fun z => absurd z (by omega), fun z => absurd z (by omega), fun z => absurd z (by omega), fun z => absurd z (by omega), fun z => absurd z (by omega)⟩), ⟨⟨⟨by (try simp only [pk_sum]); omega, by (try simp only [pk_sum]); omega⟩, (fun p q => absurd q (by simp [pp]))⟩, ⟨by (try simp only [pk_sum, List.length_cons]); (try dsimp only); omega, (by intro y z e; cases e; dsimp only; omega)⟩, (show pt_ok (H 74) (mo_y ht (h 0 113) [0, 0]) (mo_y st (h 0 113) [0, 1]) (mo_y rg (h 0 113) [r + 8 * (tu), r + 8 * (tu)]) ((h 0 113) + 1 + 1) (h 0 88) ((h 0 77)) r (pi_wn h r) (20, 0, 0) ((30, 0, 0) :: (22, (h 0 113), 0) :: s) (0 - 0 + 1) ((h 0 109)) (1) (tu) from by unfold pt_ok; (try dsimp only); (try simp only [pk_sum]); exact ⟨⟨by omega, by omega, by omega, by omega⟩, by omega, by omega, ⟨by first | omega | simp, by omega, by omega⟩, fun z => absurd z (by omega), fun z => absurd z (by omega), fun z => absurd z (by omega), fun z => absurd z (by omega), fun z => absurd z (by omega), fun z => absurd z (by omega), fun z => absurd z (by omega), fun z => absurd z (by omega), fun z => absurd z (by omega), fun z => absurd z (by omega), fun z => absurd z (by omega), fun z => absurd z (by omega), fun z => absurd z (by omega), fun z => absurd z (by omega), fun _ => ⟨by first | trivial | omega, by first | trivial | omega, ((pt_let_cons (show (30 : Int) ≠ 17 by decide)).mpr ((pt_let_cons (show (22 : Int) ≠ 17 by decide)).mpr xo14.2.2))⟩, fun z => absurd z (by omega), fun z => absurd z (by omega), fun z => absurd z (by omega), fun z => absurd z (by omega), fun z => absurd z (by omega), fun z => absurd z (by omega), fun z => absurd z (by omega), fun z => absurd z (by omega), fun z => absurd z (by omega), fun z => absurd z (by omega), fun z => absurd z (by omega), fun z => absurd z (by omega), fun z => absurd z (by omega)⟩), ⟨⟨⟨by (try simp only [pk_sum]); omega, by (try simp only [pk_sum]); omega⟩, (fun p q => absurd q (by simp [pp]))⟩, ⟨by (try simp only [pk_sum, List.length_cons]); (try dsimp only); omega, (by intro y z e; cases e; dsimp only; omega)⟩, (show pt_ok (H 74) (mo_y ht (h 0 113) [0, 0]) (mo_y st (h 0 113) [0, 1]) (mo_y rg (h 0 113) [r + 8 * (tu), r + 8 * (tu)]) ((h 0 113) + 1 + 1) (h 0 88) ((h 0 77)) r (pi_wn h r) (30, 0, 0) ((22, (h 0 113), 0) :: s) (0) ((h 0 109)) (0) (tu) from by unfold pt_ok; (try dsimp only); (try simp only [pk_sum]); exact ⟨⟨by omega, by omega, by omega, by omega⟩, by omega, by omega, ⟨by first | omega | simp, by omega, by omega⟩, fun z => absurd z (by omega), fun z => absurd z (by omega), fun z => absurd z (by omega), fun z => absurd z (by omega), fun z => absurd z (by omega), fun z => absurd z (by omega), fun z => absurd z (by omega), fun z => absurd z (by omega), fun z => absurd z (by omega), fun z => absurd z (by omega), fun z => absurd z (by omega), fun z => absurd z (by omega), fun _ => ⟨by first | trivial | omega, by first | trivial | omega, ((pt_let_cons (show (22 : Int) ≠ 17 by decide)).mpr xo14.2.2)⟩, fun z => absurd z (by omega), fun z => absurd z (by omega), fun z => absurd z (by omega), fun z => absurd z (by omega), fun z => absurd z (by omega), fun z => absurd z (by omega), fun z => absurd z (by omega), fun z => absurd z (by omega), fun z => absurd z (by omega), fun z => absurd z (by omega), fun z => absurd z (by omega), fun z => absurd z (by omega), fun z => absurd z (by omega), fun z => absurd z (by omega), fun z => absurd z (by omega)⟩), ⟨⟨⟨by (try simp only [pk_sum]); omega, by (try simp only [pk_sum]); omega⟩, (fun p q => absurd q (by simp [pp]))⟩, ⟨by (try simp only [pk_sum, List.length_cons]); (try dsimp only); omega, (by intro y z e; have q := p2' y z e; dsimp only at q ⊢; omega)⟩, (show pt_ok (H 74) (mo_y ht (h 0 113) [0, 0]) (mo_y st (h 0 113) [0, 1]) (mo_y rg (h 0 113) [r + 8 * (tu), r + 8 * (tu)]) ((h 0 113) + 1 + 1) (h 0 88) ((h 0 77)) r (pi_wn h r) (22, (h 0 113), 0) (s) (0) ((h 0 109)) (0) (tu) from by unfold pt_ok; (try dsimp only); (try simp only [pk_sum]); exact ⟨⟨by omega, by omega, by omega, by omega⟩, by omega, by omega, ⟨by first | omega | simp, by omega, by omega⟩, fun z => absurd z (by omega), fun z => absurd z (by omega), fun z => absurd z (by omega), fun z => absurd z (by omega), fun z => absurd z (by omega), fun z => absurd z (by omega), fun z => absurd z (by omega), fun z => absurd z (by omega), fun z => absurd z (by omega), fun z => absurd z (by omega), fun z => absurd z (by omega), fun z => absurd z (by omega), fun _ => ⟨by first | trivial | omega, by first | trivial | omega, xo14.2.2⟩, fun z => absurd z (by omega), fun z => absurd z (by omega), fun z => absurd z (by omega), fun z => absurd z (by omega), fun z => absurd z (by omega), fun _ => ⟨⟨by omega, by omega, yht0.trans (by omega), (by rw [ho0.1, yrg0]; show rg (h 0 113).toNat = r + 8 * (tu - 0); omega), yst0.trans (by omega)⟩, Or.inl ho0.1⟩, fun z => absurd z (by omega), fun z => absurd z (by omega), fun z => absurd z (by omega), fun z => absurd z (by omega), fun z => absurd z (by omega), fun z => absurd z (by omega), fun z => absurd z (by omega), fun z => absurd z (by omega), fun z => absurd z (by omega)⟩), (pt_equ (show _ = 0 by omega) (show _ = (h 0 109) by omega) (show _ = 0 by omega) (show _ = tu by omega) (pt_ext (show (h 0 113) ≤ (h 0 113) + 1 + 1 by omega) (Int.le_refl _) (show (h 0 77) ≤ (h 0 77) by omega) (fun _ q => q) (fun j hj => ⟨fun q => (hpo j q).1, mo_yo hj, mo_yo hj, mo_yo hj⟩) p4))⟩⟩⟩⟩
  · show 40 * (900 - (H 0 7)) + pk_sum pk_m ((1, 0, 0) :: (20, 0, 0) :: (30, 0, 0) :: (22, (h 0 113), 0) :: s) + 13 < 40 * (900 - (h 0 7)) + pk_sum pk_m ((21, a, b) :: s) + 13; rw [v_at]; (try simp only [pk_sum]); omega
