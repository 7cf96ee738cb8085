/-! the reference's parser: nodes of a P -/
variable {Zz : Zc}
def FNN : Nat → Nat → Bool := mo_F [88, 34, 113, 85, 74, 76] [24, 74, 75, 76, 52, 55, 54, 56, 57]
theorem piBN {h H : ja_H} {R r ph q0 : Int} {tf : mo_TF} {s s' : List mo_A} {ht st rg : Nat → Int} {tu : Int} (hB : piB h R r ph tf q0 s ht st rg tu) (ag : mo_ag FNN h H) (hf : (H 0 11) = 0 → (h 0 11) = 0) (hv : ∀ k a b, pw_wt h k a b → pw_wt H k a b)
    (hN : pi_N H ht st rg (h 0 113)) (hT : pi_T H) (hnd : ∀ n : Nat, (n : Int) < (h 0 95) → (n : Int) < (H 0 95) ∧ (H 67) n = (h 67) n) (hus : (H 0 72) ≤ (H 0 95)) (hpj : ∀ w, pj_in s w → pj_in s' w) (hpp : ∀ p, ¬ pp_in s p → ¬ pp_in s' p)
    (n1 : (H 0 18) = pk_sum pk_c s') (n2 : (h 0 113) + pk_sum pk_v s' < 5 * (H 0 7)) (n3 : (H 0 95) + pk_sum pk_d s' < (H 0 7)) (hwa : (H 0 68) < (H 0 7)) (n5 : (H 0 84) = q0 + pk_sum pk_q s') (n6 : (H 0 87) = pk_sum pk_f s')
    (b : (ph = 1 ∨ (H 0 79) ≤ (H 0 77)) ∧ (ph = 1 ∨ (H 0 77) ≤ 10) ∧ (¬ pt_let s' → ph = 1 ∨ (H 0 77) ≤ 9))
    (hreg : (ph = 0 ∧ r = R ∧ (H 0 86) = 0 ∧ rg (h 0 113).toNat = r + 8 * tu ∧ ∀ y ∈ s', y.1 ≤ 30 ∨ 37 ≤ y.1) ∨ (ph = 1 ∧ (r = 4 ∧ tu = 0) ∧ (∀ y ∈ s', y.1 ≤ 12 ∨ 31 ≤ y.1) ∧ ((pi_if s' ∧ (H 0 86) = 1 ∧ rg (h 0 113).toNat = 4) ∨ (¬ pi_if s' ∧ (H 0 86) = 0 ∧ rg (h 0 113).toNat = 200))))
    (hpt : pt (h 74) ht st rg (h 0 113) (h 0 88) (H 0 77) r tf (pi_wn h r) s' (ht (h 0 113).toNat - pi_adj H s') (H 0 109) (st (h 0 113).toNat) tu) (top : pi_top H ht s') : piB H R r ph tf q0 s' ht st rg tu := by
  obtain ⟨⟨o1, o2, o3, o4, o5, o6, o7, o8, o9⟩, ⟨ob, -, -, -⟩, -, -, ⟨oC, oU⟩, oN, oP, oT, -⟩ := hB
  have e1 : (H 0 113) = (h 0 113) := ag _ _ rfl
  have e2 : (H 0 88) = (h 0 88) := ag _ _ rfl
  have e7 : (H 0 74) = (h 0 74) := ag _ _ rfl
  have e10 : (H 0 76) = (h 0 76) := ag _ _ rfl
  have f1 : (H 74) = (h 74) := funext fun j => ag _ _ rfl
  have f2 : (H 75) = (h 75) := funext fun j => ag _ _ rfl
  have f3 : (H 76) = (h 76) := funext fun j => ag _ _ rfl
  have k1 : (H 52) = (h 52) := funext fun j => ag _ _ rfl
  have k2 : (H 55) = (h 55) := funext fun j => ag _ _ rfl
  have k3 : (H 54) = (h 54) := funext fun j => ag _ _ rfl
  have k4 : (H 56) = (h 56) := funext fun j => ag _ _ rfl
  have k5 : (H 57) = (h 57) := funext fun j => ag _ _ rfl
  have m1 : (H 0 34) = (h 0 34) := ag _ _ rfl
  have m2 : (H 24) = (h 24) := funext fun j => ag _ _ rfl
  refine ⟨⟨n1, by rw [e1]; exact n2, n3, hwa, hus, n5, n6, o8, o9⟩, ⟨e7.trans ob, b⟩, ?_, ?_, ⟨?_, ?_⟩, ?_, ?_, hT, top⟩
  · rw [e1]; exact hreg
  · rw [e1, e2, f1]
    refine pt_ext (Int.le_refl _) (Int.le_refl _) (Int.le_refl _) (fun a z => ?_) (fun _ _ => ⟨fun _ => rfl, rfl, rfl, rfl⟩) hpt
    unfold pi_wn at z ⊢
    rw [k1, k2, e10, e2]
    exact ⟨⟨fun y e => z.1.1 y (hf e), nf_more hnd z.1.2⟩, fun y e => ⟨(z.2.1 y (hf e)).1, hv _ _ _ (z.2.1 y (hf e)).2⟩, z.2.2⟩
  · rw [e1]
    intro w hw
    refine pw_ext hw (Int.le_refl _) (fun _ _ => ⟨rfl, rfl, rfl⟩) ⟨by rw [f1], by rw [f2], by rw [f3]⟩ hf hv (Int.le_of_eq e2.symm) (fun _ _ _ q => ⟨?_, hpp _ q⟩) (fun _ q => hpj _ q) (oC w hw)
    unfold pw_pop; rw [k1, k2]
  · rw [e1]; unfold pi_U; rw [f1, f2]; exact oU
  · rw [e1]; exact hN
  · refine ⟨fun m hm => ?_, fun p hp => ?_⟩
    · rw [m1] at hm
      rw [m2, e2, k1]
      exact oP.1 m hm
    · rw [e2] at hp
      rw [k1, k3, k4, k5, m1]
      obtain ⟨a1, a2, a3, a4⟩ := oP.2 p hp
      exact ⟨a1, a2, a3, fun z => hv _ _ _ (a4 z)⟩
/-- USES that were added are of the new node -/
def nd_us (h u : ja_H) : Prop := (h 0 72) ≤ (u 0 72) ∧ ∀ i : Nat, (h 0 72) ≤ i → (i : Int) < (u 0 72) → (u 47) i = (h 0 95) ∧ (u 58) (h 0 95).toNat = 12
theorem us_same {h u : ja_H} (e : (u 0 72) = (h 0 72)) : nd_us h u := ⟨by omega, fun i a b => by omega⟩
/-- one more node -/
def nd_old (h u : ja_H) : Prop := (∀ j : Nat, (j : Int) < (h 0 95) → (u 58) j = (h 58) j ∧ (u 59) j = (h 59) j ∧ (u 60) j = (h 60) j ∧ (u 62) j = (h 62) j ∧ (u 67) j = (h 67) j) ∧ (∀ j : Nat, (j : Int) < 7 * (h 0 95) → (u 63) j = (h 63) j) ∧ (∀ j : Nat, (j : Int) < (h 0 72) → (u 47) j = (h 47) j) ∧ nd_us h u
theorem pi_N_new {h H : ja_H} {ht st rg : Nat → Int} {W : Int} (g : mo_G Zz h) (hN : pi_N h ht st rg W) (hn : (H 0 95) = (h 0 95) + 1) (old : nd_old h H) (hf : (H 0 11) = 0 → (h 0 11) = 0) (hv : ∀ k a b, pw_wt h k a b → pw_wt H k a b) (new : pn H ht st rg W (h 0 95).toNat) : pi_N H ht st rg W := by
  obtain ⟨o1, o2, o3, o4, o5⟩ := old
  have gn0 := (gF_nodes g).1
  refine ⟨fun n hl => ?_, fun i hi => ?_⟩
  rotate_left
  · rcases Int.lt_or_le (i : Int) (h 0 72) with q | q
    · obtain ⟨a1, a2⟩ := hN.2 i q
      have gu0 := (gC_useNode g i).1
      rw [o3 i q, hn]
      exact ⟨by omega, by rw [(o1 _ (by omega)).1]; exact a2⟩
    · obtain ⟨a1, a2⟩ := o5 i q hi
      rw [a1, hn]
      exact ⟨by omega, a2⟩
  rw [hn] at hl
  rcases Int.lt_or_le (n : Int) (h 0 95) with q | q
  · obtain ⟨a1, a2, a3, a4, a5⟩ := o1 n q
    obtain ⟨q1, q2, q3, q4, q5, q6⟩ := hN.1 n q
    have gm := gC_nodeMany g n
    unfold pn
    rw [a1, a2, a3, a4, a5]
    refine ⟨fun z => ?_, fun z => ?_, q3, fun z => ?_, fun z => ?_, fun z k hk => ?_⟩
    · obtain ⟨y1, y2, y3, y4, y5, y6⟩ := q1 z
      exact ⟨y1, y2, y3, y4, by rw [(o1 _ (by omega)).2.2.2.2]; exact y5, by rw [(o1 _ (by omega)).2.2.2.2]; exact y6⟩
    · obtain ⟨y1, y2, y3⟩ := q2 z
      exact ⟨y1, y2, by rw [(o1 _ (by omega)).2.2.2.2]; exact y3⟩
    · obtain ⟨y1, y2, i, y3, y4⟩ := q4 z
      refine ⟨y1, fun y k hk => ?_, i, by omega, by rw [o3 i y3]; exact y4⟩
      rw [o2 _ (by omega)]; exact y2 (hf y) k hk
    · rcases q5 z with a | ⟨y1, y2, y3⟩
      · exact Or.inl a
      · exact Or.inr ⟨y1, y2, hv _ _ _ y3⟩
    · rw [o2 _ (by omega)]
      rcases q6 z k hk with a | a | ⟨y1, y2, y3⟩
      · exact Or.inl a
      · exact Or.inr (Or.inl a)
      · exact Or.inr (Or.inr ⟨y1, y2, hv _ _ _ y3⟩)
  · have e : n = (h 0 95).toNat := by omega
    rw [e]; exact new
theorem pi_T_new {h H : ja_H} (hT : pi_T h) (hn : (H 0 95) = (h 0 95) + 1) (old : nd_old h H) (hip : (H 0 85) = (h 0 85)) (hi : (H 67) (h 0 95).toNat = (h 0 85)) (g : mo_G Zz h)
    (ht : ∀ k : Nat, (k : Int) < (H 0 109) → ((k : Int) < (h 0 109) ∧ (H 70) k = (h 70) k) ∨ (H 70) k = (h 0 95)) : pi_T H := by
  intro k hk
  rw [hn, hip]
  rcases ht k hk with ⟨a, b⟩ | a
  · obtain ⟨q1, q2⟩ := hT k a
    have gk := gC_treePile g k
    rw [b, (old.1 _ (by omega)).2.2.2.2]
    exact ⟨by omega, q2⟩
  · rw [a]
    exact ⟨by omega, hi⟩
/-- acts of a P, and what stands right below them -/
theorem pif_not {op ht st rg : Nat → Int} {W P lo r : Int} {tf : mo_TF} {wn : Int → Prop} : ∀ {s : List mo_A} {c t e tu : Int}, pt op ht st rg W P lo r tf wn s c t e tu → c = 0 → (∀ y ∈ s, y.1 ≤ 12 ∨ 31 ≤ y.1) → (∀ y z, s = y :: z → 14 ≤ y.1) → ¬ pi_if s
  | [], _, _, _, _, _, _, _, _ => fun ⟨y, hy, _⟩ => by cases hy
  | x :: s, c, t, e, tu, q, hc, ha, hh => by
    obtain ⟨-, ⟨-, low⟩, q3, q4⟩ := q
    have hx := ha x List.mem_cons_self
    have h14 := hh x s rfl
    obtain ⟨a0, -, -, -, -, -, -, -, -, -, o7, -, -, -, -, -, -, -, -, -, -, -, -, -, -, -, o31, o32, o33, o34, o36, -⟩ := q3
    have n36 : x.1 ≠ 36 := fun z => by have := (o36 z).1; omega
    have n38 : x.1 ≠ 38 := fun z => by have := (o7 (Or.inr z)).1; omega
    have hc2 : pt_c x c = 0 := by
      unfold pt_c
      rw [if_neg (by omega), if_neg (by omega), if_neg (by omega)]
      split
      · rfl
      · exact hc
    have ih := pif_not q4 hc2 (fun y hy => ha y (List.mem_cons_of_mem _ hy)) (fun y z e => (low y z e).1.2 (by omega))
    rintro ⟨y, hy, e⟩
    rcases List.mem_cons.mp hy with rfl | hy
    · exact n36 e
    · exact ih ⟨y, hy, e⟩
theorem pif_31 {h : ja_H} {R r ph q0 : Int} {tf : mo_TF} {x : mo_A} {s : List mo_A} {ht st rg : Nat → Int} {tu : Int} (hB : piB h R r ph tf q0 (x :: s) ht st rg tu) (hx : 31 ≤ x.1 ∧ x.1 ≤ 36) : ¬ pi_if s ∧ ph = 1 ∧ r = 4 ∧ tu = 0 ∧ (∀ y ∈ s, y.1 ≤ 12 ∨ 31 ≤ y.1) ∧ (x.1 ≠ 36 → (h 0 86) = 0 ∧ rg (h 0 113).toNat = 200) ∧ (x.1 = 36 → (h 0 86) = 1 ∧ rg (h 0 113).toNat = 4) := by
  obtain ⟨-, -, oreg, hpt, -⟩ := hB
  rcases oreg with ⟨q1, q2, q3, q4, q5⟩ | ⟨q1, q2, q3, q4⟩
  · have := q5 x List.mem_cons_self; omega
  · obtain ⟨-, ⟨-, low⟩, -, p4⟩ := hpt
    have hc2 : pt_c x (ht (h 0 113).toNat - pi_adj h (x :: s)) = 0 := by
      unfold pt_c
      rw [if_neg (by omega), if_neg (by omega), if_neg (by omega), if_pos (by omega)]
    have hn := pif_not p4 hc2 (fun y hy => q3 y (List.mem_cons_of_mem _ hy)) (fun y z e => (low y z e).1.2 (by omega))
    refine ⟨hn, q1, q2.1, q2.2, fun y hy => q3 y (List.mem_cons_of_mem _ hy), fun z => ?_, fun z => ?_⟩
    · rcases q4 with ⟨⟨y, hy, e⟩, -⟩ | ⟨-, b, c⟩
      · rcases List.mem_cons.mp hy with rfl | hy
        · exact absurd e z
        · exact absurd ⟨y, hy, e⟩ hn
      · exact ⟨b, c⟩
    · rcases q4 with ⟨-, b, c⟩ | ⟨a, -⟩
      · exact ⟨b, c⟩
      · exact absurd ⟨x, List.mem_cons_self, z⟩ a
def mo_N (h : ja_H) (kd a b tk ip : Int) : ja_H := ja_up (ja_up (ja_up (ja_up (ja_up (ja_up (ja_up (ja_up (ja_up (ja_up h 0 95 ((h 0 95) + 1)) 58 ((h 0 95)).toNat kd) 59 ((h 0 95)).toNat a) 60 ((h 0 95)).toNat b) 61 ((h 0 95)).toNat tk) 62 ((h 0 95)).toNat 0) 64 ((h 0 95)).toNat ((h 0 76))) 65 ((h 0 95)).toNat 0) 66 ((h 0 95)).toNat 0) 67 ((h 0 95)).toNat ip
/-- a node that is being made, of a P that has no tree yet -/
def FLF : Nat → Nat → Bool := mo_F [88, 34, 113, 85, 74, 76, 18, 109, 84, 87, 86, 79, 77, 17] [24, 74, 75, 76, 52, 55, 54, 56, 57, 70, 6, 7, 8]
def lfG (ht st rg : Nat → Int) (h u : ja_H) : Prop := ((u 0 95) = (h 0 95) + 1 ∧ (u 0 72) ≤ (u 0 95) ∧ (h 0 7) ≤ (u 0 7) ∧ (u 0 68) < (u 0 7) + 1 ∧ ((u 0 11) = 0 → (h 0 11) = 0) ∧ (u 67) (h 0 95).toNat = (h 0 85)) ∧ (∀ k a b, pw_wt h k a b → pw_wt u k a b) ∧ nd_old h u ∧ mo_ag FLF h u ∧ mo_ag FK h u ∧ pn u ht st rg (h 0 113) (h 0 95).toNat
theorem ab_leaf {h u : ja_H} {R r ph q0 a b : Int} {tf : mo_TF} {s : List mo_A} {ht st rg : Nat → Int} {tu : Int} (g : mo_G Zz h) (hS : pk_S h (h 0 17).toNat s) (hB : piB h R r ph tf q0 ((31, a, b) :: s) ht st rg tu) (q : lfG ht st rg h u) :
    pi_done h (ja_up (ja_up (ja_up u 70 ((u 0 109)).toNat (h 0 95)) 0 109 ((u 0 109) + 1)) 0 7 ((u 0 7) + 1)) R r ph tf q0 (pi_mu h s) := by
  obtain ⟨N2, N3, N4, N5, N6, N7, N8, N9, N10, N11, N12, N13, ⟨NK1, NK2⟩, ND1, ND2, ND3, NU1, NU2⟩ := piB_numv g hB
  obtain ⟨hni, hph, hr, htu, hal, hin, -⟩ := pif_31 hB (by dsimp only; omega)
  obtain ⟨hi0, hr200⟩ := hin (show (31 : Int) ≠ 36 by decide)
  obtain ⟨⟨n1, n2, n3, n4, n5, n6, n7, n8, n9⟩, ⟨b1, b2, b3, b4⟩, reg, hpt, ⟨hC, hU⟩, hNo, hP, hT, top⟩ := id hB
  obtain ⟨⟨⟨p1, p1'⟩, p1u⟩, ⟨p2, p2'⟩, p3, p4⟩ := hpt
  simp only [pk_sum] at n1 n2 n3 n6 n7
  dsimp only at p2 p2' N6
  have ec31 : pk_c 31 = 0 := rfl
  have ev31 : pk_v 31 = 0 := rfl
  have ed31 : pk_d 31 = 0 := rfl
  have eq31 : pk_q 31 = 0 := rfl
  have ef31 : pk_f 31 = 0 := rfl
  have em31 : pk_m 31 = 1 := rfl
  have eoff31 : pk_off 31 = 7 := rfl
  have ek31 : pk_k r 31 = 0 := rfl
  replace p3 : pt_ok (h 74) ht st rg (h 0 113) (h 0 88) (h 0 77) r (pi_wn h r) (31, a, b) s (ht (h 0 113).toNat - 0) (h 0 109) (st (h 0 113).toNat) tu := p3
  unfold pt_ok at p3; dsimp only at p3
  replace p4 : pt (h 74) ht st rg (h 0 113) (h 0 88) (h 0 77) r tf (pi_wn h r) s 0 ((h 0 109) + 1) (st (h 0 113).toNat) tu := p4
  obtain ⟨-, xc, xt, ⟨xe, xu1, xu2⟩, -, -, -, -, -, -, -, -, -, -, -, -, -, -, -, -, -, -, -, -, -, -, xo31, -, -, -, -, -⟩ := p3
  replace xo31 := xo31 (by omega)
  obtain ⟨⟨u1, u2, u3, u4, u5, u6⟩, hv, hold, agL, agk, hpn⟩ := q
  have gt := gF_treeTop g
  have gn := gF_nodes g
  have v1 : (u 0 109) = (h 0 109) := agL _ _ rfl
  have v2 : (u 0 18) = (h 0 18) := agL _ _ rfl
  have v3 : (u 0 84) = (h 0 84) := agL _ _ rfl
  have v4 : (u 0 87) = (h 0 87) := agL _ _ rfl
  have v5 : (u 0 86) = (h 0 86) := agL _ _ rfl
  have v6 : (u 0 79) = (h 0 79) := agL _ _ rfl
  have v7 : (u 0 77) = (h 0 77) := agL _ _ rfl
  have v8 : (u 0 85) = (h 0 85) := agL _ _ rfl
  have t1 : (u 70) = (h 70) := funext fun j => agL _ _ rfl
  generalize hH : ja_up (ja_up (ja_up u 70 ((u 0 109)).toNat (h 0 95)) 0 109 ((u 0 109) + 1)) 0 7 ((u 0 7) + 1) = H
  have w1 : (H 0 109) = (h 0 109) + 1 := by subst hH; show (u 0 109) + 1 = _; rw [v1]
  have w2 : (H 0 7) = (u 0 7) + 1 := by subst hH; rfl
  have w3 : (H 0 18) = (h 0 18) ∧ (H 0 84) = (h 0 84) ∧ (H 0 87) = (h 0 87) ∧ (H 0 86) = (h 0 86) ∧ (H 0 79) = (h 0 79) ∧ (H 0 77) = (h 0 77) ∧ (H 0 85) = (h 0 85) ∧ (H 0 68) = (u 0 68) ∧ (H 0 72) = (u 0 72) ∧ (H 0 95) = (u 0 95) ∧ (H 0 11) = (u 0 11) := by
    subst hH; exact ⟨v2, v3, v4, v5, v6, v7, v8, rfl, rfl, rfl, rfl⟩
  have hold2 : nd_old h H := by subst hH; exact hold
  have hv2 : ∀ k a b, pw_wt h k a b → pw_wt H k a b := by subst hH; exact hv
  have hpn2 : pn H ht st rg (h 0 113) (h 0 95).toNat := by subst hH; exact hpn
  have hip : (H 67) (h 0 95).toNat = (h 0 85) := by subst hH; exact u6
  have agN : mo_ag FNN h H := by
    subst hH
    refine ag_up rfl (ag_up rfl (ag_up rfl ?_))
    refine ag_sub (fun k j e => ?_) agL
    unfold FNN mo_F at e; unfold FLF mo_F
    split at e
    · next z => rw [if_pos z]; simp at e ⊢; omega
    · next z => rw [if_neg z]; simp at e ⊢; omega
  have agk2 : mo_ag FK h H := by subst hH; exact ag_up rfl (ag_up rfl (ag_up rfl agk))
  have hS2 : pk_S H (H 0 17).toNat s := by
    subst hH
    refine pk_S_ag (ag_up rfl (ag_up rfl (ag_up rfl ?_))) hS
    refine ag_sub (fun k j e => ?_) agL
    unfold FS mo_F at e; unfold FLF mo_F
    split at e
    · next z => rw [if_pos z]; simp at e ⊢; omega
    · next z => rw [if_neg z]; simp at e ⊢; omega
  have htp : ∀ k : Nat, (k : Int) < (H 0 109) → ((k : Int) < (h 0 109) ∧ (H 70) k = (h 70) k) ∨ (H 70) k = (h 0 95) := by
    intro k hk
    rw [w1] at hk
    subst hH
    by_cases e : k = (h 0 109).toNat
    · right; simp [ja_up, v1, e]
    · left
      refine ⟨by omega, ?_⟩
      simp [ja_up, v1, e, t1]
  clear hH
  obtain ⟨x1, x2, x3, x4, x5, x6, x7, x8, x9, x10, x11⟩ := w3
  refine ⟨⟨s, ht, st, rg, tu, ⟨hS2, ?_⟩, ?_⟩, agk2⟩
  · refine piBN hB agN (fun z => u5 (by rw [← x11]; exact z)) hv2 (pi_N_new g hNo (by omega) hold2 (fun z => u5 (by rw [← x11]; exact z)) hv2 hpn2) (pi_T_new hT (by omega) hold2 x7 hip g htp) (fun n hn => ⟨by omega, (hold2.1 n hn).2.2.2.2⟩) (by omega) (fun w q => ?_) (fun p q z => q (pp_cons.mpr (Or.inr z))) (by omega) (by omega) (by omega) (by omega) (by omega) (by omega) ⟨by omega, by omega, fun q => ?_⟩ (Or.inr ⟨hph, ⟨hr, htu⟩, hal, Or.inr ⟨hni, by omega, hr200⟩⟩) ?_ (fin_top0 (show (31 : Int) ≠ 1 by decide) p2' (fun q => absurd q (by dsimp only; omega)))
    · rcases pj_cons.mp q with q | q
      · exact absurd q (idle_of (show (31 : Int) ≠ 4 ∧ (31 : Int) ≠ 21 ∧ (31 : Int) ≠ 22 ∧ (31 : Int) ≠ 28 ∧ (31 : Int) ≠ 24 by decide) w)
      · exact q
    · rw [x6]; exact b4 (fun z => q (fun y hy => z y (List.mem_cons_of_mem _ hy)))
    · rw [x6, w1, fin_adj p2' (show (31 : Int) ≠ 8 ∧ (31 : Int) ≠ 9 by decide)]
      exact pt_eq (by omega) rfl rfl p4
  · show 40 * (900 - (H 0 7)) + pk_sum pk_m s + 13 < 40 * (900 - (h 0 7)) + pk_sum pk_m s + 13
    rw [w2]; omega
