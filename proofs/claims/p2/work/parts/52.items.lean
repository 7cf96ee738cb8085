/-! the reference's parser: between bodies -/
variable {Zz : Zc}
def cd (h : ja_H) (ht st rg : Nat → Int) : Prop := (pi_C h ht st rg (h 0 113) [] ∧ pi_U h (h 0 113)) ∧ rg (h 0 113).toNat = 200 ∧ pi_N h ht st rg (h 0 113) ∧ ht (h 0 113).toNat = 0 ∧ st (h 0 113).toNat = 0
theorem wn_nf {h : ja_H} {r a : Int} (h1 : a ≤ -10) (h2 : pi_nf h a) : pi_wn h r a := ⟨⟨fun z => by omega, h2⟩, fun z => by omega, fun z => by omega, fun z => by omega, fun z => by omega⟩
/-- a BLOCK begins -/
theorem it_block {h : ja_H} {R : Int} {ht st rg : Nat → Int} (g : mo_G Zz h) (hR : (h 0 74) = R) (hc : cd h ht st rg) (hP : pi_P h) (hT : pi_T h) (n2 : (h 0 113) < 5 * (h 0 7)) (n3 : (h 0 95) < (h 0 7)) (n4 : (h 0 68) < (h 0 7)) (n5 : (h 0 72) ≤ (h 0 95)) (n1 : (h 0 18) = 0) (n6 : (h 0 84) = 0) (n7 : (h 0 87) = 0) (hi : (h 0 86) = 0) (b2 : (h 0 79) ≤ (h 0 77)) (b3 : (h 0 77) ≤ 10) :
    piB (mo_L (ja_up h 0 17 0) 14 0 0 0) R R 0 ((h 0 109), (h 0 113), mo_z ht (h 0 113) 0, mo_z st (h 0 113) 0, mo_z rg (h 0 113) R, fun a => a ≤ -10 ∧ pi_nf h a) 0 [(14, 0, 0)] (mo_z ht (h 0 113) 0) (mo_z st (h 0 113) 0) (mo_z rg (h 0 113) R) 0 ∧ tf_ok 0 ((h 0 109), (h 0 113), mo_z ht (h 0 113) 0, mo_z st (h 0 113) 0, mo_z rg (h 0 113) R, fun a => a ≤ -10 ∧ pi_nf h a) := by
  have W0 := (gF_words g).1
  have gt := (gF_treeTop g).1
  obtain ⟨⟨hC, hU⟩, h200, hN, -⟩ := hc
  have hC2 := pi_C_re (v := R) W0 hC h200
  have hN2 := pi_N_re (v := R) hN
  refine ⟨⟨⟨n1, show (h 0 113) + 0 < 5 * (h 0 7) by omega, show (h 0 95) + 0 < (h 0 7) by omega, n4, n5, show (h 0 84) = 0 + 0 by omega, n7, Int.le_refl _, by decide⟩, ⟨hR, Or.inr b2, Or.inr b3, fun q => absurd (fun y hy => by rcases List.mem_singleton.mp hy with rfl; show (14 : Int) ≠ 17; decide) q⟩, Or.inl ⟨rfl, rfl, hi, mo_zn.trans (show R = R + 8 * 0 by omega), fun y hy => by rcases List.mem_singleton.mp hy with rfl; exact Or.inl (show (14 : Int) ≤ 30 by decide)⟩, ?_, ⟨?_, pi_U_ag (by unfold mo_L; (repeat (refine ag_up rfl ?_)); exact ag_refl) hU⟩, pi_N_ag (by unfold mo_L; (repeat (refine ag_up rfl ?_)); exact ag_refl) hN2, pi_P_ag (by unfold mo_L; (repeat (refine ag_up rfl ?_)); exact ag_refl) hP, pi_T_ag (by unfold mo_L; (repeat (refine ag_up rfl ?_)); exact ag_refl) hT, ?_⟩, fun _ => ⟨W0, mo_zn⟩, fun z => absurd z (by decide)⟩
  · show pt (h 74) (mo_z ht (h 0 113) 0) (mo_z st (h 0 113) 0) (mo_z rg (h 0 113) R) (h 0 113) (h 0 88) (h 0 77) R _ (pi_wn h R) [(14, 0, 0)] (mo_z ht (h 0 113) 0 (h 0 113).toNat - 0) (h 0 109) (mo_z st (h 0 113) 0 (h 0 113).toNat) 0
    rw [mo_zn, mo_zn]
    refine ⟨⟨⟨Int.le_refl _, Int.le_refl _⟩, fun p q => absurd q (by simp [pp])⟩, ⟨show ((0 : Nat) : Int) ≤ 6 * 0 + 4 by decide, fun y z e => by cases e⟩, ?_, ⟨rfl, rfl, rfl, rfl, Int.le_refl _, fun _ _ => ⟨rfl, rfl, rfl⟩, fun a z => wn_nf z.1 z.2⟩⟩
    unfold pt_ok
    dsimp only
    exact ⟨⟨by decide, by decide, by decide, by decide⟩, by decide, gt, ⟨Or.inl rfl, Int.le_refl _, Int.le_refl _⟩, fun z => absurd z (by decide), fun z => absurd z (by decide), fun z => absurd z (by decide), fun z => absurd z (by decide), fun z => absurd z (by decide), fun z => absurd z (by decide), fun z => absurd z (by decide), fun z => absurd z (by decide), fun z => absurd z (by decide), fun z => absurd z (by decide), fun z => absurd z (by decide), fun z => absurd z (by decide), fun _ => ⟨rfl, rfl, fun y hy => by cases hy⟩, fun z => absurd z (by decide), fun z => absurd z (by decide), fun z => absurd z (by decide), fun z => absurd z (by decide), fun z => absurd z (by decide), fun z => absurd z (by decide), fun z => absurd z (by decide), fun z => absurd z (by decide), fun z => absurd z (by decide), fun z => absurd z (by decide), fun z => absurd z (by decide), fun z => absurd z (by decide), fun z => absurd z (by decide), fun z => absurd z (by decide), fun z => absurd z (by decide)⟩
  · exact pi_C_ag (by unfold mo_L; (repeat (refine ag_up rfl ?_)); exact ag_refl) (pi_C_push (fun w _ _ q => absurd q (by simp [pp])) hC2)
  · exact ⟨fun e => absurd e (show ¬ ((14 : Int) = 7 ∨ (14 : Int) = 2 ∨ (14 : Int) = 18) by decide), fun e => absurd e (show ¬ (14 : Int) = 6 by decide), fun e => absurd e (show ¬ (14 : Int) = 1 by decide), fun e => absurd e (show ¬ (14 : Int) = 9 by decide)⟩
/-- what an end says in numbers -/
theorem it_num {h : ja_H} {R r ph q0 : Int} {tf : mo_TF} {ht st rg : Nat → Int} {tu : Int} (hp : pi h R r ph tf q0 [] ht st rg tu) : (h 0 18) = 0 ∧ (h 0 113) < 5 * (h 0 7) ∧ (h 0 95) < (h 0 7) ∧ (h 0 68) < (h 0 7) ∧ (h 0 72) ≤ (h 0 95) ∧ (h 0 84) = q0 ∧ (h 0 87) = 0 ∧ (h 0 86) = 0 ∧ (h 0 109) = tf.1 ∧ tf.2.1 ≤ (h 0 113) ∧ tu = 0 ∧ ht (h 0 113).toNat = 0 ∧ st (h 0 113).toNat = 0 ∧ (ph = 0 → rg (h 0 113).toNat = R) ∧ (ph = 1 → rg (h 0 113).toNat = 200) := by
  obtain ⟨-, ⟨n1, n2, n3, n4, n5, n6, n7, -, -⟩, -, reg, hpt, -⟩ := hp
  obtain ⟨c1, c2, c3, c4, c5, -⟩ := hpt
  have e : pi_adj h [] = 0 := rfl
  have e1 : pk_sum pk_c [] = 0 := rfl
  have e2 : pk_sum pk_v [] = 0 := rfl
  have e3 : pk_sum pk_d [] = 0 := rfl
  have e4 : pk_sum pk_q [] = 0 := rfl
  have e5 : pk_sum pk_f [] = 0 := rfl
  have hi : (h 0 86) = 0 ∧ (ph = 0 → rg (h 0 113).toNat = R) ∧ (ph = 1 → rg (h 0 113).toNat = 200) := by
    rcases reg with ⟨q1, q2, q3, q4, -⟩ | ⟨q1, -, -, ⟨⟨y, hy, -⟩, -⟩ | ⟨-, q2, q3⟩⟩
    · exact ⟨q3, fun _ => by omega, fun z => by omega⟩
    · cases hy
    · exact ⟨q2, fun z => by omega, fun _ => q3⟩
  refine ⟨by omega, by omega, by omega, n4, n5, by omega, by omega, hi.1, c2, c5, c4, by omega, c3, hi.2⟩
/-- a BLOCK ends -/
theorem it_end {h : ja_H} {R : Int} {tf : mo_TF} {ht st rg : Nat → Int} {tu : Int} (g : mo_G Zz h) (hR : 0 ≤ R ∧ R ≤ 3) (hp : pi h R R 0 tf 0 [] ht st rg tu) : ∃ ht2 st2 rg2 : Nat → Int, cd (mo_E h 26 0 0) ht2 st2 rg2 ∧ pi_P (mo_E h 26 0 0) ∧ pi_T (mo_E h 26 0 0) ∧ (∀ j : Nat, (j : Int) ≤ tf.2.1 → ht2 j = tf.2.2.1 j ∧ st2 j = tf.2.2.2.1 j ∧ rg2 j = tf.2.2.2.2.1 j) ∧ ∀ a, tf.2.2.2.2.2 a → pi_nf (mo_E h 26 0 0) a := by
  obtain ⟨m1, m2, m3, m4, m5, m6, m7, m8, m9, m10, m11, m12, m13, m14, -⟩ := it_num hp
  have W0 := (gF_words g).1
  obtain ⟨-, -, -, -, hpt, ⟨hC, hU⟩, hN, hP, hT, -⟩ := hp
  have hb := pt_base hpt
  have hrg := m14 rfl
  have ho : (mo_E h 26 0 0) 74 (h 0 113).toNat = 26 ∧ (mo_E h 26 0 0) 75 (h 0 113).toNat = 0 ∧ (mo_E h 26 0 0) 76 (h 0 113).toNat = 0 := by
    refine ⟨?_, ?_, ?_⟩ <;> simp [mo_E, ja_up]
  have hpo : ∀ w : Nat, (w : Int) < (h 0 113) → (mo_E h 26 0 0) 74 w = (h 74) w ∧ (mo_E h 26 0 0) 76 w = (h 76) w ∧ (mo_E h 26 0 0) 75 w = (h 75) w := by
    intro w hw; refine ⟨?_, ?_, ?_⟩ <;> simp [mo_E, ja_up] <;> (intros; omega)
  have ex : ∀ j : Nat, (j : Int) ≤ (h 0 113) → mo_x ht (h 0 113) 0 j = ht j ∧ mo_x st (h 0 113) 0 j = st j ∧ mo_x rg (h 0 113) 200 j = rg j := fun j hj => ⟨mo_xo W0 hj, mo_xo W0 hj, mo_xo W0 hj⟩
  have eW : (mo_E h 26 0 0) 0 113 = (h 0 113) + 1 := rfl
  refine ⟨mo_x ht (h 0 113) 0, mo_x st (h 0 113) 0, mo_x rg (h 0 113) 200, ⟨⟨?_, ?_⟩, ?_, ?_, ?_, ?_⟩, pi_P_ag (by unfold mo_E; (repeat (refine ag_up rfl ?_)); exact ag_refl) hP, pi_T_ag (by unfold mo_E; (repeat (refine ag_up rfl ?_)); exact ag_refl) hT, fun j hj => ?_, fun a z => (hb.2.2 a z).1.2⟩
  · refine pi_C_X (H := mo_E h 26 0 0) hC (fun z => z) (fun _ _ _ z => z) (Int.le_refl _) (fun w _ _ _ _ q => ⟨rfl, q⟩) (by rw [eW]; omega) ex (fun w hw => ⟨(hpo w hw).1, (hpo w hw).2.1, Or.inl ⟨(hpo w hw).2.2, fun q => q⟩⟩) (fun w h1 h2 => ?_)
    rw [eW] at h2
    have e : w = (h 0 113).toNat := by omega
    subst e
    unfold pw
    rw [ho.1, ho.2.1, ho.2.2, eW, mo_xw, mo_xw, mo_xw, mo_xn', mo_xn', mo_xn']
    exact ⟨⟨by decide, by decide⟩, ⟨by omega, by omega⟩, ⟨by omega, by omega, by omega⟩, by omega, (show (0 : Int) ≤ _ by omega), fun _ => ⟨rfl, rfl⟩, fun z => absurd rfl z, (fun z => absurd z (by decide)), (fun z => absurd z (by decide)), fun z => absurd z (by unfold pw_jmp; decide), (fun z => absurd z (by decide)), (fun z => absurd z (by decide)), (fun z => absurd z (by decide)), (fun z => absurd z (by decide)), (fun z => absurd z (by decide)), fun z => by exfalso; omega⟩
  · refine pi_U_X (H := mo_E h 26 0 0) hU (fun w hw => ⟨(hpo w hw).1, fun _ => (hpo w hw).2.2⟩) (fun w v h0 h1 h2 _ z => ?_)
    rw [eW] at h2
    have e : v = (h 0 113).toNat := by omega
    rw [e, ho.1] at z; exact absurd z (by decide)
  · rw [eW]; exact mo_xn W0
  · rw [eW]
    exact pi_N_ext (by omega) (fun j hj => ⟨(ex j (by omega)).1, (ex j (by omega)).2.2⟩) (by unfold mo_E; (repeat (refine ag_up rfl ?_)); exact ag_refl) hN
  · rw [eW]; exact mo_xn W0
  · rw [eW]; exact mo_xn W0
  · obtain ⟨z1, z2, z3⟩ := hb.2.1 j hj
    obtain ⟨y1, y2, y3⟩ := ex j (by omega)
    exact ⟨y1.trans z1, y2.trans z2, y3.trans z3⟩
/-- a P begins -/
theorem it_tree {h : ja_H} {R q0 : Int} {ht st rg : Nat → Int} (g : mo_G Zz h) (hR : (h 0 74) = R) (hc : cd h ht st rg) (hP : pi_P h) (hT : pi_T h) (n2 : (h 0 113) < 5 * (h 0 7)) (n3 : (h 0 95) < (h 0 7)) (n4 : (h 0 68) < (h 0 7)) (n5 : (h 0 72) ≤ (h 0 95)) (n1 : (h 0 18) = 0) (n6 : (h 0 84) = q0) (hq : 0 ≤ q0 ∧ q0 ≤ 1) (n7 : (h 0 87) = 0) (hi : (h 0 86) = 0) (htt : (h 0 109) = 0) :
    piB (mo_L (ja_up h 0 17 0) 31 0 0 0) R 4 1 (1, (h 0 113) - 1, ht, st, rg, fun a => a ≤ -10 ∧ pi_nf h a) q0 [(31, 0, 0)] ht st rg 0 ∧ tf_ok 1 (1, (h 0 113) - 1, ht, st, rg, fun a => a ≤ -10 ∧ pi_nf h a) := by
  have W0 := (gF_words g).1
  obtain ⟨⟨hC, hU⟩, h200, hN, h0, s0⟩ := hc
  have hnp : ¬ pi_if [(31, (0 : Int), (0 : Int))] := by
    rintro ⟨y, hy, e⟩
    rcases List.mem_singleton.mp hy with rfl
    exact absurd e (show ¬ (31 : Int) = 36 by decide)
  refine ⟨⟨⟨n1, show (h 0 113) + 0 < 5 * (h 0 7) by omega, show (h 0 95) + 0 < (h 0 7) by omega, n4, n5, show (h 0 84) = q0 + 0 by omega, n7, hq.1, hq.2⟩, ⟨hR, Or.inl rfl, Or.inl rfl, fun q => absurd (fun y hy => by rcases List.mem_singleton.mp hy with rfl; show (31 : Int) ≠ 17; decide) q⟩, Or.inr ⟨rfl, ⟨rfl, rfl⟩, fun y hy => by rcases List.mem_singleton.mp hy with rfl; exact Or.inr (show (31 : Int) ≤ 31 by decide), Or.inr ⟨hnp, hi, h200⟩⟩, ?_, ⟨?_, pi_U_ag (by unfold mo_L; (repeat (refine ag_up rfl ?_)); exact ag_refl) hU⟩, pi_N_ag (by unfold mo_L; (repeat (refine ag_up rfl ?_)); exact ag_refl) hN, pi_P_ag (by unfold mo_L; (repeat (refine ag_up rfl ?_)); exact ag_refl) hP, pi_T_ag (by unfold mo_L; (repeat (refine ag_up rfl ?_)); exact ag_refl) hT, ?_⟩, fun z => absurd z (by decide), fun _ => ?_⟩
  · show pt (h 74) ht st rg (h 0 113) (h 0 88) (h 0 77) 4 _ (pi_wn h 4) [(31, 0, 0)] (ht (h 0 113).toNat - 0) (h 0 109) (st (h 0 113).toNat) 0
    rw [h0, s0, htt]
    refine ⟨⟨⟨Int.le_refl _, Int.le_refl _⟩, fun p q => absurd q (by simp [pp])⟩, ⟨show ((0 : Nat) : Int) ≤ 6 * 0 + 7 by decide, fun y z e => by cases e⟩, ?_, ⟨rfl, rfl, rfl, rfl, show (h 0 113) - 1 ≤ (h 0 113) by omega, fun _ _ => ⟨rfl, rfl, rfl⟩, fun a z => wn_nf z.1 z.2⟩⟩
    unfold pt_ok
    dsimp only
    exact ⟨⟨by decide, by decide, by decide, by decide⟩, by decide, by decide, ⟨Or.inl rfl, Int.le_refl _, Int.le_refl _⟩, fun z => absurd z (by decide), fun z => absurd z (by decide), fun z => absurd z (by decide), fun z => absurd z (by decide), fun z => absurd z (by decide), fun z => absurd z (by decide), fun z => absurd z (by decide), fun z => absurd z (by decide), fun z => absurd z (by decide), fun z => absurd z (by decide), fun z => absurd z (by decide), fun z => absurd z (by decide), fun z => absurd z (by decide), fun z => absurd z (by decide), fun z => absurd z (by decide), fun z => absurd z (by decide), fun z => absurd z (by decide), fun z => absurd z (by decide), fun z => absurd z (by decide), fun z => absurd z (by decide), fun z => absurd z (by decide), fun z => absurd z (by decide), fun _ => ⟨rfl, rfl, Int.le_refl _⟩, fun z => absurd z (by decide), fun z => absurd z (by decide), fun z => absurd z (by decide), fun z => absurd z (by decide), fun z => absurd z (by decide)⟩
  · exact pi_C_ag (by unfold mo_L; (repeat (refine ag_up rfl ?_)); exact ag_refl) (pi_C_push (fun w _ _ q => absurd q (by simp [pp])) hC)
  · exact ⟨fun e => absurd e (show ¬ ((31 : Int) = 7 ∨ (31 : Int) = 2 ∨ (31 : Int) = 18) by decide), fun e => absurd e (show ¬ (31 : Int) = 6 by decide), fun e => absurd e (show ¬ (31 : Int) = 1 by decide), fun e => absurd e (show ¬ (31 : Int) = 9 by decide)⟩
  · rcases Int.lt_or_le ((h 0 113) - 1) 0 with l | l
    · exact Or.inl l
    · right
      have := (hC ((h 0 113) - 1).toNat (by omega)).2.2.1.2.1
      show rg ((h 0 113) - 1).toNat ≠ 200
      omega
/-- a P ends -/
theorem it_tree_end {h : ja_H} {R q0 : Int} {tf : mo_TF} {ht st rg : Nat → Int} {tu : Int} (hp : pi h R 4 1 tf q0 [] ht st rg tu) : cd h ht st rg ∧ pi_P h ∧ pi_T h ∧ (∀ j : Nat, (j : Int) ≤ tf.2.1 → ht j = tf.2.2.1 j ∧ st j = tf.2.2.2.1 j ∧ rg j = tf.2.2.2.2.1 j) ∧ ∀ a, tf.2.2.2.2.2 a → pi_nf h a := by
  obtain ⟨-, -, -, -, -, -, -, -, -, -, -, z1, z2, -, e⟩ := it_num hp
  have e := e rfl
  obtain ⟨-, -, -, -, hpt, hCU, hN, hP, hT, -⟩ := hp
  exact ⟨⟨hCU, e, hN, z1, z2⟩, hP, hT, (pt_base hpt).2.1, fun a z => ((pt_base hpt).2.2 a z).1.2⟩
