/-! the reference: ITEMS, a method (written by a program) -/
variable {Zz : Zc}
/-! the reference's parser: a method -/
theorem nf_root {h h' : ja_H} {n b : Int} (hb : b = 0 ∨ b = 1) (h0 : 0 ≤ n) (q : n < (h 0 95) ∧ (h 67) n.toNat = b) (t : ∀ a, a ≤ -10 ∧ pi_nf h a → pi_nf h' a) : n < (h' 0 95) ∧ (h' 67) n.toNat = b := by
  have e1 : (-10 - (-10 - 2 * n - b)) / 2 = n := by omega
  have e2 : (-10 - (-10 - 2 * n - b)) % 2 = b := by omega
  have := t (-10 - 2 * n - b) ⟨by omega, fun _ => by rw [e1, e2]; exact q⟩ (by omega)
  rw [e1, e2] at this
  exact this
theorem it_S_more {h H : ja_H} {ht st rg ht2 st2 rg2 : Nat → Int} (g : mo_G Zz h) (q : it_S h ht st rg) (hw : (h 0 113) ≤ (H 0 113)) (gh : ∀ j : Nat, (j : Int) < (h 0 113) → ht2 j = ht j ∧ st2 j = st j ∧ rg2 j = rg j) (nf : ∀ a, a ≤ -10 ∧ pi_nf h a → pi_nf H a) (has : (h 0 26) ≤ (H 0 26))
    (hm : ∀ m : Nat, (m : Int) < (H 0 34) → ((m : Int) < (h 0 34) ∧ (H 23) m = (h 23) m) ∨ (0 ≤ (H 23) m ∧ (H 23) m < (H 0 113) ∧ ht2 ((H 23) m).toNat = 0 ∧ st2 ((H 23) m).toNat = 0 ∧ rg2 ((H 23) m).toNat = 1))
    (ha : ∀ a : Nat, (a : Int) < (H 0 44) → ((a : Int) < (h 0 44) ∧ (H 32) a = (h 32) a ∧ (H 31) a = (h 31) a ∧ (H 29) a = (h 29) a) ∨ ((0 ≤ (H 32) a ∧ (H 32) a < (H 0 113) ∧ ht2 ((H 32) a).toNat = 0 ∧ st2 ((H 32) a).toNat = 0 ∧ (rg2 ((H 32) a).toNat = 2 ∨ rg2 ((H 32) a).toNat = 3)) ∧ (H 31) a < (H 0 95) ∧ (H 67) ((H 31) a).toNat = 0 ∧ (H 29) a < (H 0 26)))
    (hma : 0 < (H 0 66) → (0 < (h 0 66) ∧ (H 0 67) = (h 0 67)) ∨ (0 ≤ (H 0 67) ∧ (H 0 67) < (H 0 113) ∧ ht2 (H 0 67).toNat = 0 ∧ st2 (H 0 67).toNat = 0 ∧ rg2 (H 0 67).toNat = 0))
    (hp : ∀ p : Nat, (p : Int) < (H 0 52) → ((p : Int) < (h 0 52) ∧ (H 37) p = (h 37) p) ∨ ((H 37) p < (H 0 95) ∧ (H 67) ((H 37) p).toNat = 1))
    (hb : ∀ b : Nat, (b : Int) < (H 0 57) → ((b : Int) < (h 0 57) ∧ (H 38) b = (h 38) b) ∨ ((H 38) b < (H 0 95) ∧ (H 67) ((H 38) b).toNat = 0)) : it_S H ht2 st2 rg2 := by
  obtain ⟨q1, q2, q3, q4, q5⟩ := q
  have lt : ∀ {x : Int}, 0 ≤ x → x < (h 0 113) → ((x.toNat : Nat) : Int) < (h 0 113) := fun a b => by omega
  refine ⟨fun m hm2 => ?_, fun a ha2 => ?_, fun z => ?_, fun p hp2 => ?_, fun b hb2 => ?_⟩
  · rcases hm m hm2 with ⟨a1, a2⟩ | a
    · obtain ⟨y1, y2, y3, y4, y5⟩ := q1 m a1
      obtain ⟨z1, z2, z3⟩ := gh _ (lt y1 y2)
      rw [a2]
      exact ⟨y1, Int.lt_of_lt_of_le y2 hw, z1.trans y3, z2.trans y4, z3.trans y5⟩
    · exact a
  · rcases ha a ha2 with ⟨a1, a2, a3, a4⟩ | a
    · obtain ⟨⟨y1, y2, y3, y4, y5⟩, y6, y7, y8⟩ := q2 a a1
      obtain ⟨z1, z2, z3⟩ := gh _ (lt y1 y2)
      have gr := gC_adviceRoot g a
      obtain ⟨x1, x2⟩ := nf_root (Or.inl rfl) gr.1 ⟨y6, y7⟩ nf
      rw [a2, a3, a4]
      exact ⟨⟨y1, Int.lt_of_lt_of_le y2 hw, z1.trans y3, z2.trans y4, by rw [z3]; exact y5⟩, x1, x2, Int.lt_of_lt_of_le y8 has⟩
    · exact a
  · rcases hma z with ⟨a1, a2⟩ | a
    · obtain ⟨y1, y2, y3, y4, y5⟩ := q3 a1
      obtain ⟨z1, z2, z3⟩ := gh _ (lt y1 y2)
      rw [a2]
      exact ⟨y1, Int.lt_of_lt_of_le y2 hw, z1.trans y3, z2.trans y4, z3.trans y5⟩
    · exact a
  · rcases hp p hp2 with ⟨a1, a2⟩ | a
    · have gr := gC_pickRoot g p
      rw [a2]
      exact nf_root (Or.inr rfl) gr.1 (q4 p a1) nf
    · exact a
  · rcases hb b hb2 with ⟨a1, a2⟩ | a
    · have gr := gC_barRoot g b
      rw [a2]
      exact nf_root (Or.inl rfl) gr.1 (q5 b a1) nf
    · exact a
def FMD : Nat → Nat → Bool := mo_X [7, 8, 9, 82, 11, 12, 74, 75, 77, 79, 88, 34, 41] [51, 19, 20, 24, 25, 26, 22, 23, 52, 53, 54, 55, 56, 57, 49, 50]
def mdI (h u : ja_H) : Prop := mo_ag FMD h u ∧ ((h 0 7) < (u 0 7) ∧ ((u 0 11) = 0 → (h 0 11) = 0) ∧ (u 0 82) ≤ 6 ∧ (u 0 74) = 1 ∧ (u 0 88) = (h 0 88) + 1 ∧ (u 0 34) = (h 0 34) + 1 ∧ (u 0 41) = (h 0 41) + 1) ∧
  (∀ j : Nat, j ≠ ((h 0 88)).toNat → (u 52) j = (h 52) j ∧ (u 55) j = (h 55) j ∧ (u 54) j = (h 54) j ∧ (u 56) j = (h 56) j ∧ (u 57) j = (h 57) j) ∧
  ((u 52) ((h 0 88)).toNat = 1 ∧ 0 ≤ (u 54) ((h 0 88)).toNat ∧ (u 56) ((h 0 88)).toNat = 1 ∧ (u 57) ((h 0 88)).toNat = (h 0 34)) ∧
  (∀ j : Nat, j ≠ ((h 0 34)).toNat → (u 24) j = (h 24) j ∧ (u 23) j = (h 23) j) ∧ (u 24) ((h 0 34)).toNat = (h 0 88)
def FMK : Nat → Nat → Bool := mo_X [79, 77] [49, 50]
theorem md_ag {h u H : ja_H} (q : mdI h u) (ag : mo_ag FMK u H) : mdI h H := by
  obtain ⟨q1, ⟨a1, a2, a3, a4, a5, a6, a7⟩, q3, q4, q5, q6⟩ := q
  have e1 : (H 0 7) = (u 0 7) := ag _ _ rfl
  have e2 : (H 0 11) = (u 0 11) := ag _ _ rfl
  have e3 : (H 0 82) = (u 0 82) := ag _ _ rfl
  have e4 : (H 0 74) = (u 0 74) := ag _ _ rfl
  have e5 : (H 0 88) = (u 0 88) := ag _ _ rfl
  have e6 : (H 0 34) = (u 0 34) := ag _ _ rfl
  have e7 : (H 0 41) = (u 0 41) := ag _ _ rfl
  have f1 : (H 52) = (u 52) := funext fun j => ag _ _ rfl
  have f2 : (H 55) = (u 55) := funext fun j => ag _ _ rfl
  have f3 : (H 54) = (u 54) := funext fun j => ag _ _ rfl
  have f4 : (H 56) = (u 56) := funext fun j => ag _ _ rfl
  have f5 : (H 57) = (u 57) := funext fun j => ag _ _ rfl
  have f6 : (H 24) = (u 24) := funext fun j => ag _ _ rfl
  have f7 : (H 23) = (u 23) := funext fun j => ag _ _ rfl
  refine ⟨ag_trans q1 (ag_sub (fun k j e => ?_) ag), ?_, ?_, ?_, ?_, ?_⟩
  · unfold FMD mo_X at e; unfold FMK mo_X
    split at e
    · next z => rw [if_pos z]; simp at e ⊢; omega
    · next z => rw [if_neg z]; simp at e ⊢; omega
  · rw [e1, e2, e3, e4, e5, e6, e7]; exact ⟨a1, a2, a3, a4, a5, a6, a7⟩
  · rw [f1, f2, f3, f4, f5]; exact q3
  · rw [f1, f3, f4, f5]; exact q4
  · rw [f6, f7]; exact q5
  · rw [f6]; exact q6
theorem md_start {h u : ja_H} {w : Int} (q : mdI h u) : mdI h (ja_up u 23 ((h 0 34)).toNat w) := by
  obtain ⟨q1, q2, q3, q4, q5, q6⟩ := q
  exact ⟨ag_up rfl q1, q2, q3, q4, fun j hj => ⟨(q5 j hj).1, by rw [mo_upJ hj]; exact (q5 j hj).2⟩, q6⟩
theorem kp_md {h u : ja_H} (q : mdI h u) : mo_ag FKP h u := ag_sub (fun k j e => by
  unfold FKP mo_F at e; unfold FMD mo_X
  split at e
  · next z => rw [if_pos z]; simp at e ⊢; omega
  · next z => simp at e) q.1
/-- a method's head -/
def mo_M1 (h : ja_H) (x y sd wh : Int) : ja_H := ja_up (ja_up (ja_up (ja_up (ja_up (ja_up (ja_up (ja_up (ja_up (ja_up (ja_up (ja_up (ja_up (ja_up (ja_up (ja_up (ja_up (ja_up (ja_up (ja_up h 0 74 1) 0 75 (h 0 34)) 0 77 0) 0 79 0) 52 ((h 0 88).toNat) 1) 53 ((h 0 88).toNat) (h 0 7)) 54 ((h 0 88).toNat) (-1)) 55 ((h 0 88).toNat) 0) 56 ((h 0 88).toNat) sd) 57 ((h 0 88).toNat) wh) 0 88 ((h 0 88) + 1)) 19 ((h 0 34).toNat) (h 0 7)) 20 ((h 0 34).toNat) x) 24 ((h 0 34).toNat) (h 0 88)) 25 ((h 0 41).toNat) (h 0 7)) 26 ((h 0 41).toNat) y) 0 7 ((h 0 7) + 1)) 54 ((h 0 88).toNat) (h 0 7)) 0 34 ((h 0 34) + 1)) 0 41 ((h 0 41) + 1)
theorem md_init {h h2 : ja_H} {x y sd wh v v2 : Int} (g : mo_G Zz h) (hsd : sd = 1) (hwh : wh = (h 0 34)) (ag : mo_ag FPR (mo_M1 h x y sd wh) h2) (hat : (h 0 7) + 1 < (h2 0 7)) (hf : (h2 0 11) = 0 → (h 0 11) = 0) (hp : (h2 0 82) ≤ 6) : mdI h (ja_up (ja_up h2 22 ((h 0 34)).toNat v) 55 ((h 0 88)).toNat v2) := by
  have ga := gF_at g
  have e4 : (h2 0 74) = (mo_M1 h x y sd wh) 0 74 := ag _ _ rfl
  have e5 : (h2 0 88) = (mo_M1 h x y sd wh) 0 88 := ag _ _ rfl
  have e6 : (h2 0 34) = (mo_M1 h x y sd wh) 0 34 := ag _ _ rfl
  have e7 : (h2 0 41) = (mo_M1 h x y sd wh) 0 41 := ag _ _ rfl
  have f1 : (h2 52) = (mo_M1 h x y sd wh) 52 := funext fun j => ag _ _ rfl
  have f2 : (h2 55) = (mo_M1 h x y sd wh) 55 := funext fun j => ag _ _ rfl
  have f3 : (h2 54) = (mo_M1 h x y sd wh) 54 := funext fun j => ag _ _ rfl
  have f4 : (h2 56) = (mo_M1 h x y sd wh) 56 := funext fun j => ag _ _ rfl
  have f5 : (h2 57) = (mo_M1 h x y sd wh) 57 := funext fun j => ag _ _ rfl
  have f6 : (h2 24) = (mo_M1 h x y sd wh) 24 := funext fun j => ag _ _ rfl
  have f7 : (h2 23) = (mo_M1 h x y sd wh) 23 := funext fun j => ag _ _ rfl
  refine ⟨ag_up rfl (ag_up rfl (ag_trans (h' := mo_M1 h x y sd wh) ?_ (ag_sub (fun k j e => ?_) ag))), ⟨show (h 0 7) < (h2 0 7) by omega, hf, hp, e4, e5, e6, e7⟩, fun j hj => ⟨?_, ?_, ?_, ?_, ?_⟩, ⟨?_, ?_, ?_, ?_⟩, fun j hj => ⟨?_, ?_⟩, ?_⟩
  · unfold mo_M1; (repeat (first | exact ag_refl | refine ag_up rfl ?_))
  · unfold FMD mo_X at e; unfold FPR mo_X
    split at e
    · next z => rw [if_pos z]; simp at e ⊢; omega
    · next z => rw [if_neg z]; simp at e ⊢; omega
  · show h2 52 j = _; rw [f1]; simp [mo_M1, ja_up, hj]
  · rw [mo_upJ hj]; show h2 55 j = _; rw [f2]; simp [mo_M1, ja_up, hj]
  · show h2 54 j = _; rw [f3]; simp [mo_M1, ja_up, hj]
  · show h2 56 j = _; rw [f4]; simp [mo_M1, ja_up, hj]
  · show h2 57 j = _; rw [f5]; simp [mo_M1, ja_up, hj]
  · show h2 52 _ = _; rw [f1]; simp [mo_M1, ja_up]
  · show 0 ≤ h2 54 _; rw [f3]; simp [mo_M1, ja_up]; exact ga.1
  · show h2 56 _ = _; rw [f4]; simp [mo_M1, ja_up, hsd]
  · show h2 57 _ = _; rw [f5]; simp [mo_M1, ja_up, hwh]
  · show h2 24 j = _; rw [f6]; simp [mo_M1, ja_up, hj]
  · show h2 23 j = _; rw [f7]; simp [mo_M1, ja_up]
  · show h2 24 _ = _; rw [f6]; simp [mo_M1, ja_up]
theorem md_cd {h u : ja_H} {ht st rg : Nat → Int} (g : mo_G Zz h) (q : it h ht st rg) (md : mdI h u) : cd u ht st rg ∧ pi_P u ∧ pi_T u := by
  obtain ⟨⟨⟨hC, hU⟩, h200, hN, h0, s0⟩, oP, qn, -, -⟩ := q
  obtain ⟨ag, ⟨-, hf, -, -, hpo, hme, -⟩, old, ⟨n1, n2, n3, n4⟩, m1, m2⟩ := md
  have gp := (gF_points g).1
  have gm := (gF_methods g).1
  have e1 : (u 0 113) = (h 0 113) := ag _ _ rfl
  have e3 : (u 0 95) = (h 0 95) := ag _ _ rfl
  have e4 : (u 0 72) = (h 0 72) := ag _ _ rfl
  have e5 : (u 0 68) = (h 0 68) := ag _ _ rfl
  have e6 : (u 0 109) = (h 0 109) := ag _ _ rfl
  have f1 : (u 74) = (h 74) := funext fun j => ag _ _ rfl
  have f2 : (u 75) = (h 75) := funext fun j => ag _ _ rfl
  have f3 : (u 76) = (h 76) := funext fun j => ag _ _ rfl
  have g6 : (u 45) = (h 45) := funext fun j => ag _ _ rfl
  have g7 : (u 44) = (h 44) := funext fun j => ag _ _ rfl
  have g8 : (u 46) = (h 46) := funext fun j => ag _ _ rfl
  have l1 : (u 58) = (h 58) := funext fun j => ag _ _ rfl
  have l2 : (u 59) = (h 59) := funext fun j => ag _ _ rfl
  have l3 : (u 60) = (h 60) := funext fun j => ag _ _ rfl
  have l4 : (u 62) = (h 62) := funext fun j => ag _ _ rfl
  have l5 : (u 63) = (h 63) := funext fun j => ag _ _ rfl
  have l6 : (u 67) = (h 67) := funext fun j => ag _ _ rfl
  have l7 : (u 47) = (h 47) := funext fun j => ag _ _ rfl
  have hv : ∀ k a b, pw_wt h k a b → pw_wt u k a b := wt_same e5 g6 g7 g8
  refine ⟨⟨⟨?_, ?_⟩, by rw [e1]; exact h200, ?_, by rw [e1]; exact h0, by rw [e1]; exact s0⟩, ⟨fun m hm => ?_, fun p hp => ?_⟩, fun k hk => ?_⟩
  · rw [e1]
    intro w hw
    refine pw_ext hw (Int.le_refl _) (fun _ _ => ⟨rfl, rfl, rfl⟩) ⟨by rw [f1], by rw [f2], by rw [f3]⟩ hf hv (by omega) (fun _ a1 a2 q => ⟨?_, q⟩) (fun _ q => q) (hC w hw)
    have o := old ((h 75) w).toNat (by omega)
    unfold pw_pop
    rw [o.1, o.2.1]
  · rw [e1]; unfold pi_U; rw [f1, f2]; exact hU
  · rw [e1]
    exact pN_f l1 l2 l3 l4 l5 l6 l7 e3 e4 hf hv hN
  · rw [hme] at hm
    by_cases e : m = ((h 0 34)).toNat
    · rw [e, m2, hpo, n1]; exact ⟨gp, by omega, rfl⟩
    · obtain ⟨a1, a2, a3⟩ := oP.1 m (by omega)
      rw [(m1 m e).1, hpo]
      exact ⟨a1, by omega, by rw [(old _ (by omega)).1]; exact a3⟩
  · rw [hpo] at hp
    by_cases e : p = ((h 0 88)).toNat
    · subst e
      rw [n1, n3, n4, hme]
      exact ⟨Or.inr n2, fun z => absurd z (by decide), fun _ => ⟨rfl, by omega⟩, fun z => absurd z (by decide)⟩
    · obtain ⟨y1, y2, y3, y4, y5⟩ := old p e
      rw [y1, y3, y4, y5, hme]
      obtain ⟨a1, a2, a3, a4⟩ := oP.2 p (by omega)
      exact ⟨a1, a2, fun z => ⟨(a3 z).1, by have := (a3 z).2; omega⟩, fun z => hv _ _ _ (a4 z)⟩
  · rw [e6] at hk
    obtain ⟨-, -, -, -, -, -, -, -, -, -, -, -, -, z⟩ := qn
    omega
/-- the block of a method -/
theorem md_block {h u : ja_H} {ht st rg : Nat → Int} (g : mo_G Zz h) (gu : mo_G Zz u) (q : it h ht st rg) (md : mdI h u) (b2 : (u 0 79) ≤ (u 0 77)) (b3 : (u 0 77) ≤ 10) : piB (mo_L (ja_up u 0 17 0) 14 0 0 0) 1 1 0 ((u 0 109), (u 0 113), mo_z ht (u 0 113) 0, mo_z st (u 0 113) 0, mo_z rg (u 0 113) 1, fun a => a ≤ -10 ∧ pi_nf u a) 0 [(14, 0, 0)] (mo_z ht (u 0 113) 0) (mo_z st (u 0 113) 0) (mo_z rg (u 0 113) 1) 0 ∧ tf_ok 0 ((u 0 109), (u 0 113), mo_z ht (u 0 113) 0, mo_z st (u 0 113) 0, mo_z rg (u 0 113) 1, fun a => a ≤ -10 ∧ pi_nf u a) := it_block (h := u) (R := 1) gu md.2.1.2.2.2.1 (md_cd g q md).1 (md_cd g q md).2.1 (md_cd g q md).2.2
    (by have e1 : (u 0 113) = (h 0 113) := md.1 _ _ rfl
        have := md.2.1.1
        obtain ⟨-, -, ⟨z1, -⟩, -⟩ := q
        omega)
    (by have e1 : (u 0 95) = (h 0 95) := md.1 _ _ rfl
        have := md.2.1.1
        obtain ⟨-, -, ⟨-, z1, -⟩, -⟩ := q
        omega)
    (by have e1 : (u 0 68) = (h 0 68) := md.1 _ _ rfl
        have := md.2.1.1
        obtain ⟨-, -, ⟨-, -, z1, -⟩, -⟩ := q
        omega)
    (by have e1 : (u 0 72) = (h 0 72) := md.1 _ _ rfl
        have e2 : (u 0 95) = (h 0 95) := md.1 _ _ rfl
        obtain ⟨-, -, ⟨-, -, -, z1, -⟩, -⟩ := q
        omega)
    (by have e1 : (u 0 18) = (h 0 18) := md.1 _ _ rfl
        obtain ⟨-, -, ⟨-, -, -, -, -, -, -, -, z1, -⟩, -⟩ := q
        omega)
    (by have e1 : (u 0 84) = (h 0 84) := md.1 _ _ rfl
        obtain ⟨-, -, ⟨-, -, -, -, -, -, -, -, -, z1, -⟩, -⟩ := q
        omega)
    (by have e1 : (u 0 87) = (h 0 87) := md.1 _ _ rfl
        obtain ⟨-, -, ⟨-, -, -, -, -, -, -, -, -, -, z1, -⟩, -⟩ := q
        omega)
    (by have e1 : (u 0 86) = (h 0 86) := md.1 _ _ rfl
        obtain ⟨-, -, ⟨-, -, -, -, -, -, -, -, -, -, -, z1, -⟩, -⟩ := q
        omega) b2 b3
theorem md_end {h u h3 : ja_H} {ht st rg ht3 st3 rg3 : Nat → Int} {tu : Int} (g : mo_G Zz h) (gu : mo_G Zz u) (g3 : mo_G Zz h3) (q : it h ht st rg) (md : mdI h u) (hst : (u 23) ((h 0 34)).toNat = (h 0 113)) (hmem : (h 0 41) < (h 0 7))
    (hp : pi h3 1 1 0 ((u 0 109), (u 0 113), mo_z ht (u 0 113) 0, mo_z st (u 0 113) 0, mo_z rg (u 0 113) 1, fun a => a ≤ -10 ∧ pi_nf u a) 0 [] ht3 st3 rg3 tu) (agB : mo_ag FK u h3) (hatB : (u 0 7) ≤ (h3 0 7)) : ∃ ht2 st2 rg2, it (mo_E h3 26 0 0) ht2 st2 rg2 := by
  obtain ⟨ht2, st2, rg2, hcd, hP, -, gh, nf⟩ := it_end g3 ⟨by decide, by decide⟩ hp
  obtain ⟨k1, k2, k3, k4, k5, k6, k7, k8, k9, k10, -⟩ := it_num hp
  dsimp only at k9 k10 gh nf
  have md' := md
  obtain ⟨ag, ⟨hat, hf, -, -, hpo, hme, hmm⟩, old, -, m1, m2⟩ := md
  obtain ⟨-, -, qn, qS, qF⟩ := q
  obtain ⟨z1, z2, z3, z4, z5, z6, z7, z8, z9, z10, z11, z12, z13, z14⟩ := qn
  have gm := (gF_methods g).1
  have gw := (gF_words g).1
  have U1 : (u 0 113) = (h 0 113) := ag _ _ rfl
  have U2 : (u 0 31) = (h 0 31) := ag _ _ rfl
  have U3 : (u 0 64) = (h 0 64) := ag _ _ rfl
  have U4 : (u 0 61) = (h 0 61) := ag _ _ rfl
  have U5 : (u 0 85) = (h 0 85) := ag _ _ rfl
  have U6 : (u 0 109) = (h 0 109) := ag _ _ rfl
  have U7 : (u 0 95) = (h 0 95) := ag _ _ rfl
  have U8 : (u 0 44) = (h 0 44) := ag _ _ rfl
  have U9 : (u 0 66) = (h 0 66) := ag _ _ rfl
  have U10 : (u 0 67) = (h 0 67) := ag _ _ rfl
  have U11 : (u 0 52) = (h 0 52) := ag _ _ rfl
  have U12 : (u 0 57) = (h 0 57) := ag _ _ rfl
  have U13 : (u 0 26) = (h 0 26) := ag _ _ rfl
  have B2 : (h3 0 31) = (u 0 31) := agB _ _ rfl
  have B3 : (h3 0 64) = (u 0 64) := agB _ _ rfl
  have B4 : (h3 0 61) = (u 0 61) := agB _ _ rfl
  have B5 : (h3 0 85) = (u 0 85) := agB _ _ rfl
  have B6 : (h3 0 41) = (u 0 41) := agB _ _ rfl
  have B7 : (h3 0 34) = (u 0 34) := agB _ _ rfl
  have B8 : (h3 0 44) = (u 0 44) := agB _ _ rfl
  have B9 : (h3 0 66) = (u 0 66) := agB _ _ rfl
  have B10 : (h3 0 67) = (u 0 67) := agB _ _ rfl
  have B11 : (h3 0 52) = (u 0 52) := agB _ _ rfl
  have B12 : (h3 0 57) = (u 0 57) := agB _ _ rfl
  have B13 : (h3 0 26) = (u 0 26) := agB _ _ rfl
  have F1 : (h3 23) = (u 23) := funext fun j => agB _ _ rfl
  have F2 : (h3 32) = (h 32) := funext fun j => (agB _ _ rfl).trans (ag _ _ rfl)
  have F3 : (h3 31) = (h 31) := funext fun j => (agB _ _ rfl).trans (ag _ _ rfl)
  have F4 : (h3 29) = (h 29) := funext fun j => (agB _ _ rfl).trans (ag _ _ rfl)
  have F5 : (h3 37) = (h 37) := funext fun j => (agB _ _ rfl).trans (ag _ _ rfl)
  have F6 : (h3 38) = (h 38) := funext fun j => (agB _ _ rfl).trans (ag _ _ rfl)
  have F7 : (h3 18) = (h 18) := funext fun j => (agB _ _ rfl).trans (ag _ _ rfl)
  have l6 : (u 67) = (h 67) := funext fun j => ag _ _ rfl
  have hat3 : (u 0 7) ≤ (h3 0 7) := hatB
  rw [U1] at gh k10
  have W3 : (mo_E h3 26 0 0) 0 113 = (h3 0 113) + 1 := rfl
  refine ⟨ht2, st2, rg2, hcd, hP, (show it_nn (h3 0 7) ((h3 0 113) + 1) (h3 0 95) (h3 0 68) (h3 0 72) (h3 0 31) (h3 0 41) (h3 0 64) (h3 0 61) (h3 0 18) (h3 0 84) (h3 0 87) (h3 0 86) (h3 0 85) (h3 0 109) (h3 0 66) from ?_), ?_, ?_⟩
  · refine ⟨?_, ?_, ?_, ?_, ?_, ?_, ?_, ?_, ?_, ?_, ?_, ?_, ?_, ?_⟩ <;> omega
  · refine it_S_more (h := h) (H := mo_E h3 26 0 0) g qS (by rw [W3]; omega) (fun j hj => ?_) (fun a z => nf a ⟨z.1, by rw [nf_keep U7 l6]; exact z.2⟩) (show (h 0 26) ≤ (h3 0 26) by omega) (fun m hm => ?_) (fun a ha => Or.inl ⟨(show (a : Int) < (h 0 44) by have z : (a : Int) < (h3 0 44) := ha; omega), (show (h3 32) a = (h 32) a by rw [F2]), (show (h3 31) a = (h 31) a by rw [F3]), (show (h3 29) a = (h 29) a by rw [F4])⟩) (fun z => Or.inl ⟨(show 0 < (h 0 66) by have z : 0 < (h3 0 66) := z; omega), (show (h3 0 67) = (h 0 67) by omega)⟩) (fun p hp2 => Or.inl ⟨(show (p : Int) < (h 0 52) by have z : (p : Int) < (h3 0 52) := hp2; omega), (show (h3 37) p = (h 37) p by rw [F5])⟩) (fun b hb => Or.inl ⟨(show (b : Int) < (h 0 57) by have z : (b : Int) < (h3 0 57) := hb; omega), (show (h3 38) b = (h 38) b by rw [F6])⟩)
    · obtain ⟨y1, y2, y3⟩ := gh j (by omega)
      exact ⟨y1.trans (mo_zo hj), y2.trans (mo_zo hj), y3.trans (mo_zo hj)⟩
    · have hm' : (m : Int) < (h3 0 34) := hm
      by_cases e : m = ((h 0 34)).toNat
      · right
        have es : (mo_E h3 26 0 0) 23 m = (h 0 113) := by
          show h3 23 m = _; rw [F1, e]; exact hst
        rw [es, W3]
        obtain ⟨y1, y2, y3⟩ := gh (h 0 113).toNat (by omega)
        exact ⟨gw, by omega, y1.trans mo_zn, y2.trans mo_zn, y3.trans mo_zn⟩
      · left
        refine ⟨by omega, ?_⟩
        show h3 23 m = _; rw [F1]; exact (m1 m e).2
  · exact it_F_eq (h := h) (H := mo_E h3 26 0 0) qF (show (h3 0 31) = (h 0 31) by omega) F7
theorem dmethod_0 : decode cX12_method 0 = .ok (.aload_n 0, 1) := by decide +kernel
theorem dmethod_1 : decode cX12_method 1 = .ok (.invokevirtual 599, 3) := by decide +kernel
theorem dmethod_4 : decode cX12_method 4 = .ok (.ifCond .eq 18, 3) := by decide +kernel
theorem dmethod_7 : decode cX12_method 7 = .ok (.aload_n 0, 1) := by decide +kernel
theorem dmethod_8 : decode cX12_method 8 = .ok (.getfield 656, 3) := by decide +kernel
theorem dmethod_11 : decode cX12_method 11 = .ok (.bipush 60, 2) := by decide +kernel
theorem dmethod_13 : decode cX12_method 13 = .ok (.if_icmp .ne 9, 3) := by decide +kernel
theorem dmethod_16 : decode cX12_method 16 = .ok (.aload_n 0, 1) := by decide +kernel
theorem dmethod_17 : decode cX12_method 17 = .ok (.iconst 3, 1) := by decide +kernel
theorem dmethod_18 : decode cX12_method 18 = .ok (.invokevirtual 583, 3) := by decide +kernel
theorem dmethod_21 : decode cX12_method 21 = .ok (.ireturn, 1) := by decide +kernel
theorem dmethod_22 : decode cX12_method 22 = .ok (.aload_n 0, 1) := by decide +kernel
theorem dmethod_23 : decode cX12_method 23 = .ok (.getfield 656, 3) := by decide +kernel
theorem dmethod_26 : decode cX12_method 26 = .ok (.istore_n 2, 1) := by decide +kernel
theorem dmethod_27 : decode cX12_method 27 = .ok (.aload_n 0, 1) := by decide +kernel
theorem dmethod_28 : decode cX12_method 28 = .ok (.iconst 1, 1) := by decide +kernel
theorem dmethod_29 : decode cX12_method 29 = .ok (.iload_n 2, 1) := by decide +kernel
theorem dmethod_30 : decode cX12_method 30 = .ok (.invokevirtual 726, 3) := by decide +kernel
theorem dmethod_33 : decode cX12_method 33 = .ok (.aload_n 0, 1) := by decide +kernel
theorem dmethod_34 : decode cX12_method 34 = .ok (.invokevirtual 599, 3) := by decide +kernel
theorem dmethod_37 : decode cX12_method 37 = .ok (.ifCond .eq 11, 3) := by decide +kernel
theorem dmethod_40 : decode cX12_method 40 = .ok (.aload_n 0, 1) := by decide +kernel
theorem dmethod_41 : decode cX12_method 41 = .ok (.iconst 1, 1) := by decide +kernel
theorem dmethod_42 : decode cX12_method 42 = .ok (.invokevirtual 751, 3) := by decide +kernel
theorem dmethod_45 : decode cX12_method 45 = .ok (.goto 4, 3) := by decide +kernel
theorem dmethod_48 : decode cX12_method 48 = .ok (.iconst (-1), 1) := by decide +kernel
theorem dmethod_49 : decode cX12_method 49 = .ok (.istore_n 3, 1) := by decide +kernel
theorem dmethod_50 : decode cX12_method 50 = .ok (.aload_n 0, 1) := by decide +kernel
theorem dmethod_51 : decode cX12_method 51 = .ok (.getfield 65, 3) := by decide +kernel
theorem dmethod_54 : decode cX12_method 54 = .ok (.iload_n 2, 1) := by decide +kernel
theorem dmethod_55 : decode cX12_method 55 = .ok (.aload_n 0, 1) := by decide +kernel
theorem dmethod_56 : decode cX12_method 56 = .ok (.getfield 574, 3) := by decide +kernel
theorem dmethod_59 : decode cX12_method 59 = .ok (.iastore, 1) := by decide +kernel
theorem dmethod_60 : decode cX12_method 60 = .ok (.aload_n 0, 1) := by decide +kernel
theorem dmethod_61 : decode cX12_method 61 = .ok (.getfield 68, 3) := by decide +kernel
theorem dmethod_64 : decode cX12_method 64 = .ok (.iload_n 2, 1) := by decide +kernel
theorem dmethod_65 : decode cX12_method 65 = .ok (.aload_n 0, 1) := by decide +kernel
theorem dmethod_66 : decode cX12_method 66 = .ok (.iload_n 1, 1) := by decide +kernel
theorem dmethod_67 : decode cX12_method 67 = .ok (.invokevirtual 716, 3) := by decide +kernel
theorem dmethod_70 : decode cX12_method 70 = .ok (.iastore, 1) := by decide +kernel
theorem dmethod_71 : decode cX12_method 71 = .ok (.aload_n 0, 1) := by decide +kernel
theorem dmethod_72 : decode cX12_method 72 = .ok (.getfield 80, 3) := by decide +kernel
theorem dmethod_75 : decode cX12_method 75 = .ok (.iload_n 2, 1) := by decide +kernel
theorem dmethod_76 : decode cX12_method 76 = .ok (.iload_n 3, 1) := by decide +kernel
theorem dmethod_77 : decode cX12_method 77 = .ok (.iastore, 1) := by decide +kernel
theorem dmethod_78 : decode cX12_method 78 = .ok (.aload_n 0, 1) := by decide +kernel
theorem dmethod_79 : decode cX12_method 79 = .ok (.getfield 83, 3) := by decide +kernel
theorem dmethod_82 : decode cX12_method 82 = .ok (.aload_n 0, 1) := by decide +kernel
theorem dmethod_83 : decode cX12_method 83 = .ok (.getfield 659, 3) := by decide +kernel
theorem dmethod_86 : decode cX12_method 86 = .ok (.aload_n 0, 1) := by decide +kernel
theorem dmethod_87 : decode cX12_method 87 = .ok (.getfield 574, 3) := by decide +kernel
theorem dmethod_90 : decode cX12_method 90 = .ok (.iastore, 1) := by decide +kernel
theorem dmethod_91 : decode cX12_method 91 = .ok (.aload_n 0, 1) := by decide +kernel
theorem dmethod_92 : decode cX12_method 92 = .ok (.getfield 86, 3) := by decide +kernel
theorem dmethod_95 : decode cX12_method 95 = .ok (.aload_n 0, 1) := by decide +kernel
theorem dmethod_96 : decode cX12_method 96 = .ok (.getfield 659, 3) := by decide +kernel
theorem dmethod_99 : decode cX12_method 99 = .ok (.aload_n 0, 1) := by decide +kernel
theorem dmethod_100 : decode cX12_method 100 = .ok (.iload_n 1, 1) := by decide +kernel
theorem dmethod_101 : decode cX12_method 101 = .ok (.invokevirtual 716, 3) := by decide +kernel
theorem dmethod_104 : decode cX12_method 104 = .ok (.iastore, 1) := by decide +kernel
theorem dmethod_105 : decode cX12_method 105 = .ok (.aload_n 0, 1) := by decide +kernel
theorem dmethod_106 : decode cX12_method 106 = .ok (.getfield 577, 3) := by decide +kernel
theorem dmethod_109 : decode cX12_method 109 = .ok (.ifCond .gt 10, 3) := by decide +kernel
theorem dmethod_112 : decode cX12_method 112 = .ok (.aload_n 0, 1) := by decide +kernel
theorem dmethod_113 : decode cX12_method 113 = .ok (.invokevirtual 739, 3) := by decide +kernel
theorem dmethod_116 : decode cX12_method 116 = .ok (.ifCond .ne 5, 3) := by decide +kernel
theorem dmethod_119 : decode cX12_method 119 = .ok (.iconst 0, 1) := by decide +kernel
theorem dmethod_120 : decode cX12_method 120 = .ok (.ireturn, 1) := by decide +kernel
theorem dmethod_121 : decode cX12_method 121 = .ok (.aload_n 0, 1) := by decide +kernel
theorem dmethod_122 : decode cX12_method 122 = .ok (.getfield 170, 3) := by decide +kernel
theorem dmethod_125 : decode cX12_method 125 = .ok (.iload_n 3, 1) := by decide +kernel
theorem dmethod_126 : decode cX12_method 126 = .ok (.aload_n 0, 1) := by decide +kernel
theorem dmethod_127 : decode cX12_method 127 = .ok (.getfield 65, 3) := by decide +kernel
theorem dmethod_130 : decode cX12_method 130 = .ok (.iload_n 2, 1) := by decide +kernel
theorem dmethod_131 : decode cX12_method 131 = .ok (.iaload, 1) := by decide +kernel
theorem dmethod_132 : decode cX12_method 132 = .ok (.iastore, 1) := by decide +kernel
theorem dmethod_133 : decode cX12_method 133 = .ok (.aload_n 0, 1) := by decide +kernel
theorem dmethod_134 : decode cX12_method 134 = .ok (.dup, 1) := by decide +kernel
theorem dmethod_135 : decode cX12_method 135 = .ok (.getfield 656, 3) := by decide +kernel
theorem dmethod_138 : decode cX12_method 138 = .ok (.iconst 1, 1) := by decide +kernel
theorem dmethod_139 : decode cX12_method 139 = .ok (.iadd, 1) := by decide +kernel
theorem dmethod_140 : decode cX12_method 140 = .ok (.putfield 656, 3) := by decide +kernel
theorem dmethod_143 : decode cX12_method 143 = .ok (.aload_n 0, 1) := by decide +kernel
theorem dmethod_144 : decode cX12_method 144 = .ok (.dup, 1) := by decide +kernel
theorem dmethod_145 : decode cX12_method 145 = .ok (.getfield 659, 3) := by decide +kernel
theorem dmethod_148 : decode cX12_method 148 = .ok (.iconst 1, 1) := by decide +kernel
theorem dmethod_149 : decode cX12_method 149 = .ok (.iadd, 1) := by decide +kernel
theorem dmethod_150 : decode cX12_method 150 = .ok (.putfield 659, 3) := by decide +kernel
theorem dmethod_153 : decode cX12_method 153 = .ok (.aload_n 0, 1) := by decide +kernel
theorem dmethod_154 : decode cX12_method 154 = .ok (.invokevirtual 754, 3) := by decide +kernel
theorem dmethod_157 : decode cX12_method 157 = .ok (.ifCond .ne 5, 3) := by decide +kernel
theorem dmethod_160 : decode cX12_method 160 = .ok (.iconst 0, 1) := by decide +kernel
theorem dmethod_161 : decode cX12_method 161 = .ok (.ireturn, 1) := by decide +kernel
theorem dmethod_162 : decode cX12_method 162 = .ok (.aload_n 0, 1) := by decide +kernel
theorem dmethod_163 : decode cX12_method 163 = .ok (.getfield 74, 3) := by decide +kernel
theorem dmethod_166 : decode cX12_method 166 = .ok (.iload_n 2, 1) := by decide +kernel
theorem dmethod_167 : decode cX12_method 167 = .ok (.aload_n 0, 1) := by decide +kernel
theorem dmethod_168 : decode cX12_method 168 = .ok (.getfield 704, 3) := by decide +kernel
theorem dmethod_171 : decode cX12_method 171 = .ok (.iastore, 1) := by decide +kernel
theorem dmethod_172 : decode cX12_method 172 = .ok (.aload_n 0, 1) := by decide +kernel
theorem dmethod_173 : decode cX12_method 173 = .ok (.getfield 173, 3) := by decide +kernel
theorem dmethod_176 : decode cX12_method 176 = .ok (.iload_n 3, 1) := by decide +kernel
theorem dmethod_177 : decode cX12_method 177 = .ok (.aload_n 0, 1) := by decide +kernel
theorem dmethod_178 : decode cX12_method 178 = .ok (.getfield 704, 3) := by decide +kernel
theorem dmethod_181 : decode cX12_method 181 = .ok (.iastore, 1) := by decide +kernel
theorem dmethod_182 : decode cX12_method 182 = .ok (.iconst 0, 1) := by decide +kernel
theorem dmethod_183 : decode cX12_method 183 = .ok (.istore 4, 2) := by decide +kernel
theorem dmethod_185 : decode cX12_method 185 = .ok (.iload 4, 2) := by decide +kernel
theorem dmethod_187 : decode cX12_method 187 = .ok (.aload_n 0, 1) := by decide +kernel
theorem dmethod_188 : decode cX12_method 188 = .ok (.getfield 704, 3) := by decide +kernel
theorem dmethod_191 : decode cX12_method 191 = .ok (.if_icmp .ge 36, 3) := by decide +kernel
theorem dmethod_194 : decode cX12_method 194 = .ok (.aload_n 0, 1) := by decide +kernel
theorem dmethod_195 : decode cX12_method 195 = .ok (.getfield 155, 3) := by decide +kernel
theorem dmethod_198 : decode cX12_method 198 = .ok (.iload 4, 2) := by decide +kernel
theorem dmethod_200 : decode cX12_method 200 = .ok (.aload_n 0, 1) := by decide +kernel
theorem dmethod_201 : decode cX12_method 201 = .ok (.aload_n 0, 1) := by decide +kernel
theorem dmethod_202 : decode cX12_method 202 = .ok (.getfield 161, 3) := by decide +kernel
theorem dmethod_205 : decode cX12_method 205 = .ok (.iload 4, 2) := by decide +kernel
theorem dmethod_207 : decode cX12_method 207 = .ok (.iaload, 1) := by decide +kernel
theorem dmethod_208 : decode cX12_method 208 = .ok (.invokevirtual 716, 3) := by decide +kernel
theorem dmethod_211 : decode cX12_method 211 = .ok (.iastore, 1) := by decide +kernel
theorem dmethod_212 : decode cX12_method 212 = .ok (.aload_n 0, 1) := by decide +kernel
theorem dmethod_213 : decode cX12_method 213 = .ok (.getfield 158, 3) := by decide +kernel
theorem dmethod_216 : decode cX12_method 216 = .ok (.iload 4, 2) := by decide +kernel
theorem dmethod_218 : decode cX12_method 218 = .ok (.iload 4, 2) := by decide +kernel
theorem dmethod_220 : decode cX12_method 220 = .ok (.iastore, 1) := by decide +kernel
theorem dmethod_221 : decode cX12_method 221 = .ok (.iinc 4 1, 3) := by decide +kernel
theorem dmethod_224 : decode cX12_method 224 = .ok (.goto (-39), 3) := by decide +kernel
theorem dmethod_227 : decode cX12_method 227 = .ok (.aload_n 0, 1) := by decide +kernel
theorem dmethod_228 : decode cX12_method 228 = .ok (.aload_n 0, 1) := by decide +kernel
theorem dmethod_229 : decode cX12_method 229 = .ok (.getfield 704, 3) := by decide +kernel
theorem dmethod_232 : decode cX12_method 232 = .ok (.putfield 713, 3) := by decide +kernel
theorem dmethod_235 : decode cX12_method 235 = .ok (.aload_n 0, 1) := by decide +kernel
theorem dmethod_236 : decode cX12_method 236 = .ok (.aload_n 0, 1) := by decide +kernel
theorem dmethod_237 : decode cX12_method 237 = .ok (.getfield 704, 3) := by decide +kernel
theorem dmethod_240 : decode cX12_method 240 = .ok (.putfield 710, 3) := by decide +kernel
theorem dmethod_243 : decode cX12_method 243 = .ok (.aload_n 0, 1) := by decide +kernel
theorem dmethod_244 : decode cX12_method 244 = .ok (.getfield 77, 3) := by decide +kernel
theorem dmethod_247 : decode cX12_method 247 = .ok (.iload_n 2, 1) := by decide +kernel
theorem dmethod_248 : decode cX12_method 248 = .ok (.aload_n 0, 1) := by decide +kernel
theorem dmethod_249 : decode cX12_method 249 = .ok (.getfield 611, 3) := by decide +kernel
theorem dmethod_252 : decode cX12_method 252 = .ok (.iastore, 1) := by decide +kernel
theorem dmethod_253 : decode cX12_method 253 = .ok (.aload_n 0, 1) := by decide +kernel
theorem dmethod_254 : decode cX12_method 254 = .ok (.invokevirtual 729, 3) := by decide +kernel
theorem dmethod_257 : decode cX12_method 257 = .ok (.ifCond .ne 5, 3) := by decide +kernel
theorem dmethod_260 : decode cX12_method 260 = .ok (.iconst 0, 1) := by decide +kernel
theorem dmethod_261 : decode cX12_method 261 = .ok (.ireturn, 1) := by decide +kernel
theorem dmethod_262 : decode cX12_method 262 = .ok (.aload_n 0, 1) := by decide +kernel
theorem dmethod_263 : decode cX12_method 263 = .ok (.bipush 26, 2) := by decide +kernel
theorem dmethod_265 : decode cX12_method 265 = .ok (.iconst 0, 1) := by decide +kernel
theorem dmethod_266 : decode cX12_method 266 = .ok (.iconst 0, 1) := by decide +kernel
theorem dmethod_267 : decode cX12_method 267 = .ok (.invokevirtual 732, 3) := by decide +kernel
theorem dmethod_270 : decode cX12_method 270 = .ok (.istore 4, 2) := by decide +kernel
theorem dmethod_272 : decode cX12_method 272 = .ok (.iconst 1, 1) := by decide +kernel
theorem dmethod_273 : decode cX12_method 273 = .ok (.ireturn, 1) := by decide +kernel
section
variable {l : Launch} {D : va_G} {cA : Nat → ClassId} {ad : Nat → Nat}
theorem s_method {a1 : Int} {ht st rg : Nat → Int} {h : ja_H} {Q : Option ja_V → ja_H → Prop} (g : mo_G Zz h) (r1 : -2147483648 ≤ a1 ∧ a1 ≤ 2147483647) (p1 : it h ht st rg) (p2 : 0 ≤ a1 ∧ a1 ≤ 900) (p3 : (h 0 41) < (h 0 7)) (k1 : ∀ (h' : ja_H), ((∃ ht st rg : Nat → Int, it h' ht st rg) ∧ (h 0 7) < (h' 0 7) ∧ mo_ag FKP h h') → mo_G Zz h' → Q (some (0, 1)) h') (k2 : ∀ (h' : ja_H), (0 < (h' 0 8) ∧ (h' 0 1) = (h 0 1) ∧ (h' 0 118) = (h 0 118) ∧ (h' 0 127) = (h 0 127)) → mo_G Zz h' → Q (some (0, 0)) h') : mM_method l D cA ad a1 h Q := by
  show mJ l D cA ad 9 cX12_method 5 (some .boolean) 0 [(0, (2, ((0 : Nat) : Int))), (1, (0, a1))] [] h Q
  have kn_at := gF_at g
  have kn_methods := gF_methods g
  have kn_members := gF_members g
  have kn_points := gF_points g
  have kn_words := gF_words g
  have CUT : ∀ n : Nat, (∀ (x4 : Int) (u : ja_H), mo_G Zz u → (-2147483648 ≤ x4 ∧ x4 ≤ 2147483647) → (mdI h u ∧ 0 ≤ x4 ∧ x4 ≤ (u 0 82)) → ((10 - x4).toNat) = n → mJ l D cA ad 9 cX12_method 5 (some .boolean) 185 [(0, (2, ((0 : Nat) : Int))), (2, (0, (h 0 34))), (4, (0, x4))] [] u Q) := by
    intro n
    induction n using Nat.strongRecOn with
    | _ n ih =>
      skip
      · intro x4 u gu qx4 iv hm
        subst hm
        have ku_at := gF_at gu
        have ku_methods := gF_methods gu
        have ku_members := gF_members gu
        have ku_points := gF_points gu
        have ku_words := gF_words gu
        obtain ⟨md, ix⟩ := iv
        have m0 := md.2.1
        have e_size : (u 0 1) = (h 0 1) := md.1 0 1 rfl
        have e_compiled : (u 0 118) = (h 0 118) := md.1 0 118 rfl
        have e_started : (u 0 127) = (h 0 127) := md.1 0 127 rfl
        have e_words : (u 0 113) = (h 0 113) := md.1 0 113 rfl
        have e_wTop : (u 0 17) = (h 0 17) := md.1 0 17 rfl
        have gap := gF_params gu
        refine ja_iload dmethod_185 rfl ?_
        refine ja_aload_n dmethod_187 rfl rfl ?_
        refine fg_params (v := u 0 82) rfl dmethod_188 ?_
        have f1 := gF_params gu
        refine ja_icmp_ge 227 dmethod_191 rfl ⟨by omega, by omega⟩ ⟨by omega, by omega⟩ (fun c191 => ?_) (fun c191 => ?_)
        · refine ja_aload_n dmethod_227 rfl rfl ?_
          refine ja_aload_n dmethod_228 rfl rfl ?_
          refine fg_params (v := u 0 82) rfl dmethod_229 ?_
          have g2 := gP_known gu (x := u 0 82) ⟨by omega, by omega⟩
          refine fp_known dmethod_232 ?_
          refine ja_aload_n dmethod_235 rfl rfl ?_
          refine ja_aload_n dmethod_236 rfl rfl ?_
          refine fg_params (v := u 0 82) rfl dmethod_237 ?_
          have g3 := gP_locals g2 (x := u 0 82) ⟨by omega, by omega⟩
          refine fp_locals dmethod_240 ?_
          refine ja_aload_n dmethod_243 rfl rfl ?_
          refine fa_methodStart dmethod_244 ?_
          refine ja_iload_n dmethod_247 rfl rfl ?_
          refine ja_aload_n dmethod_248 rfl rfl ?_
          refine fg_words (v := u 0 113) rfl dmethod_249 ?_
          have f4 := gF_words gu
          have g5 := gW_methodStart g3 (h 0 34).toNat (x := u 0 113) ⟨by omega, by omega⟩
          refine is_methodStart ⟨by omega, by omega⟩ dmethod_252 ?_
          refine ja_aload_n dmethod_253 rfl rfl ?_
          refine t_block (by decide) (show (0 : Nat) ≤ 8 by decide) dmethod_254 g5 ((md_block g g5 p1 (md_start (md_ag md (by (repeat (first | exact ag_refl | refine ag_up rfl ?_))))) (show (u 0 82) ≤ (u 0 82) by omega) (show (u 0 82) ≤ 10 by omega)).1) (show (u 0 74) ≤ 1 ∨ (u 0 75) ≤ 24 by omega) ((md_block g g5 p1 (md_start (md_ag md (by (repeat (first | exact ag_refl | refine ag_up rfl ?_))))) (show (u 0 82) ≤ (u 0 82) by omega) (show (u 0 82) ≤ 10 by omega)).2) ?_ ?_
          · intro h6 k254_0 g7
            obtain ⟨⟨ht3, st3, rg3, tu3, hp3⟩, agB, hatB⟩ := k254_0
            have nm := it_num hp3
            dsimp only at nm
            have gat3 := gF_at g7
            refine ja_if_ne 262 dmethod_257 rfl ⟨by decide, by decide⟩ (fun c257 => ?_) (fun c257 => absurd c257 (by omega))
            refine ja_aload_n dmethod_262 rfl rfl ?_
            refine ja_bipush 26 dmethod_263 rfl ?_
            refine ja_iconst dmethod_265 ?_
            refine ja_iconst dmethod_266 ?_
            refine t_emit (by decide) (show (0 : Nat) ≤ 8 by decide) dmethod_267 g7 ⟨by decide, by decide⟩ ⟨by decide, by decide⟩ ⟨by decide, by decide⟩ (show 0 ≤ 26 ∧ 26 ≤ 26 by omega) (show (h6 0 113) < 5000 by omega) ?_
            intro g8
            replace g8 : mo_G Zz (ja_up (ja_up (ja_up (ja_up h6 74 ((h6 0 113).toNat) 26) 75 ((h6 0 113).toNat) 0) 76 ((h6 0 113).toNat) 0) 0 113 ((h6 0 113) + 1)) := g8
            show mJ l D cA ad 9 cX12_method 5 (some .boolean) 270 [(0, (2, ((0 : Nat) : Int))), (2, (0, (h 0 34))), (4, (0, x4))] [(0, (h6 0 113))] (ja_up (ja_up (ja_up (ja_up h6 74 ((h6 0 113).toNat) 26) 75 ((h6 0 113).toNat) 0) 76 ((h6 0 113).toNat) 0) 0 113 ((h6 0 113) + 1)) Q
            refine ja_istore dmethod_270 (by decide) (L2 := [(4, (0, (h6 0 113))), (0, (2, ((0 : Nat) : Int))), (2, (0, (h 0 34)))]) rfl ?_
            refine ja_iconst dmethod_272 ?_
            refine ja_zreturn dmethod_273 rfl (by omega) ?_
            exact mo_fin (by omega) rfl (k1 (ja_up (ja_up (ja_up (ja_up h6 74 ((h6 0 113).toNat) 26) 75 ((h6 0 113).toNat) 0) 76 ((h6 0 113).toNat) 0) 0 113 ((h6 0 113) + 1)) (⟨md_end g g5 g7 p1 (md_start (md_ag md (by (repeat (first | exact ag_refl | refine ag_up rfl ?_))))) (mo_upS.trans e_words) p3 hp3 agB hatB, Int.lt_of_lt_of_le m0.1 hatB, ag_trans (kp_md md) (ag_trans (by (repeat (first | exact ag_refl | refine ag_up rfl ?_))) (ag_trans (kp_FK agB) (by (repeat (first | exact ag_refl | refine ag_up rfl ?_)))))⟩) g8)
          · intro h9 k254_1 g10
            replace k254_1 : 0 < (h9 0 8) ∧ (h9 0 1) = (u 0 1) ∧ (h9 0 118) = (u 0 118) ∧ (h9 0 127) = (u 0 127) := k254_1
            refine ja_if_ne 262 dmethod_257 rfl ⟨by decide, by decide⟩ (fun c257 => absurd c257 (by omega)) (fun c257 => ?_)
            refine ja_iconst dmethod_260 ?_
            refine ja_zreturn dmethod_261 rfl (by omega) ?_
            exact mo_fin (by omega) rfl (k2 h9 (by omega) g10)
        · refine ja_aload_n dmethod_194 rfl rfl ?_
          refine fa_knownName dmethod_195 ?_
          refine ja_iload dmethod_198 rfl ?_
          refine ja_aload_n dmethod_200 rfl rfl ?_
          refine ja_aload_n dmethod_201 rfl rfl ?_
          refine fa_paramName dmethod_202 ?_
          refine ja_iload dmethod_205 rfl ?_
          refine il_paramName (v := u 51 (x4).toNat) rfl ⟨by omega, by omega⟩ dmethod_207 ?_
          have f11 := gC_paramName gu (x4).toNat
          refine t_id (by decide) (show (2 : Nat) ≤ 8 by decide) dmethod_208 gu ⟨by omega, by omega⟩ (show 0 ≤ (u 51 (x4).toNat) ∧ (u 51 (x4).toNat) ≤ 900 by omega) ?_
          intro k208_0
          have g12 := gW_knownName gu (x4).toNat (x := u 5 (u 51 (x4).toNat).toNat) ⟨by omega, by omega⟩
          refine is_knownName ⟨by omega, by omega⟩ dmethod_211 ?_
          refine ja_aload_n dmethod_212 rfl rfl ?_
          refine fa_knownSlot dmethod_213 ?_
          refine ja_iload dmethod_216 rfl ?_
          refine ja_iload dmethod_218 rfl ?_
          have g13 := gW_knownSlot g12 (x4).toNat (x := x4) ⟨by omega, by omega⟩
          refine is_knownSlot ⟨by omega, by omega⟩ dmethod_220 ?_
          refine ja_iinc dmethod_221 rfl (by decide) (L2 := [(4, (0, (x4 + 1))), (0, (2, ((0 : Nat) : Int))), (2, (0, (h 0 34)))]) rfl ?_
          refine ja_goto 185 dmethod_224 rfl ?_
          exact ja_wk (fun q hq => by simp only [List.mem_cons, List.not_mem_nil, or_false] at hq; rcases hq with rfl | rfl | rfl <;> rfl) ((ih ((10 - (x4 + 1)).toNat) (by omega)) (x4 + 1) (ja_up (ja_up u 49 ((x4).toNat) (u 5 (u 51 (x4).toNat).toNat)) 50 ((x4).toNat) x4) g13 ⟨by omega, by omega⟩ (⟨md_ag md (by (repeat (first | exact ag_refl | refine ag_up rfl ?_))), (show 0 ≤ (x4 + 1) ∧ (x4 + 1) ≤ (u 0 82) by omega)⟩) rfl)
  refine ja_aload_n dmethod_0 rfl rfl ?_
  refine t_isName (by decide) (show (0 : Nat) ≤ 8 by decide) dmethod_1 g  ?_
  intro w14 k1_0
  refine ja_if_eq 22 dmethod_4 rfl ⟨by omega, by omega⟩ (fun c4 => ?_) (fun c4 => ?_)
  · replace k1_0 := is0 k1_0 c4
    refine ja_aload_n dmethod_22 rfl rfl ?_
    refine fg_methods (v := h 0 34) rfl dmethod_23 ?_
    have f15 := gF_methods g
    refine ja_istore_n dmethod_26 rfl (by decide) (L2 := [(2, (0, (h 0 34))), (0, (2, ((0 : Nat) : Int))), (1, (0, a1))]) rfl ?_
    refine ja_aload_n dmethod_27 rfl rfl ?_
    refine ja_iconst dmethod_28 ?_
    refine ja_iload_n dmethod_29 rfl rfl ?_
    refine t_beginBody (by decide) (show (0 : Nat) ≤ 8 by decide) dmethod_30 g ⟨by decide, by decide⟩ ⟨by omega, by omega⟩ (show 0 ≤ 1 ∧ 1 ≤ 3 by omega) (show 0 ≤ (h 0 34) ∧ (h 0 34) ≤ 60 by omega) ?_
    intro g16
    replace g16 : mo_G Zz (ja_up (ja_up (ja_up (ja_up h 0 74 1) 0 75 (h 0 34)) 0 77 0) 0 79 0) := g16
    show mJ l D cA ad 9 cX12_method 5 (some .boolean) 33 [(2, (0, (h 0 34))), (0, (2, ((0 : Nat) : Int))), (1, (0, a1))] [] (ja_up (ja_up (ja_up (ja_up h 0 74 1) 0 75 (h 0 34)) 0 77 0) 0 79 0) Q
    refine ja_aload_n dmethod_33 rfl rfl ?_
    refine t_isName (by decide) (show (0 : Nat) ≤ 8 by decide) dmethod_34 g16  ?_
    intro w17 k34_0
    replace k34_0 : (w17 = 1 ∧ (h 2 (h 0 7).toNat) = 2) ∨ (w17 = 0 ∧ ¬ (h 2 (h 0 7).toNat) = 2) := k34_0
    refine ja_if_eq 48 dmethod_37 rfl ⟨by omega, by omega⟩ (fun c37 => ?_) (fun c37 => ?_)
    · replace k34_0 := is0 k34_0 c37
      refine ja_iconst dmethod_48 ?_
      refine ja_istore_n dmethod_49 rfl (by decide) (L2 := [(3, (0, (-1))), (2, (0, (h 0 34))), (0, (2, ((0 : Nat) : Int))), (1, (0, a1))]) rfl ?_
      refine ja_aload_n dmethod_50 rfl rfl ?_
      refine fa_methodName dmethod_51 ?_
      refine ja_iload_n dmethod_54 rfl rfl ?_
      refine ja_aload_n dmethod_55 rfl rfl ?_
      refine fg_at (v := h 0 7) rfl dmethod_56 ?_
      have f18 := gF_at g
      have g19 := gW_methodName g16 (h 0 34).toNat (x := h 0 7) ⟨by omega, by omega⟩
      refine is_methodName ⟨by omega, by omega⟩ dmethod_59 ?_
      refine ja_aload_n dmethod_60 rfl rfl ?_
      refine fa_methodOf dmethod_61 ?_
      refine ja_iload_n dmethod_64 rfl rfl ?_
      refine ja_aload_n dmethod_65 rfl rfl ?_
      refine ja_iload_n dmethod_66 rfl rfl ?_
      refine t_id (by decide) (show (2 : Nat) ≤ 8 by decide) dmethod_67 g19 ⟨by omega, by omega⟩ (show 0 ≤ a1 ∧ a1 ≤ 900 by omega) ?_
      intro k67_0
      replace k67_0 : -2147483648 ≤ (h 5 (a1).toNat) ∧ (h 5 (a1).toNat) ≤ 2147483647 := k67_0
      show mJ l D cA ad 9 cX12_method 5 (some .boolean) 70 [(3, (0, (-1))), (2, (0, (h 0 34))), (0, (2, ((0 : Nat) : Int))), (1, (0, a1))] [(0, (h 5 (a1).toNat)), (0, (h 0 34)), (2, ((20 : Nat) : Int))] (ja_up (ja_up (ja_up (ja_up (ja_up h 0 74 1) 0 75 (h 0 34)) 0 77 0) 0 79 0) 19 ((h 0 34).toNat) (h 0 7)) Q
      have g20 := gW_methodOf g19 (h 0 34).toNat (x := h 5 (a1).toNat) ⟨by omega, by omega⟩
      refine is_methodOf ⟨by omega, by omega⟩ dmethod_70 ?_
      refine ja_aload_n dmethod_71 rfl rfl ?_
      refine fa_methodPoint dmethod_72 ?_
      refine ja_iload_n dmethod_75 rfl rfl ?_
      refine ja_iload_n dmethod_76 rfl rfl ?_
      have g21 := gW_methodPoint g20 (h 0 34).toNat (x := (-1)) ⟨by decide, by decide⟩
      refine is_methodPoint ⟨by omega, by omega⟩ dmethod_77 ?_
      refine ja_aload_n dmethod_78 rfl rfl ?_
      refine fa_memberName dmethod_79 ?_
      refine ja_aload_n dmethod_82 rfl rfl ?_
      refine fg_members (v := h 0 41) rfl dmethod_83 ?_
      have f22 := gF_members g
      refine ja_aload_n dmethod_86 rfl rfl ?_
      refine fg_at (v := h 0 7) rfl dmethod_87 ?_
      have g23 := gW_memberName g21 (h 0 41).toNat (x := h 0 7) ⟨by omega, by omega⟩
      refine is_memberName ⟨by omega, by omega⟩ dmethod_90 ?_
      refine ja_aload_n dmethod_91 rfl rfl ?_
      refine fa_memberOf dmethod_92 ?_
      refine ja_aload_n dmethod_95 rfl rfl ?_
      refine fg_members (v := h 0 41) rfl dmethod_96 ?_
      refine ja_aload_n dmethod_99 rfl rfl ?_
      refine ja_iload_n dmethod_100 rfl rfl ?_
      refine t_id (by decide) (show (2 : Nat) ≤ 8 by decide) dmethod_101 g23 ⟨by omega, by omega⟩ (show 0 ≤ a1 ∧ a1 ≤ 900 by omega) ?_
      intro k101_0
      replace k101_0 : -2147483648 ≤ (h 5 (a1).toNat) ∧ (h 5 (a1).toNat) ≤ 2147483647 := k101_0
      show mJ l D cA ad 9 cX12_method 5 (some .boolean) 104 [(3, (0, (-1))), (2, (0, (h 0 34))), (0, (2, ((0 : Nat) : Int))), (1, (0, a1))] [(0, (h 5 (a1).toNat)), (0, (h 0 41)), (2, ((26 : Nat) : Int))] (ja_up (ja_up (ja_up (ja_up (ja_up (ja_up (ja_up (ja_up h 0 74 1) 0 75 (h 0 34)) 0 77 0) 0 79 0) 19 ((h 0 34).toNat) (h 0 7)) 20 ((h 0 34).toNat) (h 5 (a1).toNat)) 24 ((h 0 34).toNat) (-1)) 25 ((h 0 41).toNat) (h 0 7)) Q
      have g24 := gW_memberOf g23 (h 0 41).toNat (x := h 5 (a1).toNat) ⟨by omega, by omega⟩
      refine is_memberOf ⟨by omega, by omega⟩ dmethod_104 ?_
      refine ja_aload_n dmethod_105 rfl rfl ?_
      refine fg_bad (v := h 0 8) rfl dmethod_106 ?_
      have f25 := gF_bad g
      refine ja_if_gt 119 dmethod_109 rfl ⟨by omega, by omega⟩ (fun c109 => ?_) (fun c109 => ?_)
      · refine ja_iconst dmethod_119 ?_
        refine ja_zreturn dmethod_120 rfl (by omega) ?_
        exact mo_fin (by omega) rfl (k2 (ja_up (ja_up (ja_up (ja_up (ja_up (ja_up (ja_up (ja_up (ja_up h 0 74 1) 0 75 (h 0 34)) 0 77 0) 0 79 0) 19 ((h 0 34).toNat) (h 0 7)) 20 ((h 0 34).toNat) (h 5 (a1).toNat)) 24 ((h 0 34).toNat) (-1)) 25 ((h 0 41).toNat) (h 0 7)) 26 ((h 0 41).toNat) (h 5 (a1).toNat)) (show 0 < (h 0 8) ∧ (h 0 1) = (h 0 1) ∧ (h 0 118) = (h 0 118) ∧ (h 0 127) = (h 0 127) by omega) g24)
      · refine ja_aload_n dmethod_112 rfl rfl ?_
        refine t_name (by decide) (show (0 : Nat) ≤ 8 by decide) dmethod_113 g24  ?_ ?_
        · intro k113_0 g26
          replace k113_0 : (h 0 7) < 900 ∧ (h 2 (h 0 7).toNat) = 2 := k113_0
          replace g26 : mo_G Zz (ja_up (ja_up (ja_up (ja_up (ja_up (ja_up (ja_up (ja_up (ja_up (ja_up h 0 74 1) 0 75 (h 0 34)) 0 77 0) 0 79 0) 19 ((h 0 34).toNat) (h 0 7)) 20 ((h 0 34).toNat) (h 5 (a1).toNat)) 24 ((h 0 34).toNat) (-1)) 25 ((h 0 41).toNat) (h 0 7)) 26 ((h 0 41).toNat) (h 5 (a1).toNat)) 0 7 ((h 0 7) + 1)) := g26
          show mJ l D cA ad 9 cX12_method 5 (some .boolean) 116 [(3, (0, (-1))), (2, (0, (h 0 34))), (0, (2, ((0 : Nat) : Int))), (1, (0, a1))] [(0, 1)] (ja_up (ja_up (ja_up (ja_up (ja_up (ja_up (ja_up (ja_up (ja_up (ja_up h 0 74 1) 0 75 (h 0 34)) 0 77 0) 0 79 0) 19 ((h 0 34).toNat) (h 0 7)) 20 ((h 0 34).toNat) (h 5 (a1).toNat)) 24 ((h 0 34).toNat) (-1)) 25 ((h 0 41).toNat) (h 0 7)) 26 ((h 0 41).toNat) (h 5 (a1).toNat)) 0 7 ((h 0 7) + 1)) Q
          refine ja_if_ne 121 dmethod_116 rfl ⟨by decide, by decide⟩ (fun c116 => ?_) (fun c116 => absurd c116 (by omega))
          exfalso; omega
        · intro h27 k113_1 g28
          replace k113_1 : 0 < (h27 0 8) ∧ (h27 0 1) = (h 0 1) ∧ (h27 0 118) = (h 0 118) ∧ (h27 0 127) = (h 0 127) := k113_1
          refine ja_if_ne 121 dmethod_116 rfl ⟨by decide, by decide⟩ (fun c116 => absurd c116 (by omega)) (fun c116 => ?_)
          refine ja_iconst dmethod_119 ?_
          refine ja_zreturn dmethod_120 rfl (by omega) ?_
          exact mo_fin (by omega) rfl (k2 h27 (by omega) g28)
    · have z37 := is1v k34_0 c37
      replace k34_0 := is1 k34_0 c37
      refine ja_aload_n dmethod_40 rfl rfl ?_
      refine ja_iconst dmethod_41 ?_
      refine t_newPoint (by decide) (show (0 : Nat) ≤ 8 by decide) dmethod_42 g16 ⟨by decide, by decide⟩ (show 0 ≤ 1 ∧ 1 ≤ 5 by omega) ?_ ?_
      · intro w29 w30 k42_0 g31
        replace k42_0 : (h 0 88) < 400 ∧ (((1 : Int) = 3 ∧ w29 = 2) ∨ (¬ (1 : Int) = 3 ∧ w29 = (1 : Int))) ∧ (((1 : Int) = 0 ∧ w30 = 0) ∨ (¬ (1 : Int) = 0 ∧ w30 = (h 0 34))) := k42_0
        replace g31 : mo_G Zz (ja_up (ja_up (ja_up (ja_up (ja_up (ja_up (ja_up (ja_up (ja_up (ja_up (ja_up h 0 74 1) 0 75 (h 0 34)) 0 77 0) 0 79 0) 52 ((h 0 88).toNat) 1) 53 ((h 0 88).toNat) (h 0 7)) 54 ((h 0 88).toNat) (-1)) 55 ((h 0 88).toNat) 0) 56 ((h 0 88).toNat) w29) 57 ((h 0 88).toNat) w30) 0 88 ((h 0 88) + 1)) := g31
        show mJ l D cA ad 9 cX12_method 5 (some .boolean) 45 [(2, (0, (h 0 34))), (0, (2, ((0 : Nat) : Int))), (1, (0, a1))] [(0, (h 0 88))] (ja_up (ja_up (ja_up (ja_up (ja_up (ja_up (ja_up (ja_up (ja_up (ja_up (ja_up h 0 74 1) 0 75 (h 0 34)) 0 77 0) 0 79 0) 52 ((h 0 88).toNat) 1) 53 ((h 0 88).toNat) (h 0 7)) 54 ((h 0 88).toNat) (-1)) 55 ((h 0 88).toNat) 0) 56 ((h 0 88).toNat) w29) 57 ((h 0 88).toNat) w30) 0 88 ((h 0 88) + 1)) Q
        refine ja_goto 49 dmethod_45 rfl ?_
        refine ja_istore_n dmethod_49 rfl (by decide) (L2 := [(3, (0, (h 0 88))), (2, (0, (h 0 34))), (0, (2, ((0 : Nat) : Int))), (1, (0, a1))]) rfl ?_
        refine ja_aload_n dmethod_50 rfl rfl ?_
        refine fa_methodName dmethod_51 ?_
        refine ja_iload_n dmethod_54 rfl rfl ?_
        refine ja_aload_n dmethod_55 rfl rfl ?_
        refine fg_at (v := h 0 7) rfl dmethod_56 ?_
        have f32 := gF_at g
        have g33 := gW_methodName g31 (h 0 34).toNat (x := h 0 7) ⟨by omega, by omega⟩
        refine is_methodName ⟨by omega, by omega⟩ dmethod_59 ?_
        refine ja_aload_n dmethod_60 rfl rfl ?_
        refine fa_methodOf dmethod_61 ?_
        refine ja_iload_n dmethod_64 rfl rfl ?_
        refine ja_aload_n dmethod_65 rfl rfl ?_
        refine ja_iload_n dmethod_66 rfl rfl ?_
        refine t_id (by decide) (show (2 : Nat) ≤ 8 by decide) dmethod_67 g33 ⟨by omega, by omega⟩ (show 0 ≤ a1 ∧ a1 ≤ 900 by omega) ?_
        intro k67_0
        replace k67_0 : -2147483648 ≤ (h 5 (a1).toNat) ∧ (h 5 (a1).toNat) ≤ 2147483647 := k67_0
        show mJ l D cA ad 9 cX12_method 5 (some .boolean) 70 [(3, (0, (h 0 88))), (2, (0, (h 0 34))), (0, (2, ((0 : Nat) : Int))), (1, (0, a1))] [(0, (h 5 (a1).toNat)), (0, (h 0 34)), (2, ((20 : Nat) : Int))] (ja_up (ja_up (ja_up (ja_up (ja_up (ja_up (ja_up (ja_up (ja_up (ja_up (ja_up (ja_up h 0 74 1) 0 75 (h 0 34)) 0 77 0) 0 79 0) 52 ((h 0 88).toNat) 1) 53 ((h 0 88).toNat) (h 0 7)) 54 ((h 0 88).toNat) (-1)) 55 ((h 0 88).toNat) 0) 56 ((h 0 88).toNat) w29) 57 ((h 0 88).toNat) w30) 0 88 ((h 0 88) + 1)) 19 ((h 0 34).toNat) (h 0 7)) Q
        have g34 := gW_methodOf g33 (h 0 34).toNat (x := h 5 (a1).toNat) ⟨by omega, by omega⟩
        refine is_methodOf ⟨by omega, by omega⟩ dmethod_70 ?_
        refine ja_aload_n dmethod_71 rfl rfl ?_
        refine fa_methodPoint dmethod_72 ?_
        refine ja_iload_n dmethod_75 rfl rfl ?_
        refine ja_iload_n dmethod_76 rfl rfl ?_
        have g35 := gW_methodPoint g34 (h 0 34).toNat (x := h 0 88) ⟨by omega, by omega⟩
        refine is_methodPoint ⟨by omega, by omega⟩ dmethod_77 ?_
        refine ja_aload_n dmethod_78 rfl rfl ?_
        refine fa_memberName dmethod_79 ?_
        refine ja_aload_n dmethod_82 rfl rfl ?_
        refine fg_members (v := h 0 41) rfl dmethod_83 ?_
        have f36 := gF_members g
        refine ja_aload_n dmethod_86 rfl rfl ?_
        refine fg_at (v := h 0 7) rfl dmethod_87 ?_
        have g37 := gW_memberName g35 (h 0 41).toNat (x := h 0 7) ⟨by omega, by omega⟩
        refine is_memberName ⟨by omega, by omega⟩ dmethod_90 ?_
        refine ja_aload_n dmethod_91 rfl rfl ?_
        refine fa_memberOf dmethod_92 ?_
        refine ja_aload_n dmethod_95 rfl rfl ?_
        refine fg_members (v := h 0 41) rfl dmethod_96 ?_
        refine ja_aload_n dmethod_99 rfl rfl ?_
        refine ja_iload_n dmethod_100 rfl rfl ?_
        refine t_id (by decide) (show (2 : Nat) ≤ 8 by decide) dmethod_101 g37 ⟨by omega, by omega⟩ (show 0 ≤ a1 ∧ a1 ≤ 900 by omega) ?_
        intro k101_0
        replace k101_0 : -2147483648 ≤ (h 5 (a1).toNat) ∧ (h 5 (a1).toNat) ≤ 2147483647 := k101_0
        show mJ l D cA ad 9 cX12_method 5 (some .boolean) 104 [(3, (0, (h 0 88))), (2, (0, (h 0 34))), (0, (2, ((0 : Nat) : Int))), (1, (0, a1))] [(0, (h 5 (a1).toNat)), (0, (h 0 41)), (2, ((26 : Nat) : Int))] (ja_up (ja_up (ja_up (ja_up (ja_up (ja_up (ja_up (ja_up (ja_up (ja_up (ja_up (ja_up (ja_up (ja_up (ja_up h 0 74 1) 0 75 (h 0 34)) 0 77 0) 0 79 0) 52 ((h 0 88).toNat) 1) 53 ((h 0 88).toNat) (h 0 7)) 54 ((h 0 88).toNat) (-1)) 55 ((h 0 88).toNat) 0) 56 ((h 0 88).toNat) w29) 57 ((h 0 88).toNat) w30) 0 88 ((h 0 88) + 1)) 19 ((h 0 34).toNat) (h 0 7)) 20 ((h 0 34).toNat) (h 5 (a1).toNat)) 24 ((h 0 34).toNat) (h 0 88)) 25 ((h 0 41).toNat) (h 0 7)) Q
        have g38 := gW_memberOf g37 (h 0 41).toNat (x := h 5 (a1).toNat) ⟨by omega, by omega⟩
        refine is_memberOf ⟨by omega, by omega⟩ dmethod_104 ?_
        refine ja_aload_n dmethod_105 rfl rfl ?_
        refine fg_bad (v := h 0 8) rfl dmethod_106 ?_
        have f39 := gF_bad g
        refine ja_if_gt 119 dmethod_109 rfl ⟨by omega, by omega⟩ (fun c109 => ?_) (fun c109 => ?_)
        · refine ja_iconst dmethod_119 ?_
          refine ja_zreturn dmethod_120 rfl (by omega) ?_
          exact mo_fin (by omega) rfl (k2 (ja_up (ja_up (ja_up (ja_up (ja_up (ja_up (ja_up (ja_up (ja_up (ja_up (ja_up (ja_up (ja_up (ja_up (ja_up (ja_up h 0 74 1) 0 75 (h 0 34)) 0 77 0) 0 79 0) 52 ((h 0 88).toNat) 1) 53 ((h 0 88).toNat) (h 0 7)) 54 ((h 0 88).toNat) (-1)) 55 ((h 0 88).toNat) 0) 56 ((h 0 88).toNat) w29) 57 ((h 0 88).toNat) w30) 0 88 ((h 0 88) + 1)) 19 ((h 0 34).toNat) (h 0 7)) 20 ((h 0 34).toNat) (h 5 (a1).toNat)) 24 ((h 0 34).toNat) (h 0 88)) 25 ((h 0 41).toNat) (h 0 7)) 26 ((h 0 41).toNat) (h 5 (a1).toNat)) (show 0 < (h 0 8) ∧ (h 0 1) = (h 0 1) ∧ (h 0 118) = (h 0 118) ∧ (h 0 127) = (h 0 127) by omega) g38)
        · refine ja_aload_n dmethod_112 rfl rfl ?_
          refine t_name (by decide) (show (0 : Nat) ≤ 8 by decide) dmethod_113 g38  ?_ ?_
          · intro k113_0 g40
            replace k113_0 : (h 0 7) < 900 ∧ (h 2 (h 0 7).toNat) = 2 := k113_0
            replace g40 : mo_G Zz (ja_up (ja_up (ja_up (ja_up (ja_up (ja_up (ja_up (ja_up (ja_up (ja_up (ja_up (ja_up (ja_up (ja_up (ja_up (ja_up (ja_up h 0 74 1) 0 75 (h 0 34)) 0 77 0) 0 79 0) 52 ((h 0 88).toNat) 1) 53 ((h 0 88).toNat) (h 0 7)) 54 ((h 0 88).toNat) (-1)) 55 ((h 0 88).toNat) 0) 56 ((h 0 88).toNat) w29) 57 ((h 0 88).toNat) w30) 0 88 ((h 0 88) + 1)) 19 ((h 0 34).toNat) (h 0 7)) 20 ((h 0 34).toNat) (h 5 (a1).toNat)) 24 ((h 0 34).toNat) (h 0 88)) 25 ((h 0 41).toNat) (h 0 7)) 26 ((h 0 41).toNat) (h 5 (a1).toNat)) 0 7 ((h 0 7) + 1)) := g40
            show mJ l D cA ad 9 cX12_method 5 (some .boolean) 116 [(3, (0, (h 0 88))), (2, (0, (h 0 34))), (0, (2, ((0 : Nat) : Int))), (1, (0, a1))] [(0, 1)] (ja_up (ja_up (ja_up (ja_up (ja_up (ja_up (ja_up (ja_up (ja_up (ja_up (ja_up (ja_up (ja_up (ja_up (ja_up (ja_up (ja_up h 0 74 1) 0 75 (h 0 34)) 0 77 0) 0 79 0) 52 ((h 0 88).toNat) 1) 53 ((h 0 88).toNat) (h 0 7)) 54 ((h 0 88).toNat) (-1)) 55 ((h 0 88).toNat) 0) 56 ((h 0 88).toNat) w29) 57 ((h 0 88).toNat) w30) 0 88 ((h 0 88) + 1)) 19 ((h 0 34).toNat) (h 0 7)) 20 ((h 0 34).toNat) (h 5 (a1).toNat)) 24 ((h 0 34).toNat) (h 0 88)) 25 ((h 0 41).toNat) (h 0 7)) 26 ((h 0 41).toNat) (h 5 (a1).toNat)) 0 7 ((h 0 7) + 1)) Q
            refine ja_if_ne 121 dmethod_116 rfl ⟨by decide, by decide⟩ (fun c116 => ?_) (fun c116 => absurd c116 (by omega))
            refine ja_aload_n dmethod_121 rfl rfl ?_
            refine fa_pointName dmethod_122 ?_
            refine ja_iload_n dmethod_125 rfl rfl ?_
            refine ja_aload_n dmethod_126 rfl rfl ?_
            refine fa_methodName dmethod_127 ?_
            refine ja_iload_n dmethod_130 rfl rfl ?_
            refine il_methodName (v := h 0 7) (by simp [ja_up]) ⟨by omega, by omega⟩ dmethod_131 ?_
            have g41 := gW_pointName g40 (h 0 88).toNat (x := h 0 7) ⟨by omega, by omega⟩
            refine is_pointName ⟨by omega, by omega⟩ dmethod_132 ?_
            refine ja_aload_n dmethod_133 rfl rfl ?_
            refine ja_dup dmethod_134 (by decide) ?_
            refine fg_methods (v := h 0 34) rfl dmethod_135 ?_
            refine ja_iconst dmethod_138 ?_
            refine ja_iadd dmethod_139 ?_
            have g42 := gP_methods g41 (x := (h 0 34) + 1) ⟨by omega, by omega⟩
            refine fp_methods dmethod_140 ?_
            refine ja_aload_n dmethod_143 rfl rfl ?_
            refine ja_dup dmethod_144 (by decide) ?_
            refine fg_members (v := h 0 41) rfl dmethod_145 ?_
            refine ja_iconst dmethod_148 ?_
            refine ja_iadd dmethod_149 ?_
            have g43 := gP_members g42 (x := (h 0 41) + 1) ⟨by omega, by omega⟩
            refine fp_members dmethod_150 ?_
            refine ja_aload_n dmethod_153 rfl rfl ?_
            refine t_paramRow (by decide) (show (0 : Nat) ≤ 8 by decide) dmethod_154 g43  ?_ ?_
            · intro h44 k154_0 g45
              replace k154_0 : mo_ag FPR (ja_up (ja_up (ja_up (ja_up (ja_up (ja_up (ja_up (ja_up (ja_up (ja_up (ja_up (ja_up (ja_up (ja_up (ja_up (ja_up (ja_up (ja_up (ja_up (ja_up h 0 74 1) 0 75 (h 0 34)) 0 77 0) 0 79 0) 52 ((h 0 88).toNat) 1) 53 ((h 0 88).toNat) (h 0 7)) 54 ((h 0 88).toNat) (-1)) 55 ((h 0 88).toNat) 0) 56 ((h 0 88).toNat) w29) 57 ((h 0 88).toNat) w30) 0 88 ((h 0 88) + 1)) 19 ((h 0 34).toNat) (h 0 7)) 20 ((h 0 34).toNat) (h 5 (a1).toNat)) 24 ((h 0 34).toNat) (h 0 88)) 25 ((h 0 41).toNat) (h 0 7)) 26 ((h 0 41).toNat) (h 5 (a1).toNat)) 0 7 ((h 0 7) + 1)) 54 ((h 0 88).toNat) (h 0 7)) 0 34 ((h 0 34) + 1)) 0 41 ((h 0 41) + 1)) h44 ∧ ((h 0 7) + 1) < (h44 0 7) ∧ ((h44 0 11) = 0 → (h 0 11) = 0) ∧ (h44 0 82) ≤ 6 := k154_0
              refine ja_if_ne 162 dmethod_157 rfl ⟨by decide, by decide⟩ (fun c157 => ?_) (fun c157 => absurd c157 (by omega))
              refine ja_aload_n dmethod_162 rfl rfl ?_
              refine fa_methodParams dmethod_163 ?_
              refine ja_iload_n dmethod_166 rfl rfl ?_
              refine ja_aload_n dmethod_167 rfl rfl ?_
              refine fg_params (v := h44 0 82) rfl dmethod_168 ?_
              have f46 := gF_params g45
              have g47 := gW_methodParams g45 (h 0 34).toNat (x := h44 0 82) ⟨by omega, by omega⟩
              refine is_methodParams ⟨by omega, by omega⟩ dmethod_171 ?_
              refine ja_aload_n dmethod_172 rfl rfl ?_
              refine fa_pointArgs dmethod_173 ?_
              refine ja_iload_n dmethod_176 rfl rfl ?_
              refine ja_aload_n dmethod_177 rfl rfl ?_
              refine fg_params (v := h44 0 82) rfl dmethod_178 ?_
              have g48 := gW_pointArgs g47 (h 0 88).toNat (x := h44 0 82) ⟨by omega, by omega⟩
              refine is_pointArgs ⟨by omega, by omega⟩ dmethod_181 ?_
              refine ja_iconst dmethod_182 ?_
              refine ja_istore dmethod_183 (by decide) (L2 := [(4, (0, 0)), (3, (0, (h 0 88))), (2, (0, (h 0 34))), (0, (2, ((0 : Nat) : Int))), (1, (0, a1))]) rfl ?_
              exact ja_wk (fun q hq => by simp only [List.mem_cons, List.not_mem_nil, or_false] at hq; rcases hq with rfl | rfl | rfl <;> rfl) ((CUT _) 0 (ja_up (ja_up h44 22 ((h 0 34).toNat) (h44 0 82)) 55 ((h 0 88).toNat) (h44 0 82)) g48 ⟨by decide, by decide⟩ (⟨md_init g (by omega) (by omega) k154_0.1 (show (h 0 7) + 1 < (h44 0 7) by omega) (fun z => by have z2 : (h44 0 11) = 0 := z; omega) (show (h44 0 82) ≤ 6 by omega), (show 0 ≤ 0 ∧ 0 ≤ (h44 0 82) by omega)⟩) rfl)
            · intro h49 k154_1 g50
              replace k154_1 : 0 < (h49 0 8) ∧ (h49 0 1) = (h 0 1) ∧ (h49 0 118) = (h 0 118) ∧ (h49 0 127) = (h 0 127) := k154_1
              refine ja_if_ne 162 dmethod_157 rfl ⟨by decide, by decide⟩ (fun c157 => absurd c157 (by omega)) (fun c157 => ?_)
              refine ja_iconst dmethod_160 ?_
              refine ja_zreturn dmethod_161 rfl (by omega) ?_
              exact mo_fin (by omega) rfl (k2 h49 (by omega) g50)
          · intro h51 k113_1 g52
            replace k113_1 : 0 < (h51 0 8) ∧ (h51 0 1) = (h 0 1) ∧ (h51 0 118) = (h 0 118) ∧ (h51 0 127) = (h 0 127) := k113_1
            refine ja_if_ne 121 dmethod_116 rfl ⟨by decide, by decide⟩ (fun c116 => absurd c116 (by omega)) (fun c116 => ?_)
            refine ja_iconst dmethod_119 ?_
            refine ja_zreturn dmethod_120 rfl (by omega) ?_
            exact mo_fin (by omega) rfl (k2 h51 (by omega) g52)
      · intro h53 k42_1 g54
        replace k42_1 : 0 < (h53 0 8) ∧ (h53 0 1) = (h 0 1) ∧ (h53 0 118) = (h 0 118) ∧ (h53 0 127) = (h 0 127) ∧ (h53 0 41) = (h 0 41) := k42_1
        refine ja_goto 49 dmethod_45 rfl ?_
        refine ja_istore_n dmethod_49 rfl (by decide) (L2 := [(3, (0, (-1))), (2, (0, (h 0 34))), (0, (2, ((0 : Nat) : Int))), (1, (0, a1))]) rfl ?_
        refine ja_aload_n dmethod_50 rfl rfl ?_
        refine fa_methodName dmethod_51 ?_
        refine ja_iload_n dmethod_54 rfl rfl ?_
        refine ja_aload_n dmethod_55 rfl rfl ?_
        refine fg_at (v := h53 0 7) rfl dmethod_56 ?_
        have f55 := gF_at g54
        have g56 := gW_methodName g54 (h 0 34).toNat (x := h53 0 7) ⟨by omega, by omega⟩
        refine is_methodName ⟨by omega, by omega⟩ dmethod_59 ?_
        refine ja_aload_n dmethod_60 rfl rfl ?_
        refine fa_methodOf dmethod_61 ?_
        refine ja_iload_n dmethod_64 rfl rfl ?_
        refine ja_aload_n dmethod_65 rfl rfl ?_
        refine ja_iload_n dmethod_66 rfl rfl ?_
        refine t_id (by decide) (show (2 : Nat) ≤ 8 by decide) dmethod_67 g56 ⟨by omega, by omega⟩ (show 0 ≤ a1 ∧ a1 ≤ 900 by omega) ?_
        intro k67_0
        replace k67_0 : -2147483648 ≤ (h53 5 (a1).toNat) ∧ (h53 5 (a1).toNat) ≤ 2147483647 := k67_0
        show mJ l D cA ad 9 cX12_method 5 (some .boolean) 70 [(3, (0, (-1))), (2, (0, (h 0 34))), (0, (2, ((0 : Nat) : Int))), (1, (0, a1))] [(0, (h53 5 (a1).toNat)), (0, (h 0 34)), (2, ((20 : Nat) : Int))] (ja_up h53 19 ((h 0 34).toNat) (h53 0 7)) Q
        have g57 := gW_methodOf g56 (h 0 34).toNat (x := h53 5 (a1).toNat) ⟨by omega, by omega⟩
        refine is_methodOf ⟨by omega, by omega⟩ dmethod_70 ?_
        refine ja_aload_n dmethod_71 rfl rfl ?_
        refine fa_methodPoint dmethod_72 ?_
        refine ja_iload_n dmethod_75 rfl rfl ?_
        refine ja_iload_n dmethod_76 rfl rfl ?_
        have g58 := gW_methodPoint g57 (h 0 34).toNat (x := (-1)) ⟨by decide, by decide⟩
        refine is_methodPoint ⟨by omega, by omega⟩ dmethod_77 ?_
        refine ja_aload_n dmethod_78 rfl rfl ?_
        refine fa_memberName dmethod_79 ?_
        refine ja_aload_n dmethod_82 rfl rfl ?_
        refine fg_members (v := h53 0 41) rfl dmethod_83 ?_
        have f59 := gF_members g54
        refine ja_aload_n dmethod_86 rfl rfl ?_
        refine fg_at (v := h53 0 7) rfl dmethod_87 ?_
        have g60 := gW_memberName g58 (h53 0 41).toNat (x := h53 0 7) ⟨by omega, by omega⟩
        refine is_memberName ⟨by omega, by omega⟩ dmethod_90 ?_
        refine ja_aload_n dmethod_91 rfl rfl ?_
        refine fa_memberOf dmethod_92 ?_
        refine ja_aload_n dmethod_95 rfl rfl ?_
        refine fg_members (v := h53 0 41) rfl dmethod_96 ?_
        refine ja_aload_n dmethod_99 rfl rfl ?_
        refine ja_iload_n dmethod_100 rfl rfl ?_
        refine t_id (by decide) (show (2 : Nat) ≤ 8 by decide) dmethod_101 g60 ⟨by omega, by omega⟩ (show 0 ≤ a1 ∧ a1 ≤ 900 by omega) ?_
        intro k101_0
        replace k101_0 : -2147483648 ≤ (h53 5 (a1).toNat) ∧ (h53 5 (a1).toNat) ≤ 2147483647 := k101_0
        show mJ l D cA ad 9 cX12_method 5 (some .boolean) 104 [(3, (0, (-1))), (2, (0, (h 0 34))), (0, (2, ((0 : Nat) : Int))), (1, (0, a1))] [(0, (h53 5 (a1).toNat)), (0, (h53 0 41)), (2, ((26 : Nat) : Int))] (ja_up (ja_up (ja_up (ja_up h53 19 ((h 0 34).toNat) (h53 0 7)) 20 ((h 0 34).toNat) (h53 5 (a1).toNat)) 24 ((h 0 34).toNat) (-1)) 25 ((h53 0 41).toNat) (h53 0 7)) Q
        have g61 := gW_memberOf g60 (h53 0 41).toNat (x := h53 5 (a1).toNat) ⟨by omega, by omega⟩
        refine is_memberOf ⟨by omega, by omega⟩ dmethod_104 ?_
        refine ja_aload_n dmethod_105 rfl rfl ?_
        refine fg_bad (v := h53 0 8) rfl dmethod_106 ?_
        have f62 := gF_bad g54
        refine ja_if_gt 119 dmethod_109 rfl ⟨by omega, by omega⟩ (fun c109 => ?_) (fun c109 => ?_)
        · refine ja_iconst dmethod_119 ?_
          refine ja_zreturn dmethod_120 rfl (by omega) ?_
          exact mo_fin (by omega) rfl (k2 (ja_up (ja_up (ja_up (ja_up (ja_up h53 19 ((h 0 34).toNat) (h53 0 7)) 20 ((h 0 34).toNat) (h53 5 (a1).toNat)) 24 ((h 0 34).toNat) (-1)) 25 ((h53 0 41).toNat) (h53 0 7)) 26 ((h53 0 41).toNat) (h53 5 (a1).toNat)) (show 0 < (h53 0 8) ∧ (h53 0 1) = (h 0 1) ∧ (h53 0 118) = (h 0 118) ∧ (h53 0 127) = (h 0 127) by omega) g61)
        · refine ja_aload_n dmethod_112 rfl rfl ?_
          refine t_name (by decide) (show (0 : Nat) ≤ 8 by decide) dmethod_113 g61  ?_ ?_
          · intro k113_0 g63
            replace k113_0 : (h53 0 7) < 900 ∧ (h53 2 (h53 0 7).toNat) = 2 := k113_0
            replace g63 : mo_G Zz (ja_up (ja_up (ja_up (ja_up (ja_up (ja_up h53 19 ((h 0 34).toNat) (h53 0 7)) 20 ((h 0 34).toNat) (h53 5 (a1).toNat)) 24 ((h 0 34).toNat) (-1)) 25 ((h53 0 41).toNat) (h53 0 7)) 26 ((h53 0 41).toNat) (h53 5 (a1).toNat)) 0 7 ((h53 0 7) + 1)) := g63
            show mJ l D cA ad 9 cX12_method 5 (some .boolean) 116 [(3, (0, (-1))), (2, (0, (h 0 34))), (0, (2, ((0 : Nat) : Int))), (1, (0, a1))] [(0, 1)] (ja_up (ja_up (ja_up (ja_up (ja_up (ja_up h53 19 ((h 0 34).toNat) (h53 0 7)) 20 ((h 0 34).toNat) (h53 5 (a1).toNat)) 24 ((h 0 34).toNat) (-1)) 25 ((h53 0 41).toNat) (h53 0 7)) 26 ((h53 0 41).toNat) (h53 5 (a1).toNat)) 0 7 ((h53 0 7) + 1)) Q
            refine ja_if_ne 121 dmethod_116 rfl ⟨by decide, by decide⟩ (fun c116 => ?_) (fun c116 => absurd c116 (by omega))
            exfalso; omega
          · intro h64 k113_1 g65
            replace k113_1 : 0 < (h64 0 8) ∧ (h64 0 1) = (h53 0 1) ∧ (h64 0 118) = (h53 0 118) ∧ (h64 0 127) = (h53 0 127) := k113_1
            refine ja_if_ne 121 dmethod_116 rfl ⟨by decide, by decide⟩ (fun c116 => absurd c116 (by omega)) (fun c116 => ?_)
            refine ja_iconst dmethod_119 ?_
            refine ja_zreturn dmethod_120 rfl (by omega) ?_
            exact mo_fin (by omega) rfl (k2 h64 (by omega) g65)
  · have z4 := is1v k1_0 c4
    replace k1_0 := is1 k1_0 c4
    refine ja_aload_n dmethod_7 rfl rfl ?_
    refine fg_methods (v := h 0 34) rfl dmethod_8 ?_
    have f66 := gF_methods g
    refine ja_bipush 60 dmethod_11 rfl ?_
    refine ja_icmp_ne 22 dmethod_13 rfl ⟨by omega, by omega⟩ ⟨by decide, by decide⟩ (fun c13 => ?_) (fun c13 => ?_)
    · refine ja_aload_n dmethod_22 rfl rfl ?_
      refine fg_methods (v := h 0 34) rfl dmethod_23 ?_
      refine ja_istore_n dmethod_26 rfl (by decide) (L2 := [(2, (0, (h 0 34))), (0, (2, ((0 : Nat) : Int))), (1, (0, a1))]) rfl ?_
      refine ja_aload_n dmethod_27 rfl rfl ?_
      refine ja_iconst dmethod_28 ?_
      refine ja_iload_n dmethod_29 rfl rfl ?_
      refine t_beginBody (by decide) (show (0 : Nat) ≤ 8 by decide) dmethod_30 g ⟨by decide, by decide⟩ ⟨by omega, by omega⟩ (show 0 ≤ 1 ∧ 1 ≤ 3 by omega) (show 0 ≤ (h 0 34) ∧ (h 0 34) ≤ 60 by omega) ?_
      intro g67
      replace g67 : mo_G Zz (ja_up (ja_up (ja_up (ja_up h 0 74 1) 0 75 (h 0 34)) 0 77 0) 0 79 0) := g67
      show mJ l D cA ad 9 cX12_method 5 (some .boolean) 33 [(2, (0, (h 0 34))), (0, (2, ((0 : Nat) : Int))), (1, (0, a1))] [] (ja_up (ja_up (ja_up (ja_up h 0 74 1) 0 75 (h 0 34)) 0 77 0) 0 79 0) Q
      refine ja_aload_n dmethod_33 rfl rfl ?_
      refine t_isName (by decide) (show (0 : Nat) ≤ 8 by decide) dmethod_34 g67  ?_
      intro w68 k34_0
      replace k34_0 : (w68 = 1 ∧ (h 2 (h 0 7).toNat) = 2) ∨ (w68 = 0 ∧ ¬ (h 2 (h 0 7).toNat) = 2) := k34_0
      refine ja_if_eq 48 dmethod_37 rfl ⟨by omega, by omega⟩ (fun c37 => ?_) (fun c37 => ?_)
      · replace k34_0 := is0 k34_0 c37
        refine ja_iconst dmethod_48 ?_
        refine ja_istore_n dmethod_49 rfl (by decide) (L2 := [(3, (0, (-1))), (2, (0, (h 0 34))), (0, (2, ((0 : Nat) : Int))), (1, (0, a1))]) rfl ?_
        refine ja_aload_n dmethod_50 rfl rfl ?_
        refine fa_methodName dmethod_51 ?_
        refine ja_iload_n dmethod_54 rfl rfl ?_
        refine ja_aload_n dmethod_55 rfl rfl ?_
        refine fg_at (v := h 0 7) rfl dmethod_56 ?_
        have f69 := gF_at g
        have g70 := gW_methodName g67 (h 0 34).toNat (x := h 0 7) ⟨by omega, by omega⟩
        refine is_methodName ⟨by omega, by omega⟩ dmethod_59 ?_
        refine ja_aload_n dmethod_60 rfl rfl ?_
        refine fa_methodOf dmethod_61 ?_
        refine ja_iload_n dmethod_64 rfl rfl ?_
        refine ja_aload_n dmethod_65 rfl rfl ?_
        refine ja_iload_n dmethod_66 rfl rfl ?_
        refine t_id (by decide) (show (2 : Nat) ≤ 8 by decide) dmethod_67 g70 ⟨by omega, by omega⟩ (show 0 ≤ a1 ∧ a1 ≤ 900 by omega) ?_
        intro k67_0
        replace k67_0 : -2147483648 ≤ (h 5 (a1).toNat) ∧ (h 5 (a1).toNat) ≤ 2147483647 := k67_0
        show mJ l D cA ad 9 cX12_method 5 (some .boolean) 70 [(3, (0, (-1))), (2, (0, (h 0 34))), (0, (2, ((0 : Nat) : Int))), (1, (0, a1))] [(0, (h 5 (a1).toNat)), (0, (h 0 34)), (2, ((20 : Nat) : Int))] (ja_up (ja_up (ja_up (ja_up (ja_up h 0 74 1) 0 75 (h 0 34)) 0 77 0) 0 79 0) 19 ((h 0 34).toNat) (h 0 7)) Q
        have g71 := gW_methodOf g70 (h 0 34).toNat (x := h 5 (a1).toNat) ⟨by omega, by omega⟩
        refine is_methodOf ⟨by omega, by omega⟩ dmethod_70 ?_
        refine ja_aload_n dmethod_71 rfl rfl ?_
        refine fa_methodPoint dmethod_72 ?_
        refine ja_iload_n dmethod_75 rfl rfl ?_
        refine ja_iload_n dmethod_76 rfl rfl ?_
        have g72 := gW_methodPoint g71 (h 0 34).toNat (x := (-1)) ⟨by decide, by decide⟩
        refine is_methodPoint ⟨by omega, by omega⟩ dmethod_77 ?_
        refine ja_aload_n dmethod_78 rfl rfl ?_
        refine fa_memberName dmethod_79 ?_
        refine ja_aload_n dmethod_82 rfl rfl ?_
        refine fg_members (v := h 0 41) rfl dmethod_83 ?_
        have f73 := gF_members g
        refine ja_aload_n dmethod_86 rfl rfl ?_
        refine fg_at (v := h 0 7) rfl dmethod_87 ?_
        have g74 := gW_memberName g72 (h 0 41).toNat (x := h 0 7) ⟨by omega, by omega⟩
        refine is_memberName ⟨by omega, by omega⟩ dmethod_90 ?_
        refine ja_aload_n dmethod_91 rfl rfl ?_
        refine fa_memberOf dmethod_92 ?_
        refine ja_aload_n dmethod_95 rfl rfl ?_
        refine fg_members (v := h 0 41) rfl dmethod_96 ?_
        refine ja_aload_n dmethod_99 rfl rfl ?_
        refine ja_iload_n dmethod_100 rfl rfl ?_
        refine t_id (by decide) (show (2 : Nat) ≤ 8 by decide) dmethod_101 g74 ⟨by omega, by omega⟩ (show 0 ≤ a1 ∧ a1 ≤ 900 by omega) ?_
        intro k101_0
        replace k101_0 : -2147483648 ≤ (h 5 (a1).toNat) ∧ (h 5 (a1).toNat) ≤ 2147483647 := k101_0
        show mJ l D cA ad 9 cX12_method 5 (some .boolean) 104 [(3, (0, (-1))), (2, (0, (h 0 34))), (0, (2, ((0 : Nat) : Int))), (1, (0, a1))] [(0, (h 5 (a1).toNat)), (0, (h 0 41)), (2, ((26 : Nat) : Int))] (ja_up (ja_up (ja_up (ja_up (ja_up (ja_up (ja_up (ja_up h 0 74 1) 0 75 (h 0 34)) 0 77 0) 0 79 0) 19 ((h 0 34).toNat) (h 0 7)) 20 ((h 0 34).toNat) (h 5 (a1).toNat)) 24 ((h 0 34).toNat) (-1)) 25 ((h 0 41).toNat) (h 0 7)) Q
        have g75 := gW_memberOf g74 (h 0 41).toNat (x := h 5 (a1).toNat) ⟨by omega, by omega⟩
        refine is_memberOf ⟨by omega, by omega⟩ dmethod_104 ?_
        refine ja_aload_n dmethod_105 rfl rfl ?_
        refine fg_bad (v := h 0 8) rfl dmethod_106 ?_
        have f76 := gF_bad g
        refine ja_if_gt 119 dmethod_109 rfl ⟨by omega, by omega⟩ (fun c109 => ?_) (fun c109 => ?_)
        · refine ja_iconst dmethod_119 ?_
          refine ja_zreturn dmethod_120 rfl (by omega) ?_
          exact mo_fin (by omega) rfl (k2 (ja_up (ja_up (ja_up (ja_up (ja_up (ja_up (ja_up (ja_up (ja_up h 0 74 1) 0 75 (h 0 34)) 0 77 0) 0 79 0) 19 ((h 0 34).toNat) (h 0 7)) 20 ((h 0 34).toNat) (h 5 (a1).toNat)) 24 ((h 0 34).toNat) (-1)) 25 ((h 0 41).toNat) (h 0 7)) 26 ((h 0 41).toNat) (h 5 (a1).toNat)) (show 0 < (h 0 8) ∧ (h 0 1) = (h 0 1) ∧ (h 0 118) = (h 0 118) ∧ (h 0 127) = (h 0 127) by omega) g75)
        · refine ja_aload_n dmethod_112 rfl rfl ?_
          refine t_name (by decide) (show (0 : Nat) ≤ 8 by decide) dmethod_113 g75  ?_ ?_
          · intro k113_0 g77
            replace k113_0 : (h 0 7) < 900 ∧ (h 2 (h 0 7).toNat) = 2 := k113_0
            replace g77 : mo_G Zz (ja_up (ja_up (ja_up (ja_up (ja_up (ja_up (ja_up (ja_up (ja_up (ja_up h 0 74 1) 0 75 (h 0 34)) 0 77 0) 0 79 0) 19 ((h 0 34).toNat) (h 0 7)) 20 ((h 0 34).toNat) (h 5 (a1).toNat)) 24 ((h 0 34).toNat) (-1)) 25 ((h 0 41).toNat) (h 0 7)) 26 ((h 0 41).toNat) (h 5 (a1).toNat)) 0 7 ((h 0 7) + 1)) := g77
            show mJ l D cA ad 9 cX12_method 5 (some .boolean) 116 [(3, (0, (-1))), (2, (0, (h 0 34))), (0, (2, ((0 : Nat) : Int))), (1, (0, a1))] [(0, 1)] (ja_up (ja_up (ja_up (ja_up (ja_up (ja_up (ja_up (ja_up (ja_up (ja_up h 0 74 1) 0 75 (h 0 34)) 0 77 0) 0 79 0) 19 ((h 0 34).toNat) (h 0 7)) 20 ((h 0 34).toNat) (h 5 (a1).toNat)) 24 ((h 0 34).toNat) (-1)) 25 ((h 0 41).toNat) (h 0 7)) 26 ((h 0 41).toNat) (h 5 (a1).toNat)) 0 7 ((h 0 7) + 1)) Q
            refine ja_if_ne 121 dmethod_116 rfl ⟨by decide, by decide⟩ (fun c116 => ?_) (fun c116 => absurd c116 (by omega))
            exfalso; omega
          · intro h78 k113_1 g79
            replace k113_1 : 0 < (h78 0 8) ∧ (h78 0 1) = (h 0 1) ∧ (h78 0 118) = (h 0 118) ∧ (h78 0 127) = (h 0 127) := k113_1
            refine ja_if_ne 121 dmethod_116 rfl ⟨by decide, by decide⟩ (fun c116 => absurd c116 (by omega)) (fun c116 => ?_)
            refine ja_iconst dmethod_119 ?_
            refine ja_zreturn dmethod_120 rfl (by omega) ?_
            exact mo_fin (by omega) rfl (k2 h78 (by omega) g79)
      · have z37 := is1v k34_0 c37
        replace k34_0 := is1 k34_0 c37
        refine ja_aload_n dmethod_40 rfl rfl ?_
        refine ja_iconst dmethod_41 ?_
        refine t_newPoint (by decide) (show (0 : Nat) ≤ 8 by decide) dmethod_42 g67 ⟨by decide, by decide⟩ (show 0 ≤ 1 ∧ 1 ≤ 5 by omega) ?_ ?_
        · intro w80 w81 k42_0 g82
          replace k42_0 : (h 0 88) < 400 ∧ (((1 : Int) = 3 ∧ w80 = 2) ∨ (¬ (1 : Int) = 3 ∧ w80 = (1 : Int))) ∧ (((1 : Int) = 0 ∧ w81 = 0) ∨ (¬ (1 : Int) = 0 ∧ w81 = (h 0 34))) := k42_0
          replace g82 : mo_G Zz (ja_up (ja_up (ja_up (ja_up (ja_up (ja_up (ja_up (ja_up (ja_up (ja_up (ja_up h 0 74 1) 0 75 (h 0 34)) 0 77 0) 0 79 0) 52 ((h 0 88).toNat) 1) 53 ((h 0 88).toNat) (h 0 7)) 54 ((h 0 88).toNat) (-1)) 55 ((h 0 88).toNat) 0) 56 ((h 0 88).toNat) w80) 57 ((h 0 88).toNat) w81) 0 88 ((h 0 88) + 1)) := g82
          show mJ l D cA ad 9 cX12_method 5 (some .boolean) 45 [(2, (0, (h 0 34))), (0, (2, ((0 : Nat) : Int))), (1, (0, a1))] [(0, (h 0 88))] (ja_up (ja_up (ja_up (ja_up (ja_up (ja_up (ja_up (ja_up (ja_up (ja_up (ja_up h 0 74 1) 0 75 (h 0 34)) 0 77 0) 0 79 0) 52 ((h 0 88).toNat) 1) 53 ((h 0 88).toNat) (h 0 7)) 54 ((h 0 88).toNat) (-1)) 55 ((h 0 88).toNat) 0) 56 ((h 0 88).toNat) w80) 57 ((h 0 88).toNat) w81) 0 88 ((h 0 88) + 1)) Q
          refine ja_goto 49 dmethod_45 rfl ?_
          refine ja_istore_n dmethod_49 rfl (by decide) (L2 := [(3, (0, (h 0 88))), (2, (0, (h 0 34))), (0, (2, ((0 : Nat) : Int))), (1, (0, a1))]) rfl ?_
          refine ja_aload_n dmethod_50 rfl rfl ?_
          refine fa_methodName dmethod_51 ?_
          refine ja_iload_n dmethod_54 rfl rfl ?_
          refine ja_aload_n dmethod_55 rfl rfl ?_
          refine fg_at (v := h 0 7) rfl dmethod_56 ?_
          have f83 := gF_at g
          have g84 := gW_methodName g82 (h 0 34).toNat (x := h 0 7) ⟨by omega, by omega⟩
          refine is_methodName ⟨by omega, by omega⟩ dmethod_59 ?_
          refine ja_aload_n dmethod_60 rfl rfl ?_
          refine fa_methodOf dmethod_61 ?_
          refine ja_iload_n dmethod_64 rfl rfl ?_
          refine ja_aload_n dmethod_65 rfl rfl ?_
          refine ja_iload_n dmethod_66 rfl rfl ?_
          refine t_id (by decide) (show (2 : Nat) ≤ 8 by decide) dmethod_67 g84 ⟨by omega, by omega⟩ (show 0 ≤ a1 ∧ a1 ≤ 900 by omega) ?_
          intro k67_0
          replace k67_0 : -2147483648 ≤ (h 5 (a1).toNat) ∧ (h 5 (a1).toNat) ≤ 2147483647 := k67_0
          show mJ l D cA ad 9 cX12_method 5 (some .boolean) 70 [(3, (0, (h 0 88))), (2, (0, (h 0 34))), (0, (2, ((0 : Nat) : Int))), (1, (0, a1))] [(0, (h 5 (a1).toNat)), (0, (h 0 34)), (2, ((20 : Nat) : Int))] (ja_up (ja_up (ja_up (ja_up (ja_up (ja_up (ja_up (ja_up (ja_up (ja_up (ja_up (ja_up h 0 74 1) 0 75 (h 0 34)) 0 77 0) 0 79 0) 52 ((h 0 88).toNat) 1) 53 ((h 0 88).toNat) (h 0 7)) 54 ((h 0 88).toNat) (-1)) 55 ((h 0 88).toNat) 0) 56 ((h 0 88).toNat) w80) 57 ((h 0 88).toNat) w81) 0 88 ((h 0 88) + 1)) 19 ((h 0 34).toNat) (h 0 7)) Q
          have g85 := gW_methodOf g84 (h 0 34).toNat (x := h 5 (a1).toNat) ⟨by omega, by omega⟩
          refine is_methodOf ⟨by omega, by omega⟩ dmethod_70 ?_
          refine ja_aload_n dmethod_71 rfl rfl ?_
          refine fa_methodPoint dmethod_72 ?_
          refine ja_iload_n dmethod_75 rfl rfl ?_
          refine ja_iload_n dmethod_76 rfl rfl ?_
          have g86 := gW_methodPoint g85 (h 0 34).toNat (x := h 0 88) ⟨by omega, by omega⟩
          refine is_methodPoint ⟨by omega, by omega⟩ dmethod_77 ?_
          refine ja_aload_n dmethod_78 rfl rfl ?_
          refine fa_memberName dmethod_79 ?_
          refine ja_aload_n dmethod_82 rfl rfl ?_
          refine fg_members (v := h 0 41) rfl dmethod_83 ?_
          have f87 := gF_members g
          refine ja_aload_n dmethod_86 rfl rfl ?_
          refine fg_at (v := h 0 7) rfl dmethod_87 ?_
          have g88 := gW_memberName g86 (h 0 41).toNat (x := h 0 7) ⟨by omega, by omega⟩
          refine is_memberName ⟨by omega, by omega⟩ dmethod_90 ?_
          refine ja_aload_n dmethod_91 rfl rfl ?_
          refine fa_memberOf dmethod_92 ?_
          refine ja_aload_n dmethod_95 rfl rfl ?_
          refine fg_members (v := h 0 41) rfl dmethod_96 ?_
          refine ja_aload_n dmethod_99 rfl rfl ?_
          refine ja_iload_n dmethod_100 rfl rfl ?_
          refine t_id (by decide) (show (2 : Nat) ≤ 8 by decide) dmethod_101 g88 ⟨by omega, by omega⟩ (show 0 ≤ a1 ∧ a1 ≤ 900 by omega) ?_
          intro k101_0
          replace k101_0 : -2147483648 ≤ (h 5 (a1).toNat) ∧ (h 5 (a1).toNat) ≤ 2147483647 := k101_0
          show mJ l D cA ad 9 cX12_method 5 (some .boolean) 104 [(3, (0, (h 0 88))), (2, (0, (h 0 34))), (0, (2, ((0 : Nat) : Int))), (1, (0, a1))] [(0, (h 5 (a1).toNat)), (0, (h 0 41)), (2, ((26 : Nat) : Int))] (ja_up (ja_up (ja_up (ja_up (ja_up (ja_up (ja_up (ja_up (ja_up (ja_up (ja_up (ja_up (ja_up (ja_up (ja_up h 0 74 1) 0 75 (h 0 34)) 0 77 0) 0 79 0) 52 ((h 0 88).toNat) 1) 53 ((h 0 88).toNat) (h 0 7)) 54 ((h 0 88).toNat) (-1)) 55 ((h 0 88).toNat) 0) 56 ((h 0 88).toNat) w80) 57 ((h 0 88).toNat) w81) 0 88 ((h 0 88) + 1)) 19 ((h 0 34).toNat) (h 0 7)) 20 ((h 0 34).toNat) (h 5 (a1).toNat)) 24 ((h 0 34).toNat) (h 0 88)) 25 ((h 0 41).toNat) (h 0 7)) Q
          have g89 := gW_memberOf g88 (h 0 41).toNat (x := h 5 (a1).toNat) ⟨by omega, by omega⟩
          refine is_memberOf ⟨by omega, by omega⟩ dmethod_104 ?_
          refine ja_aload_n dmethod_105 rfl rfl ?_
          refine fg_bad (v := h 0 8) rfl dmethod_106 ?_
          have f90 := gF_bad g
          refine ja_if_gt 119 dmethod_109 rfl ⟨by omega, by omega⟩ (fun c109 => ?_) (fun c109 => ?_)
          · refine ja_iconst dmethod_119 ?_
            refine ja_zreturn dmethod_120 rfl (by omega) ?_
            exact mo_fin (by omega) rfl (k2 (ja_up (ja_up (ja_up (ja_up (ja_up (ja_up (ja_up (ja_up (ja_up (ja_up (ja_up (ja_up (ja_up (ja_up (ja_up (ja_up h 0 74 1) 0 75 (h 0 34)) 0 77 0) 0 79 0) 52 ((h 0 88).toNat) 1) 53 ((h 0 88).toNat) (h 0 7)) 54 ((h 0 88).toNat) (-1)) 55 ((h 0 88).toNat) 0) 56 ((h 0 88).toNat) w80) 57 ((h 0 88).toNat) w81) 0 88 ((h 0 88) + 1)) 19 ((h 0 34).toNat) (h 0 7)) 20 ((h 0 34).toNat) (h 5 (a1).toNat)) 24 ((h 0 34).toNat) (h 0 88)) 25 ((h 0 41).toNat) (h 0 7)) 26 ((h 0 41).toNat) (h 5 (a1).toNat)) (show 0 < (h 0 8) ∧ (h 0 1) = (h 0 1) ∧ (h 0 118) = (h 0 118) ∧ (h 0 127) = (h 0 127) by omega) g89)
          · refine ja_aload_n dmethod_112 rfl rfl ?_
            refine t_name (by decide) (show (0 : Nat) ≤ 8 by decide) dmethod_113 g89  ?_ ?_
            · intro k113_0 g91
              replace k113_0 : (h 0 7) < 900 ∧ (h 2 (h 0 7).toNat) = 2 := k113_0
              replace g91 : mo_G Zz (ja_up (ja_up (ja_up (ja_up (ja_up (ja_up (ja_up (ja_up (ja_up (ja_up (ja_up (ja_up (ja_up (ja_up (ja_up (ja_up (ja_up h 0 74 1) 0 75 (h 0 34)) 0 77 0) 0 79 0) 52 ((h 0 88).toNat) 1) 53 ((h 0 88).toNat) (h 0 7)) 54 ((h 0 88).toNat) (-1)) 55 ((h 0 88).toNat) 0) 56 ((h 0 88).toNat) w80) 57 ((h 0 88).toNat) w81) 0 88 ((h 0 88) + 1)) 19 ((h 0 34).toNat) (h 0 7)) 20 ((h 0 34).toNat) (h 5 (a1).toNat)) 24 ((h 0 34).toNat) (h 0 88)) 25 ((h 0 41).toNat) (h 0 7)) 26 ((h 0 41).toNat) (h 5 (a1).toNat)) 0 7 ((h 0 7) + 1)) := g91
              show mJ l D cA ad 9 cX12_method 5 (some .boolean) 116 [(3, (0, (h 0 88))), (2, (0, (h 0 34))), (0, (2, ((0 : Nat) : Int))), (1, (0, a1))] [(0, 1)] (ja_up (ja_up (ja_up (ja_up (ja_up (ja_up (ja_up (ja_up (ja_up (ja_up (ja_up (ja_up (ja_up (ja_up (ja_up (ja_up (ja_up h 0 74 1) 0 75 (h 0 34)) 0 77 0) 0 79 0) 52 ((h 0 88).toNat) 1) 53 ((h 0 88).toNat) (h 0 7)) 54 ((h 0 88).toNat) (-1)) 55 ((h 0 88).toNat) 0) 56 ((h 0 88).toNat) w80) 57 ((h 0 88).toNat) w81) 0 88 ((h 0 88) + 1)) 19 ((h 0 34).toNat) (h 0 7)) 20 ((h 0 34).toNat) (h 5 (a1).toNat)) 24 ((h 0 34).toNat) (h 0 88)) 25 ((h 0 41).toNat) (h 0 7)) 26 ((h 0 41).toNat) (h 5 (a1).toNat)) 0 7 ((h 0 7) + 1)) Q
              refine ja_if_ne 121 dmethod_116 rfl ⟨by decide, by decide⟩ (fun c116 => ?_) (fun c116 => absurd c116 (by omega))
              refine ja_aload_n dmethod_121 rfl rfl ?_
              refine fa_pointName dmethod_122 ?_
              refine ja_iload_n dmethod_125 rfl rfl ?_
              refine ja_aload_n dmethod_126 rfl rfl ?_
              refine fa_methodName dmethod_127 ?_
              refine ja_iload_n dmethod_130 rfl rfl ?_
              refine il_methodName (v := h 0 7) (by simp [ja_up]) ⟨by omega, by omega⟩ dmethod_131 ?_
              have g92 := gW_pointName g91 (h 0 88).toNat (x := h 0 7) ⟨by omega, by omega⟩
              refine is_pointName ⟨by omega, by omega⟩ dmethod_132 ?_
              refine ja_aload_n dmethod_133 rfl rfl ?_
              refine ja_dup dmethod_134 (by decide) ?_
              refine fg_methods (v := h 0 34) rfl dmethod_135 ?_
              refine ja_iconst dmethod_138 ?_
              refine ja_iadd dmethod_139 ?_
              have g93 := gP_methods g92 (x := (h 0 34) + 1) ⟨by omega, by omega⟩
              refine fp_methods dmethod_140 ?_
              refine ja_aload_n dmethod_143 rfl rfl ?_
              refine ja_dup dmethod_144 (by decide) ?_
              refine fg_members (v := h 0 41) rfl dmethod_145 ?_
              refine ja_iconst dmethod_148 ?_
              refine ja_iadd dmethod_149 ?_
              have g94 := gP_members g93 (x := (h 0 41) + 1) ⟨by omega, by omega⟩
              refine fp_members dmethod_150 ?_
              refine ja_aload_n dmethod_153 rfl rfl ?_
              refine t_paramRow (by decide) (show (0 : Nat) ≤ 8 by decide) dmethod_154 g94  ?_ ?_
              · intro h95 k154_0 g96
                replace k154_0 : mo_ag FPR (ja_up (ja_up (ja_up (ja_up (ja_up (ja_up (ja_up (ja_up (ja_up (ja_up (ja_up (ja_up (ja_up (ja_up (ja_up (ja_up (ja_up (ja_up (ja_up (ja_up h 0 74 1) 0 75 (h 0 34)) 0 77 0) 0 79 0) 52 ((h 0 88).toNat) 1) 53 ((h 0 88).toNat) (h 0 7)) 54 ((h 0 88).toNat) (-1)) 55 ((h 0 88).toNat) 0) 56 ((h 0 88).toNat) w80) 57 ((h 0 88).toNat) w81) 0 88 ((h 0 88) + 1)) 19 ((h 0 34).toNat) (h 0 7)) 20 ((h 0 34).toNat) (h 5 (a1).toNat)) 24 ((h 0 34).toNat) (h 0 88)) 25 ((h 0 41).toNat) (h 0 7)) 26 ((h 0 41).toNat) (h 5 (a1).toNat)) 0 7 ((h 0 7) + 1)) 54 ((h 0 88).toNat) (h 0 7)) 0 34 ((h 0 34) + 1)) 0 41 ((h 0 41) + 1)) h95 ∧ ((h 0 7) + 1) < (h95 0 7) ∧ ((h95 0 11) = 0 → (h 0 11) = 0) ∧ (h95 0 82) ≤ 6 := k154_0
                refine ja_if_ne 162 dmethod_157 rfl ⟨by decide, by decide⟩ (fun c157 => ?_) (fun c157 => absurd c157 (by omega))
                refine ja_aload_n dmethod_162 rfl rfl ?_
                refine fa_methodParams dmethod_163 ?_
                refine ja_iload_n dmethod_166 rfl rfl ?_
                refine ja_aload_n dmethod_167 rfl rfl ?_
                refine fg_params (v := h95 0 82) rfl dmethod_168 ?_
                have f97 := gF_params g96
                have g98 := gW_methodParams g96 (h 0 34).toNat (x := h95 0 82) ⟨by omega, by omega⟩
                refine is_methodParams ⟨by omega, by omega⟩ dmethod_171 ?_
                refine ja_aload_n dmethod_172 rfl rfl ?_
                refine fa_pointArgs dmethod_173 ?_
                refine ja_iload_n dmethod_176 rfl rfl ?_
                refine ja_aload_n dmethod_177 rfl rfl ?_
                refine fg_params (v := h95 0 82) rfl dmethod_178 ?_
                have g99 := gW_pointArgs g98 (h 0 88).toNat (x := h95 0 82) ⟨by omega, by omega⟩
                refine is_pointArgs ⟨by omega, by omega⟩ dmethod_181 ?_
                refine ja_iconst dmethod_182 ?_
                refine ja_istore dmethod_183 (by decide) (L2 := [(4, (0, 0)), (3, (0, (h 0 88))), (2, (0, (h 0 34))), (0, (2, ((0 : Nat) : Int))), (1, (0, a1))]) rfl ?_
                exact ja_wk (fun q hq => by simp only [List.mem_cons, List.not_mem_nil, or_false] at hq; rcases hq with rfl | rfl | rfl <;> rfl) ((CUT _) 0 (ja_up (ja_up h95 22 ((h 0 34).toNat) (h95 0 82)) 55 ((h 0 88).toNat) (h95 0 82)) g99 ⟨by decide, by decide⟩ (⟨md_init g (by omega) (by omega) k154_0.1 (show (h 0 7) + 1 < (h95 0 7) by omega) (fun z => by have z2 : (h95 0 11) = 0 := z; omega) (show (h95 0 82) ≤ 6 by omega), (show 0 ≤ 0 ∧ 0 ≤ (h95 0 82) by omega)⟩) rfl)
              · intro h100 k154_1 g101
                replace k154_1 : 0 < (h100 0 8) ∧ (h100 0 1) = (h 0 1) ∧ (h100 0 118) = (h 0 118) ∧ (h100 0 127) = (h 0 127) := k154_1
                refine ja_if_ne 162 dmethod_157 rfl ⟨by decide, by decide⟩ (fun c157 => absurd c157 (by omega)) (fun c157 => ?_)
                refine ja_iconst dmethod_160 ?_
                refine ja_zreturn dmethod_161 rfl (by omega) ?_
                exact mo_fin (by omega) rfl (k2 h100 (by omega) g101)
            · intro h102 k113_1 g103
              replace k113_1 : 0 < (h102 0 8) ∧ (h102 0 1) = (h 0 1) ∧ (h102 0 118) = (h 0 118) ∧ (h102 0 127) = (h 0 127) := k113_1
              refine ja_if_ne 121 dmethod_116 rfl ⟨by decide, by decide⟩ (fun c116 => absurd c116 (by omega)) (fun c116 => ?_)
              refine ja_iconst dmethod_119 ?_
              refine ja_zreturn dmethod_120 rfl (by omega) ?_
              exact mo_fin (by omega) rfl (k2 h102 (by omega) g103)
        · intro h104 k42_1 g105
          replace k42_1 : 0 < (h104 0 8) ∧ (h104 0 1) = (h 0 1) ∧ (h104 0 118) = (h 0 118) ∧ (h104 0 127) = (h 0 127) ∧ (h104 0 41) = (h 0 41) := k42_1
          refine ja_goto 49 dmethod_45 rfl ?_
          refine ja_istore_n dmethod_49 rfl (by decide) (L2 := [(3, (0, (-1))), (2, (0, (h 0 34))), (0, (2, ((0 : Nat) : Int))), (1, (0, a1))]) rfl ?_
          refine ja_aload_n dmethod_50 rfl rfl ?_
          refine fa_methodName dmethod_51 ?_
          refine ja_iload_n dmethod_54 rfl rfl ?_
          refine ja_aload_n dmethod_55 rfl rfl ?_
          refine fg_at (v := h104 0 7) rfl dmethod_56 ?_
          have f106 := gF_at g105
          have g107 := gW_methodName g105 (h 0 34).toNat (x := h104 0 7) ⟨by omega, by omega⟩
          refine is_methodName ⟨by omega, by omega⟩ dmethod_59 ?_
          refine ja_aload_n dmethod_60 rfl rfl ?_
          refine fa_methodOf dmethod_61 ?_
          refine ja_iload_n dmethod_64 rfl rfl ?_
          refine ja_aload_n dmethod_65 rfl rfl ?_
          refine ja_iload_n dmethod_66 rfl rfl ?_
          refine t_id (by decide) (show (2 : Nat) ≤ 8 by decide) dmethod_67 g107 ⟨by omega, by omega⟩ (show 0 ≤ a1 ∧ a1 ≤ 900 by omega) ?_
          intro k67_0
          replace k67_0 : -2147483648 ≤ (h104 5 (a1).toNat) ∧ (h104 5 (a1).toNat) ≤ 2147483647 := k67_0
          show mJ l D cA ad 9 cX12_method 5 (some .boolean) 70 [(3, (0, (-1))), (2, (0, (h 0 34))), (0, (2, ((0 : Nat) : Int))), (1, (0, a1))] [(0, (h104 5 (a1).toNat)), (0, (h 0 34)), (2, ((20 : Nat) : Int))] (ja_up h104 19 ((h 0 34).toNat) (h104 0 7)) Q
          have g108 := gW_methodOf g107 (h 0 34).toNat (x := h104 5 (a1).toNat) ⟨by omega, by omega⟩
          refine is_methodOf ⟨by omega, by omega⟩ dmethod_70 ?_
          refine ja_aload_n dmethod_71 rfl rfl ?_
          refine fa_methodPoint dmethod_72 ?_
          refine ja_iload_n dmethod_75 rfl rfl ?_
          refine ja_iload_n dmethod_76 rfl rfl ?_
          have g109 := gW_methodPoint g108 (h 0 34).toNat (x := (-1)) ⟨by decide, by decide⟩
          refine is_methodPoint ⟨by omega, by omega⟩ dmethod_77 ?_
          refine ja_aload_n dmethod_78 rfl rfl ?_
          refine fa_memberName dmethod_79 ?_
          refine ja_aload_n dmethod_82 rfl rfl ?_
          refine fg_members (v := h104 0 41) rfl dmethod_83 ?_
          have f110 := gF_members g105
          refine ja_aload_n dmethod_86 rfl rfl ?_
          refine fg_at (v := h104 0 7) rfl dmethod_87 ?_
          have g111 := gW_memberName g109 (h104 0 41).toNat (x := h104 0 7) ⟨by omega, by omega⟩
          refine is_memberName ⟨by omega, by omega⟩ dmethod_90 ?_
          refine ja_aload_n dmethod_91 rfl rfl ?_
          refine fa_memberOf dmethod_92 ?_
          refine ja_aload_n dmethod_95 rfl rfl ?_
          refine fg_members (v := h104 0 41) rfl dmethod_96 ?_
          refine ja_aload_n dmethod_99 rfl rfl ?_
          refine ja_iload_n dmethod_100 rfl rfl ?_
          refine t_id (by decide) (show (2 : Nat) ≤ 8 by decide) dmethod_101 g111 ⟨by omega, by omega⟩ (show 0 ≤ a1 ∧ a1 ≤ 900 by omega) ?_
          intro k101_0
          replace k101_0 : -2147483648 ≤ (h104 5 (a1).toNat) ∧ (h104 5 (a1).toNat) ≤ 2147483647 := k101_0
          show mJ l D cA ad 9 cX12_method 5 (some .boolean) 104 [(3, (0, (-1))), (2, (0, (h 0 34))), (0, (2, ((0 : Nat) : Int))), (1, (0, a1))] [(0, (h104 5 (a1).toNat)), (0, (h104 0 41)), (2, ((26 : Nat) : Int))] (ja_up (ja_up (ja_up (ja_up h104 19 ((h 0 34).toNat) (h104 0 7)) 20 ((h 0 34).toNat) (h104 5 (a1).toNat)) 24 ((h 0 34).toNat) (-1)) 25 ((h104 0 41).toNat) (h104 0 7)) Q
          have g112 := gW_memberOf g111 (h104 0 41).toNat (x := h104 5 (a1).toNat) ⟨by omega, by omega⟩
          refine is_memberOf ⟨by omega, by omega⟩ dmethod_104 ?_
          refine ja_aload_n dmethod_105 rfl rfl ?_
          refine fg_bad (v := h104 0 8) rfl dmethod_106 ?_
          have f113 := gF_bad g105
          refine ja_if_gt 119 dmethod_109 rfl ⟨by omega, by omega⟩ (fun c109 => ?_) (fun c109 => ?_)
          · refine ja_iconst dmethod_119 ?_
            refine ja_zreturn dmethod_120 rfl (by omega) ?_
            exact mo_fin (by omega) rfl (k2 (ja_up (ja_up (ja_up (ja_up (ja_up h104 19 ((h 0 34).toNat) (h104 0 7)) 20 ((h 0 34).toNat) (h104 5 (a1).toNat)) 24 ((h 0 34).toNat) (-1)) 25 ((h104 0 41).toNat) (h104 0 7)) 26 ((h104 0 41).toNat) (h104 5 (a1).toNat)) (show 0 < (h104 0 8) ∧ (h104 0 1) = (h 0 1) ∧ (h104 0 118) = (h 0 118) ∧ (h104 0 127) = (h 0 127) by omega) g112)
          · refine ja_aload_n dmethod_112 rfl rfl ?_
            refine t_name (by decide) (show (0 : Nat) ≤ 8 by decide) dmethod_113 g112  ?_ ?_
            · intro k113_0 g114
              replace k113_0 : (h104 0 7) < 900 ∧ (h104 2 (h104 0 7).toNat) = 2 := k113_0
              replace g114 : mo_G Zz (ja_up (ja_up (ja_up (ja_up (ja_up (ja_up h104 19 ((h 0 34).toNat) (h104 0 7)) 20 ((h 0 34).toNat) (h104 5 (a1).toNat)) 24 ((h 0 34).toNat) (-1)) 25 ((h104 0 41).toNat) (h104 0 7)) 26 ((h104 0 41).toNat) (h104 5 (a1).toNat)) 0 7 ((h104 0 7) + 1)) := g114
              show mJ l D cA ad 9 cX12_method 5 (some .boolean) 116 [(3, (0, (-1))), (2, (0, (h 0 34))), (0, (2, ((0 : Nat) : Int))), (1, (0, a1))] [(0, 1)] (ja_up (ja_up (ja_up (ja_up (ja_up (ja_up h104 19 ((h 0 34).toNat) (h104 0 7)) 20 ((h 0 34).toNat) (h104 5 (a1).toNat)) 24 ((h 0 34).toNat) (-1)) 25 ((h104 0 41).toNat) (h104 0 7)) 26 ((h104 0 41).toNat) (h104 5 (a1).toNat)) 0 7 ((h104 0 7) + 1)) Q
              refine ja_if_ne 121 dmethod_116 rfl ⟨by decide, by decide⟩ (fun c116 => ?_) (fun c116 => absurd c116 (by omega))
              exfalso; omega
            · intro h115 k113_1 g116
              replace k113_1 : 0 < (h115 0 8) ∧ (h115 0 1) = (h104 0 1) ∧ (h115 0 118) = (h104 0 118) ∧ (h115 0 127) = (h104 0 127) := k113_1
              refine ja_if_ne 121 dmethod_116 rfl ⟨by decide, by decide⟩ (fun c116 => absurd c116 (by omega)) (fun c116 => ?_)
              refine ja_iconst dmethod_119 ?_
              refine ja_zreturn dmethod_120 rfl (by omega) ?_
              exact mo_fin (by omega) rfl (k2 h115 (by omega) g116)
    · refine ja_aload_n dmethod_16 rfl rfl ?_
      refine ja_iconst dmethod_17 ?_
      refine t_halt (by decide) (show (0 : Nat) ≤ 8 by decide) dmethod_18 g ⟨by decide, by decide⟩ (show 1 ≤ 3 ∧ 3 ≤ 8 by omega) ?_
      intro h117 k18_0 g118
      refine ja_zreturn dmethod_21 rfl (by omega) ?_
      exact mo_fin (by omega) rfl (k2 h117 (by omega) g118)
theorem t_method {a1 : Int} {ht st rg : Nat → Int} {d nL pc : Nat} {cc : ByteArray} {rt : Option FieldType} {L : List (Nat × ja_V)} {S : List ja_V} {h : ja_H} {Q : Option ja_V → ja_H → Prop} (hdd : 9 < d) (hwd : ja_wd S ≤ 8) (hd : decode cc pc = .ok (.invokevirtual 748, 3)) (g : mo_G Zz h) (r1 : -2147483648 ≤ a1 ∧ a1 ≤ 2147483647) (p1 : it h ht st rg) (p2 : 0 ≤ a1 ∧ a1 ≤ 900) (p3 : (h 0 41) < (h 0 7)) (k1 : ∀ (h' : ja_H), ((∃ ht st rg : Nat → Int, it h' ht st rg) ∧ (h 0 7) < (h' 0 7) ∧ mo_ag FKP h h') → mo_G Zz h' → mJ l D cA ad d cc nL rt (pc + 3) L ((0, 1) :: S) h' Q) (k2 : ∀ (h' : ja_H), (0 < (h' 0 8) ∧ (h' 0 1) = (h 0 1) ∧ (h' 0 118) = (h 0 118) ∧ (h' 0 127) = (h 0 127)) → mo_G Zz h' → mJ l D cA ad d cc nL rt (pc + 3) L ((0, 0) :: S) h' Q) : mJ l D cA ad d cc nL rt pc L ((0, a1) :: (2, ((0 : Nat) : Int)) :: S) h Q :=
  mc_method hdd hwd hd (s_method g r1 p1 p2 p3 k1 k2)
end
