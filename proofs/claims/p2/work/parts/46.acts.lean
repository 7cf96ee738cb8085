/-! the reference's parser: a word, with a want or a judgement -/
def FE1g : Nat → Nat → Bool := mo_F [88, 95, 72, 85, 109, 74, 76, 86] [52, 55, 54, 56, 57, 58, 59, 60, 62, 63, 67, 47, 70]
theorem FE1g_FT (k j : Nat) (e : FT k j = true) : FE1g k j = true := by
  unfold FT mo_F at e; unfold FE1g mo_F
  split at e
  · next z => rw [if_pos z]; simp at e ⊢; omega
  · next z => rw [if_neg z]; simp at e ⊢; omega
def mo_W (h : ja_H) (a b c : Int) : ja_H := ja_up (ja_up (ja_up (ja_up h 45 ((h 0 68)).toNat a) 44 ((h 0 68)).toNat b) 46 ((h 0 68)).toNat c) 0 68 ((h 0 68) + 1)
theorem mo_W_wt {h : ja_H} {a b c k x y : Int} (h0 : 0 ≤ (h 0 68)) (q : pw_wt h k x y) : pw_wt (mo_W h a b c) k x y := by
  refine pw_wt_ext (h := h) (show (h 0 68) ≤ (h 0 68) + 1 by omega) (fun j hj => ?_) q
  refine ⟨?_, ?_, ?_⟩ <;> simp [mo_W, ja_up] <;> (intros; omega)
theorem mo_W_new {h : ja_H} {a b c : Int} (h0 : 0 ≤ (h 0 68)) : pw_wt (mo_W h a b c) a b c := by
  refine ⟨(h 0 68).toNat, show (((h 0 68).toNat : Nat) : Int) < (h 0 68) + 1 by omega, ?_, ?_, fun _ => ?_⟩ <;> simp [mo_W, ja_up]
theorem fin1g {h H : ja_H} {R r ph tf q0 m c1 e1 : Int} {x : mo_A} {s s' : List mo_A} {ht st rg : Nat → Int} (g : mo_G h) (hB : piB h R r ph tf q0 (x :: s) ht st rg) (hreg : x.1 ≤ 30 ∨ 38 ≤ x.1) (hS' : pk_S H (H 0 17).toNat s') (ag : mo_ag FE1g h H) (hf : (H 0 11) = 0 → (h 0 11) = 0) (hv : ∀ k a b, pw_wt h k a b → pw_wt H k a b) (hwa : (H 0 68) < (H 0 7))
    (hw : (H 0 113) = (h 0 113) + 1) (hold : ∀ w : Nat, (w : Int) < (h 0 113) → (H 74) w = (h 74) w ∧ (H 75) w = (h 75) w ∧ (H 76) w = (h 76) w) (ho : (H 74) (h 0 113).toNat ≠ 15)
    (hx : ∀ w : Int, ¬ pj x w) (hsub : ∀ y ∈ s, y ∈ s') (hpp : ∀ p, pp_in s' p → pp_in (x :: s) p)
    (n1 : (H 0 18) = pk_sum pk_c s') (n2 : (h 0 113) + 1 + pk_sum pk_v s' ≤ 5 * (H 0 7)) (n3 : (h 0 95) + pk_sum pk_d s' < (H 0 7)) (n5 : (H 0 84) = q0 + pk_sum pk_q s') (n6 : (H 0 87) = pk_sum pk_f s')
    (b : (H 0 79) ≤ (H 0 77) ∧ (H 0 77) ≤ 10 ∧ (¬ pt_let s' → (H 0 77) ≤ 9)) (hif : pi_if s' ↔ pi_if (x :: s)) (hal : ((∀ y ∈ x :: s, y.1 ≤ 30 ∨ 37 ≤ y.1) → ∀ y ∈ s', y.1 ≤ 30 ∨ 37 ≤ y.1) ∧ ((∀ y ∈ x :: s, y.1 ≤ 12 ∨ 31 ≤ y.1) → ∀ y ∈ s', y.1 ≤ 12 ∨ 31 ≤ y.1))
    (new : pw H (mo_x ht (h 0 113) c1) (mo_x st (h 0 113) e1) (mo_x rg (h 0 113) r) ((h 0 113) + 1) s' (h 0 113).toNat)
    (hpt : pt (H 74) (mo_x ht (h 0 113) c1) (mo_x st (h 0 113) e1) (mo_x rg (h 0 113) r) ((h 0 113) + 1) (h 0 88) (H 0 77) r tf (pi_wn h r) s' (c1 - pi_adj H s') (h 0 109) e1) (top : pi_top H (mo_x ht (h 0 113) c1) s') (mu : pi_mu H s' < m) (agk : mo_ag FK h H) : pi_done h H R r ph tf q0 m := by
  have hr := reg_of hB (by omega) (by omega)
  obtain ⟨⟨o1, o2, o3, o4, o5, o6, o7, o8, o9⟩, ⟨ob, -, -, -⟩, oreg, -, ⟨oC, oU⟩, oN, oP, oT, -⟩ := hB
  have w0 : 0 ≤ (h 0 113) := (gF_words g).1
  have e2 : (H 0 88) = (h 0 88) := ag _ _ rfl
  have e3 : (H 0 109) = (h 0 109) := ag _ _ rfl
  have e4 : (H 0 95) = (h 0 95) := ag _ _ rfl
  have e6 : (H 0 72) = (h 0 72) := ag _ _ rfl
  have e7 : (H 0 74) = (h 0 74) := ag _ _ rfl
  have e8 : (H 0 86) = (h 0 86) := ag _ _ rfl
  have e10 : (H 0 76) = (h 0 76) := ag _ _ rfl
  have k1 : (H 52) = (h 52) := funext fun j => ag _ _ rfl
  have k2 : (H 55) = (h 55) := funext fun j => ag _ _ rfl
  have k3 : (H 54) = (h 54) := funext fun j => ag _ _ rfl
  have k4 : (H 56) = (h 56) := funext fun j => ag _ _ rfl
  have k5 : (H 57) = (h 57) := funext fun j => ag _ _ rfl
  have l1 : (H 58) = (h 58) := funext fun j => ag _ _ rfl
  have l2 : (H 59) = (h 59) := funext fun j => ag _ _ rfl
  have l3 : (H 60) = (h 60) := funext fun j => ag _ _ rfl
  have l4 : (H 62) = (h 62) := funext fun j => ag _ _ rfl
  have l5 : (H 63) = (h 63) := funext fun j => ag _ _ rfl
  have l6 : (H 67) = (h 67) := funext fun j => ag _ _ rfl
  have l7 : (H 47) = (h 47) := funext fun j => ag _ _ rfl
  have ex : ∀ j : Nat, (j : Int) ≤ (h 0 113) → mo_x ht (h 0 113) c1 j = ht j ∧ mo_x st (h 0 113) e1 j = st j ∧ mo_x rg (h 0 113) r j = rg j := fun j hj => ⟨mo_xo w0 hj, mo_xo w0 hj, mo_xo w0 hj⟩
  refine ⟨⟨s', mo_x ht (h 0 113) c1, mo_x st (h 0 113) e1, mo_x rg (h 0 113) r, ⟨hS', ⟨n1, by rw [hw]; exact n2, by rw [e4]; exact n3, hwa, by rw [e6, e4]; exact o5, n5, n6, o8, o9⟩, ⟨e7.trans ob, b⟩, ?_, ?_, ⟨?_, ?_⟩, ?_, ?_, ?_, top⟩, mu⟩, agk⟩
  · rw [hw, e8, hif, mo_xn w0]
    rcases oreg with ⟨q1, q2, q3, q4, q5⟩ | ⟨q1, q2, q3, q4⟩
    · exact Or.inl ⟨q1, q2, q3, rfl, hal.1 q5⟩
    · exact Or.inr ⟨q1, q2, hal.2 q3, Or.inl ⟨(hr.2.1 q1).1, (hr.2.1 q1).2, q2⟩⟩
  · rw [hw, mo_xn w0, mo_xn w0, e2, e3]
    refine pt_ext (Int.le_refl _) (Int.le_refl _) (Int.le_refl _) (fun a z => ?_) (fun _ _ => ⟨rfl, rfl, rfl, rfl⟩) hpt
    unfold pi_wn at z ⊢
    rw [k1, k2, e10]
    exact ⟨fun y e => z.1 y (hf e), fun y e => ⟨(z.2.1 y (hf e)).1, hv _ _ _ (z.2.1 y (hf e)).2⟩, z.2.2⟩
  · rw [hw]
    intro w hw2
    rcases Int.lt_or_le (w : Int) (h 0 113) with q | q
    · refine pw_ext q (by omega) ex (hold w q) hf hv (Int.le_of_eq e2.symm) (fun _ _ _ q => ⟨?_, fun z => q (hpp _ z)⟩) (fun _ q => pj_tail (hx w) hsub q) (oC w q)
      unfold pw_pop; rw [k1, k2]
    · have e : w = (h 0 113).toNat := by omega
      rw [e]; exact new
  · rw [hw]
    exact pi_U_emit w0 oU (fun w q => ⟨(hold w q).1, (hold w q).2.1⟩) (fun z => absurd z ho)
  · rw [hw]
    refine pi_N_ext (h := H) (ht := ht) (st := st) (rg := rg) (W := (h 0 113)) (by omega) (fun j hj => ⟨(ex j (by omega)).1, (ex j (by omega)).2.2⟩) ag_refl ?_
    intro n hn
    rw [e4] at hn
    exact pn_f l1 l2 l3 l4 l5 l6 l7 e6 hf hv (oN n hn)
  · intro p hp
    rw [e2] at hp
    rw [k1, k3, k4, k5]
    obtain ⟨a1, a2, a3, a4⟩ := oP p hp
    exact ⟨a1, a2, a3, fun z => hv _ _ _ (a4 z)⟩
  · exact pi_T_ag (ag_sub FE1g_FT ag) oT
