/-! the reference's parser: several words at once -/
variable {Zz : Zc}
def pj_told (H : ja_H) (ht st rg ht' st' rg' : Nat → Int) (o : Int) (w : Nat) : Prop := (w : Int) < (H 75) w ∧ (H 75) w ≤ (H 0 113) ∧ ht' ((H 75) w).toNat = ht w + pw_th o ∧ rg' ((H 75) w).toNat = rg w + 8 * pw_tj o ∧ st' ((H 75) w).toNat + pw_ts o ≤ st w
theorem pi_C_X {h H : ja_H} {ht st rg ht' st' rg' : Nat → Int} {s s' : List mo_A} (hC : pi_C h ht st rg (h 0 113) s) (hf : (H 0 11) = 0 → (h 0 11) = 0) (hv : ∀ k a b, pw_wt h k a b → pw_wt H k a b) (hpo : (h 0 88) ≤ (H 0 88))
    (hpop : ∀ w : Nat, (w : Int) < (h 0 113) → (h 74) w = 15 → 0 ≤ (h 75) w → (h 75) w < (h 0 88) → ¬ pp_in s ((h 75) w) → pw_pop H ((h 75) w) = pw_pop h ((h 75) w) ∧ ¬ pp_in s' ((h 75) w))
    (hW : (h 0 113) ≤ (H 0 113)) (ex : ∀ j : Nat, (j : Int) ≤ (h 0 113) → ht' j = ht j ∧ st' j = st j ∧ rg' j = rg j)
    (hold : ∀ w : Nat, (w : Int) < (h 0 113) → (H 74) w = (h 74) w ∧ (H 76) w = (h 76) w ∧ (((H 75) w = (h 75) w ∧ (pj_in s w → pj_in s' w)) ∨ (pw_jmp ((h 74) w) ∧ pj_told H ht st rg ht' st' rg' ((h 74) w) w)))
    (new : ∀ w : Nat, (h 0 113) ≤ (w : Int) → (w : Int) < (H 0 113) → pw H ht' st' rg' (H 0 113) s' w) : pi_C H ht' st' rg' (H 0 113) s' := by
  intro w hw
  rcases Int.lt_or_le (w : Int) (h 0 113) with q | q
  · obtain ⟨e1, e2, e3⟩ := hold w q
    have hc := hC w q
    rcases e3 with ⟨e3, e4⟩ | ⟨hj, t1, t2, t3, t4, t5⟩
    · exact pw_ext q hW ex ⟨e1, e3, e2⟩ hf hv hpo (hpop w q) (fun _ z => e4 z) hc
    · obtain ⟨c1, c2, c3, c4, c5, c6, c7, c8, c9, c10, c11, c12, c13, c14, c15, c16⟩ := hc
      have n1 : ∀ z q q', pw_need ((h 74) w) z q = pw_need ((h 74) w) ((h 75) w) q' := by
        intro z q q'
        rcases hj with e | e | e | e | e | e <;> rw [e] <;> rfl
      have n2 : ∀ z q q', pw_eff ((h 74) w) z q = pw_eff ((h 74) w) ((h 75) w) q' := by
        intro z q q'
        rcases hj with e | e | e | e | e | e <;> rw [e] <;> rfl
      obtain ⟨x1, x2, x3⟩ := ex w (by omega)
      obtain ⟨y1, y2, y3⟩ := ex (w + 1) (by omega)
      unfold pw
      rw [e1, n1 ((H 75) w) _ (pw_pop h ((h 75) w)), n2 ((H 75) w) _ (pw_pop h ((h 75) w)), x1, x2, x3, y1, y2, y3]
      refine ⟨c1, c2, c3, c4, c5, c6, c7, c8, c9, fun _ => Or.inr ⟨by omega, t2, t3, t4, t5, Or.inl t1⟩, ?_, ?_, ?_, ?_, ?_, fun z => ⟨⟨(c16 z).1.1, (c16 z).1.2.1, fun y => ?_⟩, (c16 z).2⟩⟩
      case refine_6 => exfalso; rcases hj with e | e | e | e | e | e <;> rw [e] at y <;> simp at y
      all_goals intro z; exfalso; rcases hj with e | e | e | e | e | e <;> rw [e] at z <;> simp at z
  · exact new w q hw
theorem pi_U_X {h H : ja_H} (hU : pi_U h (h 0 113)) (hold : ∀ w : Nat, (w : Int) < (h 0 113) → (H 74) w = (h 74) w ∧ ((h 74) w = 15 → (H 75) w = (h 75) w)) (new : ∀ w v : Nat, w < v → (h 0 113) ≤ (v : Int) → (v : Int) < (H 0 113) → (H 74) w = 15 → (H 74) v = 15 → (H 75) w ≠ (H 75) v) : pi_U H (H 0 113) := by
  intro w v hwv hv z1 z2
  rcases Int.lt_or_le (v : Int) (h 0 113) with q | q
  · obtain ⟨a1, a2⟩ := hold w (by omega)
    obtain ⟨b1, b2⟩ := hold v q
    rw [a1] at z1; rw [b1] at z2
    rw [a2 z1, b2 z2]
    exact hU w v hwv q z1 z2
  · exact new w v hwv q hv z1 z2
def FEX : Nat → Nat → Bool := mo_F [88, 95, 72, 85, 109, 74, 76, 86, 34] [24, 52, 55, 54, 56, 57, 58, 59, 60, 62, 63, 67, 47, 70]
theorem FEX_FT (k j : Nat) (e : FT k j = true) : FEX k j = true := by
  unfold FT mo_F at e; unfold FEX mo_F
  split at e
  · next z => rw [if_pos z]; simp at e ⊢; omega
  · next z => rw [if_neg z]; simp at e ⊢; omega
theorem piBX {h H : ja_H} {R r ph q0 : Int} {tf : mo_TF} {s s' : List mo_A} {ht st rg ht' st' rg' : Nat → Int} {tu tu' : Int} (g : mo_G Zz h) (hB : piB h R r ph tf q0 s ht st rg tu) (ag : mo_ag FEX h H) (hf : (H 0 11) = 0 → (h 0 11) = 0) (hv : ∀ k a b, pw_wt h k a b → pw_wt H k a b)
    (hW : (h 0 113) ≤ (H 0 113)) (ex : ∀ j : Nat, (j : Int) ≤ (h 0 113) → ht' j = ht j ∧ st' j = st j ∧ rg' j = rg j)
    (hold : ∀ w : Nat, (w : Int) < (h 0 113) → (H 74) w = (h 74) w ∧ (H 76) w = (h 76) w ∧ (((H 75) w = (h 75) w ∧ (pj_in s w → pj_in s' w)) ∨ (pw_jmp ((h 74) w) ∧ pj_told H ht st rg ht' st' rg' ((h 74) w) w)))
    (hpp : ∀ w : Nat, (w : Int) < (h 0 113) → (h 74) w = 15 → ¬ pp_in s ((h 75) w) → ¬ pp_in s' ((h 75) w))
    (new : ∀ w : Nat, (h 0 113) ≤ (w : Int) → (w : Int) < (H 0 113) → pw H ht' st' rg' (H 0 113) s' w)
    (hU : ∀ w v : Nat, w < v → (h 0 113) ≤ (v : Int) → (v : Int) < (H 0 113) → (H 74) w = 15 → (H 74) v = 15 → (H 75) w ≠ (H 75) v)
    (n1 : (H 0 18) = pk_sum pk_c s') (n2 : (H 0 113) + pk_sum pk_v s' < 5 * (H 0 7)) (n3 : (h 0 95) + pk_sum pk_d s' < (H 0 7)) (hwa : (H 0 68) < (H 0 7)) (n5 : (H 0 84) = q0 + pk_sum pk_q s') (n6 : (H 0 87) = pk_sum pk_f s')
    (b : (ph = 1 ∨ (H 0 79) ≤ (H 0 77)) ∧ (ph = 1 ∨ (H 0 77) ≤ 10) ∧ (¬ pt_let s' → ph = 1 ∨ (H 0 77) ≤ 9))
    (hrg : rg' (H 0 113).toNat = r + 8 * tu') (hif : ph = 1 → tu' = 0 ∧ pi_if s' ∧ (h 0 86) = 1) (hal : ((∀ y ∈ s, y.1 ≤ 30 ∨ 37 ≤ y.1) → ∀ y ∈ s', y.1 ≤ 30 ∨ 37 ≤ y.1) ∧ ((∀ y ∈ s, y.1 ≤ 12 ∨ 31 ≤ y.1) → ∀ y ∈ s', y.1 ≤ 12 ∨ 31 ≤ y.1))
    (hpt : pt (H 74) ht' st' rg' (H 0 113) (h 0 88) (H 0 77) r tf (pi_wn h r) s' (ht' (H 0 113).toNat - pi_adj H s') (h 0 109) (st' (H 0 113).toNat) tu') (top : pi_top H ht' s') : piB H R r ph tf q0 s' ht' st' rg' tu' := by
  obtain ⟨⟨o1, o2, o3, o4, o5, o6, o7, o8, o9⟩, ⟨ob, -, -, -⟩, oreg, -, ⟨oC, oU⟩, oN, oP, oT, -⟩ := hB
  have w0 : 0 ≤ (h 0 113) := (gF_words g).1
  have e2 : (H 0 88) = (h 0 88) := ag _ _ rfl
  have e3 : (H 0 109) = (h 0 109) := ag _ _ rfl
  have e4 : (H 0 95) = (h 0 95) := ag _ _ rfl
  have e6 : (H 0 72) = (h 0 72) := ag _ _ rfl
  have e7 : (H 0 74) = (h 0 74) := ag _ _ rfl
  have e8 : (H 0 86) = (h 0 86) := ag _ _ rfl
  have e10 : (H 0 76) = (h 0 76) := ag _ _ rfl
  have k1 : (H 52) = (h 52) := funext fun j => ag _ _ rfl
  have k2 : (H 55) = (h 55) := funext fun j => ag _ _ rfl
  have k3 : (H 54) = (h 54) := funext fun j => ag _ _ rfl
  have k4 : (H 56) = (h 56) := funext fun j => ag _ _ rfl
  have k5 : (H 57) = (h 57) := funext fun j => ag _ _ rfl
  have l1 : (H 58) = (h 58) := funext fun j => ag _ _ rfl
  have l2 : (H 59) = (h 59) := funext fun j => ag _ _ rfl
  have l3 : (H 60) = (h 60) := funext fun j => ag _ _ rfl
  have l4 : (H 62) = (h 62) := funext fun j => ag _ _ rfl
  have l5 : (H 63) = (h 63) := funext fun j => ag _ _ rfl
  have l6 : (H 67) = (h 67) := funext fun j => ag _ _ rfl
  have l7 : (H 47) = (h 47) := funext fun j => ag _ _ rfl
  have m1 : (H 0 34) = (h 0 34) := ag _ _ rfl
  have m2 : (H 24) = (h 24) := funext fun j => ag _ _ rfl
  refine ⟨⟨n1, n2, by rw [e4]; exact n3, hwa, by rw [e6, e4]; exact o5, n5, n6, o8, o9⟩, ⟨e7.trans ob, b⟩, ?_, ?_, ⟨?_, ?_⟩, ?_, ?_, pi_T_ag (ag_sub FEX_FT ag) oT, top⟩
  · rw [e8]
    rcases oreg with ⟨q1, q2, q3, q4, q5⟩ | ⟨q1, q2, q3, q4⟩
    · exact Or.inl ⟨q1, q2, q3, hrg, hal.1 q5⟩
    · obtain ⟨z1, z2, z3⟩ := hif q1
      exact Or.inr ⟨q1, ⟨q2.1, z1⟩, hal.2 q3, Or.inl ⟨z2, z3, by omega⟩⟩
  · rw [e2, e3]
    refine pt_ext (Int.le_refl _) (Int.le_refl _) (Int.le_refl _) (fun a z => ?_) (fun _ _ => ⟨fun _ => rfl, rfl, rfl, rfl⟩) hpt
    unfold pi_wn at z ⊢
    rw [k1, k2, e10, e2]
    exact ⟨⟨fun y e => z.1.1 y (hf e), by rw [nf_keep e4 l6]; exact z.1.2⟩, fun y e => ⟨(z.2.1 y (hf e)).1, hv _ _ _ (z.2.1 y (hf e)).2⟩, z.2.2⟩
  · refine pi_C_X oC hf hv (Int.le_of_eq e2.symm) (fun w hw z _ _ q => ⟨?_, hpp w hw z q⟩) hW ex hold new
    unfold pw_pop; rw [k1, k2]
  · refine pi_U_X oU (fun w hw => ⟨(hold w hw).1, fun z => ?_⟩) hU
    rcases (hold w hw).2.2 with a | a
    · exact a.1
    · exfalso
      have := a.1
      rw [z] at this
      unfold pw_jmp at this
      omega
  · refine pi_N_ext (h := H) (ht := ht) (st := st) (rg := rg) (W := (h 0 113)) hW (fun j hj => ⟨(ex j (by omega)).1, (ex j (by omega)).2.2⟩) ag_refl ?_
    exact pN_f l1 l2 l3 l4 l5 l6 l7 e4 e6 hf hv oN
  · refine ⟨fun m hm => ?_, fun p hp => ?_⟩
    · rw [m1] at hm
      rw [m2, e2, k1]
      exact oP.1 m hm
    · rw [e2] at hp
      rw [k1, k3, k4, k5, m1]
      obtain ⟨a1, a2, a3, a4⟩ := oP.2 p hp
      exact ⟨a1, a2, a3, fun z => hv _ _ _ (a4 z)⟩
/-- a ghost's numbers from a place on -/
def mo_y (f : Nat → Int) (W : Int) (vs : List Int) : Nat → Int := fun i => if (i : Int) ≤ W then f i else vs.getD (i - W.toNat - 1) 0
theorem mo_yo {f : Nat → Int} {W : Int} {vs : List Int} {j : Nat} (hj : (j : Int) ≤ W) : mo_y f W vs j = f j := by
  unfold mo_y; rw [if_pos hj]
theorem mo_yn {f : Nat → Int} {W : Int} {vs : List Int} {j : Nat} (k : Nat) (h0 : 0 ≤ W) (hj : (j : Int) = W + 1 + k) : mo_y f W vs j = vs.getD k 0 := by
  unfold mo_y; rw [if_neg (by omega)]
  have : j - W.toNat - 1 = k := by omega
  rw [this]
