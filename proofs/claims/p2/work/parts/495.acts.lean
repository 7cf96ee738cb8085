/-! the reference's parser: a new POINT -/
variable {Zz : Zc}
def mo_NP (h : ja_H) (k sd wh : Int) : ja_H := ja_up (ja_up (ja_up (ja_up (ja_up (ja_up (ja_up h 52 ((h 0 88)).toNat k) 53 ((h 0 88)).toNat ((h 0 7))) 54 ((h 0 88)).toNat (-1)) 55 ((h 0 88)).toNat 0) 56 ((h 0 88)).toNat sd) 57 ((h 0 88)).toNat wh) 0 88 ((h 0 88) + 1)
/-- a TOKEN, a new POINT with its name: all but what the top act says -/
theorem piB_np {h : ja_H} {R r ph q0 k sd wh v : Int} {tf : mo_TF} {s : List mo_A} {ht st rg : Nat → Int} {tu : Int} (g : mo_G Zz h) (hB : piB h R r ph tf q0 s ht st rg tu) (hv : k = 5 ∨ 0 ≤ v) (h1 : k ≠ 1 ∧ k ≠ 2) (h2 : sd = 2 → wh ≤ 24) (hadj' : ∀ H : ja_H, H 0 21 = h 0 21 → pi_adj H s = pi_adj h s)
    (top : pi_top (ja_up (mo_tk (mo_NP h k sd wh)) 54 ((h 0 88)).toNat v) ht s) : piB (ja_up (mo_tk (mo_NP h k sd wh)) 54 ((h 0 88)).toNat v) R r ph tf q0 s ht st rg tu := by
  obtain ⟨⟨n1, n2, n3, n4, n5, n6, n7, n8, n9⟩, b, reg, hpt, ⟨hC, hU⟩, hN, hP, hT, -⟩ := hB
  have gp := (gF_points g).1
  generalize hH : ja_up (mo_tk (mo_NP h k sd wh)) 54 ((h 0 88)).toNat v = H at top
  have agN : mo_ag FN h H := by subst hH; unfold mo_tk mo_NP; repeat (refine ag_up rfl ?_)
                                exact ag_refl
  have agT : mo_ag FT h H := by subst hH; unfold mo_tk mo_NP; repeat (refine ag_up rfl ?_)
                                exact ag_refl
  have e1 : (H 0 18) = (h 0 18) ∧ (H 0 113) = (h 0 113) ∧ (H 0 7) = (h 0 7) + 1 ∧ (H 0 95) = (h 0 95) ∧ (H 0 68) = (h 0 68) ∧ (H 0 72) = (h 0 72) ∧ (H 0 84) = (h 0 84) ∧ (H 0 87) = (h 0 87) ∧ (H 0 74) = (h 0 74) ∧ (H 0 79) = (h 0 79) ∧ (H 0 77) = (h 0 77) ∧ (H 0 86) = (h 0 86) ∧ (H 0 109) = (h 0 109) ∧ (H 0 88) = (h 0 88) + 1 ∧ (H 0 11) = (h 0 11) ∧ (H 0 76) = (h 0 76) := by
    subst hH; exact ⟨rfl, rfl, rfl, rfl, rfl, rfl, rfl, rfl, rfl, rfl, rfl, rfl, rfl, rfl, rfl, rfl⟩
  have f1 : (H 74) = (h 74) := by subst hH; rfl
  have f2 : (H 75) = (h 75) := by subst hH; rfl
  have f3 : (H 76) = (h 76) := by subst hH; rfl
  have hwt : ∀ x y z, pw_wt h x y z → pw_wt H x y z := by subst hH; exact fun x y z q => q
  have old : ∀ j : Nat, j ≠ ((h 0 88)).toNat → (H 52) j = (h 52) j ∧ (H 55) j = (h 55) j ∧ (H 54) j = (h 54) j ∧ (H 56) j = (h 56) j ∧ (H 57) j = (h 57) j := by
    intro j hj; subst hH; refine ⟨?_, ?_, ?_, ?_, ?_⟩ <;> simp [mo_tk, mo_NP, ja_up, hj]
  have new : (H 52) ((h 0 88)).toNat = k ∧ (H 54) ((h 0 88)).toNat = v ∧ (H 56) ((h 0 88)).toNat = sd ∧ (H 57) ((h 0 88)).toNat = wh := by
    subst hH; refine ⟨?_, ?_, ?_, ?_⟩ <;> simp [mo_tk, mo_NP, ja_up]
  have hgv : (H 0 21) = (h 0 21) := by subst hH; rfl
  have hme : (H 0 34) = (h 0 34) := by subst hH; rfl
  have hmp : (H 24) = (h 24) := by subst hH; rfl
  clear hH
  obtain ⟨v1, v2, v3, v4, v5, v6, v7, v8, v9, v10, v11, v12, v13, v14, v15, v16⟩ := e1
  refine ⟨⟨by omega, by omega, by omega, by omega, by omega, by omega, by omega, n8, n9⟩, ?_, ?_, ?_, ⟨?_, ?_⟩, ?_, ?_, pi_T_ag agT hT, top⟩
  · rw [v9, v10, v11]; exact b
  · rw [v12, v2]; exact reg
  · rw [f1, v2, v14, v11, v13]
    refine pt_ext (Int.le_refl _) (show (h 0 88) ≤ (h 0 88) + 1 by omega) (Int.le_refl _) (fun a z => ?_) (fun _ _ => ⟨fun _ => rfl, rfl, rfl, rfl⟩) ?_ (wn := pi_wn h r)
    · unfold pi_wn at z ⊢
      rw [v15, v14, v16]
      refine ⟨⟨z.1.1, by rw [nf_keep v4 (funext fun j => agN _ _ rfl)]; exact z.1.2⟩, fun y e => ⟨(z.2.1 y e).1, hwt _ _ _ (z.2.1 y e).2⟩, fun y => ?_, fun y => ?_, fun y => ?_⟩
      · have q := z.2.2.1 y
        exact ⟨by omega, by rw [(old _ (by omega)).1]; exact q.2⟩
      · have q := z.2.2.2.1 y
        exact ⟨by omega, by rw [(old _ (by omega)).1]; exact q.2⟩
      · have q := z.2.2.2.2 y
        exact ⟨by omega, by rw [(old _ (by omega)).1]; exact q.2.1, by rw [(old _ (by omega)).2.1]; exact q.2.2⟩
    · have : pi_adj H s = pi_adj h s := hadj' H hgv
      rw [this]; exact hpt
  · rw [v2]
    intro w hw
    refine pw_ext hw (Int.le_refl _) (fun _ _ => ⟨rfl, rfl, rfl⟩) ⟨by rw [f1], by rw [f2], by rw [f3]⟩ (fun z => by rw [← v15]; exact z) hwt (by omega) (fun _ a1 a2 q => ⟨?_, q⟩) (fun _ q => q) (hC w hw)
    have o := old ((h 75) w).toNat (by omega)
    unfold pw_pop
    rw [o.1, o.2.1]
  · rw [v2]; unfold pi_U; rw [f1, f2]; exact hU
  · rw [v2]; exact pi_N_ag agN hN
  · refine ⟨fun m hm => ?_, fun p hp => ?_⟩
    · rw [hme] at hm
      rw [hmp, v14]
      obtain ⟨a1, a2, a3⟩ := hP.1 m hm
      exact ⟨a1, by omega, by rw [(old _ (by omega)).1]; exact a3⟩
    rw [v14] at hp
    by_cases e : p = ((h 0 88)).toNat
    · subst e
      obtain ⟨w1, w2, w3, w4⟩ := new
      rw [w1, w2, w3, w4]
      exact ⟨hv, h2, fun z => absurd z h1.1, fun z => absurd z h1.2⟩
    · obtain ⟨o1, o2, o3, o4, o5⟩ := old p e
      rw [o1, o3, o4, o5]
      rw [hme]
      obtain ⟨a1, a2, a3, a4⟩ := hP.2 p (by omega)
      exact ⟨a1, a2, a3, fun z => hwt _ _ _ (a4 z)⟩

/-- the tail's act as a bracket's: the same, but nothing is said of the form -/
theorem piB_38 {h : ja_H} {R r ph q0 a b : Int} {tf : mo_TF} {s : List mo_A} {ht st rg : Nat → Int} {tu : Int} (hB : piB h R r ph tf q0 ((7, a, b) :: s) ht st rg tu) : piB h R r ph tf q0 ((38, 0, 0) :: s) ht st rg tu := by
  obtain ⟨n, ⟨b1, b2, b3, b4⟩, reg, hpt, ⟨hC, hU⟩, hN, hP, hT, top⟩ := hB
  have mem : ∀ {P : mo_A → Prop}, (∀ y ∈ (7, a, b) :: s, P y) → P (38, 0, 0) → ∀ y ∈ (38, 0, 0) :: s, P y := by
    intro P q q2 y hy
    rcases List.mem_cons.mp hy with rfl | hy
    · exact q2
    · exact q y (List.mem_cons_of_mem _ hy)
  have hif : pi_if ((38, 0, 0) :: s) ↔ pi_if ((7, a, b) :: s) := (pi_if_tail (x := (38, 0, 0)) (show (38 : Int) ≠ 36 by decide)).symm.trans (pi_if_tail (x := (7, a, b)) (show (7 : Int) ≠ 36 by decide))
  refine ⟨n, ⟨b1, b2, b3, fun q => b4 (fun z => q (mem z (show (38 : Int) ≠ 17 by decide)))⟩, ?_, ?_, ⟨?_, hU⟩, hN, hP, hT, ⟨fun e => absurd e (show ¬ ((38 : Int) = 7 ∨ (38 : Int) = 2 ∨ (38 : Int) = 18) by decide), fun e => absurd e (show ¬ (38 : Int) = 6 by decide), fun e => absurd e (show ¬ (38 : Int) = 1 by decide), fun e => absurd e (show ¬ (38 : Int) = 9 by decide)⟩⟩
  · rw [hif]
    rcases reg with ⟨q1, q2, q3, q4, q5⟩ | ⟨q1, q2, q3, q4⟩
    · exact Or.inl ⟨q1, q2, q3, q4, mem q5 (Or.inr (show (37 : Int) ≤ 38 by decide))⟩
    · exact Or.inr ⟨q1, q2, mem q3 (Or.inr (show (31 : Int) ≤ 38 by decide)), q4⟩
  · obtain ⟨⟨p1, p1u⟩, ⟨p2, p2'⟩, p3, p4⟩ := hpt
    unfold pt_ok at p3
    obtain ⟨-, c0, t0, e0, -, -, -, -, -, -, i7, -⟩ := p3
    have j7 := i7 (Or.inl rfl)
    have e7 : pk_off 7 = 2 := rfl
    have e38 : pk_off 38 = 3 := rfl
    dsimp only at p2 p2'
    refine ⟨⟨p1, fun p q => absurd q (by simp [pp])⟩, ⟨by dsimp only; omega, fun y z e => ?_⟩, ?_, p4⟩
    · have q := p2' y z e
      dsimp only at q ⊢
      omega
    · unfold pt_ok
      dsimp only
      exact ⟨⟨by omega, by omega, by omega, by omega⟩, c0, t0, e0, fun z => absurd z (by omega), fun z => absurd z (by omega), fun z => absurd z (by omega), fun z => absurd z (by omega), fun z => absurd z (by omega), fun z => absurd z (by omega), fun _ => j7, fun z => absurd z (by omega), fun z => absurd z (by omega), fun z => absurd z (by omega), fun z => absurd z (by omega), fun z => absurd z (by omega), fun z => absurd z (by omega), fun z => absurd z (by omega), fun z => absurd z (by omega), fun z => absurd z (by omega), fun z => absurd z (by omega), fun z => absurd z (by omega), fun z => absurd z (by omega), fun z => absurd z (by omega), fun z => absurd z (by omega), fun z => absurd z (by omega), fun z => absurd z (by omega), fun z => absurd z (by omega), fun z => absurd z (by omega), fun z => absurd z (by omega), fun z => absurd z (by omega), fun z => absurd z (by omega)⟩
  · intro w hw
    refine pw_ext hw (Int.le_refl _) (fun _ _ => ⟨rfl, rfl, rfl⟩) ⟨rfl, rfl, rfl⟩ id (fun _ _ _ q => q) (Int.le_refl _) (fun _ _ _ q => ⟨rfl, fun z => ?_⟩) (fun _ q => ?_) (hC w hw)
    · rcases pp_cons.mp z with z | z
      · simp [pp] at z
      · exact q (pp_cons.mpr (Or.inr z))
    · exact pj_tail (x := (7, a, b)) (idle_of (show (7 : Int) ≠ 4 ∧ (7 : Int) ≠ 21 ∧ (7 : Int) ≠ 22 ∧ (7 : Int) ≠ 28 ∧ (7 : Int) ≠ 24 by decide) w) (fun _ q => List.mem_cons_of_mem _ q) q
