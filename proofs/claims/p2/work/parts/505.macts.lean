/-! the reference: its acts, S (written by a program) -/
variable {Zz : Zc}
theorem bs_act {h : ja_H} {R r ph q0 : Int} {tf : mo_TF} {x : mo_A} {s : List mo_A} {ht st rg : Nat → Int} {tu : Int} (hB : piB h R r ph tf q0 (x :: s) ht st rg tu) : 1 ≤ x.1 ∧ x.1 ≤ 38 ∧ x.1 ≠ 13 ∧ x.1 ≠ 29 := by
  obtain ⟨-, -, -, hpt, -⟩ := hB
  exact hpt.2.2.1.1
section
variable {h : ja_H} {R r ph q0 a b : Int} {tf : mo_TF} {s : List mo_A} {ht st rg : Nat → Int} {tu : Int}
theorem bs_4 (hB : piB h R r ph tf q0 ((4, a, b) :: s) ht st rg tu) : 0 ≤ a ∧ a < (h 0 113) := by
  obtain ⟨-, -, -, hpt, -⟩ := hB
  obtain ⟨-, -, q3, -⟩ := hpt
  obtain ⟨-, -, -, -, -, -, -, o4, -⟩ := q3
  have := (o4 rfl).2.1
  exact ⟨this.1, this.2.1⟩
theorem bs_10 (hB : piB h R r ph tf q0 ((10, a, b) :: s) ht st rg tu) : 0 ≤ a ∧ a < (h 0 88) := by
  obtain ⟨-, -, -, hpt, -⟩ := hB
  obtain ⟨-, -, q3, -⟩ := hpt
  obtain ⟨-, -, -, -, -, -, -, -, -, -, -, -, -, o10, -⟩ := q3
  exact ⟨(o10 rfl).2.2.1, (o10 rfl).2.2.2.1⟩
theorem bs_11 (hB : piB h R r ph tf q0 ((11, a, b) :: s) ht st rg tu) : 0 ≤ a ∧ a < (h 0 88) := by
  obtain ⟨-, -, -, hpt, -⟩ := hB
  obtain ⟨-, -, q3, -⟩ := hpt
  obtain ⟨-, -, -, -, -, -, -, -, -, -, -, -, -, -, o11, -⟩ := q3
  exact ⟨(o11 rfl).2.1, (o11 rfl).2.2.1⟩
theorem bs_16 (hB : piB h R r ph tf q0 ((16, a, b) :: s) ht st rg tu) : 0 ≤ a ∧ a ≤ (h 0 77) := by
  obtain ⟨-, -, -, hpt, -⟩ := hB
  obtain ⟨-, -, q3, -⟩ := hpt
  obtain ⟨-, -, -, -, -, -, -, -, -, -, -, -, -, -, -, -, -, o16, -⟩ := q3
  exact o16 rfl
theorem bs_17 (hB : piB h R r ph tf q0 ((17, a, b) :: s) ht st rg tu) : 0 ≤ a ∧ a ≤ 900 := by
  obtain ⟨-, -, -, hpt, -⟩ := hB
  obtain ⟨-, -, q3, -⟩ := hpt
  obtain ⟨-, -, -, -, -, -, -, -, -, -, -, -, -, -, -, -, -, -, -, o17b, -⟩ := q3
  exact o17b rfl
theorem bs_22 (hB : piB h R r ph tf q0 ((22, a, b) :: s) ht st rg tu) : 0 ≤ a ∧ a < (h 0 113) := by
  obtain ⟨-, -, -, hpt, -⟩ := hB
  obtain ⟨-, -, q3, -⟩ := hpt
  obtain ⟨-, -, -, -, -, -, -, -, -, -, -, -, -, -, -, -, -, -, -, -, -, -, o22, -⟩ := q3
  have := (o22 rfl).1
  exact ⟨this.1, this.2.1⟩
theorem bs_24 (hB : piB h R r ph tf q0 ((24, a, b) :: s) ht st rg tu) : (0 ≤ a ∧ a < (h 0 113)) ∧ 0 ≤ b ∧ b < (h 0 113) := by
  obtain ⟨-, -, -, hpt, -⟩ := hB
  obtain ⟨-, -, q3, -⟩ := hpt
  obtain ⟨-, -, -, -, -, -, -, -, -, -, -, -, -, -, -, -, -, -, -, -, -, -, -, -, o24, -⟩ := q3
  obtain ⟨⟨z, -⟩, y, -⟩ := o24 rfl
  exact ⟨⟨z.1, z.2.1⟩, y.1, y.2.1⟩
theorem bs_31t (hg16 : (h 0 18) ≤ 16) (hB : piB h R r ph tf q0 ((31, a, b) :: s) ht st rg tu) : (h 0 109) ≤ 16 ∧ (h 0 68) < (h 0 7) ∧ (h 0 72) ≤ (h 0 95) ∧ (h 0 95) < (h 0 7) := by
  have e1 := hB.1.1
  have e2 := pk_sum_d0 s
  obtain ⟨⟨-, -, n3, n4, n5, -⟩, -, -, hpt, -⟩ := hB
  obtain ⟨-, -, q3, -⟩ := hpt
  obtain ⟨-, -, -, -, -, -, -, -, -, -, -, -, -, -, -, -, -, -, -, -, -, -, -, -, -, -, o31, -⟩ := q3
  have := (o31 rfl).2.2
  have e3 : pk_sum pk_d ((31, a, b) :: s) = 0 + pk_sum pk_d s := rfl
  have e4 : pk_sum pk_c ((31, a, b) :: s) = 0 + pk_sum pk_c s := rfl
  have g16 : (h 0 18) ≤ 16 := hg16
  (try dsimp only at this)
  refine ⟨?_, n4, n5, ?_⟩ <;> omega
theorem bs_33 (hB : piB h R r ph tf q0 ((33, a, b) :: s) ht st rg tu) : 2 ≤ (h 0 109) := by
  obtain ⟨-, -, -, hpt, -⟩ := hB
  obtain ⟨-, -, q3, -⟩ := hpt
  obtain ⟨-, -, -, -, -, -, -, -, -, -, -, -, -, -, -, -, -, -, -, -, -, -, -, -, -, -, -, -, o33, -⟩ := q3
  exact (o33 rfl).2.2
theorem bs_34 (hB : piB h R r ph tf q0 ((34, a, b) :: s) ht st rg tu) : 1 ≤ (h 0 109) := by
  obtain ⟨-, -, -, hpt, -⟩ := hB
  obtain ⟨-, -, q3, -⟩ := hpt
  obtain ⟨-, -, -, -, -, -, -, -, -, -, -, -, -, -, -, -, -, -, -, -, -, -, -, -, -, -, -, -, -, o34, -⟩ := q3
  exact (o34 (Or.inl rfl)).2.2
theorem bs_35 (hB : piB h R r ph tf q0 ((35, a, b) :: s) ht st rg tu) : 1 ≤ (h 0 109) := by
  obtain ⟨-, -, -, hpt, -⟩ := hB
  obtain ⟨-, -, q3, -⟩ := hpt
  obtain ⟨-, -, -, -, -, -, -, -, -, -, -, -, -, -, -, -, -, -, -, -, -, -, -, -, -, -, -, -, -, o34, -⟩ := q3
  exact (o34 (Or.inr rfl)).2.2
theorem bs_36 (hg16 : (h 0 18) ≤ 16) (hB : piB h R r ph tf q0 ((36, a, b) :: s) ht st rg tu) : (0 ≤ a ∧ a ≤ (h 0 113)) ∧ (h 0 109) ≤ 16 := by
  have e1 := hB.1.1
  obtain ⟨-, -, -, hpt, -⟩ := hB
  obtain ⟨-, -, q3, -⟩ := hpt
  obtain ⟨-, -, -, -, -, -, -, -, -, -, -, -, -, -, -, -, -, -, -, -, -, -, -, -, -, -, -, -, -, -, o36, -⟩ := q3
  obtain ⟨-, -, y, z⟩ := o36 rfl
  have e4 : pk_sum pk_c ((36, a, b) :: s) = 0 + pk_sum pk_c s := rfl
  have g16 : (h 0 18) ≤ 16 := hg16
  have z1 := y.1
  have z2 := y.2.1
  (try dsimp only at z z1 z2)
  refine ⟨⟨?_, ?_⟩, ?_⟩ <;> omega
theorem ab_letj {f p v : Int} (g : mo_G Zz h) (hS : pk_S h (h 0 17).toNat s) (hB : piB h R r ph tf q0 ((17, a, b) :: s) ht st rg tu) (hf : 0 ≤ f ∧ f ≤ 8 ∧ (1 ≤ f ∨ f = (h 0 11)) ∧ -2147483648 ≤ p ∧ p ≤ 2147483647) :
    pi_done h (mo_E (ja_up (ja_up (ja_up (ja_up (ja_up (ja_up h 0 11 f) 0 12 p) 49 ((h 0 79)).toNat v) 50 ((h 0 79)).toNat ((h 0 77))) 0 79 ((h 0 79) + 1)) 0 77 ((h 0 77) + 1)) 5 ((h 0 77) + 1 - 1) 0) R r ph tf q0 (pi_mu h ((17, a, b) :: s)) := by
  refine pi_done_of (h1 := ja_up (ja_up h 0 11 f) 0 12 p) (by (repeat (refine ag_up rfl ?_)); exact ag_refl) ?_
  exact ab_let (v := v) (mo_j_G g (by omega) (by omega)) (pk_S_ag (by (repeat (refine ag_up rfl ?_)); exact ag_refl) hS) (piB_judge (fun z => by omega) hB)
end
theorem lf0_initG {h h2 : ja_H} {kd a b tk ip : Int} (ag2 : ∀ k j, ¬ (k = 0 ∧ j = 7) → h2 k j = h k j) (hv : (h 0 7) ≤ (h2 0 7)) (hw : (h 0 68) < (h 0 7)) (hu : (h 0 72) ≤ (h 0 95)) (hip : ip = (h 0 85)) : lf0 h (mo_N h2 kd a b tk ip) := by
  have e : h2 = ja_up h 0 7 (h2 0 7) := by
    funext k j
    by_cases q : k = 0 ∧ j = 7
    · obtain ⟨rfl, rfl⟩ := q; exact mo_upS.symm
    · rw [mo_upN q]; exact ag2 k j q
  rw [e]
  exact lf0_init hv hw hu hip
theorem at2 {h : ja_H} {x y : Int} : ∀ k j, ¬ (k = 0 ∧ j = 7) → (ja_up (ja_up h 0 7 x) 0 7 y) k j = h k j := fun k j q => by rw [mo_upN q, mo_upN q]
theorem at1 {h : ja_H} {x : Int} : ∀ k j, ¬ (k = 0 ∧ j = 7) → (ja_up h 0 7 x) k j = h k j := fun k j q => by rw [mo_upN q]

/-- self, target: what stands in the ( ) -/
theorem lf_self1 {h h2 : ja_H} {ht st rg : Nat → Int} {kd tk ip w f fa tw bi v : Int} (ag2 : ∀ k j, ¬ (k = 0 ∧ j = 7) → h2 k j = h k j) (hv : (h 0 7) ≤ (h2 0 7)) (hw : (h 0 68) < (h 0 7)) (hu : (h 0 72) ≤ (h 0 95)) (hip : ip = (h 0 85)) (hk : kd = 7 ∨ kd = 8) (h1 : (h2 0 7) ≤ w) (hf : f = 0 → (h 0 11) = 0) (hvv : 0 ≤ v ∧ v ≤ 6) :
    lfG ht st rg h (ja_up (ja_up (ja_up (ja_up (ja_up (ja_up (mo_N h2 kd 0 0 tk ip) 0 7 w) 0 11 f) 0 12 fa) 66 ((h 0 95)).toNat tw) 65 ((h 0 95)).toNat bi) 59 ((h 0 95)).toNat v) := by
  have e1 : (h2 0 95) = (h 0 95) := ag2 _ _ (by decide)
  have e2 : (h2 0 68) = (h 0 68) := ag2 _ _ (by decide)
  have e3 : (h2 0 11) = (h 0 11) := ag2 _ _ (by decide)
  refine lf0_G (lf0_step (lf0_initG (kd := kd) (a := 0) (b := 0) (tk := tk) ag2 hv hw hu hip) (by (repeat (first | exact ag_refl | refine ag_up rfl ?_))) (by (repeat (first | exact ag_refl | refine ag_up rfl ?_))) (fun j hj => ⟨?_, rfl, rfl⟩) (fun _ _ => rfl) h1 (show (h2 0 68) < w + 1 by omega) (fun z => ?_) (fun _ _ _ z => z)) (pn_78 ?_ (Or.inl ?_))
  · rw [mo_upJ hj]; rfl
  · show (h2 0 11) = 0; rw [e3]; exact hf z
  · simp [mo_N, ja_up, e1]; exact hk
  · rw [mo_upS]; exact hvv
theorem lf_self2 {h h2 : ja_H} {ht st rg : Nat → Int} {kd tk ip w t : Int} (g : mo_G Zz h) (ag2 : ∀ k j, ¬ (k = 0 ∧ j = 7) → h2 k j = h k j) (hv : (h 0 7) ≤ (h2 0 7)) (hw : (h 0 68) < (h 0 7)) (hu : (h 0 72) ≤ (h 0 95)) (hip : ip = (h 0 85)) (hk : kd = 7 ∨ kd = 8) (h1 : (h2 0 7) + 1 ≤ w) (ht0 : 0 ≤ t ∧ t ≤ 900) :
    lfG ht st rg h (ja_up (mo_W (ja_up (mo_N h2 kd 0 0 tk ip) 0 7 w) 0 t 0) 59 ((h 0 95)).toNat (1000 + t)) := by
  have e1 : (h2 0 95) = (h 0 95) := ag2 _ _ (by decide)
  have e2 : (h2 0 68) = (h 0 68) := ag2 _ _ (by decide)
  have gw := gF_wants g
  have w0 : 0 ≤ (ja_up (mo_N h2 kd 0 0 tk ip) 0 7 w) 0 68 := by show 0 ≤ (h2 0 68); omega
  refine lf0_G (lf0_step (lf0_initG (kd := kd) (a := 0) (b := 0) (tk := tk) ag2 hv hw hu hip) (by unfold mo_W; (repeat (first | exact ag_refl | refine ag_up rfl ?_))) (by unfold mo_W; (repeat (first | exact ag_refl | refine ag_up rfl ?_))) (fun j hj => ⟨?_, rfl, rfl⟩) (fun _ _ => rfl) (show (h2 0 7) ≤ w by omega) (show (h2 0 68) + 1 < w + 1 by omega) (fun z => z) (fun k x y z => mo_W_wt (h := ja_up (mo_N h2 kd 0 0 tk ip) 0 7 w) w0 z)) (pn_78 ?_ (Or.inr ?_))
  · rw [mo_upJ hj]; rfl
  · simp [mo_W, mo_N, ja_up, e1]; exact hk
  · rw [mo_upS]
    refine ⟨by omega, by omega, ?_⟩
    rw [show (1000 + t - 1000 : Int) = t by omega]
    exact mo_W_new (h := ja_up (mo_N h2 kd 0 0 tk ip) 0 7 w) w0
/-- a PATTERN -/
theorem lf_pat {h h2 : ja_H} {ht st rg : Nat → Int} {kd tk ip x y : Int} (ag2 : ∀ k j, ¬ (k = 0 ∧ j = 7) → h2 k j = h k j) (hv : (h 0 7) ≤ (h2 0 7)) (hw : (h 0 68) < (h 0 7)) (hu : (h 0 72) ≤ (h 0 95)) (hip : ip = (h 0 85)) (hk : 0 ≤ kd ∧ kd ≤ 6) :
    lfG ht st rg h (ja_up (ja_up (mo_N h2 kd 0 0 tk ip) 59 ((h 0 95)).toNat x) 60 ((h 0 95)).toNat y) := by
  have e1 : (h2 0 95) = (h 0 95) := ag2 _ _ (by decide)
  have e2 : (h2 0 68) = (h 0 68) := ag2 _ _ (by decide)
  refine lf0_G (lf0_step (lf0_initG (kd := kd) (a := 0) (b := 0) (tk := tk) ag2 hv hw hu hip) (by (repeat (first | exact ag_refl | refine ag_up rfl ?_))) (by (repeat (first | exact ag_refl | refine ag_up rfl ?_))) (fun j hj => ⟨?_, ?_, rfl⟩) (fun _ _ => rfl) (Int.le_refl _) (show (h2 0 68) < (h2 0 7) + 1 by omega) (fun z => z) (fun _ _ _ z => z)) (pn_0 ?_)
  · rw [mo_upK (by decide), mo_upJ hj]
  · rw [mo_upJ hj]; rfl
  · simp [mo_N, ja_up, e1]; exact hk.2
theorem lf_patj {h h2 : ja_H} {ht st rg : Nat → Int} {kd tk ip x y f fa : Int} (ag2 : ∀ k j, ¬ (k = 0 ∧ j = 7) → h2 k j = h k j) (hv : (h 0 7) ≤ (h2 0 7)) (hw : (h 0 68) < (h 0 7)) (hu : (h 0 72) ≤ (h 0 95)) (hip : ip = (h 0 85)) (hk : 0 ≤ kd ∧ kd ≤ 6) (hf : 1 ≤ f) :
    lfG ht st rg h (ja_up (ja_up (ja_up (ja_up (mo_N h2 kd 0 0 tk ip) 59 ((h 0 95)).toNat x) 60 ((h 0 95)).toNat y) 0 11 f) 0 12 fa) := by
  have e1 : (h2 0 95) = (h 0 95) := ag2 _ _ (by decide)
  have e2 : (h2 0 68) = (h 0 68) := ag2 _ _ (by decide)
  refine lf0_G (lf0_step (lf0_initG (kd := kd) (a := 0) (b := 0) (tk := tk) ag2 hv hw hu hip) (by (repeat (first | exact ag_refl | refine ag_up rfl ?_))) (by (repeat (first | exact ag_refl | refine ag_up rfl ?_))) (fun j hj => ⟨?_, ?_, rfl⟩) (fun _ _ => rfl) (Int.le_refl _) (show (h2 0 68) < (h2 0 7) + 1 by omega) (fun z => ?_) (fun _ _ _ z => z)) (pn_0 ?_)
  · show (ja_up (ja_up (mo_N h2 kd 0 0 tk ip) 59 ((h 0 95)).toNat x) 60 ((h 0 95)).toNat y) 59 j = _
    rw [mo_upK (by decide), mo_upJ hj]
  · show (ja_up (ja_up (mo_N h2 kd 0 0 tk ip) 59 ((h 0 95)).toNat x) 60 ((h 0 95)).toNat y) 60 j = _
    rw [mo_upJ hj]; rfl
  · have : f = 0 := z
    omega
  · simp [mo_N, ja_up, e1]; exact hk.2
/-- the loops over NAMES -/
theorem lfA_gen {h u u' : ja_H} {v : Int} (gh : mo_G Zz h) (q : lfA h u) (h5 : (u 62) (h 0 95).toNat ≤ 5) (ag : mo_ag FSu u u') (agk : mo_ag FK u u') (oA : (u' 59) = (u 59) ∧ (u' 60) = (u 60)) (oM : ∀ j : Nat, j ≠ (h 0 95).toNat → (u' 62) j = (u 62) j) (nM : (u' 62) (h 0 95).toNat = (u 62) (h 0 95).toNat + 1)
    (oG : ∀ j : Nat, j ≠ (7 * (h 0 95) + (u 62) (h 0 95).toNat).toNat → (u' 63) j = (u 63) j) (nG : (u' 63) (7 * (h 0 95) + (u 62) (h 0 95).toNat).toNat = v) (hv1 : v = -1 ∨ (0 ≤ v ∧ v ≤ 6) ∨ (1000 ≤ v ∧ v ≤ 1900 ∧ pw_wt u' 0 (v - 1000) 0))
    (hat : (u 0 7) ≤ (u' 0 7)) (hw : (u' 0 68) < (u' 0 7) + 1) (hf : (u' 0 11) = 0 → (u 0 11) = 0) (hv : ∀ k a b, pw_wt u k a b → pw_wt u' k a b) : lfA h u' := by
  obtain ⟨q1, q2, q3, q4⟩ := q
  have gn := (gF_nodes gh).1
  have f1 : (u' 58) = (u 58) := funext fun j => ag _ _ rfl
  refine ⟨lf0_step q1 ag agk (fun j hj => ⟨by rw [oA.1], by rw [oA.2], oM j hj⟩) (fun j hj => oG j (by omega)) hat hw hf hv, by rw [f1]; exact q2, by rw [nM]; omega, fun k hk => ?_⟩
  rw [nM] at hk
  by_cases e : (k : Int) = (u 62) (h 0 95).toNat
  · have e2 : 7 * (h 0 95).toNat + k = (7 * (h 0 95) + (u 62) (h 0 95).toNat).toNat := by omega
    rw [e2, nG]; exact hv1
  · rw [oG _ (by omega)]
    rcases q4 k (by omega) with a | a | ⟨a1, a2, a3⟩
    · exact Or.inl a
    · exact Or.inr (Or.inl a)
    · exact Or.inr (Or.inr ⟨a1, a2, hv _ _ _ a3⟩)
theorem lfU_gen {h u u' : ja_H} {v : Int} (gh : mo_G Zz h) (q : lfU h u) (h5 : (u 62) (h 0 95).toNat ≤ 5) (ag : mo_ag FSu u u') (agk : mo_ag FK u u') (oA : (u' 59) = (u 59) ∧ (u' 60) = (u 60)) (oM : ∀ j : Nat, j ≠ (h 0 95).toNat → (u' 62) j = (u 62) j) (nM : (u' 62) (h 0 95).toNat = (u 62) (h 0 95).toNat + 1)
    (oG : ∀ j : Nat, j ≠ (7 * (h 0 95) + (u 62) (h 0 95).toNat).toNat → (u' 63) j = (u 63) j) (nG : (u' 63) (7 * (h 0 95) + (u 62) (h 0 95).toNat).toNat = v) (hv1 : (u' 0 11) = 0 → 0 ≤ v ∧ v ≤ 6)
    (hat : (u 0 7) ≤ (u' 0 7)) (hw : (u' 0 68) < (u' 0 7) + 1) (hf : (u' 0 11) = 0 → (u 0 11) = 0) (hv : ∀ k a b, pw_wt u k a b → pw_wt u' k a b) : lfU h u' := by
  obtain ⟨q1, q2, q3, q4, q5, i, q6, q7⟩ := q
  have gn := (gF_nodes gh).1
  have f1 : (u' 58) = (u 58) := funext fun j => ag _ _ rfl
  have f2 : (u' 47) = (u 47) := funext fun j => ag _ _ rfl
  have e1 : (u' 0 72) = (u 0 72) := ag _ _ rfl
  refine ⟨lf0_step q1 ag agk (fun j hj => ⟨by rw [oA.1], by rw [oA.2], oM j hj⟩) (fun j hj => oG j (by omega)) hat hw hf hv, by rw [f1]; exact q2, by rw [nM]; omega, fun z k hk => ?_, q5, i, by rw [e1]; exact q6, by rw [f2]; exact q7⟩
  rw [nM] at hk
  by_cases e : (k : Int) = (u 62) (h 0 95).toNat
  · have e2 : 7 * (h 0 95).toNat + k = (7 * (h 0 95) + (u 62) (h 0 95).toNat).toNat := by omega
    rw [e2, nG]; exact hv1 z
  · rw [oG _ (by omega)]
    exact q4 (hf z) k (by omega)
theorem lfA_tk {h u : ja_H} (q : lfA h u) : lfA h (ja_up u 0 7 ((u 0 7) + 1)) := by
  obtain ⟨q1, q2, q3, q4⟩ := q
  have w := q1.1.2.2.2.1
  exact ⟨lf0_step q1 (ag_up rfl ag_refl) (ag_up rfl ag_refl) (fun _ _ => ⟨rfl, rfl, rfl⟩) (fun _ _ => rfl) (show (u 0 7) ≤ (u 0 7) + 1 by omega) (show (u 0 68) < (u 0 7) + 1 + 1 by omega) (fun z => z) (fun _ _ _ z => z), q2, q3, q4⟩
theorem lfU_tk {h u : ja_H} (q : lfU h u) : lfU h (ja_up u 0 7 ((u 0 7) + 1)) := by
  obtain ⟨q1, q2, q3, q4⟩ := q
  have w := q1.1.2.2.2.1
  exact ⟨lf0_step q1 (ag_up rfl ag_refl) (ag_up rfl ag_refl) (fun _ _ => ⟨rfl, rfl, rfl⟩) (fun _ _ => rfl) (show (u 0 7) ≤ (u 0 7) + 1 by omega) (show (u 0 68) < (u 0 7) + 1 + 1 by omega) (fun z => z) (fun _ _ _ z => z), q2, q3, q4⟩
theorem lfA_star {h u : ja_H} (gh : mo_G Zz h) (q : lfA h u) (h5 : (u 62) (h 0 95).toNat ≤ 5) : lfA h (ja_up (ja_up (ja_up u 63 (7 * (h 0 95) + (u 62) (h 0 95).toNat).toNat (-1)) 0 7 ((u 0 7) + 1)) 62 ((h 0 95)).toNat ((u 62) (h 0 95).toNat + 1)) := by
  have w := q.1.1.2.2.2.1
  exact lfA_gen (v := -1) gh q h5 (by (repeat (first | exact ag_refl | refine ag_up rfl ?_))) (by (repeat (first | exact ag_refl | refine ag_up rfl ?_))) ⟨rfl, rfl⟩ (fun j hj => by rw [mo_upJ hj]; rfl) mo_upS (fun j hj => by show (ja_up u 63 _ (-1)) 63 j = _; rw [mo_upJ hj]) (by show (ja_up u 63 _ (-1)) 63 _ = _; rw [mo_upS]) (Or.inl rfl) (show (u 0 7) ≤ (u 0 7) + 1 by omega) (show (u 0 68) < (u 0 7) + 1 + 1 by omega) (fun z => z) (fun _ _ _ z => z)
theorem lfA_bind {h u : ja_H} {f fa tw bi v : Int} (gh : mo_G Zz h) (q : lfA h u) (h5 : (u 62) (h 0 95).toNat ≤ 5) (hf : f = 0 → (u 0 11) = 0) (hvv : 0 ≤ v ∧ v ≤ 6) : lfA h (ja_up (ja_up (ja_up (ja_up (ja_up (ja_up (ja_up u 0 7 ((u 0 7) + 1)) 0 11 f) 0 12 fa) 66 ((h 0 95)).toNat tw) 65 ((h 0 95)).toNat bi) 63 (7 * (h 0 95) + (u 62) (h 0 95).toNat).toNat v) 62 ((h 0 95)).toNat ((u 62) (h 0 95).toNat + 1)) := by
  have w := q.1.1.2.2.2.1
  exact lfA_gen (v := v) gh q h5 (by (repeat (first | exact ag_refl | refine ag_up rfl ?_))) (by (repeat (first | exact ag_refl | refine ag_up rfl ?_))) ⟨rfl, rfl⟩ (fun j hj => by rw [mo_upJ hj]; rfl) mo_upS (fun j hj => by rw [mo_upK (by decide), mo_upJ hj]; rfl) (by rw [mo_upK (by decide), mo_upS]) (Or.inr (Or.inl hvv)) (show (u 0 7) ≤ (u 0 7) + 1 by omega) (show (u 0 68) < (u 0 7) + 1 + 1 by omega) hf (fun _ _ _ z => z)
theorem lfA_want {h u : ja_H} {t : Int} (gh : mo_G Zz h) (q : lfA h u) (h5 : (u 62) (h 0 95).toNat ≤ 5) (hw0 : 0 ≤ (u 0 68)) (ht0 : 0 ≤ t ∧ t ≤ 900) : lfA h (ja_up (ja_up (mo_W (ja_up u 0 7 ((u 0 7) + 1)) 0 t 0) 63 (7 * (h 0 95) + (u 62) (h 0 95).toNat).toNat (1000 + t)) 62 ((h 0 95)).toNat ((u 62) (h 0 95).toNat + 1)) := by
  have w := q.1.1.2.2.2.1
  refine lfA_gen (v := 1000 + t) gh q h5 (by unfold mo_W; (repeat (first | exact ag_refl | refine ag_up rfl ?_))) (by unfold mo_W; (repeat (first | exact ag_refl | refine ag_up rfl ?_))) ⟨rfl, rfl⟩ (fun j hj => by rw [mo_upJ hj]; rfl) mo_upS (fun j hj => by rw [mo_upK (by decide), mo_upJ hj]; rfl) (by rw [mo_upK (by decide), mo_upS]) (Or.inr (Or.inr ⟨by omega, by omega, ?_⟩)) (show (u 0 7) ≤ (u 0 7) + 1 by omega) (show (u 0 68) + 1 < (u 0 7) + 1 + 1 by omega) (fun z => z) (fun k x y z => mo_W_wt (h := ja_up u 0 7 ((u 0 7) + 1)) hw0 z)
  rw [show (1000 + t - 1000 : Int) = t by omega]
  exact mo_W_new (h := ja_up u 0 7 ((u 0 7) + 1)) hw0
theorem lfU_bind {h u : ja_H} {f fa tw bi v : Int} (gh : mo_G Zz h) (q : lfU h u) (h5 : (u 62) (h 0 95).toNat ≤ 5) (hf : f = 0 → (u 0 11) = 0) (hvv : 0 ≤ v ∧ v ≤ 6) : lfU h (ja_up (ja_up (ja_up (ja_up (ja_up (ja_up (ja_up u 0 7 ((u 0 7) + 1)) 0 11 f) 0 12 fa) 66 ((h 0 95)).toNat tw) 65 ((h 0 95)).toNat bi) 63 (7 * (h 0 95) + (u 62) (h 0 95).toNat).toNat v) 62 ((h 0 95)).toNat ((u 62) (h 0 95).toNat + 1)) := by
  have w := q.1.1.2.2.2.1
  exact lfU_gen (v := v) gh q h5 (by (repeat (first | exact ag_refl | refine ag_up rfl ?_))) (by (repeat (first | exact ag_refl | refine ag_up rfl ?_))) ⟨rfl, rfl⟩ (fun j hj => by rw [mo_upJ hj]; rfl) mo_upS (fun j hj => by rw [mo_upK (by decide), mo_upJ hj]; rfl) (by rw [mo_upK (by decide), mo_upS]) (fun _ => hvv) (show (u 0 7) ≤ (u 0 7) + 1 by omega) (show (u 0 68) < (u 0 7) + 1 + 1 by omega) hf (fun _ _ _ z => z)
theorem lfU_no {h u : ja_H} {f fa v : Int} (gh : mo_G Zz h) (q : lfU h u) (h5 : (u 62) (h 0 95).toNat ≤ 5) (hf : 1 ≤ f) : lfU h (ja_up (ja_up (ja_up (ja_up (ja_up u 0 7 ((u 0 7) + 1)) 0 11 f) 0 12 fa) 63 (7 * (h 0 95) + (u 62) (h 0 95).toNat).toNat v) 62 ((h 0 95)).toNat ((u 62) (h 0 95).toNat + 1)) := by
  have w := q.1.1.2.2.2.1
  exact lfU_gen (v := v) gh q h5 (by (repeat (first | exact ag_refl | refine ag_up rfl ?_))) (by (repeat (first | exact ag_refl | refine ag_up rfl ?_))) ⟨rfl, rfl⟩ (fun j hj => by rw [mo_upJ hj]; rfl) mo_upS (fun j hj => by rw [mo_upK (by decide), mo_upJ hj]; rfl) (by rw [mo_upK (by decide), mo_upS]) (fun z => absurd (show f = 0 from z) (by omega)) (show (u 0 7) ≤ (u 0 7) + 1 by omega) (show (u 0 68) < (u 0 7) + 1 + 1 by omega) (fun z => absurd (show f = 0 from z) (by omega)) (fun _ _ _ z => z)
theorem lfA_init {h : ja_H} {tk ip : Int} (hw : (h 0 68) < (h 0 7)) (hu : (h 0 72) ≤ (h 0 95)) (hip : ip = (h 0 85)) : lfA h (mo_N h 9 0 0 tk ip) := by
  refine ⟨lf0_init0 hw hu hip, by simp [mo_N, ja_up], by simp [mo_N, ja_up], fun k hk => ?_⟩
  have e : (mo_N h 9 0 0 tk ip) 62 (h 0 95).toNat = 0 := by simp [mo_N, ja_up]
  rw [e] at hk
  omega
theorem lfU_init {h : ja_H} {tk ip w : Int} (hw : (h 0 68) < (h 0 7)) (hu : (h 0 72) ≤ (h 0 95)) (h0 : 0 ≤ (h 0 72)) (hip : ip = (h 0 85)) (hz : (h 0 85) = 0) (ha : (h 0 7) ≤ w) : lfU h (ja_up (ja_up (ja_up (mo_N h 12 (-1) 0 tk ip) 47 ((h 0 72)).toNat (h 0 95)) 0 72 ((h 0 72) + 1)) 0 7 w) := by
  have e : (ja_up (ja_up (ja_up (mo_N h 12 (-1) 0 tk ip) 47 ((h 0 72)).toNat (h 0 95)) 0 72 ((h 0 72) + 1)) 0 7 w) 62 (h 0 95).toNat = 0 := by simp [mo_N, ja_up]
  refine ⟨⟨⟨rfl, show (h 0 72) + 1 ≤ (h 0 95) + 1 by omega, ha, show (h 0 68) < w + 1 by omega, fun z => z, by simp [mo_N, ja_up, hip]⟩, fun _ _ _ z => z, ⟨fun j hj => ⟨?_, ?_, ?_, ?_, ?_⟩, fun j hj => rfl, fun j hj => ?_, show (h 0 72) ≤ (h 0 72) + 1 by omega, fun i a b => ?_⟩, by unfold mo_N; (repeat (first | exact ag_refl | refine ag_up rfl ?_)), by unfold mo_N; (repeat (first | exact ag_refl | refine ag_up rfl ?_))⟩, by simp [mo_N, ja_up], by rw [e]; omega, fun _ k hk => by rw [e] at hk; omega, hz, (h 0 72).toNat, show (((h 0 72).toNat : Nat) : Int) < (h 0 72) + 1 by omega, by simp [mo_N, ja_up]⟩
  rotate_right
  · have b' : (i : Int) < (h 0 72) + 1 := b
    have e2 : i = ((h 0 72)).toNat := by omega
    rw [e2]; simp [mo_N, ja_up]
  all_goals (simp [mo_N, ja_up] <;> (intros; omega))
theorem e38_of {a : Int} (e : a < 1 ∨ 12 < a) (p : a ≤ 12 ∨ a = 38) (q : 1 ≤ a ∧ a ≤ 38 ∧ a ≠ 13 ∧ a ≠ 29) : a = 38 := by omega
theorem e28_of {a : Int} (e : a < 14 ∨ 30 < a ∨ a = 28 ∨ a = 29) (p : 14 ≤ a ∧ a ≤ 30) (q : 1 ≤ a ∧ a ≤ 38 ∧ a ≠ 13 ∧ a ≠ 29) : a = 28 := by omega
theorem dstate_0 : decode cX12_state 0 = .ok (.aload_n 0, 1) := by decide +kernel
theorem dstate_1 : decode cX12_state 1 = .ok (.bipush 25, 2) := by decide +kernel
theorem dstate_3 : decode cX12_state 3 = .ok (.iconst 0, 1) := by decide +kernel
theorem dstate_4 : decode cX12_state 4 = .ok (.iconst 0, 1) := by decide +kernel
theorem dstate_5 : decode cX12_state 5 = .ok (.invokevirtual 732, 3) := by decide +kernel
theorem dstate_8 : decode cX12_state 8 = .ok (.istore_n 1, 1) := by decide +kernel
theorem dstate_9 : decode cX12_state 9 = .ok (.aload_n 0, 1) := by decide +kernel
theorem dstate_10 : decode cX12_state 10 = .ok (.bipush 22, 2) := by decide +kernel
theorem dstate_12 : decode cX12_state 12 = .ok (.invokevirtual 596, 3) := by decide +kernel
theorem dstate_15 : decode cX12_state 15 = .ok (.ifCond .eq 97, 3) := by decide +kernel
theorem dstate_18 : decode cX12_state 18 = .ok (.aload_n 0, 1) := by decide +kernel
theorem dstate_19 : decode cX12_state 19 = .ok (.invokevirtual 589, 3) := by decide +kernel
theorem dstate_22 : decode cX12_state 22 = .ok (.ifCond .ne 5, 3) := by decide +kernel
theorem dstate_25 : decode cX12_state 25 = .ok (.iconst 0, 1) := by decide +kernel
theorem dstate_26 : decode cX12_state 26 = .ok (.ireturn, 1) := by decide +kernel
theorem dstate_27 : decode cX12_state 27 = .ok (.aload_n 0, 1) := by decide +kernel
theorem dstate_28 : decode cX12_state 28 = .ok (.invokevirtual 599, 3) := by decide +kernel
theorem dstate_31 : decode cX12_state 31 = .ok (.ifCond .eq 18, 3) := by decide +kernel
theorem dstate_34 : decode cX12_state 34 = .ok (.aload_n 0, 1) := by decide +kernel
theorem dstate_35 : decode cX12_state 35 = .ok (.getfield 710, 3) := by decide +kernel
theorem dstate_38 : decode cX12_state 38 = .ok (.bipush 10, 2) := by decide +kernel
theorem dstate_40 : decode cX12_state 40 = .ok (.if_icmp .ne 9, 3) := by decide +kernel
theorem dstate_43 : decode cX12_state 43 = .ok (.aload_n 0, 1) := by decide +kernel
theorem dstate_44 : decode cX12_state 44 = .ok (.iconst 3, 1) := by decide +kernel
theorem dstate_45 : decode cX12_state 45 = .ok (.invokevirtual 583, 3) := by decide +kernel
theorem dstate_48 : decode cX12_state 48 = .ok (.ireturn, 1) := by decide +kernel
theorem dstate_49 : decode cX12_state 49 = .ok (.aload_n 0, 1) := by decide +kernel
theorem dstate_50 : decode cX12_state 50 = .ok (.getfield 574, 3) := by decide +kernel
theorem dstate_53 : decode cX12_state 53 = .ok (.istore_n 2, 1) := by decide +kernel
theorem dstate_54 : decode cX12_state 54 = .ok (.aload_n 0, 1) := by decide +kernel
theorem dstate_55 : decode cX12_state 55 = .ok (.invokevirtual 739, 3) := by decide +kernel
theorem dstate_58 : decode cX12_state 58 = .ok (.ifCond .eq 52, 3) := by decide +kernel
theorem dstate_61 : decode cX12_state 61 = .ok (.aload_n 0, 1) := by decide +kernel
theorem dstate_62 : decode cX12_state 62 = .ok (.bipush 61, 2) := by decide +kernel
theorem dstate_64 : decode cX12_state 64 = .ok (.invokevirtual 742, 3) := by decide +kernel
theorem dstate_67 : decode cX12_state 67 = .ok (.ifCond .eq 43, 3) := by decide +kernel
theorem dstate_70 : decode cX12_state 70 = .ok (.aload_n 0, 1) := by decide +kernel
theorem dstate_71 : decode cX12_state 71 = .ok (.bipush 17, 2) := by decide +kernel
theorem dstate_73 : decode cX12_state 73 = .ok (.iload_n 2, 1) := by decide +kernel
theorem dstate_74 : decode cX12_state 74 = .ok (.iconst 0, 1) := by decide +kernel
theorem dstate_75 : decode cX12_state 75 = .ok (.iconst 0, 1) := by decide +kernel
theorem dstate_76 : decode cX12_state 76 = .ok (.invokevirtual 790, 3) := by decide +kernel
theorem dstate_79 : decode cX12_state 79 = .ok (.ifCond .eq 31, 3) := by decide +kernel
theorem dstate_82 : decode cX12_state 82 = .ok (.aload_n 0, 1) := by decide +kernel
theorem dstate_83 : decode cX12_state 83 = .ok (.bipush 37, 2) := by decide +kernel
theorem dstate_85 : decode cX12_state 85 = .ok (.bipush 59, 2) := by decide +kernel
theorem dstate_87 : decode cX12_state 87 = .ok (.iconst 0, 1) := by decide +kernel
theorem dstate_88 : decode cX12_state 88 = .ok (.iconst 0, 1) := by decide +kernel
theorem dstate_89 : decode cX12_state 89 = .ok (.invokevirtual 790, 3) := by decide +kernel
theorem dstate_92 : decode cX12_state 92 = .ok (.ifCond .eq 18, 3) := by decide +kernel
theorem dstate_95 : decode cX12_state 95 = .ok (.aload_n 0, 1) := by decide +kernel
theorem dstate_96 : decode cX12_state 96 = .ok (.iconst 1, 1) := by decide +kernel
theorem dstate_97 : decode cX12_state 97 = .ok (.iconst 0, 1) := by decide +kernel
theorem dstate_98 : decode cX12_state 98 = .ok (.iconst 0, 1) := by decide +kernel
theorem dstate_99 : decode cX12_state 99 = .ok (.iconst 0, 1) := by decide +kernel
theorem dstate_100 : decode cX12_state 100 = .ok (.invokevirtual 790, 3) := by decide +kernel
theorem dstate_103 : decode cX12_state 103 = .ok (.ifCond .eq 7, 3) := by decide +kernel
theorem dstate_106 : decode cX12_state 106 = .ok (.iconst 1, 1) := by decide +kernel
theorem dstate_107 : decode cX12_state 107 = .ok (.goto 4, 3) := by decide +kernel
theorem dstate_110 : decode cX12_state 110 = .ok (.iconst 0, 1) := by decide +kernel
theorem dstate_111 : decode cX12_state 111 = .ok (.ireturn, 1) := by decide +kernel
theorem dstate_112 : decode cX12_state 112 = .ok (.aload_n 0, 1) := by decide +kernel
theorem dstate_113 : decode cX12_state 113 = .ok (.bipush 19, 2) := by decide +kernel
theorem dstate_115 : decode cX12_state 115 = .ok (.invokevirtual 596, 3) := by decide +kernel
theorem dstate_118 : decode cX12_state 118 = .ok (.ifCond .eq 39, 3) := by decide +kernel
theorem dstate_121 : decode cX12_state 121 = .ok (.aload_n 0, 1) := by decide +kernel
theorem dstate_122 : decode cX12_state 122 = .ok (.invokevirtual 589, 3) := by decide +kernel
theorem dstate_125 : decode cX12_state 125 = .ok (.ifCond .eq 30, 3) := by decide +kernel
theorem dstate_128 : decode cX12_state 128 = .ok (.aload_n 0, 1) := by decide +kernel
theorem dstate_129 : decode cX12_state 129 = .ok (.bipush 20, 2) := by decide +kernel
theorem dstate_131 : decode cX12_state 131 = .ok (.iconst 0, 1) := by decide +kernel
theorem dstate_132 : decode cX12_state 132 = .ok (.iconst 0, 1) := by decide +kernel
theorem dstate_133 : decode cX12_state 133 = .ok (.iconst 0, 1) := by decide +kernel
theorem dstate_134 : decode cX12_state 134 = .ok (.invokevirtual 790, 3) := by decide +kernel
theorem dstate_137 : decode cX12_state 137 = .ok (.ifCond .eq 18, 3) := by decide +kernel
theorem dstate_140 : decode cX12_state 140 = .ok (.aload_n 0, 1) := by decide +kernel
theorem dstate_141 : decode cX12_state 141 = .ok (.iconst 1, 1) := by decide +kernel
theorem dstate_142 : decode cX12_state 142 = .ok (.iconst 0, 1) := by decide +kernel
theorem dstate_143 : decode cX12_state 143 = .ok (.iconst 0, 1) := by decide +kernel
theorem dstate_144 : decode cX12_state 144 = .ok (.iconst 0, 1) := by decide +kernel
theorem dstate_145 : decode cX12_state 145 = .ok (.invokevirtual 790, 3) := by decide +kernel
theorem dstate_148 : decode cX12_state 148 = .ok (.ifCond .eq 7, 3) := by decide +kernel
theorem dstate_151 : decode cX12_state 151 = .ok (.iconst 1, 1) := by decide +kernel
theorem dstate_152 : decode cX12_state 152 = .ok (.goto 4, 3) := by decide +kernel
theorem dstate_155 : decode cX12_state 155 = .ok (.iconst 0, 1) := by decide +kernel
theorem dstate_156 : decode cX12_state 156 = .ok (.ireturn, 1) := by decide +kernel
theorem dstate_157 : decode cX12_state 157 = .ok (.aload_n 0, 1) := by decide +kernel
theorem dstate_158 : decode cX12_state 158 = .ok (.bipush 43, 2) := by decide +kernel
theorem dstate_160 : decode cX12_state 160 = .ok (.invokevirtual 596, 3) := by decide +kernel
theorem dstate_163 : decode cX12_state 163 = .ok (.ifCond .eq 39, 3) := by decide +kernel
theorem dstate_166 : decode cX12_state 166 = .ok (.aload_n 0, 1) := by decide +kernel
theorem dstate_167 : decode cX12_state 167 = .ok (.invokevirtual 589, 3) := by decide +kernel
theorem dstate_170 : decode cX12_state 170 = .ok (.ifCond .eq 30, 3) := by decide +kernel
theorem dstate_173 : decode cX12_state 173 = .ok (.aload_n 0, 1) := by decide +kernel
theorem dstate_174 : decode cX12_state 174 = .ok (.bipush 23, 2) := by decide +kernel
theorem dstate_176 : decode cX12_state 176 = .ok (.iload_n 1, 1) := by decide +kernel
theorem dstate_177 : decode cX12_state 177 = .ok (.iconst 0, 1) := by decide +kernel
theorem dstate_178 : decode cX12_state 178 = .ok (.iconst 0, 1) := by decide +kernel
theorem dstate_179 : decode cX12_state 179 = .ok (.invokevirtual 790, 3) := by decide +kernel
theorem dstate_182 : decode cX12_state 182 = .ok (.ifCond .eq 18, 3) := by decide +kernel
theorem dstate_185 : decode cX12_state 185 = .ok (.aload_n 0, 1) := by decide +kernel
theorem dstate_186 : decode cX12_state 186 = .ok (.iconst 1, 1) := by decide +kernel
theorem dstate_187 : decode cX12_state 187 = .ok (.iconst 0, 1) := by decide +kernel
theorem dstate_188 : decode cX12_state 188 = .ok (.iconst 0, 1) := by decide +kernel
theorem dstate_189 : decode cX12_state 189 = .ok (.iconst 0, 1) := by decide +kernel
theorem dstate_190 : decode cX12_state 190 = .ok (.invokevirtual 790, 3) := by decide +kernel
theorem dstate_193 : decode cX12_state 193 = .ok (.ifCond .eq 7, 3) := by decide +kernel
theorem dstate_196 : decode cX12_state 196 = .ok (.iconst 1, 1) := by decide +kernel
theorem dstate_197 : decode cX12_state 197 = .ok (.goto 4, 3) := by decide +kernel
theorem dstate_200 : decode cX12_state 200 = .ok (.iconst 0, 1) := by decide +kernel
theorem dstate_201 : decode cX12_state 201 = .ok (.ireturn, 1) := by decide +kernel
theorem dstate_202 : decode cX12_state 202 = .ok (.aload_n 0, 1) := by decide +kernel
theorem dstate_203 : decode cX12_state 203 = .ok (.bipush 34, 2) := by decide +kernel
theorem dstate_205 : decode cX12_state 205 = .ok (.invokevirtual 596, 3) := by decide +kernel
theorem dstate_208 : decode cX12_state 208 = .ok (.ifCond .eq 97, 3) := by decide +kernel
theorem dstate_211 : decode cX12_state 211 = .ok (.aload_n 0, 1) := by decide +kernel
theorem dstate_212 : decode cX12_state 212 = .ok (.invokevirtual 589, 3) := by decide +kernel
theorem dstate_215 : decode cX12_state 215 = .ok (.ifCond .ne 5, 3) := by decide +kernel
theorem dstate_218 : decode cX12_state 218 = .ok (.iconst 0, 1) := by decide +kernel
theorem dstate_219 : decode cX12_state 219 = .ok (.ireturn, 1) := by decide +kernel
theorem dstate_220 : decode cX12_state 220 = .ok (.aload_n 0, 1) := by decide +kernel
theorem dstate_221 : decode cX12_state 221 = .ok (.bipush 59, 2) := by decide +kernel
theorem dstate_223 : decode cX12_state 223 = .ok (.invokevirtual 586, 3) := by decide +kernel
theorem dstate_226 : decode cX12_state 226 = .ok (.ifCond .eq 37, 3) := by decide +kernel
theorem dstate_229 : decode cX12_state 229 = .ok (.aload_n 0, 1) := by decide +kernel
theorem dstate_230 : decode cX12_state 230 = .ok (.invokevirtual 589, 3) := by decide +kernel
theorem dstate_233 : decode cX12_state 233 = .ok (.ifCond .eq 28, 3) := by decide +kernel
theorem dstate_236 : decode cX12_state 236 = .ok (.aload_n 0, 1) := by decide +kernel
theorem dstate_237 : decode cX12_state 237 = .ok (.iconst 2, 1) := by decide +kernel
theorem dstate_238 : decode cX12_state 238 = .ok (.iconst 0, 1) := by decide +kernel
theorem dstate_239 : decode cX12_state 239 = .ok (.iconst 0, 1) := by decide +kernel
theorem dstate_240 : decode cX12_state 240 = .ok (.invokevirtual 732, 3) := by decide +kernel
theorem dstate_243 : decode cX12_state 243 = .ok (.ifCond .lt 18, 3) := by decide +kernel
theorem dstate_246 : decode cX12_state 246 = .ok (.aload_n 0, 1) := by decide +kernel
theorem dstate_247 : decode cX12_state 247 = .ok (.bipush 19, 2) := by decide +kernel
theorem dstate_249 : decode cX12_state 249 = .ok (.iconst 0, 1) := by decide +kernel
theorem dstate_250 : decode cX12_state 250 = .ok (.iconst 0, 1) := by decide +kernel
theorem dstate_251 : decode cX12_state 251 = .ok (.invokevirtual 732, 3) := by decide +kernel
theorem dstate_254 : decode cX12_state 254 = .ok (.ifCond .lt 7, 3) := by decide +kernel
theorem dstate_257 : decode cX12_state 257 = .ok (.iconst 1, 1) := by decide +kernel
theorem dstate_258 : decode cX12_state 258 = .ok (.goto 4, 3) := by decide +kernel
theorem dstate_261 : decode cX12_state 261 = .ok (.iconst 0, 1) := by decide +kernel
theorem dstate_262 : decode cX12_state 262 = .ok (.ireturn, 1) := by decide +kernel
theorem dstate_263 : decode cX12_state 263 = .ok (.aload_n 0, 1) := by decide +kernel
theorem dstate_264 : decode cX12_state 264 = .ok (.bipush 25, 2) := by decide +kernel
theorem dstate_266 : decode cX12_state 266 = .ok (.iconst 0, 1) := by decide +kernel
theorem dstate_267 : decode cX12_state 267 = .ok (.iconst 0, 1) := by decide +kernel
theorem dstate_268 : decode cX12_state 268 = .ok (.iconst 0, 1) := by decide +kernel
theorem dstate_269 : decode cX12_state 269 = .ok (.invokevirtual 790, 3) := by decide +kernel
theorem dstate_272 : decode cX12_state 272 = .ok (.ifCond .eq 31, 3) := by decide +kernel
theorem dstate_275 : decode cX12_state 275 = .ok (.aload_n 0, 1) := by decide +kernel
theorem dstate_276 : decode cX12_state 276 = .ok (.bipush 37, 2) := by decide +kernel
theorem dstate_278 : decode cX12_state 278 = .ok (.bipush 59, 2) := by decide +kernel
theorem dstate_280 : decode cX12_state 280 = .ok (.iconst 0, 1) := by decide +kernel
theorem dstate_281 : decode cX12_state 281 = .ok (.iconst 0, 1) := by decide +kernel
theorem dstate_282 : decode cX12_state 282 = .ok (.invokevirtual 790, 3) := by decide +kernel
theorem dstate_285 : decode cX12_state 285 = .ok (.ifCond .eq 18, 3) := by decide +kernel
theorem dstate_288 : decode cX12_state 288 = .ok (.aload_n 0, 1) := by decide +kernel
theorem dstate_289 : decode cX12_state 289 = .ok (.iconst 1, 1) := by decide +kernel
theorem dstate_290 : decode cX12_state 290 = .ok (.iconst 0, 1) := by decide +kernel
theorem dstate_291 : decode cX12_state 291 = .ok (.iconst 0, 1) := by decide +kernel
theorem dstate_292 : decode cX12_state 292 = .ok (.iconst 0, 1) := by decide +kernel
theorem dstate_293 : decode cX12_state 293 = .ok (.invokevirtual 790, 3) := by decide +kernel
theorem dstate_296 : decode cX12_state 296 = .ok (.ifCond .eq 7, 3) := by decide +kernel
theorem dstate_299 : decode cX12_state 299 = .ok (.iconst 1, 1) := by decide +kernel
theorem dstate_300 : decode cX12_state 300 = .ok (.goto 4, 3) := by decide +kernel
theorem dstate_303 : decode cX12_state 303 = .ok (.iconst 0, 1) := by decide +kernel
theorem dstate_304 : decode cX12_state 304 = .ok (.ireturn, 1) := by decide +kernel
theorem dstate_305 : decode cX12_state 305 = .ok (.aload_n 0, 1) := by decide +kernel
theorem dstate_306 : decode cX12_state 306 = .ok (.bipush 39, 2) := by decide +kernel
theorem dstate_308 : decode cX12_state 308 = .ok (.invokevirtual 596, 3) := by decide +kernel
theorem dstate_311 : decode cX12_state 311 = .ok (.ifCond .eq 10, 3) := by decide +kernel
theorem dstate_314 : decode cX12_state 314 = .ok (.aload_n 0, 1) := by decide +kernel
theorem dstate_315 : decode cX12_state 315 = .ok (.bipush 26, 2) := by decide +kernel
theorem dstate_317 : decode cX12_state 317 = .ok (.invokevirtual 835, 3) := by decide +kernel
theorem dstate_320 : decode cX12_state 320 = .ok (.ireturn, 1) := by decide +kernel
theorem dstate_321 : decode cX12_state 321 = .ok (.aload_n 0, 1) := by decide +kernel
theorem dstate_322 : decode cX12_state 322 = .ok (.bipush 33, 2) := by decide +kernel
theorem dstate_324 : decode cX12_state 324 = .ok (.invokevirtual 596, 3) := by decide +kernel
theorem dstate_327 : decode cX12_state 327 = .ok (.ifCond .eq 10, 3) := by decide +kernel
theorem dstate_330 : decode cX12_state 330 = .ok (.aload_n 0, 1) := by decide +kernel
theorem dstate_331 : decode cX12_state 331 = .ok (.bipush 27, 2) := by decide +kernel
theorem dstate_333 : decode cX12_state 333 = .ok (.invokevirtual 835, 3) := by decide +kernel
theorem dstate_336 : decode cX12_state 336 = .ok (.ireturn, 1) := by decide +kernel
theorem dstate_337 : decode cX12_state 337 = .ok (.aload_n 0, 1) := by decide +kernel
theorem dstate_338 : decode cX12_state 338 = .ok (.bipush 40, 2) := by decide +kernel
theorem dstate_340 : decode cX12_state 340 = .ok (.invokevirtual 596, 3) := by decide +kernel
theorem dstate_343 : decode cX12_state 343 = .ok (.ifCond .eq 47, 3) := by decide +kernel
theorem dstate_346 : decode cX12_state 346 = .ok (.aload_n 0, 1) := by decide +kernel
theorem dstate_347 : decode cX12_state 347 = .ok (.invokevirtual 589, 3) := by decide +kernel
theorem dstate_350 : decode cX12_state 350 = .ok (.ifCond .eq 38, 3) := by decide +kernel
theorem dstate_353 : decode cX12_state 353 = .ok (.aload_n 0, 1) := by decide +kernel
theorem dstate_354 : decode cX12_state 354 = .ok (.bipush 28, 2) := by decide +kernel
theorem dstate_356 : decode cX12_state 356 = .ok (.aload_n 0, 1) := by decide +kernel
theorem dstate_357 : decode cX12_state 357 = .ok (.bipush 23, 2) := by decide +kernel
theorem dstate_359 : decode cX12_state 359 = .ok (.iconst 0, 1) := by decide +kernel
theorem dstate_360 : decode cX12_state 360 = .ok (.iconst 0, 1) := by decide +kernel
theorem dstate_361 : decode cX12_state 361 = .ok (.invokevirtual 732, 3) := by decide +kernel
theorem dstate_364 : decode cX12_state 364 = .ok (.iconst 0, 1) := by decide +kernel
theorem dstate_365 : decode cX12_state 365 = .ok (.iconst 0, 1) := by decide +kernel
theorem dstate_366 : decode cX12_state 366 = .ok (.invokevirtual 790, 3) := by decide +kernel
theorem dstate_369 : decode cX12_state 369 = .ok (.ifCond .eq 19, 3) := by decide +kernel
theorem dstate_372 : decode cX12_state 372 = .ok (.aload_n 0, 1) := by decide +kernel
theorem dstate_373 : decode cX12_state 373 = .ok (.bipush 14, 2) := by decide +kernel
theorem dstate_375 : decode cX12_state 375 = .ok (.iconst 0, 1) := by decide +kernel
theorem dstate_376 : decode cX12_state 376 = .ok (.iconst 0, 1) := by decide +kernel
theorem dstate_377 : decode cX12_state 377 = .ok (.iconst 0, 1) := by decide +kernel
theorem dstate_378 : decode cX12_state 378 = .ok (.invokevirtual 790, 3) := by decide +kernel
theorem dstate_381 : decode cX12_state 381 = .ok (.ifCond .eq 7, 3) := by decide +kernel
theorem dstate_384 : decode cX12_state 384 = .ok (.iconst 1, 1) := by decide +kernel
theorem dstate_385 : decode cX12_state 385 = .ok (.goto 4, 3) := by decide +kernel
theorem dstate_388 : decode cX12_state 388 = .ok (.iconst 0, 1) := by decide +kernel
theorem dstate_389 : decode cX12_state 389 = .ok (.ireturn, 1) := by decide +kernel
theorem dstate_390 : decode cX12_state 390 = .ok (.aload_n 0, 1) := by decide +kernel
theorem dstate_391 : decode cX12_state 391 = .ok (.bipush 18, 2) := by decide +kernel
theorem dstate_393 : decode cX12_state 393 = .ok (.iconst 0, 1) := by decide +kernel
theorem dstate_394 : decode cX12_state 394 = .ok (.iconst 0, 1) := by decide +kernel
theorem dstate_395 : decode cX12_state 395 = .ok (.iconst 0, 1) := by decide +kernel
theorem dstate_396 : decode cX12_state 396 = .ok (.invokevirtual 790, 3) := by decide +kernel
theorem dstate_399 : decode cX12_state 399 = .ok (.ifCond .eq 18, 3) := by decide +kernel
theorem dstate_402 : decode cX12_state 402 = .ok (.aload_n 0, 1) := by decide +kernel
theorem dstate_403 : decode cX12_state 403 = .ok (.iconst 1, 1) := by decide +kernel
theorem dstate_404 : decode cX12_state 404 = .ok (.iconst 0, 1) := by decide +kernel
theorem dstate_405 : decode cX12_state 405 = .ok (.iconst 0, 1) := by decide +kernel
theorem dstate_406 : decode cX12_state 406 = .ok (.iconst 0, 1) := by decide +kernel
theorem dstate_407 : decode cX12_state 407 = .ok (.invokevirtual 790, 3) := by decide +kernel
theorem dstate_410 : decode cX12_state 410 = .ok (.ifCond .eq 7, 3) := by decide +kernel
theorem dstate_413 : decode cX12_state 413 = .ok (.iconst 1, 1) := by decide +kernel
theorem dstate_414 : decode cX12_state 414 = .ok (.goto 4, 3) := by decide +kernel
theorem dstate_417 : decode cX12_state 417 = .ok (.iconst 0, 1) := by decide +kernel
theorem dstate_418 : decode cX12_state 418 = .ok (.ireturn, 1) := by decide +kernel
section
variable {l : Launch} {D : va_G} {cA : Nat → ClassId} {ad : Nat → Nat}
theorem s_state {hz : ja_H} {R r ph q0 a b : Int} {tf : mo_TF} {s : List mo_A} {ht st rg : Nat → Int} {tu : Int} {h : ja_H} {Q : Option ja_V → ja_H → Prop} (g : mo_G Zz h) (p1 : mo_G Zz hz) (p2 : pk_S hz (hz 0 17).toNat s) (p3 : piB hz R r ph tf q0 ((15, a, b) :: s) ht st rg tu) (p4 : (hz 0 18) < 16) (p5 : h = mo_L (mo_L (ja_up hz 0 18 ((hz 0 18) + 1)) 15 0 0 0) 30 0 0 0) (k1 : ∀ (h' : ja_H), (pi_done hz h' R r ph tf q0 (pi_mu hz ((15, a, b) :: s))) → mo_G Zz h' → Q (some (0, 1)) h') (k2 : ∀ (h' : ja_H), (0 < (h' 0 8) ∧ (h' 0 1) = (h 0 1) ∧ (h' 0 118) = (h 0 118) ∧ (h' 0 127) = (h 0 127)) → mo_G Zz h' → Q (some (0, 0)) h') : mM_state l D cA ad  h Q := by
  show mJ l D cA ad 4 cX12_state 3 (some .boolean) 0 [(0, (2, ((0 : Nat) : Int)))] [] h Q
  have kn_at := gF_at g
  have kn_wTop := gF_wTop g
  have kn_words := gF_words g
  have kn_locals := gF_locals g
  have hN := piB_num p1 p2 p3
  obtain ⟨N1, N2, N3, N4, N5, N6, N7, N8, N9, N10, N11, N12, N13, -, -, -, -, -⟩ := hN
  have hll := bs_hl (by dsimp only; decide) p3
  have e_at : (h 0 7) = (hz 0 7) := by rw [p5]; rfl
  have e_wTop : (h 0 17) = (hz 0 17) + 1 + 1 := by rw [p5]; rfl
  have e_words : (h 0 113) = (hz 0 113) := by rw [p5]; rfl
  have e_locals : (h 0 77) = (hz 0 77) := by rw [p5]; rfl
  refine ja_aload_n dstate_0 rfl rfl ?_
  refine ja_bipush 25 dstate_1 rfl ?_
  refine ja_iconst dstate_3 ?_
  refine ja_iconst dstate_4 ?_
  refine t_emit (by decide) (show (0 : Nat) ≤ 8 by decide) dstate_5 g ⟨by decide, by decide⟩ ⟨by decide, by decide⟩ ⟨by decide, by decide⟩ (show 0 ≤ 25 ∧ 25 ≤ 26 by omega) (show (h 0 113) < 5000 by omega) ?_
  intro g1
  replace g1 : mo_G Zz (ja_up (ja_up (ja_up (ja_up h 74 ((h 0 113).toNat) 25) 75 ((h 0 113).toNat) 0) 76 ((h 0 113).toNat) 0) 0 113 ((h 0 113) + 1)) := g1
  show mJ l D cA ad 4 cX12_state 3 (some .boolean) 8 [(0, (2, ((0 : Nat) : Int)))] [(0, (h 0 113))] (ja_up (ja_up (ja_up (ja_up h 74 ((h 0 113).toNat) 25) 75 ((h 0 113).toNat) 0) 76 ((h 0 113).toNat) 0) 0 113 ((h 0 113) + 1)) Q
  refine ja_istore_n dstate_8 rfl (by decide) (L2 := [(1, (0, (h 0 113))), (0, (2, ((0 : Nat) : Int)))]) rfl ?_
  refine ja_aload_n dstate_9 rfl rfl ?_
  refine ja_bipush 22 dstate_10 rfl ?_
  refine t_isWord (by decide) (show (0 : Nat) ≤ 8 by decide) dstate_12 g1 ⟨by decide, by decide⟩ ?_
  intro w2 k12_0
  replace k12_0 : (w2 = 1 ∧ (h 2 (h 0 7).toNat) = 1 ∧ (h 5 (h 0 7).toNat) = 22) ∨ (w2 = 0 ∧ ¬ ((h 2 (h 0 7).toNat) = 1 ∧ (h 5 (h 0 7).toNat) = 22)) := k12_0
  refine ja_if_eq 112 dstate_15 rfl ⟨by omega, by omega⟩ (fun c15 => ?_) (fun c15 => ?_)
  · replace k12_0 := is0 k12_0 c15
    refine ja_aload_n dstate_112 rfl rfl ?_
    refine ja_bipush 19 dstate_113 rfl ?_
    refine t_isWord (by decide) (show (0 : Nat) ≤ 8 by decide) dstate_115 g1 ⟨by decide, by decide⟩ ?_
    intro w3 k115_0
    replace k115_0 : (w3 = 1 ∧ (h 2 (h 0 7).toNat) = 1 ∧ (h 5 (h 0 7).toNat) = 19) ∨ (w3 = 0 ∧ ¬ ((h 2 (h 0 7).toNat) = 1 ∧ (h 5 (h 0 7).toNat) = 19)) := k115_0
    refine ja_if_eq 157 dstate_118 rfl ⟨by omega, by omega⟩ (fun c118 => ?_) (fun c118 => ?_)
    · replace k115_0 := is0 k115_0 c118
      refine ja_aload_n dstate_157 rfl rfl ?_
      refine ja_bipush 43 dstate_158 rfl ?_
      refine t_isWord (by decide) (show (0 : Nat) ≤ 8 by decide) dstate_160 g1 ⟨by decide, by decide⟩ ?_
      intro w4 k160_0
      replace k160_0 : (w4 = 1 ∧ (h 2 (h 0 7).toNat) = 1 ∧ (h 5 (h 0 7).toNat) = 43) ∨ (w4 = 0 ∧ ¬ ((h 2 (h 0 7).toNat) = 1 ∧ (h 5 (h 0 7).toNat) = 43)) := k160_0
      refine ja_if_eq 202 dstate_163 rfl ⟨by omega, by omega⟩ (fun c163 => ?_) (fun c163 => ?_)
      · replace k160_0 := is0 k160_0 c163
        refine ja_aload_n dstate_202 rfl rfl ?_
        refine ja_bipush 34 dstate_203 rfl ?_
        refine t_isWord (by decide) (show (0 : Nat) ≤ 8 by decide) dstate_205 g1 ⟨by decide, by decide⟩ ?_
        intro w5 k205_0
        replace k205_0 : (w5 = 1 ∧ (h 2 (h 0 7).toNat) = 1 ∧ (h 5 (h 0 7).toNat) = 34) ∨ (w5 = 0 ∧ ¬ ((h 2 (h 0 7).toNat) = 1 ∧ (h 5 (h 0 7).toNat) = 34)) := k205_0
        refine ja_if_eq 305 dstate_208 rfl ⟨by omega, by omega⟩ (fun c208 => ?_) (fun c208 => ?_)
        · replace k205_0 := is0 k205_0 c208
          refine ja_aload_n dstate_305 rfl rfl ?_
          refine ja_bipush 39 dstate_306 rfl ?_
          refine t_isWord (by decide) (show (0 : Nat) ≤ 8 by decide) dstate_308 g1 ⟨by decide, by decide⟩ ?_
          intro w6 k308_0
          replace k308_0 : (w6 = 1 ∧ (h 2 (h 0 7).toNat) = 1 ∧ (h 5 (h 0 7).toNat) = 39) ∨ (w6 = 0 ∧ ¬ ((h 2 (h 0 7).toNat) = 1 ∧ (h 5 (h 0 7).toNat) = 39)) := k308_0
          refine ja_if_eq 321 dstate_311 rfl ⟨by omega, by omega⟩ (fun c311 => ?_) (fun c311 => ?_)
          · replace k308_0 := is0 k308_0 c311
            refine ja_aload_n dstate_321 rfl rfl ?_
            refine ja_bipush 33 dstate_322 rfl ?_
            refine t_isWord (by decide) (show (0 : Nat) ≤ 8 by decide) dstate_324 g1 ⟨by decide, by decide⟩ ?_
            intro w7 k324_0
            replace k324_0 : (w7 = 1 ∧ (h 2 (h 0 7).toNat) = 1 ∧ (h 5 (h 0 7).toNat) = 33) ∨ (w7 = 0 ∧ ¬ ((h 2 (h 0 7).toNat) = 1 ∧ (h 5 (h 0 7).toNat) = 33)) := k324_0
            refine ja_if_eq 337 dstate_327 rfl ⟨by omega, by omega⟩ (fun c327 => ?_) (fun c327 => ?_)
            · replace k324_0 := is0 k324_0 c327
              refine ja_aload_n dstate_337 rfl rfl ?_
              refine ja_bipush 40 dstate_338 rfl ?_
              refine t_isWord (by decide) (show (0 : Nat) ≤ 8 by decide) dstate_340 g1 ⟨by decide, by decide⟩ ?_
              intro w8 k340_0
              replace k340_0 : (w8 = 1 ∧ (h 2 (h 0 7).toNat) = 1 ∧ (h 5 (h 0 7).toNat) = 40) ∨ (w8 = 0 ∧ ¬ ((h 2 (h 0 7).toNat) = 1 ∧ (h 5 (h 0 7).toNat) = 40)) := k340_0
              refine ja_if_eq 390 dstate_343 rfl ⟨by omega, by omega⟩ (fun c343 => ?_) (fun c343 => ?_)
              · replace k340_0 := is0 k340_0 c343
                refine ja_aload_n dstate_390 rfl rfl ?_
                refine ja_bipush 18 dstate_391 rfl ?_
                refine ja_iconst dstate_393 ?_
                refine ja_iconst dstate_394 ?_
                refine ja_iconst dstate_395 ?_
                refine t_later (by decide) (show (0 : Nat) ≤ 8 by decide) dstate_396 g1 ⟨by decide, by decide⟩ ⟨by decide, by decide⟩ ⟨by decide, by decide⟩ ⟨by decide, by decide⟩ (show 0 ≤ 18 ∧ 18 ≤ 38 by omega) (show (h 0 17) < 2000 by omega) ?_
                intro g9
                replace g9 : mo_G Zz (ja_up (ja_up (ja_up (ja_up (ja_up (ja_up (ja_up (ja_up (ja_up h 74 ((h 0 113).toNat) 25) 75 ((h 0 113).toNat) 0) 76 ((h 0 113).toNat) 0) 0 113 ((h 0 113) + 1)) 6 ((h 0 17).toNat) 18) 7 ((h 0 17).toNat) 0) 8 ((h 0 17).toNat) 0) 9 ((h 0 17).toNat) 0) 0 17 ((h 0 17) + 1)) := g9
                show mJ l D cA ad 4 cX12_state 3 (some .boolean) 399 [(1, (0, (h 0 113))), (0, (2, ((0 : Nat) : Int)))] [(0, 1)] (ja_up (ja_up (ja_up (ja_up (ja_up (ja_up (ja_up (ja_up (ja_up h 74 ((h 0 113).toNat) 25) 75 ((h 0 113).toNat) 0) 76 ((h 0 113).toNat) 0) 0 113 ((h 0 113) + 1)) 6 ((h 0 17).toNat) 18) 7 ((h 0 17).toNat) 0) 8 ((h 0 17).toNat) 0) 9 ((h 0 17).toNat) 0) 0 17 ((h 0 17) + 1)) Q
                refine ja_if_eq 417 dstate_399 rfl ⟨by decide, by decide⟩ (fun c399 => absurd c399 (by omega)) (fun c399 => ?_)
                refine ja_aload_n dstate_402 rfl rfl ?_
                refine ja_iconst dstate_403 ?_
                refine ja_iconst dstate_404 ?_
                refine ja_iconst dstate_405 ?_
                refine ja_iconst dstate_406 ?_
                refine t_later (by decide) (show (0 : Nat) ≤ 8 by decide) dstate_407 g9 ⟨by decide, by decide⟩ ⟨by decide, by decide⟩ ⟨by decide, by decide⟩ ⟨by decide, by decide⟩ (show 0 ≤ 1 ∧ 1 ≤ 38 by omega) (show ((h 0 17) + 1) < 2000 by omega) ?_
                intro g10
                replace g10 : mo_G Zz (ja_up (ja_up (ja_up (ja_up (ja_up (ja_up (ja_up (ja_up (ja_up (ja_up (ja_up (ja_up (ja_up (ja_up h 74 ((h 0 113).toNat) 25) 75 ((h 0 113).toNat) 0) 76 ((h 0 113).toNat) 0) 0 113 ((h 0 113) + 1)) 6 ((h 0 17).toNat) 18) 7 ((h 0 17).toNat) 0) 8 ((h 0 17).toNat) 0) 9 ((h 0 17).toNat) 0) 0 17 ((h 0 17) + 1)) 6 (((h 0 17) + 1).toNat) 1) 7 (((h 0 17) + 1).toNat) 0) 8 (((h 0 17) + 1).toNat) 0) 9 (((h 0 17) + 1).toNat) 0) 0 17 (((h 0 17) + 1) + 1)) := g10
                show mJ l D cA ad 4 cX12_state 3 (some .boolean) 410 [(1, (0, (h 0 113))), (0, (2, ((0 : Nat) : Int)))] [(0, 1)] (ja_up (ja_up (ja_up (ja_up (ja_up (ja_up (ja_up (ja_up (ja_up (ja_up (ja_up (ja_up (ja_up (ja_up h 74 ((h 0 113).toNat) 25) 75 ((h 0 113).toNat) 0) 76 ((h 0 113).toNat) 0) 0 113 ((h 0 113) + 1)) 6 ((h 0 17).toNat) 18) 7 ((h 0 17).toNat) 0) 8 ((h 0 17).toNat) 0) 9 ((h 0 17).toNat) 0) 0 17 ((h 0 17) + 1)) 6 (((h 0 17) + 1).toNat) 1) 7 (((h 0 17) + 1).toNat) 0) 8 (((h 0 17) + 1).toNat) 0) 9 (((h 0 17) + 1).toNat) 0) 0 17 (((h 0 17) + 1) + 1)) Q
                refine ja_if_eq 417 dstate_410 rfl ⟨by decide, by decide⟩ (fun c410 => absurd c410 (by omega)) (fun c410 => ?_)
                refine ja_iconst dstate_413 ?_
                refine ja_goto 418 dstate_414 rfl ?_
                refine ja_zreturn dstate_418 rfl (by omega) ?_
                exact mo_fin (by omega) rfl (k1 (ja_up (ja_up (ja_up (ja_up (ja_up (ja_up (ja_up (ja_up (ja_up (ja_up (ja_up (ja_up (ja_up (ja_up h 74 ((h 0 113).toNat) 25) 75 ((h 0 113).toNat) 0) 76 ((h 0 113).toNat) 0) 0 113 ((h 0 113) + 1)) 6 ((h 0 17).toNat) 18) 7 ((h 0 17).toNat) 0) 8 ((h 0 17).toNat) 0) 9 ((h 0 17).toNat) 0) 0 17 ((h 0 17) + 1)) 6 (((h 0 17) + 1).toNat) 1) 7 (((h 0 17) + 1).toNat) 0) 8 (((h 0 17) + 1).toNat) 0) 9 (((h 0 17) + 1).toNat) 0) 0 17 (((h 0 17) + 1) + 1)) ((by subst p5; exact ab_st_ev p1 p2 p3)) g10)
              · have z343 := is1v k340_0 c343
                replace k340_0 := is1 k340_0 c343
                refine ja_aload_n dstate_346 rfl rfl ?_
                refine t_take (by decide) (show (0 : Nat) ≤ 8 by decide) dstate_347 g1  ?_ ?_
                · intro k347_0 g11
                  replace k347_0 : (h 0 7) < 900 := k347_0
                  replace g11 : mo_G Zz (ja_up (ja_up (ja_up (ja_up (ja_up h 74 ((h 0 113).toNat) 25) 75 ((h 0 113).toNat) 0) 76 ((h 0 113).toNat) 0) 0 113 ((h 0 113) + 1)) 0 7 ((h 0 7) + 1)) := g11
                  show mJ l D cA ad 4 cX12_state 3 (some .boolean) 350 [(1, (0, (h 0 113))), (0, (2, ((0 : Nat) : Int)))] [(0, 1)] (ja_up (ja_up (ja_up (ja_up (ja_up h 74 ((h 0 113).toNat) 25) 75 ((h 0 113).toNat) 0) 76 ((h 0 113).toNat) 0) 0 113 ((h 0 113) + 1)) 0 7 ((h 0 7) + 1)) Q
                  refine ja_if_eq 388 dstate_350 rfl ⟨by decide, by decide⟩ (fun c350 => absurd c350 (by omega)) (fun c350 => ?_)
                  refine ja_aload_n dstate_353 rfl rfl ?_
                  refine ja_bipush 28 dstate_354 rfl ?_
                  refine ja_aload_n dstate_356 rfl rfl ?_
                  refine ja_bipush 23 dstate_357 rfl ?_
                  refine ja_iconst dstate_359 ?_
                  refine ja_iconst dstate_360 ?_
                  refine t_emit (by decide) (show (2 : Nat) ≤ 8 by decide) dstate_361 g11 ⟨by decide, by decide⟩ ⟨by decide, by decide⟩ ⟨by decide, by decide⟩ (show 0 ≤ 23 ∧ 23 ≤ 26 by omega) (show ((h 0 113) + 1) < 5000 by omega) ?_
                  intro g12
                  replace g12 : mo_G Zz (ja_up (ja_up (ja_up (ja_up (ja_up (ja_up (ja_up (ja_up (ja_up h 74 ((h 0 113).toNat) 25) 75 ((h 0 113).toNat) 0) 76 ((h 0 113).toNat) 0) 0 113 ((h 0 113) + 1)) 0 7 ((h 0 7) + 1)) 74 (((h 0 113) + 1).toNat) 23) 75 (((h 0 113) + 1).toNat) 0) 76 (((h 0 113) + 1).toNat) 0) 0 113 (((h 0 113) + 1) + 1)) := g12
                  show mJ l D cA ad 4 cX12_state 3 (some .boolean) 364 [(1, (0, (h 0 113))), (0, (2, ((0 : Nat) : Int)))] [(0, ((h 0 113) + 1)), (0, 28), (2, ((0 : Nat) : Int))] (ja_up (ja_up (ja_up (ja_up (ja_up (ja_up (ja_up (ja_up (ja_up h 74 ((h 0 113).toNat) 25) 75 ((h 0 113).toNat) 0) 76 ((h 0 113).toNat) 0) 0 113 ((h 0 113) + 1)) 0 7 ((h 0 7) + 1)) 74 (((h 0 113) + 1).toNat) 23) 75 (((h 0 113) + 1).toNat) 0) 76 (((h 0 113) + 1).toNat) 0) 0 113 (((h 0 113) + 1) + 1)) Q
                  refine ja_iconst dstate_364 ?_
                  refine ja_iconst dstate_365 ?_
                  refine t_later (by decide) (show (0 : Nat) ≤ 8 by decide) dstate_366 g12 ⟨by decide, by decide⟩ ⟨by omega, by omega⟩ ⟨by decide, by decide⟩ ⟨by decide, by decide⟩ (show 0 ≤ 28 ∧ 28 ≤ 38 by omega) (show (h 0 17) < 2000 by omega) ?_
                  intro g13
                  replace g13 : mo_G Zz (ja_up (ja_up (ja_up (ja_up (ja_up (ja_up (ja_up (ja_up (ja_up (ja_up (ja_up (ja_up (ja_up (ja_up h 74 ((h 0 113).toNat) 25) 75 ((h 0 113).toNat) 0) 76 ((h 0 113).toNat) 0) 0 113 ((h 0 113) + 1)) 0 7 ((h 0 7) + 1)) 74 (((h 0 113) + 1).toNat) 23) 75 (((h 0 113) + 1).toNat) 0) 76 (((h 0 113) + 1).toNat) 0) 0 113 (((h 0 113) + 1) + 1)) 6 ((h 0 17).toNat) 28) 7 ((h 0 17).toNat) ((h 0 113) + 1)) 8 ((h 0 17).toNat) 0) 9 ((h 0 17).toNat) 0) 0 17 ((h 0 17) + 1)) := g13
                  show mJ l D cA ad 4 cX12_state 3 (some .boolean) 369 [(1, (0, (h 0 113))), (0, (2, ((0 : Nat) : Int)))] [(0, 1)] (ja_up (ja_up (ja_up (ja_up (ja_up (ja_up (ja_up (ja_up (ja_up (ja_up (ja_up (ja_up (ja_up (ja_up h 74 ((h 0 113).toNat) 25) 75 ((h 0 113).toNat) 0) 76 ((h 0 113).toNat) 0) 0 113 ((h 0 113) + 1)) 0 7 ((h 0 7) + 1)) 74 (((h 0 113) + 1).toNat) 23) 75 (((h 0 113) + 1).toNat) 0) 76 (((h 0 113) + 1).toNat) 0) 0 113 (((h 0 113) + 1) + 1)) 6 ((h 0 17).toNat) 28) 7 ((h 0 17).toNat) ((h 0 113) + 1)) 8 ((h 0 17).toNat) 0) 9 ((h 0 17).toNat) 0) 0 17 ((h 0 17) + 1)) Q
                  refine ja_if_eq 388 dstate_369 rfl ⟨by decide, by decide⟩ (fun c369 => absurd c369 (by omega)) (fun c369 => ?_)
                  refine ja_aload_n dstate_372 rfl rfl ?_
                  refine ja_bipush 14 dstate_373 rfl ?_
                  refine ja_iconst dstate_375 ?_
                  refine ja_iconst dstate_376 ?_
                  refine ja_iconst dstate_377 ?_
                  refine t_later (by decide) (show (0 : Nat) ≤ 8 by decide) dstate_378 g13 ⟨by decide, by decide⟩ ⟨by decide, by decide⟩ ⟨by decide, by decide⟩ ⟨by decide, by decide⟩ (show 0 ≤ 14 ∧ 14 ≤ 38 by omega) (show ((h 0 17) + 1) < 2000 by omega) ?_
                  intro g14
                  replace g14 : mo_G Zz (ja_up (ja_up (ja_up (ja_up (ja_up (ja_up (ja_up (ja_up (ja_up (ja_up (ja_up (ja_up (ja_up (ja_up (ja_up (ja_up (ja_up (ja_up (ja_up h 74 ((h 0 113).toNat) 25) 75 ((h 0 113).toNat) 0) 76 ((h 0 113).toNat) 0) 0 113 ((h 0 113) + 1)) 0 7 ((h 0 7) + 1)) 74 (((h 0 113) + 1).toNat) 23) 75 (((h 0 113) + 1).toNat) 0) 76 (((h 0 113) + 1).toNat) 0) 0 113 (((h 0 113) + 1) + 1)) 6 ((h 0 17).toNat) 28) 7 ((h 0 17).toNat) ((h 0 113) + 1)) 8 ((h 0 17).toNat) 0) 9 ((h 0 17).toNat) 0) 0 17 ((h 0 17) + 1)) 6 (((h 0 17) + 1).toNat) 14) 7 (((h 0 17) + 1).toNat) 0) 8 (((h 0 17) + 1).toNat) 0) 9 (((h 0 17) + 1).toNat) 0) 0 17 (((h 0 17) + 1) + 1)) := g14
                  show mJ l D cA ad 4 cX12_state 3 (some .boolean) 381 [(1, (0, (h 0 113))), (0, (2, ((0 : Nat) : Int)))] [(0, 1)] (ja_up (ja_up (ja_up (ja_up (ja_up (ja_up (ja_up (ja_up (ja_up (ja_up (ja_up (ja_up (ja_up (ja_up (ja_up (ja_up (ja_up (ja_up (ja_up h 74 ((h 0 113).toNat) 25) 75 ((h 0 113).toNat) 0) 76 ((h 0 113).toNat) 0) 0 113 ((h 0 113) + 1)) 0 7 ((h 0 7) + 1)) 74 (((h 0 113) + 1).toNat) 23) 75 (((h 0 113) + 1).toNat) 0) 76 (((h 0 113) + 1).toNat) 0) 0 113 (((h 0 113) + 1) + 1)) 6 ((h 0 17).toNat) 28) 7 ((h 0 17).toNat) ((h 0 113) + 1)) 8 ((h 0 17).toNat) 0) 9 ((h 0 17).toNat) 0) 0 17 ((h 0 17) + 1)) 6 (((h 0 17) + 1).toNat) 14) 7 (((h 0 17) + 1).toNat) 0) 8 (((h 0 17) + 1).toNat) 0) 9 (((h 0 17) + 1).toNat) 0) 0 17 (((h 0 17) + 1) + 1)) Q
                  refine ja_if_eq 388 dstate_381 rfl ⟨by decide, by decide⟩ (fun c381 => absurd c381 (by omega)) (fun c381 => ?_)
                  refine ja_iconst dstate_384 ?_
                  refine ja_goto 389 dstate_385 rfl ?_
                  refine ja_zreturn dstate_389 rfl (by omega) ?_
                  exact mo_fin (by omega) rfl (k1 (ja_up (ja_up (ja_up (ja_up (ja_up (ja_up (ja_up (ja_up (ja_up (ja_up (ja_up (ja_up (ja_up (ja_up (ja_up (ja_up (ja_up (ja_up (ja_up h 74 ((h 0 113).toNat) 25) 75 ((h 0 113).toNat) 0) 76 ((h 0 113).toNat) 0) 0 113 ((h 0 113) + 1)) 0 7 ((h 0 7) + 1)) 74 (((h 0 113) + 1).toNat) 23) 75 (((h 0 113) + 1).toNat) 0) 76 (((h 0 113) + 1).toNat) 0) 0 113 (((h 0 113) + 1) + 1)) 6 ((h 0 17).toNat) 28) 7 ((h 0 17).toNat) ((h 0 113) + 1)) 8 ((h 0 17).toNat) 0) 9 ((h 0 17).toNat) 0) 0 17 ((h 0 17) + 1)) 6 (((h 0 17) + 1).toNat) 14) 7 (((h 0 17) + 1).toNat) 0) 8 (((h 0 17) + 1).toNat) 0) 9 (((h 0 17) + 1).toNat) 0) 0 17 (((h 0 17) + 1) + 1)) ((by subst p5; exact ab_st_try p1 p2 p3)) g14)
                · intro h15 k347_1 g16
                  replace k347_1 : 0 < (h15 0 8) ∧ (h15 0 1) = (h 0 1) ∧ (h15 0 118) = (h 0 118) ∧ (h15 0 127) = (h 0 127) := k347_1
                  refine ja_if_eq 388 dstate_350 rfl ⟨by decide, by decide⟩ (fun c350 => ?_) (fun c350 => absurd c350 (by omega))
                  refine ja_iconst dstate_388 ?_
                  refine ja_zreturn dstate_389 rfl (by omega) ?_
                  exact mo_fin (by omega) rfl (k2 h15 (by omega) g16)
            · have z327 := is1v k324_0 c327
              replace k324_0 := is1 k324_0 c327
              refine ja_aload_n dstate_330 rfl rfl ?_
              refine ja_bipush 27 dstate_331 rfl ?_
              refine t_simple (by decide) (show (0 : Nat) ≤ 8 by decide) dstate_333 g1 ⟨by decide, by decide⟩ (show 0 ≤ 27 ∧ 27 ≤ 38 by omega) (show (h 0 17) < 1990 by omega) ?_ ?_
              · intro k333_0 g17
                replace k333_0 : (h 0 7) < 900 := k333_0
                replace g17 : mo_G Zz (ja_up (ja_up (ja_up (ja_up (ja_up (ja_up (ja_up (ja_up (ja_up (ja_up (ja_up (ja_up (ja_up (ja_up (ja_up (ja_up (ja_up (ja_up (ja_up (ja_up h 74 ((h 0 113).toNat) 25) 75 ((h 0 113).toNat) 0) 76 ((h 0 113).toNat) 0) 0 113 ((h 0 113) + 1)) 0 7 ((h 0 7) + 1)) 6 ((h 0 17).toNat) 27) 7 ((h 0 17).toNat) 0) 8 ((h 0 17).toNat) 0) 9 ((h 0 17).toNat) 0) 0 17 ((h 0 17) + 1)) 6 (((h 0 17) + 1).toNat) 37) 7 (((h 0 17) + 1).toNat) 59) 8 (((h 0 17) + 1).toNat) 0) 9 (((h 0 17) + 1).toNat) 0) 0 17 ((h 0 17) + 1 + 1)) 6 (((h 0 17) + 1 + 1).toNat) 1) 7 (((h 0 17) + 1 + 1).toNat) 0) 8 (((h 0 17) + 1 + 1).toNat) 0) 9 (((h 0 17) + 1 + 1).toNat) 0) 0 17 ((h 0 17) + 1 + 1 + 1)) := g17
                show mJ l D cA ad 4 cX12_state 3 (some .boolean) 336 [(1, (0, (h 0 113))), (0, (2, ((0 : Nat) : Int)))] [(0, 1)] (ja_up (ja_up (ja_up (ja_up (ja_up (ja_up (ja_up (ja_up (ja_up (ja_up (ja_up (ja_up (ja_up (ja_up (ja_up (ja_up (ja_up (ja_up (ja_up (ja_up h 74 ((h 0 113).toNat) 25) 75 ((h 0 113).toNat) 0) 76 ((h 0 113).toNat) 0) 0 113 ((h 0 113) + 1)) 0 7 ((h 0 7) + 1)) 6 ((h 0 17).toNat) 27) 7 ((h 0 17).toNat) 0) 8 ((h 0 17).toNat) 0) 9 ((h 0 17).toNat) 0) 0 17 ((h 0 17) + 1)) 6 (((h 0 17) + 1).toNat) 37) 7 (((h 0 17) + 1).toNat) 59) 8 (((h 0 17) + 1).toNat) 0) 9 (((h 0 17) + 1).toNat) 0) 0 17 ((h 0 17) + 1 + 1)) 6 (((h 0 17) + 1 + 1).toNat) 1) 7 (((h 0 17) + 1 + 1).toNat) 0) 8 (((h 0 17) + 1 + 1).toNat) 0) 9 (((h 0 17) + 1 + 1).toNat) 0) 0 17 ((h 0 17) + 1 + 1 + 1)) Q
                refine ja_zreturn dstate_336 rfl (by omega) ?_
                exact mo_fin (by omega) rfl (k1 (ja_up (ja_up (ja_up (ja_up (ja_up (ja_up (ja_up (ja_up (ja_up (ja_up (ja_up (ja_up (ja_up (ja_up (ja_up (ja_up (ja_up (ja_up (ja_up (ja_up h 74 ((h 0 113).toNat) 25) 75 ((h 0 113).toNat) 0) 76 ((h 0 113).toNat) 0) 0 113 ((h 0 113) + 1)) 0 7 ((h 0 7) + 1)) 6 ((h 0 17).toNat) 27) 7 ((h 0 17).toNat) 0) 8 ((h 0 17).toNat) 0) 9 ((h 0 17).toNat) 0) 0 17 ((h 0 17) + 1)) 6 (((h 0 17) + 1).toNat) 37) 7 (((h 0 17) + 1).toNat) 59) 8 (((h 0 17) + 1).toNat) 0) 9 (((h 0 17) + 1).toNat) 0) 0 17 ((h 0 17) + 1 + 1)) 6 (((h 0 17) + 1 + 1).toNat) 1) 7 (((h 0 17) + 1 + 1).toNat) 0) 8 (((h 0 17) + 1 + 1).toNat) 0) 9 (((h 0 17) + 1 + 1).toNat) 0) 0 17 ((h 0 17) + 1 + 1 + 1)) ((by subst p5; exact ab_st_prt p1 p2 p3)) g17)
              · intro h18 k333_1 g19
                replace k333_1 : 0 < (h18 0 8) ∧ (h18 0 1) = (h 0 1) ∧ (h18 0 118) = (h 0 118) ∧ (h18 0 127) = (h 0 127) := k333_1
                refine ja_zreturn dstate_336 rfl (by omega) ?_
                exact mo_fin (by omega) rfl (k2 h18 (by omega) g19)
          · have z311 := is1v k308_0 c311
            replace k308_0 := is1 k308_0 c311
            refine ja_aload_n dstate_314 rfl rfl ?_
            refine ja_bipush 26 dstate_315 rfl ?_
            refine t_simple (by decide) (show (0 : Nat) ≤ 8 by decide) dstate_317 g1 ⟨by decide, by decide⟩ (show 0 ≤ 26 ∧ 26 ≤ 38 by omega) (show (h 0 17) < 1990 by omega) ?_ ?_
            · intro k317_0 g20
              replace k317_0 : (h 0 7) < 900 := k317_0
              replace g20 : mo_G Zz (ja_up (ja_up (ja_up (ja_up (ja_up (ja_up (ja_up (ja_up (ja_up (ja_up (ja_up (ja_up (ja_up (ja_up (ja_up (ja_up (ja_up (ja_up (ja_up (ja_up h 74 ((h 0 113).toNat) 25) 75 ((h 0 113).toNat) 0) 76 ((h 0 113).toNat) 0) 0 113 ((h 0 113) + 1)) 0 7 ((h 0 7) + 1)) 6 ((h 0 17).toNat) 26) 7 ((h 0 17).toNat) 0) 8 ((h 0 17).toNat) 0) 9 ((h 0 17).toNat) 0) 0 17 ((h 0 17) + 1)) 6 (((h 0 17) + 1).toNat) 37) 7 (((h 0 17) + 1).toNat) 59) 8 (((h 0 17) + 1).toNat) 0) 9 (((h 0 17) + 1).toNat) 0) 0 17 ((h 0 17) + 1 + 1)) 6 (((h 0 17) + 1 + 1).toNat) 1) 7 (((h 0 17) + 1 + 1).toNat) 0) 8 (((h 0 17) + 1 + 1).toNat) 0) 9 (((h 0 17) + 1 + 1).toNat) 0) 0 17 ((h 0 17) + 1 + 1 + 1)) := g20
              show mJ l D cA ad 4 cX12_state 3 (some .boolean) 320 [(1, (0, (h 0 113))), (0, (2, ((0 : Nat) : Int)))] [(0, 1)] (ja_up (ja_up (ja_up (ja_up (ja_up (ja_up (ja_up (ja_up (ja_up (ja_up (ja_up (ja_up (ja_up (ja_up (ja_up (ja_up (ja_up (ja_up (ja_up (ja_up h 74 ((h 0 113).toNat) 25) 75 ((h 0 113).toNat) 0) 76 ((h 0 113).toNat) 0) 0 113 ((h 0 113) + 1)) 0 7 ((h 0 7) + 1)) 6 ((h 0 17).toNat) 26) 7 ((h 0 17).toNat) 0) 8 ((h 0 17).toNat) 0) 9 ((h 0 17).toNat) 0) 0 17 ((h 0 17) + 1)) 6 (((h 0 17) + 1).toNat) 37) 7 (((h 0 17) + 1).toNat) 59) 8 (((h 0 17) + 1).toNat) 0) 9 (((h 0 17) + 1).toNat) 0) 0 17 ((h 0 17) + 1 + 1)) 6 (((h 0 17) + 1 + 1).toNat) 1) 7 (((h 0 17) + 1 + 1).toNat) 0) 8 (((h 0 17) + 1 + 1).toNat) 0) 9 (((h 0 17) + 1 + 1).toNat) 0) 0 17 ((h 0 17) + 1 + 1 + 1)) Q
              refine ja_zreturn dstate_320 rfl (by omega) ?_
              exact mo_fin (by omega) rfl (k1 (ja_up (ja_up (ja_up (ja_up (ja_up (ja_up (ja_up (ja_up (ja_up (ja_up (ja_up (ja_up (ja_up (ja_up (ja_up (ja_up (ja_up (ja_up (ja_up (ja_up h 74 ((h 0 113).toNat) 25) 75 ((h 0 113).toNat) 0) 76 ((h 0 113).toNat) 0) 0 113 ((h 0 113) + 1)) 0 7 ((h 0 7) + 1)) 6 ((h 0 17).toNat) 26) 7 ((h 0 17).toNat) 0) 8 ((h 0 17).toNat) 0) 9 ((h 0 17).toNat) 0) 0 17 ((h 0 17) + 1)) 6 (((h 0 17) + 1).toNat) 37) 7 (((h 0 17) + 1).toNat) 59) 8 (((h 0 17) + 1).toNat) 0) 9 (((h 0 17) + 1).toNat) 0) 0 17 ((h 0 17) + 1 + 1)) 6 (((h 0 17) + 1 + 1).toNat) 1) 7 (((h 0 17) + 1 + 1).toNat) 0) 8 (((h 0 17) + 1 + 1).toNat) 0) 9 (((h 0 17) + 1 + 1).toNat) 0) 0 17 ((h 0 17) + 1 + 1 + 1)) ((by subst p5; exact ab_st_thr p1 p2 p3)) g20)
            · intro h21 k317_1 g22
              replace k317_1 : 0 < (h21 0 8) ∧ (h21 0 1) = (h 0 1) ∧ (h21 0 118) = (h 0 118) ∧ (h21 0 127) = (h 0 127) := k317_1
              refine ja_zreturn dstate_320 rfl (by omega) ?_
              exact mo_fin (by omega) rfl (k2 h21 (by omega) g22)
        · have z208 := is1v k205_0 c208
          replace k205_0 := is1 k205_0 c208
          refine ja_aload_n dstate_211 rfl rfl ?_
          refine t_take (by decide) (show (0 : Nat) ≤ 8 by decide) dstate_212 g1  ?_ ?_
          · intro k212_0 g23
            replace k212_0 : (h 0 7) < 900 := k212_0
            replace g23 : mo_G Zz (ja_up (ja_up (ja_up (ja_up (ja_up h 74 ((h 0 113).toNat) 25) 75 ((h 0 113).toNat) 0) 76 ((h 0 113).toNat) 0) 0 113 ((h 0 113) + 1)) 0 7 ((h 0 7) + 1)) := g23
            show mJ l D cA ad 4 cX12_state 3 (some .boolean) 215 [(1, (0, (h 0 113))), (0, (2, ((0 : Nat) : Int)))] [(0, 1)] (ja_up (ja_up (ja_up (ja_up (ja_up h 74 ((h 0 113).toNat) 25) 75 ((h 0 113).toNat) 0) 76 ((h 0 113).toNat) 0) 0 113 ((h 0 113) + 1)) 0 7 ((h 0 7) + 1)) Q
            refine ja_if_ne 220 dstate_215 rfl ⟨by decide, by decide⟩ (fun c215 => ?_) (fun c215 => absurd c215 (by omega))
            refine ja_aload_n dstate_220 rfl rfl ?_
            refine ja_bipush 59 dstate_221 rfl ?_
            refine t_isSign (by decide) (show (0 : Nat) ≤ 8 by decide) dstate_223 g23 ⟨by decide, by decide⟩ ?_
            intro w24 k223_0
            replace k223_0 : (w24 = 1 ∧ (h 2 ((h 0 7) + 1).toNat) = 5 ∧ (h 5 ((h 0 7) + 1).toNat) = 59) ∨ (w24 = 0 ∧ ¬ ((h 2 ((h 0 7) + 1).toNat) = 5 ∧ (h 5 ((h 0 7) + 1).toNat) = 59)) := k223_0
            refine ja_if_eq 263 dstate_226 rfl ⟨by omega, by omega⟩ (fun c226 => ?_) (fun c226 => ?_)
            · replace k223_0 := is0 k223_0 c226
              refine ja_aload_n dstate_263 rfl rfl ?_
              refine ja_bipush 25 dstate_264 rfl ?_
              refine ja_iconst dstate_266 ?_
              refine ja_iconst dstate_267 ?_
              refine ja_iconst dstate_268 ?_
              refine t_later (by decide) (show (0 : Nat) ≤ 8 by decide) dstate_269 g23 ⟨by decide, by decide⟩ ⟨by decide, by decide⟩ ⟨by decide, by decide⟩ ⟨by decide, by decide⟩ (show 0 ≤ 25 ∧ 25 ≤ 38 by omega) (show (h 0 17) < 2000 by omega) ?_
              intro g25
              replace g25 : mo_G Zz (ja_up (ja_up (ja_up (ja_up (ja_up (ja_up (ja_up (ja_up (ja_up (ja_up h 74 ((h 0 113).toNat) 25) 75 ((h 0 113).toNat) 0) 76 ((h 0 113).toNat) 0) 0 113 ((h 0 113) + 1)) 0 7 ((h 0 7) + 1)) 6 ((h 0 17).toNat) 25) 7 ((h 0 17).toNat) 0) 8 ((h 0 17).toNat) 0) 9 ((h 0 17).toNat) 0) 0 17 ((h 0 17) + 1)) := g25
              show mJ l D cA ad 4 cX12_state 3 (some .boolean) 272 [(1, (0, (h 0 113))), (0, (2, ((0 : Nat) : Int)))] [(0, 1)] (ja_up (ja_up (ja_up (ja_up (ja_up (ja_up (ja_up (ja_up (ja_up (ja_up h 74 ((h 0 113).toNat) 25) 75 ((h 0 113).toNat) 0) 76 ((h 0 113).toNat) 0) 0 113 ((h 0 113) + 1)) 0 7 ((h 0 7) + 1)) 6 ((h 0 17).toNat) 25) 7 ((h 0 17).toNat) 0) 8 ((h 0 17).toNat) 0) 9 ((h 0 17).toNat) 0) 0 17 ((h 0 17) + 1)) Q
              refine ja_if_eq 303 dstate_272 rfl ⟨by decide, by decide⟩ (fun c272 => absurd c272 (by omega)) (fun c272 => ?_)
              refine ja_aload_n dstate_275 rfl rfl ?_
              refine ja_bipush 37 dstate_276 rfl ?_
              refine ja_bipush 59 dstate_278 rfl ?_
              refine ja_iconst dstate_280 ?_
              refine ja_iconst dstate_281 ?_
              refine t_later (by decide) (show (0 : Nat) ≤ 8 by decide) dstate_282 g25 ⟨by decide, by decide⟩ ⟨by decide, by decide⟩ ⟨by decide, by decide⟩ ⟨by decide, by decide⟩ (show 0 ≤ 37 ∧ 37 ≤ 38 by omega) (show ((h 0 17) + 1) < 2000 by omega) ?_
              intro g26
              replace g26 : mo_G Zz (ja_up (ja_up (ja_up (ja_up (ja_up (ja_up (ja_up (ja_up (ja_up (ja_up (ja_up (ja_up (ja_up (ja_up (ja_up h 74 ((h 0 113).toNat) 25) 75 ((h 0 113).toNat) 0) 76 ((h 0 113).toNat) 0) 0 113 ((h 0 113) + 1)) 0 7 ((h 0 7) + 1)) 6 ((h 0 17).toNat) 25) 7 ((h 0 17).toNat) 0) 8 ((h 0 17).toNat) 0) 9 ((h 0 17).toNat) 0) 0 17 ((h 0 17) + 1)) 6 (((h 0 17) + 1).toNat) 37) 7 (((h 0 17) + 1).toNat) 59) 8 (((h 0 17) + 1).toNat) 0) 9 (((h 0 17) + 1).toNat) 0) 0 17 (((h 0 17) + 1) + 1)) := g26
              show mJ l D cA ad 4 cX12_state 3 (some .boolean) 285 [(1, (0, (h 0 113))), (0, (2, ((0 : Nat) : Int)))] [(0, 1)] (ja_up (ja_up (ja_up (ja_up (ja_up (ja_up (ja_up (ja_up (ja_up (ja_up (ja_up (ja_up (ja_up (ja_up (ja_up h 74 ((h 0 113).toNat) 25) 75 ((h 0 113).toNat) 0) 76 ((h 0 113).toNat) 0) 0 113 ((h 0 113) + 1)) 0 7 ((h 0 7) + 1)) 6 ((h 0 17).toNat) 25) 7 ((h 0 17).toNat) 0) 8 ((h 0 17).toNat) 0) 9 ((h 0 17).toNat) 0) 0 17 ((h 0 17) + 1)) 6 (((h 0 17) + 1).toNat) 37) 7 (((h 0 17) + 1).toNat) 59) 8 (((h 0 17) + 1).toNat) 0) 9 (((h 0 17) + 1).toNat) 0) 0 17 (((h 0 17) + 1) + 1)) Q
              refine ja_if_eq 303 dstate_285 rfl ⟨by decide, by decide⟩ (fun c285 => absurd c285 (by omega)) (fun c285 => ?_)
              refine ja_aload_n dstate_288 rfl rfl ?_
              refine ja_iconst dstate_289 ?_
              refine ja_iconst dstate_290 ?_
              refine ja_iconst dstate_291 ?_
              refine ja_iconst dstate_292 ?_
              refine t_later (by decide) (show (0 : Nat) ≤ 8 by decide) dstate_293 g26 ⟨by decide, by decide⟩ ⟨by decide, by decide⟩ ⟨by decide, by decide⟩ ⟨by decide, by decide⟩ (show 0 ≤ 1 ∧ 1 ≤ 38 by omega) (show (((h 0 17) + 1) + 1) < 2000 by omega) ?_
              intro g27
              replace g27 : mo_G Zz (ja_up (ja_up (ja_up (ja_up (ja_up (ja_up (ja_up (ja_up (ja_up (ja_up (ja_up (ja_up (ja_up (ja_up (ja_up (ja_up (ja_up (ja_up (ja_up (ja_up h 74 ((h 0 113).toNat) 25) 75 ((h 0 113).toNat) 0) 76 ((h 0 113).toNat) 0) 0 113 ((h 0 113) + 1)) 0 7 ((h 0 7) + 1)) 6 ((h 0 17).toNat) 25) 7 ((h 0 17).toNat) 0) 8 ((h 0 17).toNat) 0) 9 ((h 0 17).toNat) 0) 0 17 ((h 0 17) + 1)) 6 (((h 0 17) + 1).toNat) 37) 7 (((h 0 17) + 1).toNat) 59) 8 (((h 0 17) + 1).toNat) 0) 9 (((h 0 17) + 1).toNat) 0) 0 17 (((h 0 17) + 1) + 1)) 6 ((((h 0 17) + 1) + 1).toNat) 1) 7 ((((h 0 17) + 1) + 1).toNat) 0) 8 ((((h 0 17) + 1) + 1).toNat) 0) 9 ((((h 0 17) + 1) + 1).toNat) 0) 0 17 ((((h 0 17) + 1) + 1) + 1)) := g27
              show mJ l D cA ad 4 cX12_state 3 (some .boolean) 296 [(1, (0, (h 0 113))), (0, (2, ((0 : Nat) : Int)))] [(0, 1)] (ja_up (ja_up (ja_up (ja_up (ja_up (ja_up (ja_up (ja_up (ja_up (ja_up (ja_up (ja_up (ja_up (ja_up (ja_up (ja_up (ja_up (ja_up (ja_up (ja_up h 74 ((h 0 113).toNat) 25) 75 ((h 0 113).toNat) 0) 76 ((h 0 113).toNat) 0) 0 113 ((h 0 113) + 1)) 0 7 ((h 0 7) + 1)) 6 ((h 0 17).toNat) 25) 7 ((h 0 17).toNat) 0) 8 ((h 0 17).toNat) 0) 9 ((h 0 17).toNat) 0) 0 17 ((h 0 17) + 1)) 6 (((h 0 17) + 1).toNat) 37) 7 (((h 0 17) + 1).toNat) 59) 8 (((h 0 17) + 1).toNat) 0) 9 (((h 0 17) + 1).toNat) 0) 0 17 (((h 0 17) + 1) + 1)) 6 ((((h 0 17) + 1) + 1).toNat) 1) 7 ((((h 0 17) + 1) + 1).toNat) 0) 8 ((((h 0 17) + 1) + 1).toNat) 0) 9 ((((h 0 17) + 1) + 1).toNat) 0) 0 17 ((((h 0 17) + 1) + 1) + 1)) Q
              refine ja_if_eq 303 dstate_296 rfl ⟨by decide, by decide⟩ (fun c296 => absurd c296 (by omega)) (fun c296 => ?_)
              refine ja_iconst dstate_299 ?_
              refine ja_goto 304 dstate_300 rfl ?_
              refine ja_zreturn dstate_304 rfl (by omega) ?_
              exact mo_fin (by omega) rfl (k1 (ja_up (ja_up (ja_up (ja_up (ja_up (ja_up (ja_up (ja_up (ja_up (ja_up (ja_up (ja_up (ja_up (ja_up (ja_up (ja_up (ja_up (ja_up (ja_up (ja_up h 74 ((h 0 113).toNat) 25) 75 ((h 0 113).toNat) 0) 76 ((h 0 113).toNat) 0) 0 113 ((h 0 113) + 1)) 0 7 ((h 0 7) + 1)) 6 ((h 0 17).toNat) 25) 7 ((h 0 17).toNat) 0) 8 ((h 0 17).toNat) 0) 9 ((h 0 17).toNat) 0) 0 17 ((h 0 17) + 1)) 6 (((h 0 17) + 1).toNat) 37) 7 (((h 0 17) + 1).toNat) 59) 8 (((h 0 17) + 1).toNat) 0) 9 (((h 0 17) + 1).toNat) 0) 0 17 (((h 0 17) + 1) + 1)) 6 ((((h 0 17) + 1) + 1).toNat) 1) 7 ((((h 0 17) + 1) + 1).toNat) 0) 8 ((((h 0 17) + 1) + 1).toNat) 0) 9 ((((h 0 17) + 1) + 1).toNat) 0) 0 17 ((((h 0 17) + 1) + 1) + 1)) ((by subst p5; exact ab_st_ret p1 p2 p3)) g27)
            · have z226 := is1v k223_0 c226
              replace k223_0 := is1 k223_0 c226
              refine ja_aload_n dstate_229 rfl rfl ?_
              refine t_take (by decide) (show (0 : Nat) ≤ 8 by decide) dstate_230 g23  ?_ ?_
              · intro k230_0 g28
                replace k230_0 : ((h 0 7) + 1) < 900 := k230_0
                replace g28 : mo_G Zz (ja_up (ja_up (ja_up (ja_up (ja_up (ja_up h 74 ((h 0 113).toNat) 25) 75 ((h 0 113).toNat) 0) 76 ((h 0 113).toNat) 0) 0 113 ((h 0 113) + 1)) 0 7 ((h 0 7) + 1)) 0 7 (((h 0 7) + 1) + 1)) := g28
                show mJ l D cA ad 4 cX12_state 3 (some .boolean) 233 [(1, (0, (h 0 113))), (0, (2, ((0 : Nat) : Int)))] [(0, 1)] (ja_up (ja_up (ja_up (ja_up (ja_up (ja_up h 74 ((h 0 113).toNat) 25) 75 ((h 0 113).toNat) 0) 76 ((h 0 113).toNat) 0) 0 113 ((h 0 113) + 1)) 0 7 ((h 0 7) + 1)) 0 7 (((h 0 7) + 1) + 1)) Q
                refine ja_if_eq 261 dstate_233 rfl ⟨by decide, by decide⟩ (fun c233 => absurd c233 (by omega)) (fun c233 => ?_)
                refine ja_aload_n dstate_236 rfl rfl ?_
                refine ja_iconst dstate_237 ?_
                refine ja_iconst dstate_238 ?_
                refine ja_iconst dstate_239 ?_
                refine t_emit (by decide) (show (0 : Nat) ≤ 8 by decide) dstate_240 g28 ⟨by decide, by decide⟩ ⟨by decide, by decide⟩ ⟨by decide, by decide⟩ (show 0 ≤ 2 ∧ 2 ≤ 26 by omega) (show ((h 0 113) + 1) < 5000 by omega) ?_
                intro g29
                replace g29 : mo_G Zz (ja_up (ja_up (ja_up (ja_up (ja_up (ja_up (ja_up (ja_up (ja_up (ja_up h 74 ((h 0 113).toNat) 25) 75 ((h 0 113).toNat) 0) 76 ((h 0 113).toNat) 0) 0 113 ((h 0 113) + 1)) 0 7 ((h 0 7) + 1)) 0 7 (((h 0 7) + 1) + 1)) 74 (((h 0 113) + 1).toNat) 2) 75 (((h 0 113) + 1).toNat) 0) 76 (((h 0 113) + 1).toNat) 0) 0 113 (((h 0 113) + 1) + 1)) := g29
                show mJ l D cA ad 4 cX12_state 3 (some .boolean) 243 [(1, (0, (h 0 113))), (0, (2, ((0 : Nat) : Int)))] [(0, ((h 0 113) + 1))] (ja_up (ja_up (ja_up (ja_up (ja_up (ja_up (ja_up (ja_up (ja_up (ja_up h 74 ((h 0 113).toNat) 25) 75 ((h 0 113).toNat) 0) 76 ((h 0 113).toNat) 0) 0 113 ((h 0 113) + 1)) 0 7 ((h 0 7) + 1)) 0 7 (((h 0 7) + 1) + 1)) 74 (((h 0 113) + 1).toNat) 2) 75 (((h 0 113) + 1).toNat) 0) 76 (((h 0 113) + 1).toNat) 0) 0 113 (((h 0 113) + 1) + 1)) Q
                refine ja_if_lt 261 dstate_243 rfl ⟨by omega, by omega⟩ (fun c243 => ?_) (fun c243 => ?_)
                · refine ja_iconst dstate_261 ?_
                  refine ja_zreturn dstate_262 rfl (by omega) ?_
                  exact mo_fin (by omega) rfl (k2 (ja_up (ja_up (ja_up (ja_up (ja_up (ja_up (ja_up (ja_up (ja_up (ja_up h 74 ((h 0 113).toNat) 25) 75 ((h 0 113).toNat) 0) 76 ((h 0 113).toNat) 0) 0 113 ((h 0 113) + 1)) 0 7 ((h 0 7) + 1)) 0 7 (((h 0 7) + 1) + 1)) 74 (((h 0 113) + 1).toNat) 2) 75 (((h 0 113) + 1).toNat) 0) 76 (((h 0 113) + 1).toNat) 0) 0 113 (((h 0 113) + 1) + 1)) (show 0 < (h 0 8) ∧ (h 0 1) = (h 0 1) ∧ (h 0 118) = (h 0 118) ∧ (h 0 127) = (h 0 127) by omega) g29)
                · refine ja_aload_n dstate_246 rfl rfl ?_
                  refine ja_bipush 19 dstate_247 rfl ?_
                  refine ja_iconst dstate_249 ?_
                  refine ja_iconst dstate_250 ?_
                  refine t_emit (by decide) (show (0 : Nat) ≤ 8 by decide) dstate_251 g29 ⟨by decide, by decide⟩ ⟨by decide, by decide⟩ ⟨by decide, by decide⟩ (show 0 ≤ 19 ∧ 19 ≤ 26 by omega) (show (((h 0 113) + 1) + 1) < 5000 by omega) ?_
                  intro g30
                  replace g30 : mo_G Zz (ja_up (ja_up (ja_up (ja_up (ja_up (ja_up (ja_up (ja_up (ja_up (ja_up (ja_up (ja_up (ja_up (ja_up h 74 ((h 0 113).toNat) 25) 75 ((h 0 113).toNat) 0) 76 ((h 0 113).toNat) 0) 0 113 ((h 0 113) + 1)) 0 7 ((h 0 7) + 1)) 0 7 (((h 0 7) + 1) + 1)) 74 (((h 0 113) + 1).toNat) 2) 75 (((h 0 113) + 1).toNat) 0) 76 (((h 0 113) + 1).toNat) 0) 0 113 (((h 0 113) + 1) + 1)) 74 ((((h 0 113) + 1) + 1).toNat) 19) 75 ((((h 0 113) + 1) + 1).toNat) 0) 76 ((((h 0 113) + 1) + 1).toNat) 0) 0 113 ((((h 0 113) + 1) + 1) + 1)) := g30
                  show mJ l D cA ad 4 cX12_state 3 (some .boolean) 254 [(1, (0, (h 0 113))), (0, (2, ((0 : Nat) : Int)))] [(0, (((h 0 113) + 1) + 1))] (ja_up (ja_up (ja_up (ja_up (ja_up (ja_up (ja_up (ja_up (ja_up (ja_up (ja_up (ja_up (ja_up (ja_up h 74 ((h 0 113).toNat) 25) 75 ((h 0 113).toNat) 0) 76 ((h 0 113).toNat) 0) 0 113 ((h 0 113) + 1)) 0 7 ((h 0 7) + 1)) 0 7 (((h 0 7) + 1) + 1)) 74 (((h 0 113) + 1).toNat) 2) 75 (((h 0 113) + 1).toNat) 0) 76 (((h 0 113) + 1).toNat) 0) 0 113 (((h 0 113) + 1) + 1)) 74 ((((h 0 113) + 1) + 1).toNat) 19) 75 ((((h 0 113) + 1) + 1).toNat) 0) 76 ((((h 0 113) + 1) + 1).toNat) 0) 0 113 ((((h 0 113) + 1) + 1) + 1)) Q
                  refine ja_if_lt 261 dstate_254 rfl ⟨by omega, by omega⟩ (fun c254 => ?_) (fun c254 => ?_)
                  · refine ja_iconst dstate_261 ?_
                    refine ja_zreturn dstate_262 rfl (by omega) ?_
                    exact mo_fin (by omega) rfl (k2 (ja_up (ja_up (ja_up (ja_up (ja_up (ja_up (ja_up (ja_up (ja_up (ja_up (ja_up (ja_up (ja_up (ja_up h 74 ((h 0 113).toNat) 25) 75 ((h 0 113).toNat) 0) 76 ((h 0 113).toNat) 0) 0 113 ((h 0 113) + 1)) 0 7 ((h 0 7) + 1)) 0 7 (((h 0 7) + 1) + 1)) 74 (((h 0 113) + 1).toNat) 2) 75 (((h 0 113) + 1).toNat) 0) 76 (((h 0 113) + 1).toNat) 0) 0 113 (((h 0 113) + 1) + 1)) 74 ((((h 0 113) + 1) + 1).toNat) 19) 75 ((((h 0 113) + 1) + 1).toNat) 0) 76 ((((h 0 113) + 1) + 1).toNat) 0) 0 113 ((((h 0 113) + 1) + 1) + 1)) (show 0 < (h 0 8) ∧ (h 0 1) = (h 0 1) ∧ (h 0 118) = (h 0 118) ∧ (h 0 127) = (h 0 127) by omega) g30)
                  · refine ja_iconst dstate_257 ?_
                    refine ja_goto 262 dstate_258 rfl ?_
                    refine ja_zreturn dstate_262 rfl (by omega) ?_
                    exact mo_fin (by omega) rfl (k1 (ja_up (ja_up (ja_up (ja_up (ja_up (ja_up (ja_up (ja_up (ja_up (ja_up (ja_up (ja_up (ja_up (ja_up h 74 ((h 0 113).toNat) 25) 75 ((h 0 113).toNat) 0) 76 ((h 0 113).toNat) 0) 0 113 ((h 0 113) + 1)) 0 7 ((h 0 7) + 1)) 0 7 (((h 0 7) + 1) + 1)) 74 (((h 0 113) + 1).toNat) 2) 75 (((h 0 113) + 1).toNat) 0) 76 (((h 0 113) + 1).toNat) 0) 0 113 (((h 0 113) + 1) + 1)) 74 ((((h 0 113) + 1) + 1).toNat) 19) 75 ((((h 0 113) + 1) + 1).toNat) 0) 76 ((((h 0 113) + 1) + 1).toNat) 0) 0 113 ((((h 0 113) + 1) + 1) + 1)) ((by subst p5; exact ab_st_ret0 p1 p2 p3 (by omega) (by omega))) g30)
              · intro h31 k230_1 g32
                replace k230_1 : 0 < (h31 0 8) ∧ (h31 0 1) = (h 0 1) ∧ (h31 0 118) = (h 0 118) ∧ (h31 0 127) = (h 0 127) := k230_1
                refine ja_if_eq 261 dstate_233 rfl ⟨by decide, by decide⟩ (fun c233 => ?_) (fun c233 => absurd c233 (by omega))
                refine ja_iconst dstate_261 ?_
                refine ja_zreturn dstate_262 rfl (by omega) ?_
                exact mo_fin (by omega) rfl (k2 h31 (by omega) g32)
          · intro h33 k212_1 g34
            replace k212_1 : 0 < (h33 0 8) ∧ (h33 0 1) = (h 0 1) ∧ (h33 0 118) = (h 0 118) ∧ (h33 0 127) = (h 0 127) := k212_1
            refine ja_if_ne 220 dstate_215 rfl ⟨by decide, by decide⟩ (fun c215 => absurd c215 (by omega)) (fun c215 => ?_)
            refine ja_iconst dstate_218 ?_
            refine ja_zreturn dstate_219 rfl (by omega) ?_
            exact mo_fin (by omega) rfl (k2 h33 (by omega) g34)
      · have z163 := is1v k160_0 c163
        replace k160_0 := is1 k160_0 c163
        refine ja_aload_n dstate_166 rfl rfl ?_
        refine t_take (by decide) (show (0 : Nat) ≤ 8 by decide) dstate_167 g1  ?_ ?_
        · intro k167_0 g35
          replace k167_0 : (h 0 7) < 900 := k167_0
          replace g35 : mo_G Zz (ja_up (ja_up (ja_up (ja_up (ja_up h 74 ((h 0 113).toNat) 25) 75 ((h 0 113).toNat) 0) 76 ((h 0 113).toNat) 0) 0 113 ((h 0 113) + 1)) 0 7 ((h 0 7) + 1)) := g35
          show mJ l D cA ad 4 cX12_state 3 (some .boolean) 170 [(1, (0, (h 0 113))), (0, (2, ((0 : Nat) : Int)))] [(0, 1)] (ja_up (ja_up (ja_up (ja_up (ja_up h 74 ((h 0 113).toNat) 25) 75 ((h 0 113).toNat) 0) 76 ((h 0 113).toNat) 0) 0 113 ((h 0 113) + 1)) 0 7 ((h 0 7) + 1)) Q
          refine ja_if_eq 200 dstate_170 rfl ⟨by decide, by decide⟩ (fun c170 => absurd c170 (by omega)) (fun c170 => ?_)
          refine ja_aload_n dstate_173 rfl rfl ?_
          refine ja_bipush 23 dstate_174 rfl ?_
          refine ja_iload_n dstate_176 rfl rfl ?_
          refine ja_iconst dstate_177 ?_
          refine ja_iconst dstate_178 ?_
          refine t_later (by decide) (show (0 : Nat) ≤ 8 by decide) dstate_179 g35 ⟨by decide, by decide⟩ ⟨by omega, by omega⟩ ⟨by decide, by decide⟩ ⟨by decide, by decide⟩ (show 0 ≤ 23 ∧ 23 ≤ 38 by omega) (show (h 0 17) < 2000 by omega) ?_
          intro g36
          replace g36 : mo_G Zz (ja_up (ja_up (ja_up (ja_up (ja_up (ja_up (ja_up (ja_up (ja_up (ja_up h 74 ((h 0 113).toNat) 25) 75 ((h 0 113).toNat) 0) 76 ((h 0 113).toNat) 0) 0 113 ((h 0 113) + 1)) 0 7 ((h 0 7) + 1)) 6 ((h 0 17).toNat) 23) 7 ((h 0 17).toNat) (h 0 113)) 8 ((h 0 17).toNat) 0) 9 ((h 0 17).toNat) 0) 0 17 ((h 0 17) + 1)) := g36
          show mJ l D cA ad 4 cX12_state 3 (some .boolean) 182 [(1, (0, (h 0 113))), (0, (2, ((0 : Nat) : Int)))] [(0, 1)] (ja_up (ja_up (ja_up (ja_up (ja_up (ja_up (ja_up (ja_up (ja_up (ja_up h 74 ((h 0 113).toNat) 25) 75 ((h 0 113).toNat) 0) 76 ((h 0 113).toNat) 0) 0 113 ((h 0 113) + 1)) 0 7 ((h 0 7) + 1)) 6 ((h 0 17).toNat) 23) 7 ((h 0 17).toNat) (h 0 113)) 8 ((h 0 17).toNat) 0) 9 ((h 0 17).toNat) 0) 0 17 ((h 0 17) + 1)) Q
          refine ja_if_eq 200 dstate_182 rfl ⟨by decide, by decide⟩ (fun c182 => absurd c182 (by omega)) (fun c182 => ?_)
          refine ja_aload_n dstate_185 rfl rfl ?_
          refine ja_iconst dstate_186 ?_
          refine ja_iconst dstate_187 ?_
          refine ja_iconst dstate_188 ?_
          refine ja_iconst dstate_189 ?_
          refine t_later (by decide) (show (0 : Nat) ≤ 8 by decide) dstate_190 g36 ⟨by decide, by decide⟩ ⟨by decide, by decide⟩ ⟨by decide, by decide⟩ ⟨by decide, by decide⟩ (show 0 ≤ 1 ∧ 1 ≤ 38 by omega) (show ((h 0 17) + 1) < 2000 by omega) ?_
          intro g37
          replace g37 : mo_G Zz (ja_up (ja_up (ja_up (ja_up (ja_up (ja_up (ja_up (ja_up (ja_up (ja_up (ja_up (ja_up (ja_up (ja_up (ja_up h 74 ((h 0 113).toNat) 25) 75 ((h 0 113).toNat) 0) 76 ((h 0 113).toNat) 0) 0 113 ((h 0 113) + 1)) 0 7 ((h 0 7) + 1)) 6 ((h 0 17).toNat) 23) 7 ((h 0 17).toNat) (h 0 113)) 8 ((h 0 17).toNat) 0) 9 ((h 0 17).toNat) 0) 0 17 ((h 0 17) + 1)) 6 (((h 0 17) + 1).toNat) 1) 7 (((h 0 17) + 1).toNat) 0) 8 (((h 0 17) + 1).toNat) 0) 9 (((h 0 17) + 1).toNat) 0) 0 17 (((h 0 17) + 1) + 1)) := g37
          show mJ l D cA ad 4 cX12_state 3 (some .boolean) 193 [(1, (0, (h 0 113))), (0, (2, ((0 : Nat) : Int)))] [(0, 1)] (ja_up (ja_up (ja_up (ja_up (ja_up (ja_up (ja_up (ja_up (ja_up (ja_up (ja_up (ja_up (ja_up (ja_up (ja_up h 74 ((h 0 113).toNat) 25) 75 ((h 0 113).toNat) 0) 76 ((h 0 113).toNat) 0) 0 113 ((h 0 113) + 1)) 0 7 ((h 0 7) + 1)) 6 ((h 0 17).toNat) 23) 7 ((h 0 17).toNat) (h 0 113)) 8 ((h 0 17).toNat) 0) 9 ((h 0 17).toNat) 0) 0 17 ((h 0 17) + 1)) 6 (((h 0 17) + 1).toNat) 1) 7 (((h 0 17) + 1).toNat) 0) 8 (((h 0 17) + 1).toNat) 0) 9 (((h 0 17) + 1).toNat) 0) 0 17 (((h 0 17) + 1) + 1)) Q
          refine ja_if_eq 200 dstate_193 rfl ⟨by decide, by decide⟩ (fun c193 => absurd c193 (by omega)) (fun c193 => ?_)
          refine ja_iconst dstate_196 ?_
          refine ja_goto 201 dstate_197 rfl ?_
          refine ja_zreturn dstate_201 rfl (by omega) ?_
          exact mo_fin (by omega) rfl (k1 (ja_up (ja_up (ja_up (ja_up (ja_up (ja_up (ja_up (ja_up (ja_up (ja_up (ja_up (ja_up (ja_up (ja_up (ja_up h 74 ((h 0 113).toNat) 25) 75 ((h 0 113).toNat) 0) 76 ((h 0 113).toNat) 0) 0 113 ((h 0 113) + 1)) 0 7 ((h 0 7) + 1)) 6 ((h 0 17).toNat) 23) 7 ((h 0 17).toNat) (h 0 113)) 8 ((h 0 17).toNat) 0) 9 ((h 0 17).toNat) 0) 0 17 ((h 0 17) + 1)) 6 (((h 0 17) + 1).toNat) 1) 7 (((h 0 17) + 1).toNat) 0) 8 (((h 0 17) + 1).toNat) 0) 9 (((h 0 17) + 1).toNat) 0) 0 17 (((h 0 17) + 1) + 1)) ((by subst p5; exact ab_st_while p1 p2 p3)) g37)
        · intro h38 k167_1 g39
          replace k167_1 : 0 < (h38 0 8) ∧ (h38 0 1) = (h 0 1) ∧ (h38 0 118) = (h 0 118) ∧ (h38 0 127) = (h 0 127) := k167_1
          refine ja_if_eq 200 dstate_170 rfl ⟨by decide, by decide⟩ (fun c170 => ?_) (fun c170 => absurd c170 (by omega))
          refine ja_iconst dstate_200 ?_
          refine ja_zreturn dstate_201 rfl (by omega) ?_
          exact mo_fin (by omega) rfl (k2 h38 (by omega) g39)
    · have z118 := is1v k115_0 c118
      replace k115_0 := is1 k115_0 c118
      refine ja_aload_n dstate_121 rfl rfl ?_
      refine t_take (by decide) (show (0 : Nat) ≤ 8 by decide) dstate_122 g1  ?_ ?_
      · intro k122_0 g40
        replace k122_0 : (h 0 7) < 900 := k122_0
        replace g40 : mo_G Zz (ja_up (ja_up (ja_up (ja_up (ja_up h 74 ((h 0 113).toNat) 25) 75 ((h 0 113).toNat) 0) 76 ((h 0 113).toNat) 0) 0 113 ((h 0 113) + 1)) 0 7 ((h 0 7) + 1)) := g40
        show mJ l D cA ad 4 cX12_state 3 (some .boolean) 125 [(1, (0, (h 0 113))), (0, (2, ((0 : Nat) : Int)))] [(0, 1)] (ja_up (ja_up (ja_up (ja_up (ja_up h 74 ((h 0 113).toNat) 25) 75 ((h 0 113).toNat) 0) 76 ((h 0 113).toNat) 0) 0 113 ((h 0 113) + 1)) 0 7 ((h 0 7) + 1)) Q
        refine ja_if_eq 155 dstate_125 rfl ⟨by decide, by decide⟩ (fun c125 => absurd c125 (by omega)) (fun c125 => ?_)
        refine ja_aload_n dstate_128 rfl rfl ?_
        refine ja_bipush 20 dstate_129 rfl ?_
        refine ja_iconst dstate_131 ?_
        refine ja_iconst dstate_132 ?_
        refine ja_iconst dstate_133 ?_
        refine t_later (by decide) (show (0 : Nat) ≤ 8 by decide) dstate_134 g40 ⟨by decide, by decide⟩ ⟨by decide, by decide⟩ ⟨by decide, by decide⟩ ⟨by decide, by decide⟩ (show 0 ≤ 20 ∧ 20 ≤ 38 by omega) (show (h 0 17) < 2000 by omega) ?_
        intro g41
        replace g41 : mo_G Zz (ja_up (ja_up (ja_up (ja_up (ja_up (ja_up (ja_up (ja_up (ja_up (ja_up h 74 ((h 0 113).toNat) 25) 75 ((h 0 113).toNat) 0) 76 ((h 0 113).toNat) 0) 0 113 ((h 0 113) + 1)) 0 7 ((h 0 7) + 1)) 6 ((h 0 17).toNat) 20) 7 ((h 0 17).toNat) 0) 8 ((h 0 17).toNat) 0) 9 ((h 0 17).toNat) 0) 0 17 ((h 0 17) + 1)) := g41
        show mJ l D cA ad 4 cX12_state 3 (some .boolean) 137 [(1, (0, (h 0 113))), (0, (2, ((0 : Nat) : Int)))] [(0, 1)] (ja_up (ja_up (ja_up (ja_up (ja_up (ja_up (ja_up (ja_up (ja_up (ja_up h 74 ((h 0 113).toNat) 25) 75 ((h 0 113).toNat) 0) 76 ((h 0 113).toNat) 0) 0 113 ((h 0 113) + 1)) 0 7 ((h 0 7) + 1)) 6 ((h 0 17).toNat) 20) 7 ((h 0 17).toNat) 0) 8 ((h 0 17).toNat) 0) 9 ((h 0 17).toNat) 0) 0 17 ((h 0 17) + 1)) Q
        refine ja_if_eq 155 dstate_137 rfl ⟨by decide, by decide⟩ (fun c137 => absurd c137 (by omega)) (fun c137 => ?_)
        refine ja_aload_n dstate_140 rfl rfl ?_
        refine ja_iconst dstate_141 ?_
        refine ja_iconst dstate_142 ?_
        refine ja_iconst dstate_143 ?_
        refine ja_iconst dstate_144 ?_
        refine t_later (by decide) (show (0 : Nat) ≤ 8 by decide) dstate_145 g41 ⟨by decide, by decide⟩ ⟨by decide, by decide⟩ ⟨by decide, by decide⟩ ⟨by decide, by decide⟩ (show 0 ≤ 1 ∧ 1 ≤ 38 by omega) (show ((h 0 17) + 1) < 2000 by omega) ?_
        intro g42
        replace g42 : mo_G Zz (ja_up (ja_up (ja_up (ja_up (ja_up (ja_up (ja_up (ja_up (ja_up (ja_up (ja_up (ja_up (ja_up (ja_up (ja_up h 74 ((h 0 113).toNat) 25) 75 ((h 0 113).toNat) 0) 76 ((h 0 113).toNat) 0) 0 113 ((h 0 113) + 1)) 0 7 ((h 0 7) + 1)) 6 ((h 0 17).toNat) 20) 7 ((h 0 17).toNat) 0) 8 ((h 0 17).toNat) 0) 9 ((h 0 17).toNat) 0) 0 17 ((h 0 17) + 1)) 6 (((h 0 17) + 1).toNat) 1) 7 (((h 0 17) + 1).toNat) 0) 8 (((h 0 17) + 1).toNat) 0) 9 (((h 0 17) + 1).toNat) 0) 0 17 (((h 0 17) + 1) + 1)) := g42
        show mJ l D cA ad 4 cX12_state 3 (some .boolean) 148 [(1, (0, (h 0 113))), (0, (2, ((0 : Nat) : Int)))] [(0, 1)] (ja_up (ja_up (ja_up (ja_up (ja_up (ja_up (ja_up (ja_up (ja_up (ja_up (ja_up (ja_up (ja_up (ja_up (ja_up h 74 ((h 0 113).toNat) 25) 75 ((h 0 113).toNat) 0) 76 ((h 0 113).toNat) 0) 0 113 ((h 0 113) + 1)) 0 7 ((h 0 7) + 1)) 6 ((h 0 17).toNat) 20) 7 ((h 0 17).toNat) 0) 8 ((h 0 17).toNat) 0) 9 ((h 0 17).toNat) 0) 0 17 ((h 0 17) + 1)) 6 (((h 0 17) + 1).toNat) 1) 7 (((h 0 17) + 1).toNat) 0) 8 (((h 0 17) + 1).toNat) 0) 9 (((h 0 17) + 1).toNat) 0) 0 17 (((h 0 17) + 1) + 1)) Q
        refine ja_if_eq 155 dstate_148 rfl ⟨by decide, by decide⟩ (fun c148 => absurd c148 (by omega)) (fun c148 => ?_)
        refine ja_iconst dstate_151 ?_
        refine ja_goto 156 dstate_152 rfl ?_
        refine ja_zreturn dstate_156 rfl (by omega) ?_
        exact mo_fin (by omega) rfl (k1 (ja_up (ja_up (ja_up (ja_up (ja_up (ja_up (ja_up (ja_up (ja_up (ja_up (ja_up (ja_up (ja_up (ja_up (ja_up h 74 ((h 0 113).toNat) 25) 75 ((h 0 113).toNat) 0) 76 ((h 0 113).toNat) 0) 0 113 ((h 0 113) + 1)) 0 7 ((h 0 7) + 1)) 6 ((h 0 17).toNat) 20) 7 ((h 0 17).toNat) 0) 8 ((h 0 17).toNat) 0) 9 ((h 0 17).toNat) 0) 0 17 ((h 0 17) + 1)) 6 (((h 0 17) + 1).toNat) 1) 7 (((h 0 17) + 1).toNat) 0) 8 (((h 0 17) + 1).toNat) 0) 9 (((h 0 17) + 1).toNat) 0) 0 17 (((h 0 17) + 1) + 1)) ((by subst p5; exact ab_st_if p1 p2 p3)) g42)
      · intro h43 k122_1 g44
        replace k122_1 : 0 < (h43 0 8) ∧ (h43 0 1) = (h 0 1) ∧ (h43 0 118) = (h 0 118) ∧ (h43 0 127) = (h 0 127) := k122_1
        refine ja_if_eq 155 dstate_125 rfl ⟨by decide, by decide⟩ (fun c125 => ?_) (fun c125 => absurd c125 (by omega))
        refine ja_iconst dstate_155 ?_
        refine ja_zreturn dstate_156 rfl (by omega) ?_
        exact mo_fin (by omega) rfl (k2 h43 (by omega) g44)
  · have z15 := is1v k12_0 c15
    replace k12_0 := is1 k12_0 c15
    refine ja_aload_n dstate_18 rfl rfl ?_
    refine t_take (by decide) (show (0 : Nat) ≤ 8 by decide) dstate_19 g1  ?_ ?_
    · intro k19_0 g45
      replace k19_0 : (h 0 7) < 900 := k19_0
      replace g45 : mo_G Zz (ja_up (ja_up (ja_up (ja_up (ja_up h 74 ((h 0 113).toNat) 25) 75 ((h 0 113).toNat) 0) 76 ((h 0 113).toNat) 0) 0 113 ((h 0 113) + 1)) 0 7 ((h 0 7) + 1)) := g45
      show mJ l D cA ad 4 cX12_state 3 (some .boolean) 22 [(1, (0, (h 0 113))), (0, (2, ((0 : Nat) : Int)))] [(0, 1)] (ja_up (ja_up (ja_up (ja_up (ja_up h 74 ((h 0 113).toNat) 25) 75 ((h 0 113).toNat) 0) 76 ((h 0 113).toNat) 0) 0 113 ((h 0 113) + 1)) 0 7 ((h 0 7) + 1)) Q
      refine ja_if_ne 27 dstate_22 rfl ⟨by decide, by decide⟩ (fun c22 => ?_) (fun c22 => absurd c22 (by omega))
      refine ja_aload_n dstate_27 rfl rfl ?_
      refine t_isName (by decide) (show (0 : Nat) ≤ 8 by decide) dstate_28 g45  ?_
      intro w46 k28_0
      replace k28_0 : (w46 = 1 ∧ (h 2 ((h 0 7) + 1).toNat) = 2) ∨ (w46 = 0 ∧ ¬ (h 2 ((h 0 7) + 1).toNat) = 2) := k28_0
      refine ja_if_eq 49 dstate_31 rfl ⟨by omega, by omega⟩ (fun c31 => ?_) (fun c31 => ?_)
      · replace k28_0 := is0 k28_0 c31
        refine ja_aload_n dstate_49 rfl rfl ?_
        refine fg_at (v := (h 0 7) + 1) rfl dstate_50 ?_
        refine ja_istore_n dstate_53 rfl (by decide) (L2 := [(2, (0, ((h 0 7) + 1))), (1, (0, (h 0 113))), (0, (2, ((0 : Nat) : Int)))]) rfl ?_
        refine ja_aload_n dstate_54 rfl rfl ?_
        refine t_name (by decide) (show (0 : Nat) ≤ 8 by decide) dstate_55 g45  ?_ ?_
        · intro k55_0 g47
          replace k55_0 : ((h 0 7) + 1) < 900 ∧ (h 2 ((h 0 7) + 1).toNat) = 2 := k55_0
          replace g47 : mo_G Zz (ja_up (ja_up (ja_up (ja_up (ja_up (ja_up h 74 ((h 0 113).toNat) 25) 75 ((h 0 113).toNat) 0) 76 ((h 0 113).toNat) 0) 0 113 ((h 0 113) + 1)) 0 7 ((h 0 7) + 1)) 0 7 (((h 0 7) + 1) + 1)) := g47
          show mJ l D cA ad 4 cX12_state 3 (some .boolean) 58 [(2, (0, ((h 0 7) + 1))), (1, (0, (h 0 113))), (0, (2, ((0 : Nat) : Int)))] [(0, 1)] (ja_up (ja_up (ja_up (ja_up (ja_up (ja_up h 74 ((h 0 113).toNat) 25) 75 ((h 0 113).toNat) 0) 76 ((h 0 113).toNat) 0) 0 113 ((h 0 113) + 1)) 0 7 ((h 0 7) + 1)) 0 7 (((h 0 7) + 1) + 1)) Q
          refine ja_if_eq 110 dstate_58 rfl ⟨by decide, by decide⟩ (fun c58 => absurd c58 (by omega)) (fun c58 => ?_)
          refine ja_aload_n dstate_61 rfl rfl ?_
          refine ja_bipush 61 dstate_62 rfl ?_
          refine t_sign (by decide) (show (0 : Nat) ≤ 8 by decide) dstate_64 g47 ⟨by decide, by decide⟩ ?_ ?_
          · intro k64_0 g48
            replace k64_0 : (((h 0 7) + 1) + 1) < 900 ∧ (h 2 (((h 0 7) + 1) + 1).toNat) = 5 ∧ (h 5 (((h 0 7) + 1) + 1).toNat) = 61 := k64_0
            replace g48 : mo_G Zz (ja_up (ja_up (ja_up (ja_up (ja_up (ja_up (ja_up h 74 ((h 0 113).toNat) 25) 75 ((h 0 113).toNat) 0) 76 ((h 0 113).toNat) 0) 0 113 ((h 0 113) + 1)) 0 7 ((h 0 7) + 1)) 0 7 (((h 0 7) + 1) + 1)) 0 7 ((((h 0 7) + 1) + 1) + 1)) := g48
            show mJ l D cA ad 4 cX12_state 3 (some .boolean) 67 [(2, (0, ((h 0 7) + 1))), (1, (0, (h 0 113))), (0, (2, ((0 : Nat) : Int)))] [(0, 1)] (ja_up (ja_up (ja_up (ja_up (ja_up (ja_up (ja_up h 74 ((h 0 113).toNat) 25) 75 ((h 0 113).toNat) 0) 76 ((h 0 113).toNat) 0) 0 113 ((h 0 113) + 1)) 0 7 ((h 0 7) + 1)) 0 7 (((h 0 7) + 1) + 1)) 0 7 ((((h 0 7) + 1) + 1) + 1)) Q
            refine ja_if_eq 110 dstate_67 rfl ⟨by decide, by decide⟩ (fun c67 => absurd c67 (by omega)) (fun c67 => ?_)
            refine ja_aload_n dstate_70 rfl rfl ?_
            refine ja_bipush 17 dstate_71 rfl ?_
            refine ja_iload_n dstate_73 rfl rfl ?_
            refine ja_iconst dstate_74 ?_
            refine ja_iconst dstate_75 ?_
            refine t_later (by decide) (show (0 : Nat) ≤ 8 by decide) dstate_76 g48 ⟨by decide, by decide⟩ ⟨by omega, by omega⟩ ⟨by decide, by decide⟩ ⟨by decide, by decide⟩ (show 0 ≤ 17 ∧ 17 ≤ 38 by omega) (show (h 0 17) < 2000 by omega) ?_
            intro g49
            replace g49 : mo_G Zz (ja_up (ja_up (ja_up (ja_up (ja_up (ja_up (ja_up (ja_up (ja_up (ja_up (ja_up (ja_up h 74 ((h 0 113).toNat) 25) 75 ((h 0 113).toNat) 0) 76 ((h 0 113).toNat) 0) 0 113 ((h 0 113) + 1)) 0 7 ((h 0 7) + 1)) 0 7 (((h 0 7) + 1) + 1)) 0 7 ((((h 0 7) + 1) + 1) + 1)) 6 ((h 0 17).toNat) 17) 7 ((h 0 17).toNat) ((h 0 7) + 1)) 8 ((h 0 17).toNat) 0) 9 ((h 0 17).toNat) 0) 0 17 ((h 0 17) + 1)) := g49
            show mJ l D cA ad 4 cX12_state 3 (some .boolean) 79 [(2, (0, ((h 0 7) + 1))), (1, (0, (h 0 113))), (0, (2, ((0 : Nat) : Int)))] [(0, 1)] (ja_up (ja_up (ja_up (ja_up (ja_up (ja_up (ja_up (ja_up (ja_up (ja_up (ja_up (ja_up h 74 ((h 0 113).toNat) 25) 75 ((h 0 113).toNat) 0) 76 ((h 0 113).toNat) 0) 0 113 ((h 0 113) + 1)) 0 7 ((h 0 7) + 1)) 0 7 (((h 0 7) + 1) + 1)) 0 7 ((((h 0 7) + 1) + 1) + 1)) 6 ((h 0 17).toNat) 17) 7 ((h 0 17).toNat) ((h 0 7) + 1)) 8 ((h 0 17).toNat) 0) 9 ((h 0 17).toNat) 0) 0 17 ((h 0 17) + 1)) Q
            refine ja_if_eq 110 dstate_79 rfl ⟨by decide, by decide⟩ (fun c79 => absurd c79 (by omega)) (fun c79 => ?_)
            refine ja_aload_n dstate_82 rfl rfl ?_
            refine ja_bipush 37 dstate_83 rfl ?_
            refine ja_bipush 59 dstate_85 rfl ?_
            refine ja_iconst dstate_87 ?_
            refine ja_iconst dstate_88 ?_
            refine t_later (by decide) (show (0 : Nat) ≤ 8 by decide) dstate_89 g49 ⟨by decide, by decide⟩ ⟨by decide, by decide⟩ ⟨by decide, by decide⟩ ⟨by decide, by decide⟩ (show 0 ≤ 37 ∧ 37 ≤ 38 by omega) (show ((h 0 17) + 1) < 2000 by omega) ?_
            intro g50
            replace g50 : mo_G Zz (ja_up (ja_up (ja_up (ja_up (ja_up (ja_up (ja_up (ja_up (ja_up (ja_up (ja_up (ja_up (ja_up (ja_up (ja_up (ja_up (ja_up h 74 ((h 0 113).toNat) 25) 75 ((h 0 113).toNat) 0) 76 ((h 0 113).toNat) 0) 0 113 ((h 0 113) + 1)) 0 7 ((h 0 7) + 1)) 0 7 (((h 0 7) + 1) + 1)) 0 7 ((((h 0 7) + 1) + 1) + 1)) 6 ((h 0 17).toNat) 17) 7 ((h 0 17).toNat) ((h 0 7) + 1)) 8 ((h 0 17).toNat) 0) 9 ((h 0 17).toNat) 0) 0 17 ((h 0 17) + 1)) 6 (((h 0 17) + 1).toNat) 37) 7 (((h 0 17) + 1).toNat) 59) 8 (((h 0 17) + 1).toNat) 0) 9 (((h 0 17) + 1).toNat) 0) 0 17 (((h 0 17) + 1) + 1)) := g50
            show mJ l D cA ad 4 cX12_state 3 (some .boolean) 92 [(2, (0, ((h 0 7) + 1))), (1, (0, (h 0 113))), (0, (2, ((0 : Nat) : Int)))] [(0, 1)] (ja_up (ja_up (ja_up (ja_up (ja_up (ja_up (ja_up (ja_up (ja_up (ja_up (ja_up (ja_up (ja_up (ja_up (ja_up (ja_up (ja_up h 74 ((h 0 113).toNat) 25) 75 ((h 0 113).toNat) 0) 76 ((h 0 113).toNat) 0) 0 113 ((h 0 113) + 1)) 0 7 ((h 0 7) + 1)) 0 7 (((h 0 7) + 1) + 1)) 0 7 ((((h 0 7) + 1) + 1) + 1)) 6 ((h 0 17).toNat) 17) 7 ((h 0 17).toNat) ((h 0 7) + 1)) 8 ((h 0 17).toNat) 0) 9 ((h 0 17).toNat) 0) 0 17 ((h 0 17) + 1)) 6 (((h 0 17) + 1).toNat) 37) 7 (((h 0 17) + 1).toNat) 59) 8 (((h 0 17) + 1).toNat) 0) 9 (((h 0 17) + 1).toNat) 0) 0 17 (((h 0 17) + 1) + 1)) Q
            refine ja_if_eq 110 dstate_92 rfl ⟨by decide, by decide⟩ (fun c92 => absurd c92 (by omega)) (fun c92 => ?_)
            refine ja_aload_n dstate_95 rfl rfl ?_
            refine ja_iconst dstate_96 ?_
            refine ja_iconst dstate_97 ?_
            refine ja_iconst dstate_98 ?_
            refine ja_iconst dstate_99 ?_
            refine t_later (by decide) (show (0 : Nat) ≤ 8 by decide) dstate_100 g50 ⟨by decide, by decide⟩ ⟨by decide, by decide⟩ ⟨by decide, by decide⟩ ⟨by decide, by decide⟩ (show 0 ≤ 1 ∧ 1 ≤ 38 by omega) (show (((h 0 17) + 1) + 1) < 2000 by omega) ?_
            intro g51
            replace g51 : mo_G Zz (ja_up (ja_up (ja_up (ja_up (ja_up (ja_up (ja_up (ja_up (ja_up (ja_up (ja_up (ja_up (ja_up (ja_up (ja_up (ja_up (ja_up (ja_up (ja_up (ja_up (ja_up (ja_up h 74 ((h 0 113).toNat) 25) 75 ((h 0 113).toNat) 0) 76 ((h 0 113).toNat) 0) 0 113 ((h 0 113) + 1)) 0 7 ((h 0 7) + 1)) 0 7 (((h 0 7) + 1) + 1)) 0 7 ((((h 0 7) + 1) + 1) + 1)) 6 ((h 0 17).toNat) 17) 7 ((h 0 17).toNat) ((h 0 7) + 1)) 8 ((h 0 17).toNat) 0) 9 ((h 0 17).toNat) 0) 0 17 ((h 0 17) + 1)) 6 (((h 0 17) + 1).toNat) 37) 7 (((h 0 17) + 1).toNat) 59) 8 (((h 0 17) + 1).toNat) 0) 9 (((h 0 17) + 1).toNat) 0) 0 17 (((h 0 17) + 1) + 1)) 6 ((((h 0 17) + 1) + 1).toNat) 1) 7 ((((h 0 17) + 1) + 1).toNat) 0) 8 ((((h 0 17) + 1) + 1).toNat) 0) 9 ((((h 0 17) + 1) + 1).toNat) 0) 0 17 ((((h 0 17) + 1) + 1) + 1)) := g51
            show mJ l D cA ad 4 cX12_state 3 (some .boolean) 103 [(2, (0, ((h 0 7) + 1))), (1, (0, (h 0 113))), (0, (2, ((0 : Nat) : Int)))] [(0, 1)] (ja_up (ja_up (ja_up (ja_up (ja_up (ja_up (ja_up (ja_up (ja_up (ja_up (ja_up (ja_up (ja_up (ja_up (ja_up (ja_up (ja_up (ja_up (ja_up (ja_up (ja_up (ja_up h 74 ((h 0 113).toNat) 25) 75 ((h 0 113).toNat) 0) 76 ((h 0 113).toNat) 0) 0 113 ((h 0 113) + 1)) 0 7 ((h 0 7) + 1)) 0 7 (((h 0 7) + 1) + 1)) 0 7 ((((h 0 7) + 1) + 1) + 1)) 6 ((h 0 17).toNat) 17) 7 ((h 0 17).toNat) ((h 0 7) + 1)) 8 ((h 0 17).toNat) 0) 9 ((h 0 17).toNat) 0) 0 17 ((h 0 17) + 1)) 6 (((h 0 17) + 1).toNat) 37) 7 (((h 0 17) + 1).toNat) 59) 8 (((h 0 17) + 1).toNat) 0) 9 (((h 0 17) + 1).toNat) 0) 0 17 (((h 0 17) + 1) + 1)) 6 ((((h 0 17) + 1) + 1).toNat) 1) 7 ((((h 0 17) + 1) + 1).toNat) 0) 8 ((((h 0 17) + 1) + 1).toNat) 0) 9 ((((h 0 17) + 1) + 1).toNat) 0) 0 17 ((((h 0 17) + 1) + 1) + 1)) Q
            refine ja_if_eq 110 dstate_103 rfl ⟨by decide, by decide⟩ (fun c103 => absurd c103 (by omega)) (fun c103 => ?_)
            refine ja_iconst dstate_106 ?_
            refine ja_goto 111 dstate_107 rfl ?_
            refine ja_zreturn dstate_111 rfl (by omega) ?_
            exact mo_fin (by omega) rfl (k1 (ja_up (ja_up (ja_up (ja_up (ja_up (ja_up (ja_up (ja_up (ja_up (ja_up (ja_up (ja_up (ja_up (ja_up (ja_up (ja_up (ja_up (ja_up (ja_up (ja_up (ja_up (ja_up h 74 ((h 0 113).toNat) 25) 75 ((h 0 113).toNat) 0) 76 ((h 0 113).toNat) 0) 0 113 ((h 0 113) + 1)) 0 7 ((h 0 7) + 1)) 0 7 (((h 0 7) + 1) + 1)) 0 7 ((((h 0 7) + 1) + 1) + 1)) 6 ((h 0 17).toNat) 17) 7 ((h 0 17).toNat) ((h 0 7) + 1)) 8 ((h 0 17).toNat) 0) 9 ((h 0 17).toNat) 0) 0 17 ((h 0 17) + 1)) 6 (((h 0 17) + 1).toNat) 37) 7 (((h 0 17) + 1).toNat) 59) 8 (((h 0 17) + 1).toNat) 0) 9 (((h 0 17) + 1).toNat) 0) 0 17 (((h 0 17) + 1) + 1)) 6 ((((h 0 17) + 1) + 1).toNat) 1) 7 ((((h 0 17) + 1) + 1).toNat) 0) 8 ((((h 0 17) + 1) + 1).toNat) 0) 9 ((((h 0 17) + 1) + 1).toNat) 0) 0 17 ((((h 0 17) + 1) + 1) + 1)) ((by subst p5; exact ab_st_let p1 p2 p3 (by omega) (by omega))) g51)
          · intro h52 k64_1 g53
            replace k64_1 : 0 < (h52 0 8) ∧ (h52 0 1) = (h 0 1) ∧ (h52 0 118) = (h 0 118) ∧ (h52 0 127) = (h 0 127) := k64_1
            refine ja_if_eq 110 dstate_67 rfl ⟨by decide, by decide⟩ (fun c67 => ?_) (fun c67 => absurd c67 (by omega))
            refine ja_iconst dstate_110 ?_
            refine ja_zreturn dstate_111 rfl (by omega) ?_
            exact mo_fin (by omega) rfl (k2 h52 (by omega) g53)
        · intro h54 k55_1 g55
          replace k55_1 : 0 < (h54 0 8) ∧ (h54 0 1) = (h 0 1) ∧ (h54 0 118) = (h 0 118) ∧ (h54 0 127) = (h 0 127) := k55_1
          refine ja_if_eq 110 dstate_58 rfl ⟨by decide, by decide⟩ (fun c58 => ?_) (fun c58 => absurd c58 (by omega))
          refine ja_iconst dstate_110 ?_
          refine ja_zreturn dstate_111 rfl (by omega) ?_
          exact mo_fin (by omega) rfl (k2 h54 (by omega) g55)
      · have z31 := is1v k28_0 c31
        replace k28_0 := is1 k28_0 c31
        refine ja_aload_n dstate_34 rfl rfl ?_
        refine fg_locals (v := h 0 77) rfl dstate_35 ?_
        have f56 := gF_locals g
        refine ja_bipush 10 dstate_38 rfl ?_
        refine ja_icmp_ne 49 dstate_40 rfl ⟨by omega, by omega⟩ ⟨by decide, by decide⟩ (fun c40 => ?_) (fun c40 => ?_)
        · refine ja_aload_n dstate_49 rfl rfl ?_
          refine fg_at (v := (h 0 7) + 1) rfl dstate_50 ?_
          refine ja_istore_n dstate_53 rfl (by decide) (L2 := [(2, (0, ((h 0 7) + 1))), (1, (0, (h 0 113))), (0, (2, ((0 : Nat) : Int)))]) rfl ?_
          refine ja_aload_n dstate_54 rfl rfl ?_
          refine t_name (by decide) (show (0 : Nat) ≤ 8 by decide) dstate_55 g45  ?_ ?_
          · intro k55_0 g57
            replace k55_0 : ((h 0 7) + 1) < 900 ∧ (h 2 ((h 0 7) + 1).toNat) = 2 := k55_0
            replace g57 : mo_G Zz (ja_up (ja_up (ja_up (ja_up (ja_up (ja_up h 74 ((h 0 113).toNat) 25) 75 ((h 0 113).toNat) 0) 76 ((h 0 113).toNat) 0) 0 113 ((h 0 113) + 1)) 0 7 ((h 0 7) + 1)) 0 7 (((h 0 7) + 1) + 1)) := g57
            show mJ l D cA ad 4 cX12_state 3 (some .boolean) 58 [(2, (0, ((h 0 7) + 1))), (1, (0, (h 0 113))), (0, (2, ((0 : Nat) : Int)))] [(0, 1)] (ja_up (ja_up (ja_up (ja_up (ja_up (ja_up h 74 ((h 0 113).toNat) 25) 75 ((h 0 113).toNat) 0) 76 ((h 0 113).toNat) 0) 0 113 ((h 0 113) + 1)) 0 7 ((h 0 7) + 1)) 0 7 (((h 0 7) + 1) + 1)) Q
            refine ja_if_eq 110 dstate_58 rfl ⟨by decide, by decide⟩ (fun c58 => absurd c58 (by omega)) (fun c58 => ?_)
            refine ja_aload_n dstate_61 rfl rfl ?_
            refine ja_bipush 61 dstate_62 rfl ?_
            refine t_sign (by decide) (show (0 : Nat) ≤ 8 by decide) dstate_64 g57 ⟨by decide, by decide⟩ ?_ ?_
            · intro k64_0 g58
              replace k64_0 : (((h 0 7) + 1) + 1) < 900 ∧ (h 2 (((h 0 7) + 1) + 1).toNat) = 5 ∧ (h 5 (((h 0 7) + 1) + 1).toNat) = 61 := k64_0
              replace g58 : mo_G Zz (ja_up (ja_up (ja_up (ja_up (ja_up (ja_up (ja_up h 74 ((h 0 113).toNat) 25) 75 ((h 0 113).toNat) 0) 76 ((h 0 113).toNat) 0) 0 113 ((h 0 113) + 1)) 0 7 ((h 0 7) + 1)) 0 7 (((h 0 7) + 1) + 1)) 0 7 ((((h 0 7) + 1) + 1) + 1)) := g58
              show mJ l D cA ad 4 cX12_state 3 (some .boolean) 67 [(2, (0, ((h 0 7) + 1))), (1, (0, (h 0 113))), (0, (2, ((0 : Nat) : Int)))] [(0, 1)] (ja_up (ja_up (ja_up (ja_up (ja_up (ja_up (ja_up h 74 ((h 0 113).toNat) 25) 75 ((h 0 113).toNat) 0) 76 ((h 0 113).toNat) 0) 0 113 ((h 0 113) + 1)) 0 7 ((h 0 7) + 1)) 0 7 (((h 0 7) + 1) + 1)) 0 7 ((((h 0 7) + 1) + 1) + 1)) Q
              refine ja_if_eq 110 dstate_67 rfl ⟨by decide, by decide⟩ (fun c67 => absurd c67 (by omega)) (fun c67 => ?_)
              refine ja_aload_n dstate_70 rfl rfl ?_
              refine ja_bipush 17 dstate_71 rfl ?_
              refine ja_iload_n dstate_73 rfl rfl ?_
              refine ja_iconst dstate_74 ?_
              refine ja_iconst dstate_75 ?_
              refine t_later (by decide) (show (0 : Nat) ≤ 8 by decide) dstate_76 g58 ⟨by decide, by decide⟩ ⟨by omega, by omega⟩ ⟨by decide, by decide⟩ ⟨by decide, by decide⟩ (show 0 ≤ 17 ∧ 17 ≤ 38 by omega) (show (h 0 17) < 2000 by omega) ?_
              intro g59
              replace g59 : mo_G Zz (ja_up (ja_up (ja_up (ja_up (ja_up (ja_up (ja_up (ja_up (ja_up (ja_up (ja_up (ja_up h 74 ((h 0 113).toNat) 25) 75 ((h 0 113).toNat) 0) 76 ((h 0 113).toNat) 0) 0 113 ((h 0 113) + 1)) 0 7 ((h 0 7) + 1)) 0 7 (((h 0 7) + 1) + 1)) 0 7 ((((h 0 7) + 1) + 1) + 1)) 6 ((h 0 17).toNat) 17) 7 ((h 0 17).toNat) ((h 0 7) + 1)) 8 ((h 0 17).toNat) 0) 9 ((h 0 17).toNat) 0) 0 17 ((h 0 17) + 1)) := g59
              show mJ l D cA ad 4 cX12_state 3 (some .boolean) 79 [(2, (0, ((h 0 7) + 1))), (1, (0, (h 0 113))), (0, (2, ((0 : Nat) : Int)))] [(0, 1)] (ja_up (ja_up (ja_up (ja_up (ja_up (ja_up (ja_up (ja_up (ja_up (ja_up (ja_up (ja_up h 74 ((h 0 113).toNat) 25) 75 ((h 0 113).toNat) 0) 76 ((h 0 113).toNat) 0) 0 113 ((h 0 113) + 1)) 0 7 ((h 0 7) + 1)) 0 7 (((h 0 7) + 1) + 1)) 0 7 ((((h 0 7) + 1) + 1) + 1)) 6 ((h 0 17).toNat) 17) 7 ((h 0 17).toNat) ((h 0 7) + 1)) 8 ((h 0 17).toNat) 0) 9 ((h 0 17).toNat) 0) 0 17 ((h 0 17) + 1)) Q
              refine ja_if_eq 110 dstate_79 rfl ⟨by decide, by decide⟩ (fun c79 => absurd c79 (by omega)) (fun c79 => ?_)
              refine ja_aload_n dstate_82 rfl rfl ?_
              refine ja_bipush 37 dstate_83 rfl ?_
              refine ja_bipush 59 dstate_85 rfl ?_
              refine ja_iconst dstate_87 ?_
              refine ja_iconst dstate_88 ?_
              refine t_later (by decide) (show (0 : Nat) ≤ 8 by decide) dstate_89 g59 ⟨by decide, by decide⟩ ⟨by decide, by decide⟩ ⟨by decide, by decide⟩ ⟨by decide, by decide⟩ (show 0 ≤ 37 ∧ 37 ≤ 38 by omega) (show ((h 0 17) + 1) < 2000 by omega) ?_
              intro g60
              replace g60 : mo_G Zz (ja_up (ja_up (ja_up (ja_up (ja_up (ja_up (ja_up (ja_up (ja_up (ja_up (ja_up (ja_up (ja_up (ja_up (ja_up (ja_up (ja_up h 74 ((h 0 113).toNat) 25) 75 ((h 0 113).toNat) 0) 76 ((h 0 113).toNat) 0) 0 113 ((h 0 113) + 1)) 0 7 ((h 0 7) + 1)) 0 7 (((h 0 7) + 1) + 1)) 0 7 ((((h 0 7) + 1) + 1) + 1)) 6 ((h 0 17).toNat) 17) 7 ((h 0 17).toNat) ((h 0 7) + 1)) 8 ((h 0 17).toNat) 0) 9 ((h 0 17).toNat) 0) 0 17 ((h 0 17) + 1)) 6 (((h 0 17) + 1).toNat) 37) 7 (((h 0 17) + 1).toNat) 59) 8 (((h 0 17) + 1).toNat) 0) 9 (((h 0 17) + 1).toNat) 0) 0 17 (((h 0 17) + 1) + 1)) := g60
              show mJ l D cA ad 4 cX12_state 3 (some .boolean) 92 [(2, (0, ((h 0 7) + 1))), (1, (0, (h 0 113))), (0, (2, ((0 : Nat) : Int)))] [(0, 1)] (ja_up (ja_up (ja_up (ja_up (ja_up (ja_up (ja_up (ja_up (ja_up (ja_up (ja_up (ja_up (ja_up (ja_up (ja_up (ja_up (ja_up h 74 ((h 0 113).toNat) 25) 75 ((h 0 113).toNat) 0) 76 ((h 0 113).toNat) 0) 0 113 ((h 0 113) + 1)) 0 7 ((h 0 7) + 1)) 0 7 (((h 0 7) + 1) + 1)) 0 7 ((((h 0 7) + 1) + 1) + 1)) 6 ((h 0 17).toNat) 17) 7 ((h 0 17).toNat) ((h 0 7) + 1)) 8 ((h 0 17).toNat) 0) 9 ((h 0 17).toNat) 0) 0 17 ((h 0 17) + 1)) 6 (((h 0 17) + 1).toNat) 37) 7 (((h 0 17) + 1).toNat) 59) 8 (((h 0 17) + 1).toNat) 0) 9 (((h 0 17) + 1).toNat) 0) 0 17 (((h 0 17) + 1) + 1)) Q
              refine ja_if_eq 110 dstate_92 rfl ⟨by decide, by decide⟩ (fun c92 => absurd c92 (by omega)) (fun c92 => ?_)
              refine ja_aload_n dstate_95 rfl rfl ?_
              refine ja_iconst dstate_96 ?_
              refine ja_iconst dstate_97 ?_
              refine ja_iconst dstate_98 ?_
              refine ja_iconst dstate_99 ?_
              refine t_later (by decide) (show (0 : Nat) ≤ 8 by decide) dstate_100 g60 ⟨by decide, by decide⟩ ⟨by decide, by decide⟩ ⟨by decide, by decide⟩ ⟨by decide, by decide⟩ (show 0 ≤ 1 ∧ 1 ≤ 38 by omega) (show (((h 0 17) + 1) + 1) < 2000 by omega) ?_
              intro g61
              replace g61 : mo_G Zz (ja_up (ja_up (ja_up (ja_up (ja_up (ja_up (ja_up (ja_up (ja_up (ja_up (ja_up (ja_up (ja_up (ja_up (ja_up (ja_up (ja_up (ja_up (ja_up (ja_up (ja_up (ja_up h 74 ((h 0 113).toNat) 25) 75 ((h 0 113).toNat) 0) 76 ((h 0 113).toNat) 0) 0 113 ((h 0 113) + 1)) 0 7 ((h 0 7) + 1)) 0 7 (((h 0 7) + 1) + 1)) 0 7 ((((h 0 7) + 1) + 1) + 1)) 6 ((h 0 17).toNat) 17) 7 ((h 0 17).toNat) ((h 0 7) + 1)) 8 ((h 0 17).toNat) 0) 9 ((h 0 17).toNat) 0) 0 17 ((h 0 17) + 1)) 6 (((h 0 17) + 1).toNat) 37) 7 (((h 0 17) + 1).toNat) 59) 8 (((h 0 17) + 1).toNat) 0) 9 (((h 0 17) + 1).toNat) 0) 0 17 (((h 0 17) + 1) + 1)) 6 ((((h 0 17) + 1) + 1).toNat) 1) 7 ((((h 0 17) + 1) + 1).toNat) 0) 8 ((((h 0 17) + 1) + 1).toNat) 0) 9 ((((h 0 17) + 1) + 1).toNat) 0) 0 17 ((((h 0 17) + 1) + 1) + 1)) := g61
              show mJ l D cA ad 4 cX12_state 3 (some .boolean) 103 [(2, (0, ((h 0 7) + 1))), (1, (0, (h 0 113))), (0, (2, ((0 : Nat) : Int)))] [(0, 1)] (ja_up (ja_up (ja_up (ja_up (ja_up (ja_up (ja_up (ja_up (ja_up (ja_up (ja_up (ja_up (ja_up (ja_up (ja_up (ja_up (ja_up (ja_up (ja_up (ja_up (ja_up (ja_up h 74 ((h 0 113).toNat) 25) 75 ((h 0 113).toNat) 0) 76 ((h 0 113).toNat) 0) 0 113 ((h 0 113) + 1)) 0 7 ((h 0 7) + 1)) 0 7 (((h 0 7) + 1) + 1)) 0 7 ((((h 0 7) + 1) + 1) + 1)) 6 ((h 0 17).toNat) 17) 7 ((h 0 17).toNat) ((h 0 7) + 1)) 8 ((h 0 17).toNat) 0) 9 ((h 0 17).toNat) 0) 0 17 ((h 0 17) + 1)) 6 (((h 0 17) + 1).toNat) 37) 7 (((h 0 17) + 1).toNat) 59) 8 (((h 0 17) + 1).toNat) 0) 9 (((h 0 17) + 1).toNat) 0) 0 17 (((h 0 17) + 1) + 1)) 6 ((((h 0 17) + 1) + 1).toNat) 1) 7 ((((h 0 17) + 1) + 1).toNat) 0) 8 ((((h 0 17) + 1) + 1).toNat) 0) 9 ((((h 0 17) + 1) + 1).toNat) 0) 0 17 ((((h 0 17) + 1) + 1) + 1)) Q
              refine ja_if_eq 110 dstate_103 rfl ⟨by decide, by decide⟩ (fun c103 => absurd c103 (by omega)) (fun c103 => ?_)
              refine ja_iconst dstate_106 ?_
              refine ja_goto 111 dstate_107 rfl ?_
              refine ja_zreturn dstate_111 rfl (by omega) ?_
              exact mo_fin (by omega) rfl (k1 (ja_up (ja_up (ja_up (ja_up (ja_up (ja_up (ja_up (ja_up (ja_up (ja_up (ja_up (ja_up (ja_up (ja_up (ja_up (ja_up (ja_up (ja_up (ja_up (ja_up (ja_up (ja_up h 74 ((h 0 113).toNat) 25) 75 ((h 0 113).toNat) 0) 76 ((h 0 113).toNat) 0) 0 113 ((h 0 113) + 1)) 0 7 ((h 0 7) + 1)) 0 7 (((h 0 7) + 1) + 1)) 0 7 ((((h 0 7) + 1) + 1) + 1)) 6 ((h 0 17).toNat) 17) 7 ((h 0 17).toNat) ((h 0 7) + 1)) 8 ((h 0 17).toNat) 0) 9 ((h 0 17).toNat) 0) 0 17 ((h 0 17) + 1)) 6 (((h 0 17) + 1).toNat) 37) 7 (((h 0 17) + 1).toNat) 59) 8 (((h 0 17) + 1).toNat) 0) 9 (((h 0 17) + 1).toNat) 0) 0 17 (((h 0 17) + 1) + 1)) 6 ((((h 0 17) + 1) + 1).toNat) 1) 7 ((((h 0 17) + 1) + 1).toNat) 0) 8 ((((h 0 17) + 1) + 1).toNat) 0) 9 ((((h 0 17) + 1) + 1).toNat) 0) 0 17 ((((h 0 17) + 1) + 1) + 1)) ((by subst p5; exact ab_st_let p1 p2 p3 (by omega) (by omega))) g61)
            · intro h62 k64_1 g63
              replace k64_1 : 0 < (h62 0 8) ∧ (h62 0 1) = (h 0 1) ∧ (h62 0 118) = (h 0 118) ∧ (h62 0 127) = (h 0 127) := k64_1
              refine ja_if_eq 110 dstate_67 rfl ⟨by decide, by decide⟩ (fun c67 => ?_) (fun c67 => absurd c67 (by omega))
              refine ja_iconst dstate_110 ?_
              refine ja_zreturn dstate_111 rfl (by omega) ?_
              exact mo_fin (by omega) rfl (k2 h62 (by omega) g63)
          · intro h64 k55_1 g65
            replace k55_1 : 0 < (h64 0 8) ∧ (h64 0 1) = (h 0 1) ∧ (h64 0 118) = (h 0 118) ∧ (h64 0 127) = (h 0 127) := k55_1
            refine ja_if_eq 110 dstate_58 rfl ⟨by decide, by decide⟩ (fun c58 => ?_) (fun c58 => absurd c58 (by omega))
            refine ja_iconst dstate_110 ?_
            refine ja_zreturn dstate_111 rfl (by omega) ?_
            exact mo_fin (by omega) rfl (k2 h64 (by omega) g65)
        · refine ja_aload_n dstate_43 rfl rfl ?_
          refine ja_iconst dstate_44 ?_
          refine t_halt (by decide) (show (0 : Nat) ≤ 8 by decide) dstate_45 g45 ⟨by decide, by decide⟩ (show 1 ≤ 3 ∧ 3 ≤ 8 by omega) ?_
          intro h66 k45_0 g67
          replace k45_0 : 0 < (h66 0 8) ∧ (h66 0 1) = (h 0 1) ∧ (h66 0 118) = (h 0 118) ∧ (h66 0 127) = (h 0 127) ∧ (h66 0 41) = (h 0 41) := k45_0
          refine ja_zreturn dstate_48 rfl (by omega) ?_
          exact mo_fin (by omega) rfl (k2 h66 (by omega) g67)
    · intro h68 k19_1 g69
      replace k19_1 : 0 < (h68 0 8) ∧ (h68 0 1) = (h 0 1) ∧ (h68 0 118) = (h 0 118) ∧ (h68 0 127) = (h 0 127) := k19_1
      refine ja_if_ne 27 dstate_22 rfl ⟨by decide, by decide⟩ (fun c22 => absurd c22 (by omega)) (fun c22 => ?_)
      refine ja_iconst dstate_25 ?_
      refine ja_zreturn dstate_26 rfl (by omega) ?_
      exact mo_fin (by omega) rfl (k2 h68 (by omega) g69)
theorem t_state {hz : ja_H} {R r ph q0 a b : Int} {tf : mo_TF} {s : List mo_A} {ht st rg : Nat → Int} {tu : Int} {d nL pc : Nat} {cc : ByteArray} {rt : Option FieldType} {L : List (Nat × ja_V)} {S : List ja_V} {h : ja_H} {Q : Option ja_V → ja_H → Prop} (hdd : 4 < d) (hwd : ja_wd S ≤ 8) (hd : decode cc pc = .ok (.invokevirtual 817, 3)) (g : mo_G Zz h) (p1 : mo_G Zz hz) (p2 : pk_S hz (hz 0 17).toNat s) (p3 : piB hz R r ph tf q0 ((15, a, b) :: s) ht st rg tu) (p4 : (hz 0 18) < 16) (p5 : h = mo_L (mo_L (ja_up hz 0 18 ((hz 0 18) + 1)) 15 0 0 0) 30 0 0 0) (k1 : ∀ (h' : ja_H), (pi_done hz h' R r ph tf q0 (pi_mu hz ((15, a, b) :: s))) → mo_G Zz h' → mJ l D cA ad d cc nL rt (pc + 3) L ((0, 1) :: S) h' Q) (k2 : ∀ (h' : ja_H), (0 < (h' 0 8) ∧ (h' 0 1) = (h 0 1) ∧ (h' 0 118) = (h 0 118) ∧ (h' 0 127) = (h 0 127)) → mo_G Zz h' → mJ l D cA ad d cc nL rt (pc + 3) L ((0, 0) :: S) h' Q) : mJ l D cA ad d cc nL rt pc L ((2, ((0 : Nat) : Int)) :: S) h Q :=
  mc_state hdd hwd hd (s_state g p1 p2 p3 p4 p5 k1 k2)
end
