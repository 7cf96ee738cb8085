/-! the reference's parser: picks, bars -/
def FTR : Nat → Nat → Bool := mo_F [113, 95, 72, 88, 34, 68, 18, 87, 86, 109] [74, 75, 76, 52, 54, 55, 56, 57, 58, 59, 60, 62, 63, 67, 47, 24, 45, 44, 46]
theorem FTR_FCD (k j : Nat) (e : FCD k j = true) : FTR k j = true := by
  unfold FCD mo_F at e; unfold FTR mo_F
  split at e
  · next z => rw [if_pos z]; simp at e ⊢; omega
  · next z => rw [if_neg z]; simp at e ⊢; omega
theorem tr_wt {F : Nat → Nat → Bool} {h u : ja_H} (ag : mo_ag F h u) (h1 : F 0 68 = true) (h2 : ∀ j, F 45 j = true) (h3 : ∀ j, F 44 j = true) (h4 : ∀ j, F 46 j = true) : ∀ k a b, pw_wt h k a b → pw_wt u k a b :=
  it_wt (ag _ _ h1) (funext fun j => ag _ _ (h2 j)) (funext fun j => ag _ _ (h3 j)) (funext fun j => ag _ _ (h4 j))
theorem tr_begin {h u : ja_H} {ht st rg : Nat → Int} {q0 : Int} (gu : mo_G u) (q : it h ht st rg) (ag : mo_ag FTR h u) (hat : (h 0 7) < (u 0 7)) (hf : (u 0 11) = 0 → (h 0 11) = 0) (hq : (u 0 84) = q0) (hq0 : 0 ≤ q0 ∧ q0 ≤ 1) :
    piB (mo_L (ja_up u 0 17 0) 31 0 0 0) (u 0 74) 4 1 (1, (u 0 113) - 1, ht, st, rg, fun a => a ≤ -10 ∧ pi_nf u a) q0 [(31, 0, 0)] ht st rg 0 ∧ tf_ok 1 (1, (u 0 113) - 1, ht, st, rg, fun a => a ≤ -10 ∧ pi_nf u a) := by
  obtain ⟨qc, qP, ⟨z1, z2, z3, z4, z5, z6, z7, z8, z9, z10, z11, z12, z13, z14, -⟩, -, -⟩ := q
  have hv := tr_wt ag rfl (fun _ => rfl) (fun _ => rfl) (fun _ => rfl)
  have U1 : (u 0 113) = (h 0 113) := ag _ _ rfl
  have U2 : (u 0 95) = (h 0 95) := ag _ _ rfl
  have U3 : (u 0 68) = (h 0 68) := ag _ _ rfl
  have U4 : (u 0 72) = (h 0 72) := ag _ _ rfl
  have U5 : (u 0 18) = (h 0 18) := ag _ _ rfl
  have U6 : (u 0 87) = (h 0 87) := ag _ _ rfl
  have U7 : (u 0 86) = (h 0 86) := ag _ _ rfl
  have U8 : (u 0 109) = (h 0 109) := ag _ _ rfl
  exact it_tree gu rfl (cd_keep qc (ag_sub FTR_FCD ag) hf hv) (pP_keep qP (ag_sub FTR_FCD ag) hv) (fun k hk => by rw [U8, z14] at hk; omega) (by omega) (by omega) (by omega) (by omega) (by omega) hq hq0 (by omega) (by omega) (by omega)
/-- a P has been read: what stands, and its tree -/
theorem tr_end {h u h3 : ja_H} {ht st rg ht3 st3 rg3 : Nat → Int} {R q0 tu : Int} (q : it h ht st rg) (g3 : mo_G h3) (agU : mo_ag FTR h u) (hp : pi h3 R 4 1 (1, (u 0 113) - 1, ht, st, rg, fun a => a ≤ -10 ∧ pi_nf u a) q0 [] ht3 st3 rg3 tu) :
    (cd h3 ht3 st3 rg3 ∧ pi_P h3) ∧ (∀ j : Nat, (j : Int) < (h 0 113) → ht3 j = ht j ∧ st3 j = st j ∧ rg3 j = rg j) ∧ (∀ a, a ≤ -10 ∧ pi_nf h a → pi_nf h3 a) ∧ (h 0 113) ≤ (h3 0 113) ∧ ((h3 0 109) = 1 ∧ (h3 70) 0 < (h3 0 95) ∧ (h3 67) ((h3 70) 0).toNat = (h3 0 85)) ∧ ((h3 0 18) = 0 ∧ (h3 0 113) < 5 * (h3 0 7) ∧ (h3 0 95) < (h3 0 7) ∧ (h3 0 68) < (h3 0 7) ∧ (h3 0 72) ≤ (h3 0 95) ∧ (h3 0 84) = q0 ∧ (h3 0 87) = 0 ∧ (h3 0 86) = 0) := by
  obtain ⟨k1, k2, k3, k4, k5, k6, k7, k8, k9, k10, -⟩ := it_num hp
  obtain ⟨hcd, hP, hT, gh, nf⟩ := it_tree_end hp
  dsimp only at k9 k10 gh nf
  have U1 : (u 0 113) = (h 0 113) := agU _ _ rfl
  have U7 : (u 0 95) = (h 0 95) := agU _ _ rfl
  have l6 : (u 67) = (h 67) := funext fun j => agU _ _ rfl
  have hT0 := hT 0 (by omega)
  rw [U1] at gh k10
  have hw : (h 0 113) ≤ (h3 0 113) := by
    rcases Int.lt_or_le (h3 0 113) (h 0 113) with l | l
    · exfalso
      have g0 : 0 ≤ (h3 0 113) := (gF_words g3).1
      have z := (gh (h3 0 113).toNat (by omega)).2.2
      have c := (q.1.1.1 (h3 0 113).toNat (by omega)).2.2.1.2.1
      have e := hcd.2.1
      omega
    · exact l
  exact ⟨⟨hcd, hP⟩, fun j hj => gh j (by omega), fun a z => nf a ⟨z.1, by rw [nf_keep U7 l6]; exact z.2⟩, hw, ⟨k9, hT0⟩, k1, k2, k3, k4, k5, k6, k7, k8⟩
def FPU : Nat → Nat → Bool := mo_X [7, 8, 9, 82, 11, 12, 52, 85] [51, 34, 35]
def FPH : Nat → Nat → Bool := mo_X [7, 8, 9, 11, 12, 85, 109] [36, 37]
theorem X_sub {fs cs gs ds : List Nat} (h1 : ∀ j, gs.contains j = true → fs.contains j = false) (h2 : ∀ k, ds.contains k = true → cs.contains k = false) (k j : Nat) (e : mo_F gs ds k j = true) : mo_X fs cs k j = true := by
  unfold mo_F at e; unfold mo_X
  split at e
  · next z => rw [if_pos z, h1 j e]; rfl
  · next z => rw [if_neg z, h2 k e]; rfl
theorem pick_end {h u h3 H : ja_H} {ht st rg ht3 st3 rg3 : Nat → Int} {R tu : Int} (g : mo_G h) (g3 : mo_G h3) (gH : mo_G H) (q : it h ht st rg) (hat : (h 0 7) < (u 0 7)) (agU : mo_ag FPU h u) (hpk : (u 0 52) = (h 0 52) + 1) (hip : (u 0 85) = 1)
    (hp : pi h3 R 4 1 (1, (u 0 113) - 1, ht, st, rg, fun a => a ≤ -10 ∧ pi_nf u a) 0 [] ht3 st3 rg3 tu) (agB : mo_ag FK u h3) (hatB : (u 0 7) ≤ (h3 0 7)) (agH : mo_ag FPH h3 H) (hat2 : (h3 0 7) ≤ (H 0 7)) (hf : (H 0 11) = 0 → (h3 0 11) = 0) (h0 : (H 0 85) = 0) (h1 : (H 0 109) = 0)
    (hr : (H 37) (h 0 52).toNat = (h3 70) 0) (hr2 : ∀ j : Nat, j ≠ (h 0 52).toNat → (H 37) j = (h3 37) j) : it H ht3 st3 rg3 := by
  have agT : mo_ag FTR h u := ag_sub (X_sub (by decide) (by decide)) agU
  obtain ⟨⟨hcd, hP⟩, gh, nf, hw, ⟨t1, t2, t3⟩, k1, k2, k3, k4, k5, k6, k7, k8⟩ := tr_end q g3 agT hp
  obtain ⟨-, -, ⟨z1, z2, z3, z4, z5, z6, z7, z8, z9, z10, z11, z12, z13, z14, z15, z16⟩, qS, qF⟩ := q
  have gp := (gF_picks g).1
  have agC : mo_ag FCD h3 H := ag_sub (X_sub (by decide) (by decide)) agH
  have hv := tr_wt agH rfl (fun _ => rfl) (fun _ => rfl) (fun _ => rfl)
  have U (f : Nat) : True := trivial
  have A2 : (H 0 31) = (h 0 31) := (agH _ _ rfl).trans ((agB _ _ rfl).trans (agU _ _ rfl))
  have A3 : (H 0 64) = (h 0 64) := (agH _ _ rfl).trans ((agB _ _ rfl).trans (agU _ _ rfl))
  have A4 : (H 0 61) = (h 0 61) := (agH _ _ rfl).trans ((agB _ _ rfl).trans (agU _ _ rfl))
  have A5 : (H 0 41) = (h 0 41) := (agH _ _ rfl).trans ((agB _ _ rfl).trans (agU _ _ rfl))
  have A6 : (H 0 66) = (h 0 66) := (agH _ _ rfl).trans ((agB _ _ rfl).trans (agU _ _ rfl))
  have A7 : (H 0 34) = (h 0 34) := (agH _ _ rfl).trans ((agB _ _ rfl).trans (agU _ _ rfl))
  have A8 : (H 0 44) = (h 0 44) := (agH _ _ rfl).trans ((agB _ _ rfl).trans (agU _ _ rfl))
  have A9 : (H 0 67) = (h 0 67) := (agH _ _ rfl).trans ((agB _ _ rfl).trans (agU _ _ rfl))
  have A10 : (H 0 57) = (h 0 57) := (agH _ _ rfl).trans ((agB _ _ rfl).trans (agU _ _ rfl))
  have A11 : (H 0 26) = (h 0 26) := (agH _ _ rfl).trans ((agB _ _ rfl).trans (agU _ _ rfl))
  have A12 : (H 0 52) = (h 0 52) + 1 := (agH _ _ rfl).trans ((agB _ _ rfl).trans hpk)
  have A13 : (h3 0 85) = 1 := (agB _ _ rfl).trans hip
  have B1 : (H 0 113) = (h3 0 113) := agH _ _ rfl
  have B2 : (H 0 95) = (h3 0 95) := agH _ _ rfl
  have B3 : (H 0 68) = (h3 0 68) := agH _ _ rfl
  have B4 : (H 0 72) = (h3 0 72) := agH _ _ rfl
  have B5 : (H 0 18) = (h3 0 18) := agH _ _ rfl
  have B6 : (H 0 84) = (h3 0 84) := agH _ _ rfl
  have B7 : (H 0 87) = (h3 0 87) := agH _ _ rfl
  have B8 : (H 0 86) = (h3 0 86) := agH _ _ rfl
  have F1 : (H 23) = (h 23) := funext fun j => (agH _ _ rfl).trans ((agB _ _ rfl).trans (agU _ _ rfl))
  have F2 : (H 32) = (h 32) := funext fun j => (agH _ _ rfl).trans ((agB _ _ rfl).trans (agU _ _ rfl))
  have F3 : (H 31) = (h 31) := funext fun j => (agH _ _ rfl).trans ((agB _ _ rfl).trans (agU _ _ rfl))
  have F4 : (H 29) = (h 29) := funext fun j => (agH _ _ rfl).trans ((agB _ _ rfl).trans (agU _ _ rfl))
  have F5 : (h3 37) = (h 37) := funext fun j => (agB _ _ rfl).trans (agU _ _ rfl)
  have F6 : (H 38) = (h 38) := funext fun j => (agH _ _ rfl).trans ((agB _ _ rfl).trans (agU _ _ rfl))
  have F7 : (H 18) = (h 18) := funext fun j => (agH _ _ rfl).trans ((agB _ _ rfl).trans (agU _ _ rfl))
  have L6 : (H 67) = (h3 67) := funext fun j => agH _ _ rfl
  refine ⟨cd_keep hcd agC hf hv, pP_keep hP agC hv, ⟨?_, ?_, ?_, ?_, ?_, ?_, ?_, ?_, ?_, ?_, ?_, ?_, ?_, ?_, ?_, ?_⟩, ?_, it_F_eq qF A2 F7⟩
  all_goals first | omega | skip
  refine it_S_more g qS (by omega) gh (fun a z => by rw [nf_keep B2 L6]; exact nf a z) (by omega) (fun m hm => Or.inl ⟨by omega, by rw [F1]⟩) (fun a ha => Or.inl ⟨by omega, by rw [F2], by rw [F3], by rw [F4]⟩) (fun z => Or.inl ⟨by omega, A9⟩) (fun p hp2 => ?_) (fun b hb => Or.inl ⟨by omega, by rw [F6]⟩)
  by_cases e : p = (h 0 52).toNat
  · right
    rw [e, hr, B2, L6]
    exact ⟨t2, t3.trans A13⟩
  · left
    exact ⟨by omega, by rw [hr2 p e, F5]⟩
