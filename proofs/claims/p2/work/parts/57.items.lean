/-! the reference: ITEMS, picks (written by a program) -/
variable {Zz : Zc}
/-! the reference's parser: picks, bars -/
def FTR : Nat → Nat → Bool := mo_F [113, 95, 72, 88, 34, 68, 18, 87, 86, 109] [74, 75, 76, 52, 54, 55, 56, 57, 58, 59, 60, 62, 63, 67, 47, 24, 45, 44, 46]
theorem F_F {fs cs gs ds : List Nat} (h1 : gs.all (fun j => fs.contains j) = true) (h2 : ds.all (fun k => cs.contains k) = true) (k j : Nat) (e : mo_F gs ds k j = true) : mo_F fs cs k j = true := by
  unfold mo_F at e ⊢
  split at e
  · next z => rw [if_pos z]; exact List.all_eq_true.mp h1 j (by simpa using e)
  · next z => rw [if_neg z]; exact List.all_eq_true.mp h2 k (by simpa using e)
theorem X_sub {fs cs gs ds : List Nat} (h1 : gs.all (fun j => !fs.contains j) = true) (h2 : ds.all (fun k => !cs.contains k) = true) (k j : Nat) (e : mo_F gs ds k j = true) : mo_X fs cs k j = true := by
  unfold mo_F at e; unfold mo_X
  split at e
  · next z => rw [if_pos z]; exact List.all_eq_true.mp h1 j (by simpa using e)
  · next z => rw [if_neg z]; exact List.all_eq_true.mp h2 k (by simpa using e)
theorem X_X {fs cs gs ds : List Nat} (h1 : fs.all (fun j => gs.contains j) = true) (h2 : cs.all (fun k => ds.contains k) = true) (k j : Nat) (e : mo_X gs ds k j = true) : mo_X fs cs k j = true := by
  unfold mo_X at e ⊢
  split at e
  · next z =>
    rw [if_pos z]
    cases hc : fs.contains j with
    | false => rfl
    | true => have := List.all_eq_true.mp h1 j (by simpa using hc); rw [this] at e; exact e
  · next z =>
    rw [if_neg z]
    cases hc : cs.contains k with
    | false => rfl
    | true => have := List.all_eq_true.mp h2 k (by simpa using hc); rw [this] at e; exact e
theorem FTR_FCD (k j : Nat) (e : FCD k j = true) : FTR k j = true := F_F (by decide) (by decide) k j e
theorem tr_wt {F : Nat → Nat → Bool} {h u : ja_H} (ag : mo_ag F h u) (h1 : F 0 68 = true) (h2 : ∀ j, F 45 j = true) (h3 : ∀ j, F 44 j = true) (h4 : ∀ j, F 46 j = true) : ∀ k a b, pw_wt h k a b → pw_wt u k a b :=
  it_wt (ag _ _ h1) (funext fun j => ag _ _ (h2 j)) (funext fun j => ag _ _ (h3 j)) (funext fun j => ag _ _ (h4 j))
theorem tr_begin {h u : ja_H} {ht st rg : Nat → Int} {q0 : Int} (gu : mo_G Zz u) (q : it h ht st rg) (ag : mo_ag FTR h u) (hat : (h 0 7) < (u 0 7)) (hf : (u 0 11) = 0 → (h 0 11) = 0) (hq : (u 0 84) = q0) (hq0 : 0 ≤ q0 ∧ q0 ≤ 1) :
    piB (mo_L (ja_up u 0 17 0) 31 0 0 0) (u 0 74) 4 1 (1, (u 0 113) - 1, ht, st, rg, fun a => a ≤ -10 ∧ pi_nf u a) q0 [(31, 0, 0)] ht st rg 0 ∧ tf_ok 1 (1, (u 0 113) - 1, ht, st, rg, fun a => a ≤ -10 ∧ pi_nf u a) := by
  obtain ⟨qc, qP, ⟨z1, z2, z3, z4, z5, z6, z7, z8, z9, z10, z11, z12, z13, z14, -⟩, -, -⟩ := q
  have hv := tr_wt ag rfl (fun _ => rfl) (fun _ => rfl) (fun _ => rfl)
  have U1 : (u 0 113) = (h 0 113) := ag _ _ rfl
  have U2 : (u 0 95) = (h 0 95) := ag _ _ rfl
  have U3 : (u 0 68) = (h 0 68) := ag _ _ rfl
  have U4 : (u 0 72) = (h 0 72) := ag _ _ rfl
  have U5 : (u 0 18) = (h 0 18) := ag _ _ rfl
  have U6 : (u 0 87) = (h 0 87) := ag _ _ rfl
  have U7 : (u 0 86) = (h 0 86) := ag _ _ rfl
  have U8 : (u 0 109) = (h 0 109) := ag _ _ rfl
  exact it_tree gu rfl (cd_keep qc (ag_sub FTR_FCD ag) hf hv) (pP_keep qP (ag_sub FTR_FCD ag) hv) (fun k hk => by rw [U8, z14] at hk; omega) (by omega) (by omega) (by omega) (by omega) (by omega) hq hq0 (by omega) (by omega) (by omega)
/-- a P has been read: what stands, and its tree -/
theorem tr_end {h u h3 : ja_H} {ht st rg ht3 st3 rg3 : Nat → Int} {R q0 tu : Int} (q : it h ht st rg) (g3 : mo_G Zz h3) (agU : mo_ag FTR h u) (hp : pi h3 R 4 1 (1, (u 0 113) - 1, ht, st, rg, fun a => a ≤ -10 ∧ pi_nf u a) q0 [] ht3 st3 rg3 tu) :
    (cd h3 ht3 st3 rg3 ∧ pi_P h3) ∧ (∀ j : Nat, (j : Int) < (h 0 113) → ht3 j = ht j ∧ st3 j = st j ∧ rg3 j = rg j) ∧ (∀ a, a ≤ -10 ∧ pi_nf h a → pi_nf h3 a) ∧ (h 0 113) ≤ (h3 0 113) ∧ ((h3 0 109) = 1 ∧ (h3 70) 0 < (h3 0 95) ∧ (h3 67) ((h3 70) 0).toNat = (h3 0 85)) ∧ ((h3 0 18) = 0 ∧ (h3 0 113) < 5 * (h3 0 7) ∧ (h3 0 95) < (h3 0 7) ∧ (h3 0 68) < (h3 0 7) ∧ (h3 0 72) ≤ (h3 0 95) ∧ (h3 0 84) = q0 ∧ (h3 0 87) = 0 ∧ (h3 0 86) = 0) := by
  obtain ⟨k1, k2, k3, k4, k5, k6, k7, k8, k9, k10, -⟩ := it_num hp
  obtain ⟨hcd, hP, hT, gh, nf⟩ := it_tree_end hp
  dsimp only at k9 k10 gh nf
  have U1 : (u 0 113) = (h 0 113) := agU _ _ rfl
  have U7 : (u 0 95) = (h 0 95) := agU _ _ rfl
  have l6 : (u 67) = (h 67) := funext fun j => agU _ _ rfl
  have hT0 := hT 0 (by omega)
  rw [U1] at gh k10
  have hw : (h 0 113) ≤ (h3 0 113) := by
    rcases Int.lt_or_le (h3 0 113) (h 0 113) with l | l
    · exfalso
      have g0 : 0 ≤ (h3 0 113) := (gF_words g3).1
      have z := (gh (h3 0 113).toNat (by omega)).2.2
      have c := (q.1.1.1 (h3 0 113).toNat (by omega)).2.2.1.2.1
      have e := hcd.2.1
      omega
    · exact l
  exact ⟨⟨hcd, hP⟩, fun j hj => gh j (by omega), fun a z => nf a ⟨z.1, by rw [nf_keep U7 l6]; exact z.2⟩, hw, ⟨k9, hT0⟩, k1, k2, k3, k4, k5, k6, k7, k8⟩
/-- what may change ahead of a tree; what may behind it -/
def FTU : Nat → Nat → Bool := mo_X [7, 8, 9, 82, 11, 12, 52, 57, 44, 85, 84, 74, 75, 77, 79] [51, 34, 35, 40, 39, 27, 28, 29, 33, 30]
def FTH : Nat → Nat → Bool := mo_X [7, 8, 9, 11, 12, 85, 84, 109, 79, 77] [36, 37, 38, 31, 32, 49, 50]
theorem FTU_FTR (k j : Nat) (e : FTR k j = true) : FTU k j = true := X_sub (by decide) (by decide) k j e
/-- a tree has been read, and what follows it -/
theorem tr_all {h u h3 H : ja_H} {ht st rg ht3 st3 rg3 : Nat → Int} {R q0 tu : Int} (g3 : mo_G Zz h3) (q : it h ht st rg) (hat : (h 0 7) < (u 0 7)) (agU : mo_ag FTU h u)
    (hp : pi h3 R 4 1 (1, (u 0 113) - 1, ht, st, rg, fun a => a ≤ -10 ∧ pi_nf u a) q0 [] ht3 st3 rg3 tu) (agB : mo_ag FK u h3) (hatB : (u 0 7) ≤ (h3 0 7)) (agH : mo_ag FTH h3 H) (hat2 : (h3 0 7) ≤ (H 0 7)) (hf : (H 0 11) = 0 → (h3 0 11) = 0) (h0 : (H 0 85) = 0) (h1 : (H 0 109) = 0) (h2 : (H 0 84) = 0) :
    (cd H ht3 st3 rg3 ∧ pi_P H ∧ it_n H ∧ it_F H) ∧ ((∀ j : Nat, (j : Int) < (h 0 113) → ht3 j = ht j ∧ st3 j = st j ∧ rg3 j = rg j) ∧ (∀ a, a ≤ -10 ∧ pi_nf h a → pi_nf H a) ∧ (h 0 113) ≤ (H 0 113)) ∧ ((h3 0 109) = 1 ∧ (h3 70) 0 < (H 0 95) ∧ (H 67) ((h3 70) 0).toNat = (u 0 85)) ∧
    ((H 0 34) = (h 0 34) ∧ (H 23) = (h 23) ∧ (H 0 66) = (h 0 66) ∧ (H 0 67) = (h 0 67) ∧ (H 0 26) = (h 0 26) ∧ (H 0 52) = (u 0 52) ∧ (H 0 57) = (u 0 57) ∧ (H 0 44) = (u 0 44)) ∧ ((h3 37) = (h 37) ∧ (h3 38) = (h 38) ∧ (h3 31) = (h 31) ∧ (h3 32) = (h 32) ∧ (H 29) = (u 29)) ∧ (H 0 113) < 5 * (H 0 7) ∧ (H 0 95) < (H 0 7) ∧ (H 0 68) < (H 0 7) := by
  have agT : mo_ag FTR h u := ag_sub FTU_FTR agU
  obtain ⟨⟨hcd, hP⟩, gh, nf, hw, ⟨t1, t2, t3⟩, k1, k2, k3, k4, k5, k6, k7, k8⟩ := tr_end q g3 agT hp
  obtain ⟨-, -, ⟨z1, z2, z3, z4, z5, z6, z7, z8, z9, z10, z11, z12, z13, z14, z15, z16⟩, qS, qF⟩ := q
  have agC : mo_ag FCD h3 H := ag_sub (X_sub (by decide) (by decide)) agH
  have hv := tr_wt agH rfl (fun _ => rfl) (fun _ => rfl) (fun _ => rfl)
  have A2 : (H 0 31) = (h 0 31) := (agH _ _ rfl).trans ((agB _ _ rfl).trans (agU _ _ rfl))
  have A3 : (H 0 64) = (h 0 64) := (agH _ _ rfl).trans ((agB _ _ rfl).trans (agU _ _ rfl))
  have A4 : (H 0 61) = (h 0 61) := (agH _ _ rfl).trans ((agB _ _ rfl).trans (agU _ _ rfl))
  have A5 : (H 0 41) = (h 0 41) := (agH _ _ rfl).trans ((agB _ _ rfl).trans (agU _ _ rfl))
  have A6 : (H 0 66) = (h 0 66) := (agH _ _ rfl).trans ((agB _ _ rfl).trans (agU _ _ rfl))
  have A7 : (H 0 34) = (h 0 34) := (agH _ _ rfl).trans ((agB _ _ rfl).trans (agU _ _ rfl))
  have A8 : (H 0 44) = (u 0 44) := (agH _ _ rfl).trans (agB _ _ rfl)
  have A9 : (H 0 67) = (h 0 67) := (agH _ _ rfl).trans ((agB _ _ rfl).trans (agU _ _ rfl))
  have A10 : (H 0 57) = (u 0 57) := (agH _ _ rfl).trans (agB _ _ rfl)
  have A11 : (H 0 26) = (h 0 26) := (agH _ _ rfl).trans ((agB _ _ rfl).trans (agU _ _ rfl))
  have A12 : (H 0 52) = (u 0 52) := (agH _ _ rfl).trans (agB _ _ rfl)
  have A13 : (h3 0 85) = (u 0 85) := agB _ _ rfl
  have B1 : (H 0 113) = (h3 0 113) := agH _ _ rfl
  have B2 : (H 0 95) = (h3 0 95) := agH _ _ rfl
  have B3 : (H 0 68) = (h3 0 68) := agH _ _ rfl
  have B4 : (H 0 72) = (h3 0 72) := agH _ _ rfl
  have B5 : (H 0 18) = (h3 0 18) := agH _ _ rfl
  have B7 : (H 0 87) = (h3 0 87) := agH _ _ rfl
  have B8 : (H 0 86) = (h3 0 86) := agH _ _ rfl
  have F1 : (H 23) = (h 23) := funext fun j => (agH _ _ rfl).trans ((agB _ _ rfl).trans (agU _ _ rfl))
  have F2 : (h3 32) = (h 32) := funext fun j => (agB _ _ rfl).trans (agU _ _ rfl)
  have F3 : (h3 31) = (h 31) := funext fun j => (agB _ _ rfl).trans (agU _ _ rfl)
  have F4 : (H 29) = (u 29) := funext fun j => (agH _ _ rfl).trans (agB _ _ rfl)
  have F5 : (h3 37) = (h 37) := funext fun j => (agB _ _ rfl).trans (agU _ _ rfl)
  have F6 : (h3 38) = (h 38) := funext fun j => (agB _ _ rfl).trans (agU _ _ rfl)
  have F7 : (H 18) = (h 18) := funext fun j => (agH _ _ rfl).trans ((agB _ _ rfl).trans (agU _ _ rfl))
  have L6 : (H 67) = (h3 67) := funext fun j => agH _ _ rfl
  refine ⟨⟨cd_keep hcd agC hf hv, pP_keep hP agC hv, ⟨?_, ?_, ?_, ?_, ?_, ?_, ?_, ?_, ?_, ?_, ?_, ?_, ?_, ?_, ?_, ?_⟩, it_F_eq qF A2 F7⟩, ⟨gh, fun a z => by rw [nf_keep B2 L6]; exact nf a z, by omega⟩, ⟨t1, by rw [B2]; exact t2, by rw [L6]; exact t3.trans A13⟩, ⟨A7, F1, A6, A9, A11, A12, A10, A8⟩, ⟨F5, F6, F3, F2, F4⟩, ?_, ?_, ?_⟩
  all_goals omega
theorem pick_end {h u h3 H : ja_H} {ht st rg ht3 st3 rg3 : Nat → Int} {R tu : Int} (g : mo_G Zz h) (g3 : mo_G Zz h3) (q : it h ht st rg) (hat : (h 0 7) < (u 0 7)) (agU : mo_ag FTU h u) (hpk : (u 0 52) = (h 0 52) + 1) (hip : (u 0 85) = 1) (hb : (u 0 57) = (h 0 57)) (had : (u 0 44) = (h 0 44)) (haa : (u 29) = (h 29))
    (hp : pi h3 R 4 1 (1, (u 0 113) - 1, ht, st, rg, fun a => a ≤ -10 ∧ pi_nf u a) 0 [] ht3 st3 rg3 tu) (agB : mo_ag FK u h3) (hatB : (u 0 7) ≤ (h3 0 7)) (agH : mo_ag FTH h3 H) (hat2 : (h3 0 7) ≤ (H 0 7)) (hf : (H 0 11) = 0 → (h3 0 11) = 0) (h0 : (H 0 85) = 0) (h1 : (H 0 109) = 0) (h2 : (H 0 84) = 0)
    (hr : (H 37) (h 0 52).toNat = (h3 70) ((h3 0 109) - 1).toNat) (hr2 : ∀ j : Nat, j ≠ (h 0 52).toNat → (H 37) j = (h3 37) j) (hr3 : (H 38) = (h3 38)) (hr4 : (H 31) = (h3 31)) (hr5 : (H 32) = (h3 32)) : it H ht3 st3 rg3 := by
  obtain ⟨⟨c1, c2, c3, c4⟩, ⟨gh, nf, hw⟩, ⟨t1, t2, t3⟩, ⟨e1, e2, e3, e4, e5, e6, e7, e8⟩, ⟨f1, f2, f3, f4, f5⟩, -⟩ := tr_all g3 q hat agU hp agB hatB agH hat2 hf h0 h1 h2
  have gp := (gF_picks g).1
  rw [t1] at hr
  refine ⟨c1, c2, c3, ?_, c4⟩
  refine it_S_more g q.2.2.2.1 hw gh nf (by omega) (fun m hm => Or.inl ⟨by omega, by rw [e2]⟩) (fun a ha => Or.inl ⟨by omega, by rw [hr5, f4], by rw [hr4, f3], by rw [f5, haa]⟩) (fun z => Or.inl ⟨by omega, e4⟩) (fun p hp2 => ?_) (fun b hb => Or.inl ⟨by omega, by rw [hr3, f2]⟩)
  by_cases e : p = (h 0 52).toNat
  · right
    rw [e, hr]
    exact ⟨t2, t3.trans hip⟩
  · left
    exact ⟨by omega, by rw [hr2 p e, f1]⟩
theorem bar_end {h u h3 H : ja_H} {ht st rg ht3 st3 rg3 : Nat → Int} {R tu : Int} (g : mo_G Zz h) (g3 : mo_G Zz h3) (q : it h ht st rg) (hat : (h 0 7) < (u 0 7)) (agU : mo_ag FTU h u) (hpk : (u 0 52) = (h 0 52)) (hip : (u 0 85) = 0) (hb : (u 0 57) = (h 0 57) + 1) (had : (u 0 44) = (h 0 44)) (haa : (u 29) = (h 29))
    (hp : pi h3 R 4 1 (1, (u 0 113) - 1, ht, st, rg, fun a => a ≤ -10 ∧ pi_nf u a) 1 [] ht3 st3 rg3 tu) (agB : mo_ag FK u h3) (hatB : (u 0 7) ≤ (h3 0 7)) (agH : mo_ag FTH h3 H) (hat2 : (h3 0 7) ≤ (H 0 7)) (hf : (H 0 11) = 0 → (h3 0 11) = 0) (h0 : (H 0 85) = 0) (h1 : (H 0 109) = 0) (h2 : (H 0 84) = 0)
    (hr : (H 38) (h 0 57).toNat = (h3 70) ((h3 0 109) - 1).toNat) (hr2 : ∀ j : Nat, j ≠ (h 0 57).toNat → (H 38) j = (h3 38) j) (hr3 : (H 37) = (h3 37)) (hr4 : (H 31) = (h3 31)) (hr5 : (H 32) = (h3 32)) : it H ht3 st3 rg3 := by
  obtain ⟨⟨c1, c2, c3, c4⟩, ⟨gh, nf, hw⟩, ⟨t1, t2, t3⟩, ⟨e1, e2, e3, e4, e5, e6, e7, e8⟩, ⟨f1, f2, f3, f4, f5⟩, -⟩ := tr_all g3 q hat agU hp agB hatB agH hat2 hf h0 h1 h2
  have gp := (gF_bars g).1
  rw [t1] at hr
  refine ⟨c1, c2, c3, ?_, c4⟩
  refine it_S_more g q.2.2.2.1 hw gh nf (by omega) (fun m hm => Or.inl ⟨by omega, by rw [e2]⟩) (fun a ha => Or.inl ⟨by omega, by rw [hr5, f4], by rw [hr4, f3], by rw [f5, haa]⟩) (fun z => Or.inl ⟨by omega, e4⟩) (fun p hp2 => Or.inl ⟨by omega, by rw [hr3, f1]⟩) (fun b hb => ?_)
  by_cases e : b = (h 0 57).toNat
  · right
    rw [e, hr]
    exact ⟨t2, t3.trans hip⟩
  · left
    exact ⟨by omega, by rw [hr2 b e, f2]⟩
def FPQ : Nat → Nat → Bool := mo_X [7, 8, 9, 11, 12] [34, 35]
theorem kp_X {fs cs : List Nat} {h u : ja_H} (q : mo_ag (mo_X fs cs) h u) (h1 : [1, 118, 127, 76, 26, 119].all (fun j => !fs.contains j) = true) : mo_ag FKP h u := ag_sub (X_sub h1 rfl) q
theorem dpick_0 : decode cX12_pick 0 = .ok (.aload_n 0, 1) := by decide +kernel
theorem dpick_1 : decode cX12_pick 1 = .ok (.invokevirtual 599, 3) := by decide +kernel
theorem dpick_4 : decode cX12_pick 4 = .ok (.ifCond .eq 18, 3) := by decide +kernel
theorem dpick_7 : decode cX12_pick 7 = .ok (.aload_n 0, 1) := by decide +kernel
theorem dpick_8 : decode cX12_pick 8 = .ok (.getfield 665, 3) := by decide +kernel
theorem dpick_11 : decode cX12_pick 11 = .ok (.bipush 24, 2) := by decide +kernel
theorem dpick_13 : decode cX12_pick 13 = .ok (.if_icmp .ne 9, 3) := by decide +kernel
theorem dpick_16 : decode cX12_pick 16 = .ok (.aload_n 0, 1) := by decide +kernel
theorem dpick_17 : decode cX12_pick 17 = .ok (.iconst 3, 1) := by decide +kernel
theorem dpick_18 : decode cX12_pick 18 = .ok (.invokevirtual 583, 3) := by decide +kernel
theorem dpick_21 : decode cX12_pick 21 = .ok (.ireturn, 1) := by decide +kernel
theorem dpick_22 : decode cX12_pick 22 = .ok (.aload_n 0, 1) := by decide +kernel
theorem dpick_23 : decode cX12_pick 23 = .ok (.getfield 665, 3) := by decide +kernel
theorem dpick_26 : decode cX12_pick 26 = .ok (.istore_n 1, 1) := by decide +kernel
theorem dpick_27 : decode cX12_pick 27 = .ok (.aload_n 0, 1) := by decide +kernel
theorem dpick_28 : decode cX12_pick 28 = .ok (.getfield 110, 3) := by decide +kernel
theorem dpick_31 : decode cX12_pick 31 = .ok (.iload_n 1, 1) := by decide +kernel
theorem dpick_32 : decode cX12_pick 32 = .ok (.aload_n 0, 1) := by decide +kernel
theorem dpick_33 : decode cX12_pick 33 = .ok (.getfield 574, 3) := by decide +kernel
theorem dpick_36 : decode cX12_pick 36 = .ok (.iastore, 1) := by decide +kernel
theorem dpick_37 : decode cX12_pick 37 = .ok (.aload_n 0, 1) := by decide +kernel
theorem dpick_38 : decode cX12_pick 38 = .ok (.getfield 113, 3) := by decide +kernel
theorem dpick_41 : decode cX12_pick 41 = .ok (.iload_n 1, 1) := by decide +kernel
theorem dpick_42 : decode cX12_pick 42 = .ok (.aload_n 0, 1) := by decide +kernel
theorem dpick_43 : decode cX12_pick 43 = .ok (.getfield 760, 3) := by decide +kernel
theorem dpick_46 : decode cX12_pick 46 = .ok (.iastore, 1) := by decide +kernel
theorem dpick_47 : decode cX12_pick 47 = .ok (.aload_n 0, 1) := by decide +kernel
theorem dpick_48 : decode cX12_pick 48 = .ok (.invokevirtual 739, 3) := by decide +kernel
theorem dpick_51 : decode cX12_pick 51 = .ok (.ifCond .ne 5, 3) := by decide +kernel
theorem dpick_54 : decode cX12_pick 54 = .ok (.iconst 0, 1) := by decide +kernel
theorem dpick_55 : decode cX12_pick 55 = .ok (.ireturn, 1) := by decide +kernel
theorem dpick_56 : decode cX12_pick 56 = .ok (.iconst 0, 1) := by decide +kernel
theorem dpick_57 : decode cX12_pick 57 = .ok (.istore_n 2, 1) := by decide +kernel
theorem dpick_58 : decode cX12_pick 58 = .ok (.iload_n 2, 1) := by decide +kernel
theorem dpick_59 : decode cX12_pick 59 = .ok (.aload_n 0, 1) := by decide +kernel
theorem dpick_60 : decode cX12_pick 60 = .ok (.getfield 665, 3) := by decide +kernel
theorem dpick_63 : decode cX12_pick 63 = .ok (.if_icmp .ge 56, 3) := by decide +kernel
theorem dpick_66 : decode cX12_pick 66 = .ok (.aload_n 0, 1) := by decide +kernel
theorem dpick_67 : decode cX12_pick 67 = .ok (.getfield 113, 3) := by decide +kernel
theorem dpick_70 : decode cX12_pick 70 = .ok (.iload_n 2, 1) := by decide +kernel
theorem dpick_71 : decode cX12_pick 71 = .ok (.iaload, 1) := by decide +kernel
theorem dpick_72 : decode cX12_pick 72 = .ok (.aload_n 0, 1) := by decide +kernel
theorem dpick_73 : decode cX12_pick 73 = .ok (.getfield 760, 3) := by decide +kernel
theorem dpick_76 : decode cX12_pick 76 = .ok (.if_icmp .ne 37, 3) := by decide +kernel
theorem dpick_79 : decode cX12_pick 79 = .ok (.aload_n 0, 1) := by decide +kernel
theorem dpick_80 : decode cX12_pick 80 = .ok (.aload_n 0, 1) := by decide +kernel
theorem dpick_81 : decode cX12_pick 81 = .ok (.getfield 110, 3) := by decide +kernel
theorem dpick_84 : decode cX12_pick 84 = .ok (.iload_n 2, 1) := by decide +kernel
theorem dpick_85 : decode cX12_pick 85 = .ok (.iaload, 1) := by decide +kernel
theorem dpick_86 : decode cX12_pick 86 = .ok (.invokevirtual 716, 3) := by decide +kernel
theorem dpick_89 : decode cX12_pick 89 = .ok (.aload_n 0, 1) := by decide +kernel
theorem dpick_90 : decode cX12_pick 90 = .ok (.aload_n 0, 1) := by decide +kernel
theorem dpick_91 : decode cX12_pick 91 = .ok (.getfield 110, 3) := by decide +kernel
theorem dpick_94 : decode cX12_pick 94 = .ok (.iload_n 1, 1) := by decide +kernel
theorem dpick_95 : decode cX12_pick 95 = .ok (.iaload, 1) := by decide +kernel
theorem dpick_96 : decode cX12_pick 96 = .ok (.invokevirtual 716, 3) := by decide +kernel
theorem dpick_99 : decode cX12_pick 99 = .ok (.if_icmp .ne 14, 3) := by decide +kernel
theorem dpick_102 : decode cX12_pick 102 = .ok (.aload_n 0, 1) := by decide +kernel
theorem dpick_103 : decode cX12_pick 103 = .ok (.iconst 4, 1) := by decide +kernel
theorem dpick_104 : decode cX12_pick 104 = .ok (.aload_n 0, 1) := by decide +kernel
theorem dpick_105 : decode cX12_pick 105 = .ok (.getfield 110, 3) := by decide +kernel
theorem dpick_108 : decode cX12_pick 108 = .ok (.iload_n 1, 1) := by decide +kernel
theorem dpick_109 : decode cX12_pick 109 = .ok (.iaload, 1) := by decide +kernel
theorem dpick_110 : decode cX12_pick 110 = .ok (.invokevirtual 719, 3) := by decide +kernel
theorem dpick_113 : decode cX12_pick 113 = .ok (.iinc 2 1, 3) := by decide +kernel
theorem dpick_116 : decode cX12_pick 116 = .ok (.goto (-58), 3) := by decide +kernel
theorem dpick_119 : decode cX12_pick 119 = .ok (.aload_n 0, 1) := by decide +kernel
theorem dpick_120 : decode cX12_pick 120 = .ok (.dup, 1) := by decide +kernel
theorem dpick_121 : decode cX12_pick 121 = .ok (.getfield 665, 3) := by decide +kernel
theorem dpick_124 : decode cX12_pick 124 = .ok (.iconst 1, 1) := by decide +kernel
theorem dpick_125 : decode cX12_pick 125 = .ok (.iadd, 1) := by decide +kernel
theorem dpick_126 : decode cX12_pick 126 = .ok (.putfield 665, 3) := by decide +kernel
theorem dpick_129 : decode cX12_pick 129 = .ok (.aload_n 0, 1) := by decide +kernel
theorem dpick_130 : decode cX12_pick 130 = .ok (.iconst 1, 1) := by decide +kernel
theorem dpick_131 : decode cX12_pick 131 = .ok (.putfield 695, 3) := by decide +kernel
theorem dpick_134 : decode cX12_pick 134 = .ok (.aload_n 0, 1) := by decide +kernel
theorem dpick_135 : decode cX12_pick 135 = .ok (.invokevirtual 754, 3) := by decide +kernel
theorem dpick_138 : decode cX12_pick 138 = .ok (.ifCond .eq 19, 3) := by decide +kernel
theorem dpick_141 : decode cX12_pick 141 = .ok (.aload_n 0, 1) := by decide +kernel
theorem dpick_142 : decode cX12_pick 142 = .ok (.bipush 61, 2) := by decide +kernel
theorem dpick_144 : decode cX12_pick 144 = .ok (.invokevirtual 742, 3) := by decide +kernel
theorem dpick_147 : decode cX12_pick 147 = .ok (.ifCond .eq 10, 3) := by decide +kernel
theorem dpick_150 : decode cX12_pick 150 = .ok (.aload_n 0, 1) := by decide +kernel
theorem dpick_151 : decode cX12_pick 151 = .ok (.invokevirtual 787, 3) := by decide +kernel
theorem dpick_154 : decode cX12_pick 154 = .ok (.ifCond .ne 5, 3) := by decide +kernel
theorem dpick_157 : decode cX12_pick 157 = .ok (.iconst 0, 1) := by decide +kernel
theorem dpick_158 : decode cX12_pick 158 = .ok (.ireturn, 1) := by decide +kernel
theorem dpick_159 : decode cX12_pick 159 = .ok (.aload_n 0, 1) := by decide +kernel
theorem dpick_160 : decode cX12_pick 160 = .ok (.iconst 0, 1) := by decide +kernel
theorem dpick_161 : decode cX12_pick 161 = .ok (.putfield 695, 3) := by decide +kernel
theorem dpick_164 : decode cX12_pick 164 = .ok (.aload_n 0, 1) := by decide +kernel
theorem dpick_165 : decode cX12_pick 165 = .ok (.getfield 116, 3) := by decide +kernel
theorem dpick_168 : decode cX12_pick 168 = .ok (.iload_n 1, 1) := by decide +kernel
theorem dpick_169 : decode cX12_pick 169 = .ok (.aload_n 0, 1) := by decide +kernel
theorem dpick_170 : decode cX12_pick 170 = .ok (.getfield 704, 3) := by decide +kernel
theorem dpick_173 : decode cX12_pick 173 = .ok (.iastore, 1) := by decide +kernel
theorem dpick_174 : decode cX12_pick 174 = .ok (.aload_n 0, 1) := by decide +kernel
theorem dpick_175 : decode cX12_pick 175 = .ok (.dup, 1) := by decide +kernel
theorem dpick_176 : decode cX12_pick 176 = .ok (.getfield 689, 3) := by decide +kernel
theorem dpick_179 : decode cX12_pick 179 = .ok (.iconst 1, 1) := by decide +kernel
theorem dpick_180 : decode cX12_pick 180 = .ok (.isub, 1) := by decide +kernel
theorem dpick_181 : decode cX12_pick 181 = .ok (.putfield 689, 3) := by decide +kernel
theorem dpick_184 : decode cX12_pick 184 = .ok (.aload_n 0, 1) := by decide +kernel
theorem dpick_185 : decode cX12_pick 185 = .ok (.getfield 119, 3) := by decide +kernel
theorem dpick_188 : decode cX12_pick 188 = .ok (.iload_n 1, 1) := by decide +kernel
theorem dpick_189 : decode cX12_pick 189 = .ok (.aload_n 0, 1) := by decide +kernel
theorem dpick_190 : decode cX12_pick 190 = .ok (.getfield 218, 3) := by decide +kernel
theorem dpick_193 : decode cX12_pick 193 = .ok (.aload_n 0, 1) := by decide +kernel
theorem dpick_194 : decode cX12_pick 194 = .ok (.getfield 689, 3) := by decide +kernel
theorem dpick_197 : decode cX12_pick 197 = .ok (.iaload, 1) := by decide +kernel
theorem dpick_198 : decode cX12_pick 198 = .ok (.iastore, 1) := by decide +kernel
theorem dpick_199 : decode cX12_pick 199 = .ok (.iconst 1, 1) := by decide +kernel
theorem dpick_200 : decode cX12_pick 200 = .ok (.aload_n 0, 1) := by decide +kernel
theorem dpick_201 : decode cX12_pick 201 = .ok (.getfield 704, 3) := by decide +kernel
theorem dpick_204 : decode cX12_pick 204 = .ok (.ishl, 1) := by decide +kernel
theorem dpick_205 : decode cX12_pick 205 = .ok (.iconst 1, 1) := by decide +kernel
theorem dpick_206 : decode cX12_pick 206 = .ok (.isub, 1) := by decide +kernel
theorem dpick_207 : decode cX12_pick 207 = .ok (.istore_n 2, 1) := by decide +kernel
theorem dpick_208 : decode cX12_pick 208 = .ok (.aload_n 0, 1) := by decide +kernel
theorem dpick_209 : decode cX12_pick 209 = .ok (.getfield 206, 3) := by decide +kernel
theorem dpick_212 : decode cX12_pick 212 = .ok (.aload_n 0, 1) := by decide +kernel
theorem dpick_213 : decode cX12_pick 213 = .ok (.getfield 119, 3) := by decide +kernel
theorem dpick_216 : decode cX12_pick 216 = .ok (.iload_n 1, 1) := by decide +kernel
theorem dpick_217 : decode cX12_pick 217 = .ok (.iaload, 1) := by decide +kernel
theorem dpick_218 : decode cX12_pick 218 = .ok (.baload, 1) := by decide +kernel
theorem dpick_219 : decode cX12_pick 219 = .ok (.ifCond .ne 18, 3) := by decide +kernel
theorem dpick_222 : decode cX12_pick 222 = .ok (.aload_n 0, 1) := by decide +kernel
theorem dpick_223 : decode cX12_pick 223 = .ok (.getfield 203, 3) := by decide +kernel
theorem dpick_226 : decode cX12_pick 226 = .ok (.aload_n 0, 1) := by decide +kernel
theorem dpick_227 : decode cX12_pick 227 = .ok (.getfield 119, 3) := by decide +kernel
theorem dpick_230 : decode cX12_pick 230 = .ok (.iload_n 1, 1) := by decide +kernel
theorem dpick_231 : decode cX12_pick 231 = .ok (.iaload, 1) := by decide +kernel
theorem dpick_232 : decode cX12_pick 232 = .ok (.iaload, 1) := by decide +kernel
theorem dpick_233 : decode cX12_pick 233 = .ok (.iload_n 2, 1) := by decide +kernel
theorem dpick_234 : decode cX12_pick 234 = .ok (.if_icmp .eq 15, 3) := by decide +kernel
theorem dpick_237 : decode cX12_pick 237 = .ok (.aload_n 0, 1) := by decide +kernel
theorem dpick_238 : decode cX12_pick 238 = .ok (.bipush 6, 2) := by decide +kernel
theorem dpick_240 : decode cX12_pick 240 = .ok (.aload_n 0, 1) := by decide +kernel
theorem dpick_241 : decode cX12_pick 241 = .ok (.getfield 110, 3) := by decide +kernel
theorem dpick_244 : decode cX12_pick 244 = .ok (.iload_n 1, 1) := by decide +kernel
theorem dpick_245 : decode cX12_pick 245 = .ok (.iaload, 1) := by decide +kernel
theorem dpick_246 : decode cX12_pick 246 = .ok (.invokevirtual 719, 3) := by decide +kernel
theorem dpick_249 : decode cX12_pick 249 = .ok (.aload_n 0, 1) := by decide +kernel
theorem dpick_250 : decode cX12_pick 250 = .ok (.bipush 59, 2) := by decide +kernel
theorem dpick_252 : decode cX12_pick 252 = .ok (.invokevirtual 742, 3) := by decide +kernel
theorem dpick_255 : decode cX12_pick 255 = .ok (.ireturn, 1) := by decide +kernel
section
variable {l : Launch} {D : va_G} {cA : Nat → ClassId} {ad : Nat → Nat}
theorem s_pick {ht st rg : Nat → Int} {h : ja_H} {Q : Option ja_V → ja_H → Prop} (g : mo_G Zz h) (p1 : it h ht st rg) (k1 : ∀ (h' : ja_H), ((∃ ht st rg : Nat → Int, it h' ht st rg) ∧ (h 0 7) < (h' 0 7) ∧ mo_ag FKP h h') → mo_G Zz h' → Q (some (0, 1)) h') (k2 : ∀ (h' : ja_H), (0 < (h' 0 8) ∧ (h' 0 1) = (h 0 1) ∧ (h' 0 118) = (h 0 118) ∧ (h' 0 127) = (h 0 127)) → mo_G Zz h' → Q (some (0, 0)) h') : mM_pick l D cA ad  h Q := by
  show mJ l D cA ad 9 cX12_pick 3 (some .boolean) 0 [(0, (2, ((0 : Nat) : Int)))] [] h Q
  have kn_at := gF_at g
  have kn_picks := gF_picks g
  have CUT : ∀ n : Nat, (∀ (x2 : Int) (u : ja_H), mo_G Zz u → (-2147483648 ≤ x2 ∧ x2 ≤ 2147483647) → (mo_ag FPQ h u ∧ (h 0 7) < (u 0 7) ∧ ((u 0 11) = 0 → (h 0 11) = 0) ∧ 0 ≤ x2 ∧ ¬ ((h 0 52) = 24)) → ((30 - x2).toNat) = n → mJ l D cA ad 9 cX12_pick 3 (some .boolean) 58 [(0, (2, ((0 : Nat) : Int))), (1, (0, (h 0 52))), (2, (0, x2))] [] u Q) := by
    intro n
    induction n using Nat.strongRecOn with
    | _ n ih =>
      skip
      · intro x2 u gu qx2 iv hm
        subst hm
        have ku_at := gF_at gu
        have ku_picks := gF_picks gu
        obtain ⟨z1, z2, z3, z4, z5, z6, z7, z8, z9, z10, z11, z12, z13, z14⟩ := p1.2.2.1
        obtain ⟨ag, i2, i3, i4, i5⟩ := iv
        have e_size : (u 0 1) = (h 0 1) := ag 0 1 rfl
        have e_compiled : (u 0 118) = (h 0 118) := ag 0 118 rfl
        have e_started : (u 0 127) = (h 0 127) := ag 0 127 rfl
        have e_inPick : (u 0 85) = (h 0 85) := ag 0 85 rfl
        have e_quiet : (u 0 84) = (h 0 84) := ag 0 84 rfl
        have e_picks : (u 0 52) = (h 0 52) := ag 0 52 rfl
        have e_bars : (u 0 57) = (h 0 57) := ag 0 57 rfl
        have e_advices : (u 0 44) = (h 0 44) := ag 0 44 rfl
        refine ja_iload_n dpick_58 rfl rfl ?_
        refine ja_aload_n dpick_59 rfl rfl ?_
        refine fg_picks (v := u 0 52) rfl dpick_60 ?_
        have f1 := gF_picks gu
        refine ja_icmp_ge 119 dpick_63 rfl ⟨by omega, by omega⟩ ⟨by omega, by omega⟩ (fun c63 => ?_) (fun c63 => ?_)
        · refine ja_aload_n dpick_119 rfl rfl ?_
          refine ja_dup dpick_120 (by decide) ?_
          refine fg_picks (v := u 0 52) rfl dpick_121 ?_
          refine ja_iconst dpick_124 ?_
          refine ja_iadd dpick_125 ?_
          have g2 := gP_picks gu (x := (u 0 52) + 1) ⟨by omega, by omega⟩
          refine fp_picks dpick_126 ?_
          refine ja_aload_n dpick_129 rfl rfl ?_
          refine ja_iconst dpick_130 ?_
          have g3 := gP_inPick g2 (x := 1) ⟨by decide, by decide⟩
          refine fp_inPick dpick_131 ?_
          refine ja_aload_n dpick_134 rfl rfl ?_
          refine t_paramRow (by decide) (show (0 : Nat) ≤ 8 by decide) dpick_135 g3  ?_ ?_
          · intro h4 k135_0 g5
            replace k135_0 : mo_ag FPR (ja_up (ja_up u 0 52 ((u 0 52) + 1)) 0 85 1) h4 ∧ (u 0 7) < (h4 0 7) ∧ ((h4 0 11) = 0 → (u 0 11) = 0) ∧ (h4 0 82) ≤ 6 := k135_0
            have r_size : (h4 0 1) = (u 0 1) := k135_0.1 0 1 rfl
            have r_compiled : (h4 0 118) = (u 0 118) := k135_0.1 0 118 rfl
            have r_started : (h4 0 127) = (u 0 127) := k135_0.1 0 127 rfl
            have r_inPick : (h4 0 85) = 1 := k135_0.1 0 85 rfl
            have r_quiet : (h4 0 84) = (u 0 84) := k135_0.1 0 84 rfl
            have r_picks : (h4 0 52) = ((u 0 52) + 1) := k135_0.1 0 52 rfl
            have r_bars : (h4 0 57) = (u 0 57) := k135_0.1 0 57 rfl
            have r_advices : (h4 0 44) = (u 0 44) := k135_0.1 0 44 rfl
            refine ja_if_eq 157 dpick_138 rfl ⟨by decide, by decide⟩ (fun c138 => absurd c138 (by omega)) (fun c138 => ?_)
            refine ja_aload_n dpick_141 rfl rfl ?_
            refine ja_bipush 61 dpick_142 rfl ?_
            refine t_sign (by decide) (show (0 : Nat) ≤ 8 by decide) dpick_144 g5 ⟨by decide, by decide⟩ ?_ ?_
            · intro k144_0 g6
              replace k144_0 : (h4 0 7) < 900 ∧ (h4 2 (h4 0 7).toNat) = 5 ∧ (h4 5 (h4 0 7).toNat) = 61 := k144_0
              replace g6 : mo_G Zz (ja_up h4 0 7 ((h4 0 7) + 1)) := g6
              show mJ l D cA ad 9 cX12_pick 3 (some .boolean) 147 [(0, (2, ((0 : Nat) : Int))), (1, (0, (h 0 52))), (2, (0, x2))] [(0, 1)] (ja_up h4 0 7 ((h4 0 7) + 1)) Q
              refine ja_if_eq 157 dpick_147 rfl ⟨by decide, by decide⟩ (fun c147 => absurd c147 (by omega)) (fun c147 => ?_)
              refine ja_aload_n dpick_150 rfl rfl ?_
              refine t_pickTree (by decide) (show (0 : Nat) ≤ 8 by decide) dpick_151 g6 ((tr_begin g6 p1 (ag_sub FTU_FTR (ag_trans (ag_sub (X_X (by decide) (by decide)) ag) (ag_trans (by (repeat (first | exact ag_refl | refine ag_up rfl ?_))) (ag_trans (ag_sub (X_X (by decide) (by decide)) k135_0.1) (by (repeat (first | exact ag_refl | refine ag_up rfl ?_))))))) (show (h 0 7) < ((h4 0 7) + 1) by omega) (fun z => by have z2 : (h4 0 11) = 0 := z; omega) (show ((h4 0 84) : Int) = 0 by omega) (by decide)).1) ((tr_begin g6 p1 (ag_sub FTU_FTR (ag_trans (ag_sub (X_X (by decide) (by decide)) ag) (ag_trans (by (repeat (first | exact ag_refl | refine ag_up rfl ?_))) (ag_trans (ag_sub (X_X (by decide) (by decide)) k135_0.1) (by (repeat (first | exact ag_refl | refine ag_up rfl ?_))))))) (show (h 0 7) < ((h4 0 7) + 1) by omega) (fun z => by have z2 : (h4 0 11) = 0 := z; omega) (show ((h4 0 84) : Int) = 0 by omega) (by decide)).2) ?_ ?_
              · intro h7 k151_0 g8
                obtain ⟨⟨ht3, st3, rg3, tu3, hp3⟩, agB, hatB⟩ := k151_0
                have nm := it_num hp3
                dsimp only at nm
                have hatR : ((h4 0 7) + 1) ≤ (h7 0 7) := hatB
                have b_size : (h7 0 1) = (h4 0 1) := agB 0 1 rfl
                have b_compiled : (h7 0 118) = (h4 0 118) := agB 0 118 rfl
                have b_started : (h7 0 127) = (h4 0 127) := agB 0 127 rfl
                have b_params : (h7 0 82) = (h4 0 82) := agB 0 82 rfl
                have b_inPick : (h7 0 85) = (h4 0 85) := agB 0 85 rfl
                have b_advices : (h7 0 44) = (h4 0 44) := agB 0 44 rfl
                refine ja_if_ne 159 dpick_154 rfl ⟨by decide, by decide⟩ (fun c154 => ?_) (fun c154 => absurd c154 (by omega))
                refine ja_aload_n dpick_159 rfl rfl ?_
                refine ja_iconst dpick_160 ?_
                have g9 := gP_inPick g8 (x := 0) ⟨by decide, by decide⟩
                refine fp_inPick dpick_161 ?_
                refine ja_aload_n dpick_164 rfl rfl ?_
                refine fa_pickParams dpick_165 ?_
                refine ja_iload_n dpick_168 rfl rfl ?_
                refine ja_aload_n dpick_169 rfl rfl ?_
                refine fg_params (v := h7 0 82) rfl dpick_170 ?_
                have f10 := gF_params g8
                have g11 := gW_pickParams g9 (h 0 52).toNat (x := h7 0 82) ⟨by omega, by omega⟩
                refine is_pickParams ⟨by omega, by omega⟩ dpick_173 ?_
                refine ja_aload_n dpick_174 rfl rfl ?_
                refine ja_dup dpick_175 (by decide) ?_
                refine fg_treeTop (v := h7 0 109) rfl dpick_176 ?_
                have f12 := gF_treeTop g8
                refine ja_iconst dpick_179 ?_
                refine ja_isub dpick_180 ?_
                have g13 := gP_treeTop g11 (x := (h7 0 109) - 1) ⟨by omega, by omega⟩
                refine fp_treeTop dpick_181 ?_
                refine ja_aload_n dpick_184 rfl rfl ?_
                refine fa_pickRoot dpick_185 ?_
                refine ja_iload_n dpick_188 rfl rfl ?_
                refine ja_aload_n dpick_189 rfl rfl ?_
                refine fa_treePile dpick_190 ?_
                refine ja_aload_n dpick_193 rfl rfl ?_
                refine fg_treeTop (v := (h7 0 109) - 1) rfl dpick_194 ?_
                refine il_treePile (v := h7 70 ((h7 0 109) - 1).toNat) rfl ⟨by omega, by omega⟩ dpick_197 ?_
                have f14 := gC_treePile g8 ((h7 0 109) - 1).toNat
                have g15 := gW_pickRoot g13 (h 0 52).toNat (x := h7 70 ((h7 0 109) - 1).toNat) ⟨by omega, by omega⟩
                refine is_pickRoot ⟨by omega, by omega⟩ dpick_198 ?_
                refine ja_iconst dpick_199 ?_
                refine ja_aload_n dpick_200 rfl rfl ?_
                refine fg_params (v := h7 0 82) rfl dpick_201 ?_
                refine mo_hishl dpick_204 (fun v16 rv16 => ?_)
                refine ja_iconst dpick_205 ?_
                refine mo_hisub dpick_206 (fun v17 rv17 => ?_)
                refine ja_istore_n dpick_207 rfl (by decide) (L2 := [(2, (0, v17)), (0, (2, ((0 : Nat) : Int))), (1, (0, (h 0 52)))]) rfl ?_
                refine ja_aload_n dpick_208 rfl rfl ?_
                refine fa_nodeTwice dpick_209 ?_
                refine ja_aload_n dpick_212 rfl rfl ?_
                refine fa_pickRoot dpick_213 ?_
                refine ja_iload_n dpick_216 rfl rfl ?_
                refine il_pickRoot (v := h7 70 ((h7 0 109) - 1).toNat) (by simp [ja_up]) ⟨by omega, by omega⟩ dpick_217 ?_
                refine il_nodeTwice (v := h7 66 (h7 70 ((h7 0 109) - 1).toNat).toNat) rfl ⟨by omega, by omega⟩ dpick_218 ?_
                have f18 := gC_nodeTwice g8 (h7 70 ((h7 0 109) - 1).toNat).toNat
                refine ja_if_ne 237 dpick_219 rfl ⟨by omega, by omega⟩ (fun c219 => ?_) (fun c219 => ?_)
                · refine ja_aload_n dpick_237 rfl rfl ?_
                  refine ja_bipush 6 dpick_238 rfl ?_
                  refine ja_aload_n dpick_240 rfl rfl ?_
                  refine fa_pickName dpick_241 ?_
                  refine ja_iload_n dpick_244 rfl rfl ?_
                  refine il_pickName (v := h7 34 (h 0 52).toNat) rfl ⟨by omega, by omega⟩ dpick_245 ?_
                  have f19 := gC_pickName g8 (h 0 52).toNat
                  refine t_judge (by decide) (show (0 : Nat) ≤ 8 by decide) dpick_246 g15 ⟨by decide, by decide⟩ ⟨by omega, by omega⟩ (show 1 ≤ 6 ∧ 6 ≤ 8 by omega) (show 0 ≤ (h7 34 (h 0 52).toNat) ∧ (h7 34 (h 0 52).toNat) ≤ 900 by omega) ?_
                  intro w20 w21 k246_0 g22
                  replace k246_0 : 1 ≤ w20 ∧ w20 ≤ 8 ∧ -2147483648 ≤ w21 ∧ w21 ≤ 2147483647 := k246_0
                  replace g22 : mo_G Zz (ja_up (ja_up (ja_up (ja_up (ja_up (ja_up h7 0 85 0) 36 ((h 0 52).toNat) (h7 0 82)) 0 109 ((h7 0 109) - 1)) 37 ((h 0 52).toNat) (h7 70 ((h7 0 109) - 1).toNat)) 0 11 w20) 0 12 w21) := g22
                  show mJ l D cA ad 9 cX12_pick 3 (some .boolean) 249 [(2, (0, v17)), (0, (2, ((0 : Nat) : Int))), (1, (0, (h 0 52)))] [] (ja_up (ja_up (ja_up (ja_up (ja_up (ja_up h7 0 85 0) 36 ((h 0 52).toNat) (h7 0 82)) 0 109 ((h7 0 109) - 1)) 37 ((h 0 52).toNat) (h7 70 ((h7 0 109) - 1).toNat)) 0 11 w20) 0 12 w21) Q
                  refine ja_aload_n dpick_249 rfl rfl ?_
                  refine ja_bipush 59 dpick_250 rfl ?_
                  refine t_sign (by decide) (show (0 : Nat) ≤ 8 by decide) dpick_252 g22 ⟨by decide, by decide⟩ ?_ ?_
                  · intro k252_0 g23
                    replace k252_0 : (h7 0 7) < 900 ∧ (h7 2 (h7 0 7).toNat) = 5 ∧ (h7 5 (h7 0 7).toNat) = 59 := k252_0
                    replace g23 : mo_G Zz (ja_up (ja_up (ja_up (ja_up (ja_up (ja_up (ja_up h7 0 85 0) 36 ((h 0 52).toNat) (h7 0 82)) 0 109 ((h7 0 109) - 1)) 37 ((h 0 52).toNat) (h7 70 ((h7 0 109) - 1).toNat)) 0 11 w20) 0 12 w21) 0 7 ((h7 0 7) + 1)) := g23
                    show mJ l D cA ad 9 cX12_pick 3 (some .boolean) 255 [(2, (0, v17)), (0, (2, ((0 : Nat) : Int))), (1, (0, (h 0 52)))] [(0, 1)] (ja_up (ja_up (ja_up (ja_up (ja_up (ja_up (ja_up h7 0 85 0) 36 ((h 0 52).toNat) (h7 0 82)) 0 109 ((h7 0 109) - 1)) 37 ((h 0 52).toNat) (h7 70 ((h7 0 109) - 1).toNat)) 0 11 w20) 0 12 w21) 0 7 ((h7 0 7) + 1)) Q
                    refine ja_zreturn dpick_255 rfl (by omega) ?_
                    exact mo_fin (by omega) rfl (k1 (ja_up (ja_up (ja_up (ja_up (ja_up (ja_up (ja_up h7 0 85 0) 36 ((h 0 52).toNat) (h7 0 82)) 0 109 ((h7 0 109) - 1)) 37 ((h 0 52).toNat) (h7 70 ((h7 0 109) - 1).toNat)) 0 11 w20) 0 12 w21) 0 7 ((h7 0 7) + 1)) (⟨⟨_, _, _, pick_end g g8 p1 (show (h 0 7) < ((h4 0 7) + 1) by omega) (show mo_ag FTU h (ja_up h4 0 7 ((h4 0 7) + 1)) from (ag_trans (ag_sub (X_X (by decide) (by decide)) ag) (ag_trans (by (repeat (first | exact ag_refl | refine ag_up rfl ?_))) (ag_trans (ag_sub (X_X (by decide) (by decide)) k135_0.1) (by (repeat (first | exact ag_refl | refine ag_up rfl ?_))))))) (show ((h4 0 52) : Int) = (h 0 52) + 1 by omega) (show ((h4 0 85) : Int) = 1 by omega) (show ((h4 0 57) : Int) = (h 0 57) by omega) (show ((h4 0 44) : Int) = (h 0 44) by omega) (funext fun j => (k135_0.1 _ _ rfl).trans (ag _ _ rfl)) hp3 agB hatB (by (repeat (first | exact ag_refl | refine ag_up rfl ?_))) (show (h7 0 7) ≤ ((h7 0 7) + 1) by omega) (fun z => by have z2 : w20 = 0 := z; omega) (show (0 : Int) = 0 by omega) (show (((h7 0 109) - 1) : Int) = 0 by omega) (show ((h7 0 84) : Int) = 0 by omega) (by simp [ja_up]) (fun j hj => by simp [ja_up, hj]) rfl rfl rfl⟩, (show (h 0 7) < ((h7 0 7) + 1) by omega), ag_trans (kp_X (show mo_ag FTU h (ja_up h4 0 7 ((h4 0 7) + 1)) from (ag_trans (ag_sub (X_X (by decide) (by decide)) ag) (ag_trans (by (repeat (first | exact ag_refl | refine ag_up rfl ?_))) (ag_trans (ag_sub (X_X (by decide) (by decide)) k135_0.1) (by (repeat (first | exact ag_refl | refine ag_up rfl ?_))))))) (by decide)) (ag_trans (kp_FK agB) (by (repeat (first | exact ag_refl | refine ag_up rfl ?_))))⟩) g23)
                  · intro h24 k252_1 g25
                    replace k252_1 : 0 < (h24 0 8) ∧ (h24 0 1) = (h7 0 1) ∧ (h24 0 118) = (h7 0 118) ∧ (h24 0 127) = (h7 0 127) := k252_1
                    refine ja_zreturn dpick_255 rfl (by omega) ?_
                    exact mo_fin (by omega) rfl (k2 h24 (by omega) g25)
                · refine ja_aload_n dpick_222 rfl rfl ?_
                  refine fa_nodeBinds dpick_223 ?_
                  refine ja_aload_n dpick_226 rfl rfl ?_
                  refine fa_pickRoot dpick_227 ?_
                  refine ja_iload_n dpick_230 rfl rfl ?_
                  refine il_pickRoot (v := h7 70 ((h7 0 109) - 1).toNat) (by simp [ja_up]) ⟨by omega, by omega⟩ dpick_231 ?_
                  refine il_nodeBinds (v := h7 65 (h7 70 ((h7 0 109) - 1).toNat).toNat) rfl ⟨by omega, by omega⟩ dpick_232 ?_
                  have f26 := gC_nodeBinds g8 (h7 70 ((h7 0 109) - 1).toNat).toNat
                  refine ja_iload_n dpick_233 rfl rfl ?_
                  refine ja_icmp_eq 249 dpick_234 rfl ⟨by omega, by omega⟩ ⟨by omega, by omega⟩ (fun c234 => ?_) (fun c234 => ?_)
                  · refine ja_aload_n dpick_249 rfl rfl ?_
                    refine ja_bipush 59 dpick_250 rfl ?_
                    refine t_sign (by decide) (show (0 : Nat) ≤ 8 by decide) dpick_252 g15 ⟨by decide, by decide⟩ ?_ ?_
                    · intro k252_0 g27
                      replace k252_0 : (h7 0 7) < 900 ∧ (h7 2 (h7 0 7).toNat) = 5 ∧ (h7 5 (h7 0 7).toNat) = 59 := k252_0
                      replace g27 : mo_G Zz (ja_up (ja_up (ja_up (ja_up (ja_up h7 0 85 0) 36 ((h 0 52).toNat) (h7 0 82)) 0 109 ((h7 0 109) - 1)) 37 ((h 0 52).toNat) (h7 70 ((h7 0 109) - 1).toNat)) 0 7 ((h7 0 7) + 1)) := g27
                      show mJ l D cA ad 9 cX12_pick 3 (some .boolean) 255 [(2, (0, v17)), (0, (2, ((0 : Nat) : Int))), (1, (0, (h 0 52)))] [(0, 1)] (ja_up (ja_up (ja_up (ja_up (ja_up h7 0 85 0) 36 ((h 0 52).toNat) (h7 0 82)) 0 109 ((h7 0 109) - 1)) 37 ((h 0 52).toNat) (h7 70 ((h7 0 109) - 1).toNat)) 0 7 ((h7 0 7) + 1)) Q
                      refine ja_zreturn dpick_255 rfl (by omega) ?_
                      exact mo_fin (by omega) rfl (k1 (ja_up (ja_up (ja_up (ja_up (ja_up h7 0 85 0) 36 ((h 0 52).toNat) (h7 0 82)) 0 109 ((h7 0 109) - 1)) 37 ((h 0 52).toNat) (h7 70 ((h7 0 109) - 1).toNat)) 0 7 ((h7 0 7) + 1)) (⟨⟨_, _, _, pick_end g g8 p1 (show (h 0 7) < ((h4 0 7) + 1) by omega) (show mo_ag FTU h (ja_up h4 0 7 ((h4 0 7) + 1)) from (ag_trans (ag_sub (X_X (by decide) (by decide)) ag) (ag_trans (by (repeat (first | exact ag_refl | refine ag_up rfl ?_))) (ag_trans (ag_sub (X_X (by decide) (by decide)) k135_0.1) (by (repeat (first | exact ag_refl | refine ag_up rfl ?_))))))) (show ((h4 0 52) : Int) = (h 0 52) + 1 by omega) (show ((h4 0 85) : Int) = 1 by omega) (show ((h4 0 57) : Int) = (h 0 57) by omega) (show ((h4 0 44) : Int) = (h 0 44) by omega) (funext fun j => (k135_0.1 _ _ rfl).trans (ag _ _ rfl)) hp3 agB hatB (by (repeat (first | exact ag_refl | refine ag_up rfl ?_))) (show (h7 0 7) ≤ ((h7 0 7) + 1) by omega) (fun z => by have z2 : (h7 0 11) = 0 := z; omega) (show (0 : Int) = 0 by omega) (show (((h7 0 109) - 1) : Int) = 0 by omega) (show ((h7 0 84) : Int) = 0 by omega) (by simp [ja_up]) (fun j hj => by simp [ja_up, hj]) rfl rfl rfl⟩, (show (h 0 7) < ((h7 0 7) + 1) by omega), ag_trans (kp_X (show mo_ag FTU h (ja_up h4 0 7 ((h4 0 7) + 1)) from (ag_trans (ag_sub (X_X (by decide) (by decide)) ag) (ag_trans (by (repeat (first | exact ag_refl | refine ag_up rfl ?_))) (ag_trans (ag_sub (X_X (by decide) (by decide)) k135_0.1) (by (repeat (first | exact ag_refl | refine ag_up rfl ?_))))))) (by decide)) (ag_trans (kp_FK agB) (by (repeat (first | exact ag_refl | refine ag_up rfl ?_))))⟩) g27)
                    · intro h28 k252_1 g29
                      replace k252_1 : 0 < (h28 0 8) ∧ (h28 0 1) = (h7 0 1) ∧ (h28 0 118) = (h7 0 118) ∧ (h28 0 127) = (h7 0 127) := k252_1
                      refine ja_zreturn dpick_255 rfl (by omega) ?_
                      exact mo_fin (by omega) rfl (k2 h28 (by omega) g29)
                  · refine ja_aload_n dpick_237 rfl rfl ?_
                    refine ja_bipush 6 dpick_238 rfl ?_
                    refine ja_aload_n dpick_240 rfl rfl ?_
                    refine fa_pickName dpick_241 ?_
                    refine ja_iload_n dpick_244 rfl rfl ?_
                    refine il_pickName (v := h7 34 (h 0 52).toNat) rfl ⟨by omega, by omega⟩ dpick_245 ?_
                    have f30 := gC_pickName g8 (h 0 52).toNat
                    refine t_judge (by decide) (show (0 : Nat) ≤ 8 by decide) dpick_246 g15 ⟨by decide, by decide⟩ ⟨by omega, by omega⟩ (show 1 ≤ 6 ∧ 6 ≤ 8 by omega) (show 0 ≤ (h7 34 (h 0 52).toNat) ∧ (h7 34 (h 0 52).toNat) ≤ 900 by omega) ?_
                    intro w31 w32 k246_0 g33
                    replace k246_0 : 1 ≤ w31 ∧ w31 ≤ 8 ∧ -2147483648 ≤ w32 ∧ w32 ≤ 2147483647 := k246_0
                    replace g33 : mo_G Zz (ja_up (ja_up (ja_up (ja_up (ja_up (ja_up h7 0 85 0) 36 ((h 0 52).toNat) (h7 0 82)) 0 109 ((h7 0 109) - 1)) 37 ((h 0 52).toNat) (h7 70 ((h7 0 109) - 1).toNat)) 0 11 w31) 0 12 w32) := g33
                    show mJ l D cA ad 9 cX12_pick 3 (some .boolean) 249 [(2, (0, v17)), (0, (2, ((0 : Nat) : Int))), (1, (0, (h 0 52)))] [] (ja_up (ja_up (ja_up (ja_up (ja_up (ja_up h7 0 85 0) 36 ((h 0 52).toNat) (h7 0 82)) 0 109 ((h7 0 109) - 1)) 37 ((h 0 52).toNat) (h7 70 ((h7 0 109) - 1).toNat)) 0 11 w31) 0 12 w32) Q
                    refine ja_aload_n dpick_249 rfl rfl ?_
                    refine ja_bipush 59 dpick_250 rfl ?_
                    refine t_sign (by decide) (show (0 : Nat) ≤ 8 by decide) dpick_252 g33 ⟨by decide, by decide⟩ ?_ ?_
                    · intro k252_0 g34
                      replace k252_0 : (h7 0 7) < 900 ∧ (h7 2 (h7 0 7).toNat) = 5 ∧ (h7 5 (h7 0 7).toNat) = 59 := k252_0
                      replace g34 : mo_G Zz (ja_up (ja_up (ja_up (ja_up (ja_up (ja_up (ja_up h7 0 85 0) 36 ((h 0 52).toNat) (h7 0 82)) 0 109 ((h7 0 109) - 1)) 37 ((h 0 52).toNat) (h7 70 ((h7 0 109) - 1).toNat)) 0 11 w31) 0 12 w32) 0 7 ((h7 0 7) + 1)) := g34
                      show mJ l D cA ad 9 cX12_pick 3 (some .boolean) 255 [(2, (0, v17)), (0, (2, ((0 : Nat) : Int))), (1, (0, (h 0 52)))] [(0, 1)] (ja_up (ja_up (ja_up (ja_up (ja_up (ja_up (ja_up h7 0 85 0) 36 ((h 0 52).toNat) (h7 0 82)) 0 109 ((h7 0 109) - 1)) 37 ((h 0 52).toNat) (h7 70 ((h7 0 109) - 1).toNat)) 0 11 w31) 0 12 w32) 0 7 ((h7 0 7) + 1)) Q
                      refine ja_zreturn dpick_255 rfl (by omega) ?_
                      exact mo_fin (by omega) rfl (k1 (ja_up (ja_up (ja_up (ja_up (ja_up (ja_up (ja_up h7 0 85 0) 36 ((h 0 52).toNat) (h7 0 82)) 0 109 ((h7 0 109) - 1)) 37 ((h 0 52).toNat) (h7 70 ((h7 0 109) - 1).toNat)) 0 11 w31) 0 12 w32) 0 7 ((h7 0 7) + 1)) (⟨⟨_, _, _, pick_end g g8 p1 (show (h 0 7) < ((h4 0 7) + 1) by omega) (show mo_ag FTU h (ja_up h4 0 7 ((h4 0 7) + 1)) from (ag_trans (ag_sub (X_X (by decide) (by decide)) ag) (ag_trans (by (repeat (first | exact ag_refl | refine ag_up rfl ?_))) (ag_trans (ag_sub (X_X (by decide) (by decide)) k135_0.1) (by (repeat (first | exact ag_refl | refine ag_up rfl ?_))))))) (show ((h4 0 52) : Int) = (h 0 52) + 1 by omega) (show ((h4 0 85) : Int) = 1 by omega) (show ((h4 0 57) : Int) = (h 0 57) by omega) (show ((h4 0 44) : Int) = (h 0 44) by omega) (funext fun j => (k135_0.1 _ _ rfl).trans (ag _ _ rfl)) hp3 agB hatB (by (repeat (first | exact ag_refl | refine ag_up rfl ?_))) (show (h7 0 7) ≤ ((h7 0 7) + 1) by omega) (fun z => by have z2 : w31 = 0 := z; omega) (show (0 : Int) = 0 by omega) (show (((h7 0 109) - 1) : Int) = 0 by omega) (show ((h7 0 84) : Int) = 0 by omega) (by simp [ja_up]) (fun j hj => by simp [ja_up, hj]) rfl rfl rfl⟩, (show (h 0 7) < ((h7 0 7) + 1) by omega), ag_trans (kp_X (show mo_ag FTU h (ja_up h4 0 7 ((h4 0 7) + 1)) from (ag_trans (ag_sub (X_X (by decide) (by decide)) ag) (ag_trans (by (repeat (first | exact ag_refl | refine ag_up rfl ?_))) (ag_trans (ag_sub (X_X (by decide) (by decide)) k135_0.1) (by (repeat (first | exact ag_refl | refine ag_up rfl ?_))))))) (by decide)) (ag_trans (kp_FK agB) (by (repeat (first | exact ag_refl | refine ag_up rfl ?_))))⟩) g34)
                    · intro h35 k252_1 g36
                      replace k252_1 : 0 < (h35 0 8) ∧ (h35 0 1) = (h7 0 1) ∧ (h35 0 118) = (h7 0 118) ∧ (h35 0 127) = (h7 0 127) := k252_1
                      refine ja_zreturn dpick_255 rfl (by omega) ?_
                      exact mo_fin (by omega) rfl (k2 h35 (by omega) g36)
              · intro h37 k151_1 g38
                replace k151_1 : 0 < (h37 0 8) ∧ (h37 0 1) = (h4 0 1) ∧ (h37 0 118) = (h4 0 118) ∧ (h37 0 127) = (h4 0 127) := k151_1
                refine ja_if_ne 159 dpick_154 rfl ⟨by decide, by decide⟩ (fun c154 => absurd c154 (by omega)) (fun c154 => ?_)
                refine ja_iconst dpick_157 ?_
                refine ja_zreturn dpick_158 rfl (by omega) ?_
                exact mo_fin (by omega) rfl (k2 h37 (by omega) g38)
            · intro h39 k144_1 g40
              refine ja_if_eq 157 dpick_147 rfl ⟨by decide, by decide⟩ (fun c147 => ?_) (fun c147 => absurd c147 (by omega))
              refine ja_iconst dpick_157 ?_
              refine ja_zreturn dpick_158 rfl (by omega) ?_
              exact mo_fin (by omega) rfl (k2 h39 (by omega) g40)
          · intro h41 k135_1 g42
            replace k135_1 : 0 < (h41 0 8) ∧ (h41 0 1) = (u 0 1) ∧ (h41 0 118) = (u 0 118) ∧ (h41 0 127) = (u 0 127) := k135_1
            refine ja_if_eq 157 dpick_138 rfl ⟨by decide, by decide⟩ (fun c138 => ?_) (fun c138 => absurd c138 (by omega))
            refine ja_iconst dpick_157 ?_
            refine ja_zreturn dpick_158 rfl (by omega) ?_
            exact mo_fin (by omega) rfl (k2 h41 (by omega) g42)
        · refine ja_aload_n dpick_66 rfl rfl ?_
          refine fa_pickAspect dpick_67 ?_
          refine ja_iload_n dpick_70 rfl rfl ?_
          refine il_pickAspect (v := u 35 (x2).toNat) rfl ⟨by omega, by omega⟩ dpick_71 ?_
          have f43 := gC_pickAspect gu (x2).toNat
          refine ja_aload_n dpick_72 rfl rfl ?_
          refine fg_inAspect (v := u 0 76) rfl dpick_73 ?_
          have f44 := gF_inAspect gu
          refine ja_icmp_ne 113 dpick_76 rfl ⟨by omega, by omega⟩ ⟨by omega, by omega⟩ (fun c76 => ?_) (fun c76 => ?_)
          · refine ja_iinc dpick_113 rfl (by decide) (L2 := [(2, (0, (x2 + 1))), (0, (2, ((0 : Nat) : Int))), (1, (0, (h 0 52)))]) rfl ?_
            refine ja_goto 58 dpick_116 rfl ?_
            exact ja_wk (fun q hq => by simp only [List.mem_cons, List.not_mem_nil, or_false] at hq; rcases hq with rfl | rfl | rfl <;> rfl) ((ih ((30 - (x2 + 1)).toNat) (by omega)) (x2 + 1) u gu ⟨by omega, by omega⟩ (⟨ag_trans ag (by (repeat (first | exact ag_refl | refine ag_up rfl ?_))), (show (h 0 7) < (u 0 7) by omega), (fun z => by have z2 : (u 0 11) = 0 := z; omega), by omega, by omega⟩) rfl)
          · refine ja_aload_n dpick_79 rfl rfl ?_
            refine ja_aload_n dpick_80 rfl rfl ?_
            refine fa_pickName dpick_81 ?_
            refine ja_iload_n dpick_84 rfl rfl ?_
            refine il_pickName (v := u 34 (x2).toNat) rfl ⟨by omega, by omega⟩ dpick_85 ?_
            have f45 := gC_pickName gu (x2).toNat
            refine t_id (by decide) (show (0 : Nat) ≤ 8 by decide) dpick_86 gu ⟨by omega, by omega⟩ (show 0 ≤ (u 34 (x2).toNat) ∧ (u 34 (x2).toNat) ≤ 900 by omega) ?_
            intro k86_0
            refine ja_aload_n dpick_89 rfl rfl ?_
            refine ja_aload_n dpick_90 rfl rfl ?_
            refine fa_pickName dpick_91 ?_
            refine ja_iload_n dpick_94 rfl rfl ?_
            refine il_pickName (v := u 34 (h 0 52).toNat) rfl ⟨by omega, by omega⟩ dpick_95 ?_
            have f46 := gC_pickName gu (h 0 52).toNat
            refine t_id (by decide) (show (1 : Nat) ≤ 8 by decide) dpick_96 gu ⟨by omega, by omega⟩ (show 0 ≤ (u 34 (h 0 52).toNat) ∧ (u 34 (h 0 52).toNat) ≤ 900 by omega) ?_
            intro k96_0
            refine ja_icmp_ne 113 dpick_99 rfl ⟨by omega, by omega⟩ ⟨by omega, by omega⟩ (fun c99 => ?_) (fun c99 => ?_)
            · refine ja_iinc dpick_113 rfl (by decide) (L2 := [(2, (0, (x2 + 1))), (0, (2, ((0 : Nat) : Int))), (1, (0, (h 0 52)))]) rfl ?_
              refine ja_goto 58 dpick_116 rfl ?_
              exact ja_wk (fun q hq => by simp only [List.mem_cons, List.not_mem_nil, or_false] at hq; rcases hq with rfl | rfl | rfl <;> rfl) ((ih ((30 - (x2 + 1)).toNat) (by omega)) (x2 + 1) u gu ⟨by omega, by omega⟩ (⟨ag_trans ag (by (repeat (first | exact ag_refl | refine ag_up rfl ?_))), (show (h 0 7) < (u 0 7) by omega), (fun z => by have z2 : (u 0 11) = 0 := z; omega), by omega, by omega⟩) rfl)
            · refine ja_aload_n dpick_102 rfl rfl ?_
              refine ja_iconst dpick_103 ?_
              refine ja_aload_n dpick_104 rfl rfl ?_
              refine fa_pickName dpick_105 ?_
              refine ja_iload_n dpick_108 rfl rfl ?_
              refine il_pickName (v := u 34 (h 0 52).toNat) rfl ⟨by omega, by omega⟩ dpick_109 ?_
              refine t_judge (by decide) (show (0 : Nat) ≤ 8 by decide) dpick_110 gu ⟨by decide, by decide⟩ ⟨by omega, by omega⟩ (show 1 ≤ 4 ∧ 4 ≤ 8 by omega) (show 0 ≤ (u 34 (h 0 52).toNat) ∧ (u 34 (h 0 52).toNat) ≤ 900 by omega) ?_
              intro w47 w48 k110_0 g49
              replace k110_0 : 1 ≤ w47 ∧ w47 ≤ 8 ∧ -2147483648 ≤ w48 ∧ w48 ≤ 2147483647 := k110_0
              replace g49 : mo_G Zz (ja_up (ja_up u 0 11 w47) 0 12 w48) := g49
              show mJ l D cA ad 9 cX12_pick 3 (some .boolean) 113 [(0, (2, ((0 : Nat) : Int))), (1, (0, (h 0 52))), (2, (0, x2))] [] (ja_up (ja_up u 0 11 w47) 0 12 w48) Q
              refine ja_iinc dpick_113 rfl (by decide) (L2 := [(2, (0, (x2 + 1))), (0, (2, ((0 : Nat) : Int))), (1, (0, (h 0 52)))]) rfl ?_
              refine ja_goto 58 dpick_116 rfl ?_
              exact ja_wk (fun q hq => by simp only [List.mem_cons, List.not_mem_nil, or_false] at hq; rcases hq with rfl | rfl | rfl <;> rfl) ((ih ((30 - (x2 + 1)).toNat) (by omega)) (x2 + 1) (ja_up (ja_up u 0 11 w47) 0 12 w48) g49 ⟨by omega, by omega⟩ (⟨ag_trans ag (by (repeat (first | exact ag_refl | refine ag_up rfl ?_))), (show (h 0 7) < (u 0 7) by omega), (fun z => by have z2 : w47 = 0 := z; omega), by omega, by omega⟩) rfl)
  obtain ⟨z1, z2, z3, z4, z5, z6, z7, z8, z9, z10, z11, z12, z13, z14⟩ := p1.2.2.1
  refine ja_aload_n dpick_0 rfl rfl ?_
  refine t_isName (by decide) (show (0 : Nat) ≤ 8 by decide) dpick_1 g  ?_
  intro w50 k1_0
  refine ja_if_eq 22 dpick_4 rfl ⟨by omega, by omega⟩ (fun c4 => ?_) (fun c4 => ?_)
  · replace k1_0 := is0 k1_0 c4
    refine ja_aload_n dpick_22 rfl rfl ?_
    refine fg_picks (v := h 0 52) rfl dpick_23 ?_
    have f51 := gF_picks g
    refine ja_istore_n dpick_26 rfl (by decide) (L2 := [(1, (0, (h 0 52))), (0, (2, ((0 : Nat) : Int)))]) rfl ?_
    refine ja_aload_n dpick_27 rfl rfl ?_
    refine fa_pickName dpick_28 ?_
    refine ja_iload_n dpick_31 rfl rfl ?_
    refine ja_aload_n dpick_32 rfl rfl ?_
    refine fg_at (v := h 0 7) rfl dpick_33 ?_
    have f52 := gF_at g
    have g53 := gW_pickName g (h 0 52).toNat (x := h 0 7) ⟨by omega, by omega⟩
    refine is_pickName ⟨by omega, by omega⟩ dpick_36 ?_
    refine ja_aload_n dpick_37 rfl rfl ?_
    refine fa_pickAspect dpick_38 ?_
    refine ja_iload_n dpick_41 rfl rfl ?_
    refine ja_aload_n dpick_42 rfl rfl ?_
    refine fg_inAspect (v := h 0 76) rfl dpick_43 ?_
    have f54 := gF_inAspect g
    have g55 := gW_pickAspect g53 (h 0 52).toNat (x := h 0 76) ⟨by omega, by omega⟩
    refine is_pickAspect ⟨by omega, by omega⟩ dpick_46 ?_
    refine ja_aload_n dpick_47 rfl rfl ?_
    refine t_name (by decide) (show (0 : Nat) ≤ 8 by decide) dpick_48 g55  ?_ ?_
    · intro k48_0 g56
      replace k48_0 : (h 0 7) < 900 ∧ (h 2 (h 0 7).toNat) = 2 := k48_0
      replace g56 : mo_G Zz (ja_up (ja_up (ja_up h 34 ((h 0 52).toNat) (h 0 7)) 35 ((h 0 52).toNat) (h 0 76)) 0 7 ((h 0 7) + 1)) := g56
      show mJ l D cA ad 9 cX12_pick 3 (some .boolean) 51 [(1, (0, (h 0 52))), (0, (2, ((0 : Nat) : Int)))] [(0, 1)] (ja_up (ja_up (ja_up h 34 ((h 0 52).toNat) (h 0 7)) 35 ((h 0 52).toNat) (h 0 76)) 0 7 ((h 0 7) + 1)) Q
      refine ja_if_ne 56 dpick_51 rfl ⟨by decide, by decide⟩ (fun c51 => ?_) (fun c51 => absurd c51 (by omega))
      refine ja_iconst dpick_56 ?_
      refine ja_istore_n dpick_57 rfl (by decide) (L2 := [(2, (0, 0)), (1, (0, (h 0 52))), (0, (2, ((0 : Nat) : Int)))]) rfl ?_
      exact ja_wk (fun q hq => by simp only [List.mem_cons, List.not_mem_nil, or_false] at hq; rcases hq with rfl | rfl | rfl <;> rfl) ((CUT _) 0 (ja_up (ja_up (ja_up h 34 ((h 0 52).toNat) (h 0 7)) 35 ((h 0 52).toNat) (h 0 76)) 0 7 ((h 0 7) + 1)) g56 ⟨by decide, by decide⟩ (⟨(by (repeat (first | exact ag_refl | refine ag_up rfl ?_))), (show (h 0 7) < ((h 0 7) + 1) by omega), (fun z => by have z2 : (h 0 11) = 0 := z; omega), by omega, by omega⟩) rfl)
    · intro h57 k48_1 g58
      replace k48_1 : 0 < (h57 0 8) ∧ (h57 0 1) = (h 0 1) ∧ (h57 0 118) = (h 0 118) ∧ (h57 0 127) = (h 0 127) := k48_1
      refine ja_if_ne 56 dpick_51 rfl ⟨by decide, by decide⟩ (fun c51 => absurd c51 (by omega)) (fun c51 => ?_)
      refine ja_iconst dpick_54 ?_
      refine ja_zreturn dpick_55 rfl (by omega) ?_
      exact mo_fin (by omega) rfl (k2 h57 (by omega) g58)
  · have z4 := is1v k1_0 c4
    replace k1_0 := is1 k1_0 c4
    refine ja_aload_n dpick_7 rfl rfl ?_
    refine fg_picks (v := h 0 52) rfl dpick_8 ?_
    have f59 := gF_picks g
    refine ja_bipush 24 dpick_11 rfl ?_
    refine ja_icmp_ne 22 dpick_13 rfl ⟨by omega, by omega⟩ ⟨by decide, by decide⟩ (fun c13 => ?_) (fun c13 => ?_)
    · refine ja_aload_n dpick_22 rfl rfl ?_
      refine fg_picks (v := h 0 52) rfl dpick_23 ?_
      refine ja_istore_n dpick_26 rfl (by decide) (L2 := [(1, (0, (h 0 52))), (0, (2, ((0 : Nat) : Int)))]) rfl ?_
      refine ja_aload_n dpick_27 rfl rfl ?_
      refine fa_pickName dpick_28 ?_
      refine ja_iload_n dpick_31 rfl rfl ?_
      refine ja_aload_n dpick_32 rfl rfl ?_
      refine fg_at (v := h 0 7) rfl dpick_33 ?_
      have f60 := gF_at g
      have g61 := gW_pickName g (h 0 52).toNat (x := h 0 7) ⟨by omega, by omega⟩
      refine is_pickName ⟨by omega, by omega⟩ dpick_36 ?_
      refine ja_aload_n dpick_37 rfl rfl ?_
      refine fa_pickAspect dpick_38 ?_
      refine ja_iload_n dpick_41 rfl rfl ?_
      refine ja_aload_n dpick_42 rfl rfl ?_
      refine fg_inAspect (v := h 0 76) rfl dpick_43 ?_
      have f62 := gF_inAspect g
      have g63 := gW_pickAspect g61 (h 0 52).toNat (x := h 0 76) ⟨by omega, by omega⟩
      refine is_pickAspect ⟨by omega, by omega⟩ dpick_46 ?_
      refine ja_aload_n dpick_47 rfl rfl ?_
      refine t_name (by decide) (show (0 : Nat) ≤ 8 by decide) dpick_48 g63  ?_ ?_
      · intro k48_0 g64
        replace k48_0 : (h 0 7) < 900 ∧ (h 2 (h 0 7).toNat) = 2 := k48_0
        replace g64 : mo_G Zz (ja_up (ja_up (ja_up h 34 ((h 0 52).toNat) (h 0 7)) 35 ((h 0 52).toNat) (h 0 76)) 0 7 ((h 0 7) + 1)) := g64
        show mJ l D cA ad 9 cX12_pick 3 (some .boolean) 51 [(1, (0, (h 0 52))), (0, (2, ((0 : Nat) : Int)))] [(0, 1)] (ja_up (ja_up (ja_up h 34 ((h 0 52).toNat) (h 0 7)) 35 ((h 0 52).toNat) (h 0 76)) 0 7 ((h 0 7) + 1)) Q
        refine ja_if_ne 56 dpick_51 rfl ⟨by decide, by decide⟩ (fun c51 => ?_) (fun c51 => absurd c51 (by omega))
        refine ja_iconst dpick_56 ?_
        refine ja_istore_n dpick_57 rfl (by decide) (L2 := [(2, (0, 0)), (1, (0, (h 0 52))), (0, (2, ((0 : Nat) : Int)))]) rfl ?_
        exact ja_wk (fun q hq => by simp only [List.mem_cons, List.not_mem_nil, or_false] at hq; rcases hq with rfl | rfl | rfl <;> rfl) ((CUT _) 0 (ja_up (ja_up (ja_up h 34 ((h 0 52).toNat) (h 0 7)) 35 ((h 0 52).toNat) (h 0 76)) 0 7 ((h 0 7) + 1)) g64 ⟨by decide, by decide⟩ (⟨(by (repeat (first | exact ag_refl | refine ag_up rfl ?_))), (show (h 0 7) < ((h 0 7) + 1) by omega), (fun z => by have z2 : (h 0 11) = 0 := z; omega), by omega, by omega⟩) rfl)
      · intro h65 k48_1 g66
        replace k48_1 : 0 < (h65 0 8) ∧ (h65 0 1) = (h 0 1) ∧ (h65 0 118) = (h 0 118) ∧ (h65 0 127) = (h 0 127) := k48_1
        refine ja_if_ne 56 dpick_51 rfl ⟨by decide, by decide⟩ (fun c51 => absurd c51 (by omega)) (fun c51 => ?_)
        refine ja_iconst dpick_54 ?_
        refine ja_zreturn dpick_55 rfl (by omega) ?_
        exact mo_fin (by omega) rfl (k2 h65 (by omega) g66)
    · refine ja_aload_n dpick_16 rfl rfl ?_
      refine ja_iconst dpick_17 ?_
      refine t_halt (by decide) (show (0 : Nat) ≤ 8 by decide) dpick_18 g ⟨by decide, by decide⟩ (show 1 ≤ 3 ∧ 3 ≤ 8 by omega) ?_
      intro h67 k18_0 g68
      refine ja_zreturn dpick_21 rfl (by omega) ?_
      exact mo_fin (by omega) rfl (k2 h67 (by omega) g68)
theorem t_pick {ht st rg : Nat → Int} {d nL pc : Nat} {cc : ByteArray} {rt : Option FieldType} {L : List (Nat × ja_V)} {S : List ja_V} {h : ja_H} {Q : Option ja_V → ja_H → Prop} (hdd : 9 < d) (hwd : ja_wd S ≤ 8) (hd : decode cc pc = .ok (.invokevirtual 774, 3)) (g : mo_G Zz h) (p1 : it h ht st rg) (k1 : ∀ (h' : ja_H), ((∃ ht st rg : Nat → Int, it h' ht st rg) ∧ (h 0 7) < (h' 0 7) ∧ mo_ag FKP h h') → mo_G Zz h' → mJ l D cA ad d cc nL rt (pc + 3) L ((0, 1) :: S) h' Q) (k2 : ∀ (h' : ja_H), (0 < (h' 0 8) ∧ (h' 0 1) = (h 0 1) ∧ (h' 0 118) = (h 0 118) ∧ (h' 0 127) = (h 0 127)) → mo_G Zz h' → mJ l D cA ad d cc nL rt (pc + 3) L ((0, 0) :: S) h' Q) : mJ l D cA ad d cc nL rt pc L ((2, ((0 : Nat) : Int)) :: S) h Q :=
  mc_pick hdd hwd hd (s_pick g p1 k1 k2)
end
