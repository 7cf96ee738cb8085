/-! the reference's parser: the ends of acts -/
variable {Zz : Zc}
def FS : Nat → Nat → Bool := mo_F [17] [6, 7, 8]
theorem pk_S_ag {h H : ja_H} {s : List mo_A} (ag : mo_ag FS h H) (q : pk_S h (h 0 17).toNat s) : pk_S H (H 0 17).toNat s := by
  have e : (H 0 17) = (h 0 17) := ag _ _ rfl
  rw [e]
  exact pk_S_ext (fun j _ => ⟨ag _ _ rfl, ag _ _ rfl, ag _ _ rfl⟩) q
theorem pk_S_L {h : ja_H} {s : List mo_A} {a b c d : Int} (h0 : 0 ≤ (h 0 17)) (q : pk_S h (h 0 17).toNat s) : pk_S (mo_L h a b c d) (mo_L h a b c d 0 17).toNat ((a, b, c) :: s) := by
  have e : mo_L h a b c d 0 17 = (h 0 17) + 1 := rfl
  have e2 : ((h 0 17) + 1).toNat = (h 0 17).toNat + 1 := by omega
  rw [e, e2]
  refine ⟨⟨?_, ?_, ?_⟩, pk_S_ext (fun j hj => ⟨?_, ?_, ?_⟩) q⟩ <;> simp only [mo_L, ja_up] <;> simp
  all_goals omega
/-- one more number behind the last -/
def mo_x (f : Nat → Int) (W : Int) (v : Int) : Nat → Int := fun i => if i = W.toNat + 1 then v else f i
theorem mo_xo {f : Nat → Int} {W v : Int} {j : Nat} (h0 : 0 ≤ W) (hj : (j : Int) ≤ W) : mo_x f W v j = f j := by
  unfold mo_x; rw [if_neg (by omega)]
theorem mo_xn {f : Nat → Int} {W v : Int} (h0 : 0 ≤ W) : mo_x f W v (W + 1).toNat = v := by
  unfold mo_x; rw [if_pos (by omega)]
theorem mo_xn' {f : Nat → Int} {W v : Int} : mo_x f W v (W.toNat + 1) = v := by
  unfold mo_x; rw [if_pos rfl]
theorem mo_xw {f : Nat → Int} {W v : Int} : mo_x f W v W.toNat = f W.toNat := by
  unfold mo_x; rw [if_neg (by omega)]
theorem pk_sum_le (f : Int → Int) (hf : ∀ a, 0 ≤ f a ∧ f a ≤ 1) (s : List mo_A) : 0 ≤ pk_sum f s ∧ pk_sum f s ≤ s.length := by
  induction s with
  | nil => exact ⟨Int.le_refl _, Int.le_refl _⟩
  | cons x s ih =>
    have e : pk_sum f (x :: s) = f x.1 + pk_sum f s := rfl
    have e2 : (((x :: s).length : Nat) : Int) = s.length + 1 := by rw [List.length_cons]; rfl
    have := hf x.1
    rw [e, e2]; omega
/-- what follows for numbers -/
theorem piB_num {h : ja_H} {R r ph q0 : Int} {tf : mo_TF} {x : mo_A} {s : List mo_A} {ht st rg : Nat → Int} {tu : Int} (g : mo_G Zz h) (hS : pk_S h (h 0 17).toNat s) (q : piB h R r ph tf q0 (x :: s) ht st rg tu) :
    (h 0 17) ≤ 110 ∧ (h 0 113) ≤ 4504 ∧ (h 0 95) < 900 ∧ (h 0 68) < 900 ∧ 0 ≤ pk_sum pk_c s ∧ pk_c x.1 + pk_sum pk_c s ≤ 16 ∧ 0 ≤ pk_sum pk_v s ∧ 0 ≤ pk_sum pk_m s ∧ 0 ≤ pk_sum pk_d s ∧ 0 ≤ (h 0 109) ∧ (1 ≤ (h 0 7)) ∧ (0 ≤ pk_sum pk_q s ∧ pk_sum pk_q s ≤ 110) ∧ (0 ≤ pk_sum pk_f s ∧ pk_sum pk_f s ≤ 110) ∧ ((0 ≤ pk_sum (pk_k r) s ∧ pk_sum (pk_k r) s ≤ 7 * pk_sum pk_c s) ∧ (r = 4 → pk_sum (pk_k r) s = 2 * pk_sum pk_c s)) ∧ (2 ≤ pk_D r ∧ pk_D r ≤ 7) ∧ (r ≤ 3 → pk_D r = 7) ∧ (r = 4 → pk_D r = 2) ∧ 0 ≤ tu ∧ tu ≤ 16 := by
  obtain ⟨⟨n1, n2, n3, n4, n5, n6, n7, n8, n9⟩, -, -, hpt, -⟩ := q
  obtain ⟨⟨⟨p1, p1'⟩, -⟩, ⟨p2, -⟩, p3, -⟩ := hpt
  obtain ⟨-, -, -, pu, -⟩ := p3
  have g1 := gF_at g
  have g2 := gF_nest g
  have g3 := gF_wTop g
  have g4 := gF_nodes g
  have g5 := gF_wants g
  have g6 := gF_treeTop g
  have e1 := pk_S_len hS
  have e2 := pk_sum_c0 s
  have e3 := pk_sum_d0 s
  have e4 : pk_off x.1 ≤ 7 := by unfold pk_off; (repeat' split) <;> omega
  have e5 : -4 ≤ pk_v x.1 := by unfold pk_v; (repeat' split) <;> omega
  have e6 : 0 ≤ pk_d x.1 := by unfold pk_d; split <;> omega
  have e7 : 0 ≤ pk_c x.1 := by unfold pk_c; split <;> omega
  have f1 : pk_sum pk_c (x :: s) = pk_c x.1 + pk_sum pk_c s := rfl
  have f2 : pk_sum pk_v (x :: s) = pk_v x.1 + pk_sum pk_v s := rfl
  have f3 : pk_sum pk_d (x :: s) = pk_d x.1 + pk_sum pk_d s := rfl
  rw [f1] at n1; rw [f2] at n2; rw [f3] at n3
  have e8 := pk_sum_le pk_q (fun a => by unfold pk_q; split <;> omega) s
  have e9 := pk_sum_le pk_f (fun a => by unfold pk_f; split <;> omega) s
  refine ⟨?_, ?_, ?_, ?_, ?_, ?_, p1, p1', e3, g6.1, ?_, ?_, ?_, pk_sum_k r s, (pk_D_r r).1, (pk_D_r r).2.1, (pk_D_r r).2.2, pu.2.1, ?_⟩ <;> omega
/-- what an act without words, nodes, POINTS leaves alone -/
def FE : Nat → Nat → Bool := mo_F [88, 11, 68, 95, 72, 85, 109, 113, 74, 76, 86, 34] [24, 74, 75, 76, 52, 55, 54, 56, 57, 45, 44, 46, 58, 59, 60, 62, 63, 67, 47, 70]
theorem FE_FC (k j : Nat) (e : FC k j = true) : FE k j = true := by
  unfold FC mo_F at e; unfold FE mo_F
  split at e
  · next z => rw [if_pos z]; simp at e ⊢; omega
  · next z => rw [if_neg z]; simp at e ⊢; omega
theorem FE_FN (k j : Nat) (e : FN k j = true) : FE k j = true := by
  unfold FN mo_F at e; unfold FE mo_F
  split at e
  · next z => rw [if_pos z]; simp at e ⊢; omega
  · next z => rw [if_neg z]; simp at e ⊢; omega
theorem FE_FP (k j : Nat) (e : FP k j = true) : FE k j = true := by
  unfold FP mo_F at e; unfold FE mo_F
  split at e
  · next z => rw [if_pos z]; simp at e ⊢; omega
  · next z => rw [if_neg z]; simp at e ⊢; omega
theorem FE_FT (k j : Nat) (e : FT k j = true) : FE k j = true := by
  unfold FT mo_F at e; unfold FE mo_F
  split at e
  · next z => rw [if_pos z]; simp at e ⊢; omega
  · next z => rw [if_neg z]; simp at e ⊢; omega
theorem fin0 {h H : ja_H} {R r ph q0 m : Int} {tf : mo_TF} {x : mo_A} {s s' : List mo_A} {ht st rg : Nat → Int} {tu : Int} (hB : piB h R r ph tf q0 (x :: s) ht st rg tu) (hS' : pk_S H (H 0 17).toNat s') (ag : mo_ag FE h H) (hx : ∀ w : Int, ¬ pj x w) (hsub : ∀ y ∈ s, y ∈ s') (hpp : ∀ p, pp_in s' p → pp_in (x :: s) p)
    (n1 : (H 0 18) = pk_sum pk_c s') (n2 : (h 0 113) + pk_sum pk_v s' < 5 * (H 0 7)) (n3 : (h 0 95) + pk_sum pk_d s' < (H 0 7)) (n4 : (h 0 7) ≤ (H 0 7)) (n5 : (H 0 84) = q0 + pk_sum pk_q s') (n6 : (H 0 87) = pk_sum pk_f s')
    (b : (ph = 1 ∨ (H 0 79) ≤ (H 0 77)) ∧ (ph = 1 ∨ (H 0 77) ≤ 10) ∧ (¬ pt_let s' → ph = 1 ∨ (H 0 77) ≤ 9)) (hif : pi_if s' ↔ pi_if (x :: s)) (hal : ((∀ y ∈ x :: s, y.1 ≤ 30 ∨ 37 ≤ y.1) → ∀ y ∈ s', y.1 ≤ 30 ∨ 37 ≤ y.1) ∧ ((∀ y ∈ x :: s, y.1 ≤ 12 ∨ 31 ≤ y.1) → ∀ y ∈ s', y.1 ≤ 12 ∨ 31 ≤ y.1))
    (hpt : pt (h 74) ht st rg (h 0 113) (h 0 88) (H 0 77) r tf (pi_wn h r) s' (ht (h 0 113).toNat - pi_adj H s') (h 0 109) (st (h 0 113).toNat) tu) (top : pi_top H ht s') (mu : pi_mu H s' < m) (agk : mo_ag FK h H) : pi_done h H R r ph tf q0 m := by
  obtain ⟨⟨o1, o2, o3, o4, o5, o6, o7, o8, o9⟩, ⟨ob, -, -, -⟩, oreg, -, ⟨oC, oU⟩, oN, oP, oT, -⟩ := hB
  have e1 : (H 0 113) = (h 0 113) := ag _ _ rfl
  have e2 : (H 0 88) = (h 0 88) := ag _ _ rfl
  have e3 : (H 0 109) = (h 0 109) := ag _ _ rfl
  have e4 : (H 0 95) = (h 0 95) := ag _ _ rfl
  have e5 : (H 0 68) = (h 0 68) := ag _ _ rfl
  have e6 : (H 0 72) = (h 0 72) := ag _ _ rfl
  have e7 : (H 0 74) = (h 0 74) := ag _ _ rfl
  have e8 : (H 0 86) = (h 0 86) := ag _ _ rfl
  have e9 : (H 0 11) = (h 0 11) := ag _ _ rfl
  have e10 : (H 0 76) = (h 0 76) := ag _ _ rfl
  have f1 : (H 74) = (h 74) := funext fun j => ag _ _ rfl
  have g6 : (H 45) = (h 45) := funext fun j => ag _ _ rfl
  have g7 : (H 44) = (h 44) := funext fun j => ag _ _ rfl
  have g8 : (H 46) = (h 46) := funext fun j => ag _ _ rfl
  have k4 : (H 52) = (h 52) := funext fun j => ag _ _ rfl
  have k5 : (H 55) = (h 55) := funext fun j => ag _ _ rfl
  have hwn : pi_wn H r = pi_wn h r := by
    funext a; unfold pi_wn; rw [e9, e10, e2, pw_wt_ag e5 g6 g7 g8, k4, k5, nf_keep e4 (funext fun j => ag _ _ rfl)]
  refine ⟨⟨s', ht, st, rg, tu, ⟨hS', ⟨n1, by rw [e1]; exact n2, by rw [e4]; exact n3, by rw [e5]; omega, by rw [e6, e4]; exact o5, n5, n6, o8, o9⟩, ⟨e7.trans ob, b⟩, ?_, ?_, ⟨?_, ?_⟩, ?_, ?_, ?_, top⟩, mu⟩, agk⟩
  · rw [e1, e8, hif]
    rcases oreg with ⟨q1, q2, q3, q4, q5⟩ | ⟨q1, q2, q3, q4⟩
    · exact Or.inl ⟨q1, q2, q3, q4, hal.1 q5⟩
    · exact Or.inr ⟨q1, q2, hal.2 q3, q4⟩
  · rw [e1, e2, e3, f1, hwn]; exact hpt
  · rw [e1]; exact pi_C_ag (ag_sub FE_FC ag) (pi_C_stack oC (fun w _ => hx w) hsub (fun w _ _ q z => q (hpp _ z)))
  · rw [e1]; exact pi_U_ag (ag_sub FE_FC ag) oU
  · rw [e1]; exact pi_N_ag (ag_sub FE_FN ag) oN
  · exact pi_P_ag (ag_sub FE_FP ag) oP
  · exact pi_T_ag (ag_sub FE_FT ag) oT
theorem act_e {a : Int} (h : 1 ≤ a) (hE : a ≤ 12 ∨ a = 38) : a = 1 ∨ a = 2 ∨ a = 3 ∨ a = 4 ∨ a = 5 ∨ a = 6 ∨ a = 7 ∨ a = 8 ∨ a = 9 ∨ a = 10 ∨ a = 11 ∨ a = 12 ∨ a = 38 := by omega
theorem act_p {a : Int} (h : a ≤ 38) (h1 : a ≤ 12 ∨ 31 ≤ a) (h2 : a ≠ 36) (h3 : ¬ (a ≤ 12 ∨ a = 38)) : a = 31 ∨ a = 32 ∨ a = 33 ∨ a = 34 ∨ a = 35 ∨ a = 37 := by omega
/-- in a P an E stands in an if -/
theorem pif_of {op ht st rg : Nat → Int} {W P lo r : Int} {tf : mo_TF} {wn : Int → Prop} : ∀ {s : List mo_A} {c t e tu : Int}, pt op ht st rg W P lo r tf wn s c t e tu → (∀ y ∈ s, y.1 ≤ 12 ∨ 31 ≤ y.1) → ¬ pi_if s → c = 0 ∧ ∀ y z, s = y :: z → ¬ (y.1 ≤ 12 ∨ y.1 = 38)
  | [], _, _, _, _, q, _, _ => ⟨q.1, fun _ _ e => by cases e⟩
  | x :: s, c, t, e, tu, q, ha, hn => by
    obtain ⟨-, -, q3, q4⟩ := q
    have ih := pif_of q4 (fun y hy => ha y (List.mem_cons_of_mem _ hy)) (fun ⟨y, hy, e⟩ => hn ⟨y, List.mem_cons_of_mem _ hy, e⟩)
    have hx := ha x List.mem_cons_self
    have hx2 : x.1 ≠ 36 := fun e => hn ⟨x, List.mem_cons_self, e⟩
    obtain ⟨a0, c0, -, -, i1, i2, i3, i4, i5, i6, i7, i8, i9, i10, i11, i12, -, -, -, -, -, -, -, -, -, -, i31, i32, i33, i34, -⟩ := q3
    have ic := ih.1
    unfold pt_c at ic
    have no : ¬ (x.1 ≤ 12 ∨ x.1 = 38) := by
      intro hE
      rcases act_e a0.1 hE with k | k | k | k | k | k | k | k | k | k | k | k | k
      · rw [k] at ic; simp at ic; clear i1 i2 i3 i4 i5 i6 i7 i8 i9 i10 i11 i12 i31 i32 i33 i34; omega
      · have q := i2 k; rw [k] at ic; simp at ic; clear i1 i2 i3 i4 i5 i6 i7 i8 i9 i10 i11 i12 i31 i32 i33 i34; omega
      · have q := (i3 k).1; rw [k] at ic; simp at ic; clear i1 i2 i3 i4 i5 i6 i7 i8 i9 i10 i11 i12 i31 i32 i33 i34; omega
      · have q := (i4 k).1.1; rw [k] at ic; simp at ic; clear i1 i2 i3 i4 i5 i6 i7 i8 i9 i10 i11 i12 i31 i32 i33 i34; omega
      · have q := (i5 k).1; rw [k] at ic; simp at ic; clear i1 i2 i3 i4 i5 i6 i7 i8 i9 i10 i11 i12 i31 i32 i33 i34; omega
      · rw [k] at ic; simp at ic; clear i1 i2 i3 i4 i5 i6 i7 i8 i9 i10 i11 i12 i31 i32 i33 i34; omega
      · have q := i7 (Or.inl k); rw [k] at ic; simp at ic; clear i1 i2 i3 i4 i5 i6 i7 i8 i9 i10 i11 i12 i31 i32 i33 i34; omega
      · obtain ⟨y, z, e1, e2⟩ := i8 k
        exact ih.2 y z e1 (by clear i1 i2 i3 i4 i5 i6 i7 i8 i9 i10 i11 i12 i31 i32 i33 i34; omega)
      · obtain ⟨⟨y, z, e1, e2⟩, -⟩ := i9 k
        exact ih.2 y z e1 (by clear i1 i2 i3 i4 i5 i6 i7 i8 i9 i10 i11 i12 i31 i32 i33 i34; omega)
      · have q := (i10 k).1; rw [k] at ic; simp at ic; clear i1 i2 i3 i4 i5 i6 i7 i8 i9 i10 i11 i12 i31 i32 i33 i34; omega
      · rw [k] at ic; simp at ic; clear i1 i2 i3 i4 i5 i6 i7 i8 i9 i10 i11 i12 i31 i32 i33 i34; omega
      · rw [k] at ic; simp at ic; clear i1 i2 i3 i4 i5 i6 i7 i8 i9 i10 i11 i12 i31 i32 i33 i34; omega
      · have q := i7 (Or.inr k); rw [k] at ic; simp at ic; clear i1 i2 i3 i4 i5 i6 i7 i8 i9 i10 i11 i12 i31 i32 i33 i34; omega
    refine ⟨?_, fun y z e => by cases e; exact no⟩
    rcases act_p a0.2.1 hx hx2 no with k | k | k | k | k | k
    · exact (i31 k).1
    · exact (i32 k).1
    · exact (i33 k).1
    · exact (i34 (Or.inl k)).1
    · exact (i34 (Or.inr k)).1
    · rw [k] at ic; simp at ic; exact ic
/-- what an act that writes a word leaves alone -/
def FE1 : Nat → Nat → Bool := mo_F [88, 11, 68, 95, 72, 85, 109, 74, 76, 86, 34] [24, 52, 55, 54, 56, 57, 45, 44, 46, 58, 59, 60, 62, 63, 67, 47, 70]
theorem FE1_FCe (k j : Nat) (e : FCe k j = true) : FE1 k j = true := by
  unfold FCe mo_F at e; unfold FE1 mo_F
  split at e
  · next z => rw [if_pos z]; simp at e ⊢; omega
  · next z => rw [if_neg z]; simp at e ⊢; omega
theorem FE1_FN (k j : Nat) (e : FN k j = true) : FE1 k j = true := by
  unfold FN mo_F at e; unfold FE1 mo_F
  split at e
  · next z => rw [if_pos z]; simp at e ⊢; omega
  · next z => rw [if_neg z]; simp at e ⊢; omega
theorem FE1_FP (k j : Nat) (e : FP k j = true) : FE1 k j = true := by
  unfold FP mo_F at e; unfold FE1 mo_F
  split at e
  · next z => rw [if_pos z]; simp at e ⊢; omega
  · next z => rw [if_neg z]; simp at e ⊢; omega
theorem FE1_FT (k j : Nat) (e : FT k j = true) : FE1 k j = true := by
  unfold FT mo_F at e; unfold FE1 mo_F
  split at e
  · next z => rw [if_pos z]; simp at e ⊢; omega
  · next z => rw [if_neg z]; simp at e ⊢; omega
/-- the region of what is written next -/
theorem reg_of {h : ja_H} {R r ph q0 : Int} {tf : mo_TF} {x : mo_A} {s : List mo_A} {ht st rg : Nat → Int} {tu : Int} (hB : piB h R r ph tf q0 (x :: s) ht st rg tu) (hx : x.1 ≤ 30 ∨ 36 ≤ x.1) (hx2 : x.1 ≠ 37) : rg (h 0 113).toNat = r + 8 * tu ∧ (ph = 1 → pi_if (x :: s) ∧ (h 0 86) = 1) ∧ (ph = 0 ∨ ph = 1) := by
  obtain ⟨-, -, oreg, hpt, -⟩ := hB
  rcases oreg with ⟨q1, q2, q3, q4, q5⟩ | ⟨q1, q2, q3, q4⟩
  · exact ⟨q4, fun z => by omega, Or.inl q1⟩
  · rcases q4 with ⟨a, b, c⟩ | ⟨a, b, c⟩
    · exact ⟨by omega, fun _ => ⟨a, b⟩, Or.inr q1⟩
    · exfalso
      have h1 := (pif_of hpt q3 a).2 x s rfl
      have h2 := q3 x List.mem_cons_self
      have h3 : x.1 ≠ 36 := fun e => a ⟨x, List.mem_cons_self, e⟩
      exact h1 (by
        rcases hx with hx | hx
        · omega
        · obtain ⟨-, -, o, -⟩ := hpt
          have := o.1
          omega)
/-- a word of its own, that is no POINT and waits for nothing -/
theorem fin1 {h H : ja_H} {R r ph q0 m c1 e1 tu1 : Int} {tf : mo_TF} {x : mo_A} {s s' : List mo_A} {ht st rg : Nat → Int} {tu : Int} (htu : tu1 = tu ∨ ph = 0) (g : mo_G Zz h) (hB : piB h R r ph tf q0 (x :: s) ht st rg tu) (hreg : x.1 ≤ 30 ∨ 38 ≤ x.1) (hS' : pk_S H (H 0 17).toNat s') (ag : mo_ag FE1 h H)
    (hw : (H 0 113) = (h 0 113) + 1) (hold : ∀ w : Nat, (w : Int) < (h 0 113) → (H 74) w = (h 74) w ∧ (H 75) w = (h 75) w ∧ (H 76) w = (h 76) w) (ho : (H 74) (h 0 113).toNat ≠ 15)
    (hx : ∀ w : Int, ¬ pj x w) (hsub : ∀ y ∈ s, y ∈ s') (hpp : ∀ p, pp_in s' p → pp_in (x :: s) p)
    (n1 : (H 0 18) = pk_sum pk_c s') (n2 : (h 0 113) + 1 + pk_sum pk_v s' < 5 * (H 0 7)) (n3 : (h 0 95) + pk_sum pk_d s' < (H 0 7)) (n4 : (h 0 7) ≤ (H 0 7)) (n5 : (H 0 84) = q0 + pk_sum pk_q s') (n6 : (H 0 87) = pk_sum pk_f s')
    (b : (ph = 1 ∨ (H 0 79) ≤ (H 0 77)) ∧ (ph = 1 ∨ (H 0 77) ≤ 10) ∧ (¬ pt_let s' → ph = 1 ∨ (H 0 77) ≤ 9)) (hif : pi_if s' ↔ pi_if (x :: s)) (hal : ((∀ y ∈ x :: s, y.1 ≤ 30 ∨ 37 ≤ y.1) → ∀ y ∈ s', y.1 ≤ 30 ∨ 37 ≤ y.1) ∧ ((∀ y ∈ x :: s, y.1 ≤ 12 ∨ 31 ≤ y.1) → ∀ y ∈ s', y.1 ≤ 12 ∨ 31 ≤ y.1))
    (new : pw H (mo_x ht (h 0 113) c1) (mo_x st (h 0 113) e1) (mo_x rg (h 0 113) (r + 8 * tu1)) ((h 0 113) + 1) s' (h 0 113).toNat)
    (hpt : pt (H 74) (mo_x ht (h 0 113) c1) (mo_x st (h 0 113) e1) (mo_x rg (h 0 113) (r + 8 * tu1)) ((h 0 113) + 1) (h 0 88) (H 0 77) r tf (pi_wn h r) s' (c1 - pi_adj H s') (h 0 109) e1 tu1) (top : pi_top H (mo_x ht (h 0 113) c1) s') (mu : pi_mu H s' < m) (agk : mo_ag FK h H) : pi_done h H R r ph tf q0 m := by
  have hr := reg_of hB (by omega) (by omega)
  obtain ⟨⟨o1, o2, o3, o4, o5, o6, o7, o8, o9⟩, ⟨ob, -, -, -⟩, oreg, -, ⟨oC, oU⟩, oN, oP, oT, -⟩ := hB
  have w0 : 0 ≤ (h 0 113) := (gF_words g).1
  have e2 : (H 0 88) = (h 0 88) := ag _ _ rfl
  have e3 : (H 0 109) = (h 0 109) := ag _ _ rfl
  have e4 : (H 0 95) = (h 0 95) := ag _ _ rfl
  have e5 : (H 0 68) = (h 0 68) := ag _ _ rfl
  have e6 : (H 0 72) = (h 0 72) := ag _ _ rfl
  have e7 : (H 0 74) = (h 0 74) := ag _ _ rfl
  have e8 : (H 0 86) = (h 0 86) := ag _ _ rfl
  have e9 : (H 0 11) = (h 0 11) := ag _ _ rfl
  have e10 : (H 0 76) = (h 0 76) := ag _ _ rfl
  have g6 : (H 45) = (h 45) := funext fun j => ag _ _ rfl
  have g7 : (H 44) = (h 44) := funext fun j => ag _ _ rfl
  have g8 : (H 46) = (h 46) := funext fun j => ag _ _ rfl
  have k4 : (H 52) = (h 52) := funext fun j => ag _ _ rfl
  have k5 : (H 55) = (h 55) := funext fun j => ag _ _ rfl
  have hwn : pi_wn H r = pi_wn h r := by
    funext a; unfold pi_wn; rw [e9, e10, e2, pw_wt_ag e5 g6 g7 g8, k4, k5, nf_keep e4 (funext fun j => ag _ _ rfl)]
  have ex : ∀ j : Nat, (j : Int) ≤ (h 0 113) → mo_x ht (h 0 113) c1 j = ht j ∧ mo_x st (h 0 113) e1 j = st j ∧ mo_x rg (h 0 113) (r + 8 * tu1) j = rg j := fun j hj => ⟨mo_xo w0 hj, mo_xo w0 hj, mo_xo w0 hj⟩
  refine ⟨⟨s', mo_x ht (h 0 113) c1, mo_x st (h 0 113) e1, mo_x rg (h 0 113) (r + 8 * tu1), tu1, ⟨hS', ⟨n1, by rw [hw]; exact n2, by rw [e4]; exact n3, by rw [e5]; omega, by rw [e6, e4]; exact o5, n5, n6, o8, o9⟩, ⟨e7.trans ob, b⟩, ?_, ?_, ⟨?_, ?_⟩, ?_, ?_, ?_, top⟩, mu⟩, agk⟩
  · rw [hw, e8, hif, mo_xn w0]
    rcases oreg with ⟨q1, q2, q3, q4, q5⟩ | ⟨q1, q2, q3, q4⟩
    · exact Or.inl ⟨q1, q2, q3, rfl, hal.1 q5⟩
    · exact Or.inr ⟨q1, ⟨q2.1, by omega⟩, hal.2 q3, Or.inl ⟨(hr.2.1 q1).1, (hr.2.1 q1).2, by omega⟩⟩
  · rw [hw, mo_xn w0, mo_xn w0, e2, e3, hwn]; exact hpt
  · rw [hw]
    exact pi_C_emit (pi_C_stack oC (fun w _ => hx w) hsub (fun w _ _ q z => q (hpp _ z))) w0 ex hold (ag_sub FE1_FCe ag) new
  · rw [hw]
    exact pi_U_emit w0 oU (fun w q => ⟨(hold w q).1, (hold w q).2.1⟩) (fun z => absurd z ho)
  · rw [hw]
    exact pi_N_ext (by omega) (fun j hj => ⟨(ex j (by omega)).1, (ex j (by omega)).2.2⟩) (ag_sub FE1_FN ag) oN
  · exact pi_P_ag (ag_sub FE1_FP ag) oP
  · exact pi_T_ag (ag_sub FE1_FT ag) oT
/-- the next act's top, once an act is done that said nothing -/
theorem pi_if_tail {x : mo_A} {s : List mo_A} (hx : x.1 ≠ 36) : pi_if s ↔ pi_if (x :: s) := by
  constructor
  · rintro ⟨y, hy, e⟩; exact ⟨y, List.mem_cons_of_mem _ hy, e⟩
  · rintro ⟨y, hy, e⟩
    rcases List.mem_cons.mp hy with rfl | hy
    · exact absurd e hx
    · exact ⟨y, hy, e⟩
theorem pt_let_cons {x : mo_A} {s : List mo_A} (hx : x.1 ≠ 17) : pt_let (x :: s) ↔ pt_let s := by
  constructor
  · intro q y hy; exact q y (List.mem_cons_of_mem _ hy)
  · intro q y hy
    rcases List.mem_cons.mp hy with rfl | hy
    · exact hx
    · exact q y hy
