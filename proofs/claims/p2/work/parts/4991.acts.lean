/-! the reference's parser: S with = -/
variable {Zz : Zc}
theorem pt_at_pop {ht st rg : Nat → Int} {W r a c e tu : Int} (q : pt_at ht st rg W r a c e tu) (hne : a ≠ W - 1) : pt_at ht st rg (W - 1) r a c e tu := by
  obtain ⟨q1, q2, q3⟩ := q
  exact ⟨q1, by omega, q3⟩
theorem no36 {a : Int} (h : a ≤ 30 ∨ 37 ≤ a) (z : a = 36) : False := by omega
theorem pt_pop {op ht st rg : Nat → Int} {W P lo r : Int} {tf : mo_TF} {wn : Int → Prop} (hop : op (W - 1).toNat ≠ 12 ∧ op (W - 1).toNat ≠ 13 ∧ op (W - 1).toNat ≠ 22 ∧ op (W - 1).toNat ≠ 23) (hst : st (W - 1).toNat = 1) (hW0 : tf.2.1 ≠ W) :
    ∀ {s : List mo_A} {c t e tu : Int}, (∀ y ∈ s, y.1 ≤ 30 ∨ 37 ≤ y.1) → pt op ht st rg W P lo r tf wn s c t e tu → pt op ht st rg (W - 1) P lo r tf wn s c t e tu
  | [], _, _, _, _, _, q => ⟨q.1, q.2.1, q.2.2.1, q.2.2.2.1, by have := q.2.2.2.2.1; omega, q.2.2.2.2.2.1, q.2.2.2.2.2.2⟩
  | x :: s, c, t, e, tu, ha, q => by
    obtain ⟨q1, q2, q3, q4⟩ := q
    refine ⟨q1, q2, ?_, pt_pop hop hst hW0 (fun y hy => ha y (List.mem_cons_of_mem _ hy)) q4⟩
    have hx := ha x List.mem_cons_self
    obtain ⟨h12, h13, h22, h23⟩ := hop
    have ne : ∀ {a : Int} {k : Int}, op a.toNat = k → op (W - 1).toNat ≠ k → a ≠ W - 1 := fun {a k} z1 z2 e => by subst e; exact z2 z1
    have n0 : ∀ {a c tu : Int}, pt_at ht st rg W r a c 0 tu → a ≠ W - 1 := fun {a c tu} z e => by
      have := z.2.2.2.2; rw [e, hst] at this; omega
    obtain ⟨b1, b2, b3, b4, o1, o2, o3, o4, o5, o6, o7, o8, o9, o10, o11, o12, o14, o16, o17, o17b, o19, o21, o22, o23, o24, o28, o31, o32, o33, o34, o36, o18⟩ := q3
    refine ⟨b1, b2, b3, b4, o1, o2, o3, fun z => ?_, o5, o6, o7, o8, o9, o10, o11, o12, o14, o16, o17, o17b, o19, fun z => ?_, fun z => ?_, fun z => ?_, fun z => ?_, fun z => ?_, o31, o32, o33, o34, fun z => ?_, o18⟩
    · obtain ⟨a1, a2, a3⟩ := o4 z
      exact ⟨a1, pt_at_pop a2 (by rcases a3 with a3 | a3; exact ne a3 h12; exact ne a3 h13), a3⟩
    · obtain ⟨a1, a2⟩ := o21 z
      exact ⟨pt_at_pop a1 (ne a2 h22), a2⟩
    · obtain ⟨a1, a2⟩ := o22 z
      exact ⟨pt_at_pop a1 (n0 a1), a2⟩
    · exact ⟨pt_at_pop (o23 z).1 (n0 (o23 z).1), (o23 z).2⟩
    · obtain ⟨⟨a1, a0⟩, a2, a3⟩ := o24 z
      exact ⟨⟨pt_at_pop a1 (n0 a1), a0⟩, pt_at_pop a2 (ne a3 h22), a3⟩
    · obtain ⟨a1, a2⟩ := o28 z
      exact ⟨pt_at_pop a1 (ne a2 h23), a2⟩
    · exact (no36 hx z).elim
def FAS : Nat → Nat → Bool := mo_F [88, 95, 72, 85, 109, 74, 76, 86, 34, 11, 68, 18, 84, 87, 79, 77] [24, 54, 56, 57, 58, 59, 60, 62, 63, 67, 47, 70, 74, 75, 76, 45, 44, 46]
theorem FAS_FT (k j : Nat) (e : FT k j = true) : FAS k j = true := by
  unfold FT mo_F at e; unfold FAS mo_F
  split at e
  · next z => rw [if_pos z]; simp at e ⊢; omega
  · next z => rw [if_neg z]; simp at e ⊢; omega
theorem bs_assign_pt {op ht st rg : Nat → Int} {W P lo r t k wh cc tu : Int} {tf : mo_TF} {wn : Int → Prop} {s : List mo_A} (p1 : 0 ≤ pk_sum pk_v s) (p1' : 0 ≤ pk_sum pk_m s) (p2 : (s.length : Int) ≤ 6 * pk_sum pk_c s + 1) (p2' : pt_low (18, 0, 0) s) (c0 : 0 ≤ pk_sum pk_c s) (t0 : 0 ≤ t) (xu1 : 0 ≤ tu) (xu2 : tu ≤ pk_sum pk_c s) (hcc : 0 ≤ cc ∧ cc ≤ 1) (hK : 1 ≤ pk_sum (pk_k r) s) (hl : pt_let s)
    (hq19 : (k = 2 ∧ cc + 1 = 2 ∧ 0 ≤ wh ∧ wh < P ∧ wn (3000000 + wh)) ∨ (k = 1 ∧ cc + 1 = 1 ∧ 0 ≤ wh ∧ wh ≤ 900 ∧ wn wh) ∨ (k = 0 ∧ cc + 1 = 1 ∧ 0 ≤ wh ∧ wh ≤ 15)) (hPP : ∀ p, pp (19, k, wh) p → ¬ pp_in s p)
    (p4 : pt op ht st rg W P lo r tf wn s 0 t 0 tu) : pt op ht st rg W P lo r tf wn ((1, 0, 0) :: (37, 59, 0) :: (19, k, wh) :: s) cc t 1 tu := by
  have ec1 : pk_c 1 = 0 := rfl
  have ev1 : pk_v 1 = (-4) := rfl
  have ed1 : pk_d 1 = 0 := rfl
  have eq1 : pk_q 1 = 0 := rfl
  have ef1 : pk_f 1 = 0 := rfl
  have em1 : pk_m 1 = (-10) := rfl
  have eoff1 : pk_off 1 = 7 := rfl
  have ek1 : pk_k r 1 = 0 := rfl
  have ec18 : pk_c 18 = 0 := rfl
  have ev18 : pk_v 18 = 1 := rfl
  have ed18 : pk_d 18 = 0 := rfl
  have eq18 : pk_q 18 = 0 := rfl
  have ef18 : pk_f 18 = 0 := rfl
  have em18 : pk_m 18 = 1 := rfl
  have eoff18 : pk_off 18 = 1 := rfl
  have ek18 : pk_k r 18 = 0 := rfl
  have ec19 : pk_c 19 = 0 := rfl
  have ev19 : pk_v 19 = 2 := rfl
  have ed19 : pk_d 19 = 0 := rfl
  have eq19 : pk_q 19 = 0 := rfl
  have ef19 : pk_f 19 = 0 := rfl
  have em19 : pk_m 19 = 1 := rfl
  have eoff19 : pk_off 19 = 1 := rfl
  have ek19 : pk_k r 19 = 0 := rfl
  have ec37 : pk_c 37 = 0 := rfl
  have ev37 : pk_v 37 = 0 := rfl
  have ed37 : pk_d 37 = 0 := rfl
  have eq37 : pk_q 37 = 0 := rfl
  have ef37 : pk_f 37 = 0 := rfl
  have em37 : pk_m 37 = 1 := rfl
  have eoff37 : pk_off 37 = 3 := rfl
  have ek37 : pk_k r 37 = 0 := rfl
  exact ⟨⟨⟨by (try simp only [pk_sum]); omega, by (try simp only [pk_sum]); omega⟩, (fun p q => absurd q (by simp [pp]))⟩, ⟨by (try simp only [pk_sum, List.length_cons]); (try dsimp only); omega, (by intro y z e; cases e; dsimp only; omega)⟩, (show pt_ok op ht st rg W P lo r wn (1, 0, 0) ((37, 59, 0) :: (19, k, wh) :: s) (cc) (t) (1) (tu) from by unfold pt_ok; (try dsimp only); (try simp only [pk_sum]); exact ⟨⟨by omega, by omega, by omega, by omega⟩, by omega, by omega, ⟨by first | omega | simp, by omega, by omega⟩, fun _ => by first | omega | trivial | (simp only [true_and, and_true]; omega), fun z => absurd z (by omega), fun z => absurd z (by omega), fun z => absurd z (by omega), fun z => absurd z (by omega), fun z => absurd z (by omega), fun z => absurd z (by omega), fun z => absurd z (by omega), fun z => absurd z (by omega), fun z => absurd z (by omega), fun z => absurd z (by omega), fun z => absurd z (by omega), fun z => absurd z (by omega), fun z => absurd z (by omega), fun z => absurd z (by omega), fun z => absurd z (by omega), fun z => absurd z (by omega), fun z => absurd z (by omega), fun z => absurd z (by omega), fun z => absurd z (by omega), fun z => absurd z (by omega), fun z => absurd z (by omega), fun z => absurd z (by omega), fun z => absurd z (by omega), fun z => absurd z (by omega), fun z => absurd z (by omega), fun z => absurd z (by omega), fun z => absurd z (by omega)⟩), ⟨⟨⟨by (try simp only [pk_sum]); omega, by (try simp only [pk_sum]); omega⟩, (fun p q => absurd q (by simp [pp]))⟩, ⟨by (try simp only [pk_sum, List.length_cons]); (try dsimp only); omega, (by intro y z e; cases e; dsimp only; omega)⟩, (show pt_ok op ht st rg W P lo r wn (37, 59, 0) ((19, k, wh) :: s) (cc + 1) (t) (1) (tu) from by unfold pt_ok; (try dsimp only); (try simp only [pk_sum]); exact ⟨⟨by omega, by omega, by omega, by omega⟩, by omega, by omega, ⟨by first | omega | simp, by omega, by omega⟩, fun z => absurd z (by omega), fun z => absurd z (by omega), fun z => absurd z (by omega), fun z => absurd z (by omega), fun z => absurd z (by omega), fun z => absurd z (by omega), fun z => absurd z (by omega), fun z => absurd z (by omega), fun z => absurd z (by omega), fun z => absurd z (by omega), fun z => absurd z (by omega), fun z => absurd z (by omega), fun z => absurd z (by omega), fun z => absurd z (by omega), fun z => absurd z (by omega), fun z => absurd z (by omega), fun z => absurd z (by omega), fun z => absurd z (by omega), fun z => absurd z (by omega), fun z => absurd z (by omega), fun z => absurd z (by omega), fun z => absurd z (by omega), fun z => absurd z (by omega), fun z => absurd z (by omega), fun z => absurd z (by omega), fun z => absurd z (by omega), fun z => absurd z (by omega), fun z => absurd z (by omega)⟩), ⟨⟨⟨by (try simp only [pk_sum]); omega, by (try simp only [pk_sum]); omega⟩, hPP⟩, ⟨by (try simp only [pk_sum, List.length_cons]); (try dsimp only); omega, (by intro y z e; have q := p2' y z e; dsimp only at q ⊢; omega)⟩, (show pt_ok op ht st rg W P lo r wn (19, k, wh) (s) (cc + 1) (t) (1) (tu) from by unfold pt_ok; (try dsimp only); (try simp only [pk_sum]); exact ⟨⟨by omega, by omega, by omega, by omega⟩, by omega, by omega, ⟨by first | omega | simp, by omega, by omega⟩, fun z => absurd z (by omega), fun z => absurd z (by omega), fun z => absurd z (by omega), fun z => absurd z (by omega), fun z => absurd z (by omega), fun z => absurd z (by omega), fun z => absurd z (by omega), fun z => absurd z (by omega), fun z => absurd z (by omega), fun z => absurd z (by omega), fun z => absurd z (by omega), fun z => absurd z (by omega), fun z => absurd z (by omega), fun z => absurd z (by omega), fun z => absurd z (by omega), fun z => absurd z (by omega), fun _ => ⟨by first | trivial | omega, hl, hq19⟩, fun z => absurd z (by omega), fun z => absurd z (by omega), fun z => absurd z (by omega), fun z => absurd z (by omega), fun z => absurd z (by omega), fun z => absurd z (by omega), fun z => absurd z (by omega), fun z => absurd z (by omega), fun z => absurd z (by omega), fun z => absurd z (by omega), fun z => absurd z (by omega)⟩), (pt_eq (show _ = 0 by omega) (show _ = t by omega) (show _ = 0 by omega) p4)⟩⟩⟩
theorem lt_pop {W : Int} {w : Nat} (hw : (w : Int) < W - 1) : w < (W - 1).toNat ∧ (w : Int) < W ∧ (((W - 1).toNat : Nat) : Int) < W := by omega
theorem pi_C_pop {h H : ja_H} {ht st rg : Nat → Int} {s s' : List mo_A} (hC : pi_C h ht st rg (h 0 113) s) (f1 : (H 74) = (h 74)) (f2 : (H 75) = (h 75)) (f3 : (H 76) = (h 76)) (e9 : (H 0 11) = (h 0 11)) (e1 : (H 0 88) = (h 0 88)) (hwt : ∀ x y z, pw_wt H x y z = pw_wt h x y z)
    (hpq : ∀ w : Nat, (w : Int) < (h 0 113) - 1 → (h 74) w = 15 → pw_pop H ((h 75) w) = pw_pop h ((h 75) w)) (F3 : ∀ w : Nat, (w : Int) < (h 0 113) → pw_jmp ((h 74) w) → pj_in s w ∨ (h 75) w ≤ (h 0 113) - 1) (hpj : ∀ w, pj_in s w → pj_in s' w)
    (hpp : ∀ w : Nat, (w : Int) < (h 0 113) - 1 → (h 74) w = 15 → ¬ pp_in s ((h 75) w) → ¬ pp_in s' ((h 75) w)) : pi_C H ht st rg ((h 0 113) - 1) s' := by
  intro w hw
  obtain ⟨-, hw2, -⟩ := lt_pop hw
  obtain ⟨x1, x2, x3, x4, x5, x6, x7, x8, x9, x10, x11, x12, x13, x14, x15, x16⟩ := hC w hw2
  have nn1 : pw_need ((h 74) w) ((h 75) w) (pw_pop H ((h 75) w)) = pw_need ((h 74) w) ((h 75) w) (pw_pop h ((h 75) w)) := by
    by_cases z : (h 74) w = 15
    · rw [hpq w hw z]
    · unfold pw_need; simp only [z, if_false]
  have nn2 : pw_eff ((h 74) w) ((h 75) w) (pw_pop H ((h 75) w)) = pw_eff ((h 74) w) ((h 75) w) (pw_pop h ((h 75) w)) := by
    by_cases z : (h 74) w = 15
    · rw [hpq w hw z]
    · unfold pw_eff; simp only [z, if_false]
  unfold pw
  rw [f1, f2, f3, nn1, nn2, e9, e1]
  simp only [hwt]
  refine ⟨x1, x2, x3, x4, x5, x6, x7, x8, x9, fun z => ?_, x11, fun z => ?_, x13, x14, x15, x16⟩
  · rcases F3 w hw2 z with q | q
    · exact Or.inl (hpj _ q)
    · rcases x10 z with q2 | ⟨q2, q3, q4⟩
      · exact Or.inl (hpj _ q2)
      · exact Or.inr ⟨q2, q, q4⟩
  · obtain ⟨a1, a2, a3⟩ := x12 z
    exact ⟨a1, a2, hpp w hw z a3⟩
/-- the last word of an E that may stand before = -/
def as_f (h : ja_H) (ht st rg : Nat → Int) (r tu : Int) (s : List mo_A) : Prop :=
  1 ≤ (h 0 113) ∧ st ((h 0 113) - 1).toNat = 1 ∧ rg ((h 0 113) - 1).toNat = r + 8 * tu ∧ ((h 74) ((h 0 113) - 1).toNat ≠ 12 ∧ (h 74) ((h 0 113) - 1).toNat ≠ 13 ∧ (h 74) ((h 0 113) - 1).toNat ≠ 22 ∧ (h 74) ((h 0 113) - 1).toNat ≠ 23) ∧
  ((h 0 19) = 2 → ht ((h 0 113) - 1).toNat = 1 ∧ (h 74) ((h 0 113) - 1).toNat = 15 ∧ (h 75) ((h 0 113) - 1).toNat = (h 0 20) ∧ (h 52) (h 0 20).toNat = 3 ∧ 0 ≤ (h 0 20) ∧ (h 0 20) < (h 0 88) ∧ ¬ pp_in s (h 0 20)) ∧
  ((h 0 19) = 1 → ht ((h 0 113) - 1).toNat = 0 ∧ (((h 74) ((h 0 113) - 1).toNat = 4 ∧ 0 ≤ (h 75) ((h 0 113) - 1).toNat ∧ (h 75) ((h 0 113) - 1).toNat ≤ 15) ∨ ((h 74) ((h 0 113) - 1).toNat = 6 ∧ 0 ≤ (h 75) ((h 0 113) - 1).toNat ∧ (h 75) ((h 0 113) - 1).toNat ≤ 900 ∧ ((h 0 11) = 0 → 2 ≤ r ∧ pw_wt h 1 ((h 75) ((h 0 113) - 1).toNat) (h 0 76))))) ∧
  (∀ w : Nat, (w : Int) < (h 0 113) → pw_jmp ((h 74) w) → pj_in s w ∨ (h 75) w ≤ (h 0 113) - 1)
theorem as_1 {h : ja_H} {ht st rg : Nat → Int} {r tu : Int} {s : List mo_A} (h0 : 0 ≤ (h 0 113)) (hC : pi_C h ht st rg (h 0 113) s) (hf : pi_form h ht s) (hform : (h 0 19) = 1 ∨ (h 0 19) = 2) (hr : rg (h 0 113).toNat = r + 8 * tu) (h1 : ht (h 0 113).toNat = 1) (h2 : st (h 0 113).toNat = 1) (hr3 : 0 ≤ r ∧ r ≤ 3) : as_f h ht st rg r tu s := by
  obtain ⟨F1, F2, F3⟩ := hf
  have hW1 : 1 ≤ (h 0 113) := by
    rcases hform with q | q
    · exact (F1 q).1
    · exact (F2 q).1
  have eW : (h 0 113).toNat = ((h 0 113) - 1).toNat + 1 := by omega
  have hlast := hC ((h 0 113) - 1).toNat (by omega)
  have c4 := hlast.2.2.2.1
  have c7 := hlast.2.2.2.2.2.2.1
  have c11 := hlast.2.2.2.2.2.2.2.2.2.2.1
  have c12 := hlast.2.2.2.2.2.2.2.2.2.2.2.1
  have c14 := hlast.2.2.2.2.2.2.2.2.2.2.2.2.2.1
  clear hlast hC
  rw [← eW] at c7
  have hop3 : (h 74) ((h 0 113) - 1).toNat = 4 ∨ (h 74) ((h 0 113) - 1).toNat = 6 ∨ (h 74) ((h 0 113) - 1).toNat = 15 := by
    rcases hform with q | q
    · rcases (F1 q).2 with z | z
      · exact Or.inl z
      · exact Or.inr (Or.inl z.1)
    · exact Or.inr (Or.inr (F2 q).2.1)
  obtain ⟨d1, d2, d3, d4⟩ := c7 (by rcases hop3 with z | z | z <;> rw [z] <;> decide)
  clear c7
  have htr : pw_tr ((h 74) ((h 0 113) - 1).toNat) = 0 := by
    rcases hop3 with z | z | z <;> rw [z] <;> rfl
  rw [htr] at d2
  have d4 := d4 (by rcases hop3 with z | z | z <;> rw [z] <;> decide)
  refine ⟨hW1, by rw [h2] at d4; rcases c4 with c4 | c4; (rw [c4] at d4; exact absurd d4 (by decide)); exact c4, by rw [hr] at d2; clear c11 c12 c14 F1 F2 F3; omega, by rcases hop3 with z | z | z <;> rw [z] <;> decide, fun q => ?_, fun q => ?_, F3 hform⟩
  · obtain ⟨-, z2, z3, z4, z5⟩ := F2 q
    have hpop : pw_pop h ((h 75) ((h 0 113) - 1).toNat) = 1 := by
      unfold pw_pop
      rw [z3, z4, z5]; rfl
    rw [z2, hpop] at d1
    have e0 : pw_eff 15 ((h 75) ((h 0 113) - 1).toNat) 1 = 0 := rfl
    obtain ⟨y1, y2, y3⟩ := c12 z2
    rw [z3] at y1 y2 y3
    refine ⟨?_, z2, z3, z4, y1, y2, y3⟩
    clear c11 c12 c14 F1 F2 F3
    omega
  · rcases (F1 q).2 with z | z
    · rw [z] at d1
      have e0 : ∀ x y, pw_eff 4 x y = 1 := fun _ _ => rfl
      rw [e0] at d1
      refine ⟨?_, Or.inl ⟨z, c11 (Or.inl z)⟩⟩
      clear c11 c12 c14 F1 F2 F3
      omega
    · rw [z.1] at d1
      have e0 : ∀ x y, pw_eff 6 x y = 1 := fun _ _ => rfl
      rw [e0] at d1
      obtain ⟨y1, y2, y3, y4, y5⟩ := c14 (Or.inl z.1)
      rw [z.2] at y5
      refine ⟨?_, Or.inr ⟨z.1, y1, y2, fun e => ⟨?_, (y5 e).2⟩⟩⟩
      · clear c11 c12 c14 F1 F2 F3 y5
        omega
      · have := (y5 e).1
        clear c11 c12 c14 F1 F2 F3 y5
        omega
/-- a POINT's kind is told anew -/
theorem as_pk {h H : ja_H} {k wh : Int} (hk : (k = 2 ∧ (h 0 19) = 2 ∧ wh = (h 0 20) ∧ (H 52) wh.toNat = 4 ∧ (H 55) wh.toNat = 1 ∧ ∀ j : Nat, j ≠ wh.toNat → (H 52) j = (h 52) j ∧ (H 55) j = (h 55) j) ∨ ((h 0 19) = 1 ∧ wh = (h 75) ((h 0 113) - 1).toNat ∧ ((k = 1 ∧ (h 74) ((h 0 113) - 1).toNat = 6) ∨ (k = 0 ∧ (h 74) ((h 0 113) - 1).toNat ≠ 6)) ∧ (H 52) = (h 52) ∧ (H 55) = (h 55)))
    (h3 : (h 0 19) = 2 → (h 52) (h 0 20).toNat = 3 ∧ 0 ≤ (h 0 20)) (p : Int) (hp : 0 ≤ p) (hn : (h 52) p.toNat ≠ 3 ∨ (h 0 19) ≠ 2 ∨ p ≠ (h 0 20)) : (H 52) p.toNat = (h 52) p.toNat ∧ (H 55) p.toNat = (h 55) p.toNat := by
  rcases hk with ⟨-, q, q1, -, -, q4⟩ | ⟨-, -, -, q1, q2⟩
  · refine q4 _ ?_
    intro e
    have h0 := (h3 q).2
    have e' : p = (h 0 20) := by omega
    rcases hn with z | z | z
    · exact z (by rw [e']; exact (h3 q).1)
    · exact z q
    · exact z e'
  · rw [q1, q2]; exact ⟨rfl, rfl⟩
theorem as_wn {h H : ja_H} {r : Int} (hpk : ∀ p : Int, 0 ≤ p → ((h 52) p.toNat ≠ 3 ∨ (h 0 19) ≠ 2 ∨ p ≠ (h 0 20)) → (H 52) p.toNat = (h 52) p.toNat ∧ (H 55) p.toNat = (h 55) p.toNat) (e9 : (H 0 11) = (h 0 11)) (e7 : (H 0 76) = (h 0 76)) (e1 : (H 0 88) = (h 0 88)) (hwt : ∀ x y z, pw_wt H x y z = pw_wt h x y z) (e2 : (H 0 95) = (h 0 95)) (l6 : (H 67) = (h 67)) (y : Int) (z : pi_wn h r y) : pi_wn H r y := by
  unfold pi_wn at z ⊢
  rw [e9, e7, e1, hwt]
  refine ⟨⟨z.1.1, by rw [nf_keep e2 l6]; exact z.1.2⟩, z.2.1, fun q => ?_, fun q => ?_, fun q => ?_⟩
  · have z3 := z.2.2.1 q
    exact ⟨z3.1, by rw [(hpk _ (by omega) (Or.inl (by omega))).1]; exact z3.2⟩
  · have z3 := z.2.2.2.1 q
    exact ⟨z3.1, by rw [(hpk _ (by omega) (Or.inl (by omega))).1]; exact z3.2⟩
  · have z3 := z.2.2.2.2 q
    have := hpk (y - 3000000) (by omega) (Or.inl (by omega))
    exact ⟨z3.1, by rw [this.1]; exact z3.2.1, by rw [this.2]; exact z3.2.2⟩
theorem bs_assign {h H : ja_H} {R r ph q0 : Int} {tf : mo_TF} {s : List mo_A} {ht st rg : Nat → Int} {tu a b k wh : Int} (g : mo_G Zz h) (hB : piB h R r ph tf q0 ((18, a, b) :: s) ht st rg tu)
    (hk : (k = 2 ∧ (h 0 19) = 2 ∧ wh = (h 0 20) ∧ (H 52) wh.toNat = 4 ∧ (H 55) wh.toNat = 1 ∧ ∀ j : Nat, j ≠ wh.toNat → (H 52) j = (h 52) j ∧ (H 55) j = (h 55) j) ∨ ((h 0 19) = 1 ∧ wh = (h 75) ((h 0 113) - 1).toNat ∧ ((k = 1 ∧ (h 74) ((h 0 113) - 1).toNat = 6) ∨ (k = 0 ∧ (h 74) ((h 0 113) - 1).toNat ≠ 6)) ∧ (H 52) = (h 52) ∧ (H 55) = (h 55)))
    (htf : tf_ok ph tf) (ag : mo_ag FAS h H) (v_words : (H 0 113) = (h 0 113) - 1) (v_at : (H 0 7) = (h 0 7) + 1) : piB H R r ph tf q0 ((1, 0, 0) :: (37, 59, 0) :: (19, k, wh) :: s) ht st rg tu := by
  have hr := reg_of hB (by dsimp only; omega) (by dsimp only; omega)
  obtain ⟨⟨n1, n2, n3, n4, n5, n6, n7, n8, n9⟩, ⟨b1, b2, b3, b4⟩, reg, hpt, ⟨hC, hU⟩, hNo, hP, hT, top⟩ := id hB
  obtain ⟨⟨⟨p1, p1'⟩, p1u⟩, ⟨p2, p2'⟩, p3, p4⟩ := hpt
  simp only [pk_sum] at n1 n2 n3 n6 n7
  dsimp only at p2 p2'
  have ec1 : pk_c 1 = 0 := rfl
  have ev1 : pk_v 1 = (-4) := rfl
  have ed1 : pk_d 1 = 0 := rfl
  have eq1 : pk_q 1 = 0 := rfl
  have ef1 : pk_f 1 = 0 := rfl
  have em1 : pk_m 1 = (-10) := rfl
  have eoff1 : pk_off 1 = 7 := rfl
  have ek1 : pk_k r 1 = 0 := rfl
  have ec18 : pk_c 18 = 0 := rfl
  have ev18 : pk_v 18 = 1 := rfl
  have ed18 : pk_d 18 = 0 := rfl
  have eq18 : pk_q 18 = 0 := rfl
  have ef18 : pk_f 18 = 0 := rfl
  have em18 : pk_m 18 = 1 := rfl
  have eoff18 : pk_off 18 = 1 := rfl
  have ek18 : pk_k r 18 = 0 := rfl
  have ec19 : pk_c 19 = 0 := rfl
  have ev19 : pk_v 19 = 2 := rfl
  have ed19 : pk_d 19 = 0 := rfl
  have eq19 : pk_q 19 = 0 := rfl
  have ef19 : pk_f 19 = 0 := rfl
  have em19 : pk_m 19 = 1 := rfl
  have eoff19 : pk_off 19 = 1 := rfl
  have ek19 : pk_k r 19 = 0 := rfl
  have ec37 : pk_c 37 = 0 := rfl
  have ev37 : pk_v 37 = 0 := rfl
  have ed37 : pk_d 37 = 0 := rfl
  have eq37 : pk_q 37 = 0 := rfl
  have ef37 : pk_f 37 = 0 := rfl
  have em37 : pk_m 37 = 1 := rfl
  have eoff37 : pk_off 37 = 3 := rfl
  have ek37 : pk_k r 37 = 0 := rfl
  replace p3 : pt_ok (h 74) ht st rg (h 0 113) (h 0 88) (h 0 77) r (pi_wn h r) (18, a, b) s (ht (h 0 113).toNat - 0) (h 0 109) (st (h 0 113).toNat) tu := p3
  unfold pt_ok at p3; dsimp only at p3
  replace p4 : pt (h 74) ht st rg (h 0 113) (h 0 88) (h 0 77) r tf (pi_wn h r) s 0 (h 0 109) 0 tu := p4
  obtain ⟨-, xc, xt, ⟨xe, xu1, xu2⟩, -, -, -, -, -, -, -, -, -, -, -, -, -, -, xo17, -, -, -, -, -, -, -, -, -, -, -, -, xo18⟩ := p3
  replace xo17 := xo17 (by omega)
  have xq1o17 := xo17.1
  have xq2o17 := xo17.2.1
  replace xo18 := xo18 (by omega)
  have N6a := pk_sum_c0 s
  have hbo := gF_body g
  have W0 : 0 ≤ (h 0 113) := (gF_words g).1
  have hr3 : (0 ≤ r ∧ r ≤ 3) ∧ ph = 0 := by
    rcases reg with ⟨q1, q2, -⟩ | ⟨q1, q2, q3, -⟩
    · omega
    · have := q3 _ List.mem_cons_self; dsimp only at this; omega
  have hal30 : ∀ y ∈ s, y.1 ≤ 30 ∨ 37 ≤ y.1 := by
    rcases reg with ⟨q1, q2, q3, q4, q5⟩ | ⟨q1, -⟩
    · exact fun y hy => q5 y (List.mem_cons_of_mem _ hy)
    · omega
  have hinIf : (h 0 86) = 0 ∧ r = R := by
    rcases reg with ⟨q1, q2, q3, q4, q5⟩ | ⟨q1, -⟩
    · exact ⟨q3, q2⟩
    · omega
  have hW0 : tf.2.1 ≠ (h 0 113) := by
    intro e
    obtain ⟨z1, z2⟩ := htf.1 hr3.2
    have z3 := ((pt_base p4).2.1 (h 0 113).toNat (by rw [e]; omega)).2.1
    rw [← e, z2] at z3
    rw [e] at z3
    have := xo17.2.1
    omega
  have hform : (h 0 19) = 1 ∨ (h 0 19) = 2 := by
    rcases hk with ⟨-, q, -⟩ | ⟨q, -⟩
    · exact Or.inr q
    · exact Or.inl q
  obtain ⟨hW1, hst, hrgl, hopn, A2, A1, F3⟩ := as_1 W0 hC (top.1 (Or.inr (Or.inr rfl))) hform hr.1 (by omega) (by omega) hr3.1
  have e1 : (H 0 88) = (h 0 88) := ag _ _ rfl
  have e2 : (H 0 95) = (h 0 95) := ag _ _ rfl
  have e3 : (H 0 109) = (h 0 109) := ag _ _ rfl
  have e4 : (H 0 72) = (h 0 72) := ag _ _ rfl
  have e5 : (H 0 68) = (h 0 68) := ag _ _ rfl
  have e6 : (H 0 74) = (h 0 74) := ag _ _ rfl
  have e7 : (H 0 76) = (h 0 76) := ag _ _ rfl
  have e8 : (H 0 86) = (h 0 86) := ag _ _ rfl
  have e9 : (H 0 11) = (h 0 11) := ag _ _ rfl
  have e10 : (H 0 34) = (h 0 34) := ag _ _ rfl
  have e11 : (H 0 18) = (h 0 18) := ag _ _ rfl
  have e12 : (H 0 84) = (h 0 84) := ag _ _ rfl
  have e13 : (H 0 87) = (h 0 87) := ag _ _ rfl
  have e14 : (H 0 79) = (h 0 79) := ag _ _ rfl
  have e15 : (H 0 77) = (h 0 77) := ag _ _ rfl
  have f1 : (H 74) = (h 74) := funext fun j => ag _ _ rfl
  have f2 : (H 75) = (h 75) := funext fun j => ag _ _ rfl
  have f3 : (H 76) = (h 76) := funext fun j => ag _ _ rfl
  have l1 : (H 58) = (h 58) := funext fun j => ag _ _ rfl
  have l2 : (H 59) = (h 59) := funext fun j => ag _ _ rfl
  have l3 : (H 60) = (h 60) := funext fun j => ag _ _ rfl
  have l4 : (H 62) = (h 62) := funext fun j => ag _ _ rfl
  have l5 : (H 63) = (h 63) := funext fun j => ag _ _ rfl
  have l6 : (H 67) = (h 67) := funext fun j => ag _ _ rfl
  have l7 : (H 47) = (h 47) := funext fun j => ag _ _ rfl
  have k3 : (H 54) = (h 54) := funext fun j => ag _ _ rfl
  have k4 : (H 56) = (h 56) := funext fun j => ag _ _ rfl
  have k5 : (H 57) = (h 57) := funext fun j => ag _ _ rfl
  have m2 : (H 24) = (h 24) := funext fun j => ag _ _ rfl
  have g6 : (H 45) = (h 45) := funext fun j => ag _ _ rfl
  have g7 : (H 44) = (h 44) := funext fun j => ag _ _ rfl
  have g8 : (H 46) = (h 46) := funext fun j => ag _ _ rfl
  have hwt : ∀ x y z, pw_wt H x y z = pw_wt h x y z := pw_wt_ag e5 g6 g7 g8
  have hpk := as_pk hk (fun q => ⟨(A2 q).2.2.2.1, (A2 q).2.2.2.2.1⟩)
  have hwn := as_wn (r := r) hpk e9 e7 e1 hwt e2 l6
  have hpts := (gF_points g).2
  -- what waits behind the =
  have hcc : ((k = 2 ∧ ht ((h 0 113) - 1).toNat + 1 = 2 ∧ 0 ≤ wh ∧ wh < (h 0 88) ∧ pi_wn H r (3000000 + wh)) ∨ (k = 1 ∧ ht ((h 0 113) - 1).toNat + 1 = 1 ∧ 0 ≤ wh ∧ wh ≤ 900 ∧ pi_wn H r wh) ∨ (k = 0 ∧ ht ((h 0 113) - 1).toNat + 1 = 1 ∧ 0 ≤ wh ∧ wh ≤ 15)) ∧ (0 ≤ ht ((h 0 113) - 1).toNat ∧ ht ((h 0 113) - 1).toNat ≤ 1) ∧ (k = 2 → ¬ pp_in s wh) := by
    clear hC hU hNo hP hT top reg b4 p1u p2' p4 F3
    rcases hk with ⟨q0', q, q1, q2, q3, -⟩ | ⟨q, q1, q2, -⟩
    · obtain ⟨z0, z1, z2, z3, z4, z5, z6⟩ := A2 q
      refine ⟨Or.inl ⟨q0', by omega, by omega, by omega, ⟨⟨fun e => absurd e (by omega), fun e => absurd e (by omega)⟩, fun e => absurd e.2 (by omega), fun e => absurd e.2 (by omega), fun e => absurd e.2 (by omega), fun _ => ?_⟩⟩, by omega, fun _ => ?_⟩
      · rw [show (3000000 + wh - 3000000 : Int) = wh by omega, e1]
        exact ⟨by omega, q2, q3⟩
      · rw [q1]; intro zz; exact z6 (pp_cons.mpr (Or.inr zz))
    · obtain ⟨z0, z1⟩ := A1 q
      refine ⟨Or.inr ?_, by omega, fun e => by omega⟩
      rcases q2 with ⟨q3, q4⟩ | ⟨q3, q4⟩
      · rcases z1 with z1 | ⟨-, y1, y2, y3⟩
        · omega
        · refine Or.inl ⟨q3, by omega, by omega, by omega, ⟨⟨fun e => absurd e (by omega), fun e => absurd e (by omega)⟩, fun _ e => ?_, fun e => absurd e.1 (by omega), fun e => absurd e.1 (by omega), fun e => absurd e (by omega)⟩⟩
          rw [e9] at e
          rw [hwt, e7, q1]
          exact y3 e
      · rcases z1 with ⟨-, y1, y2⟩ | z1
        · exact Or.inr ⟨q3, by omega, by omega, by omega⟩
        · omega
  obtain ⟨hq19, hc01, hnp⟩ := hcc
  have hPP : ∀ p, pp (19, k, wh) p → ¬ pp_in s p := by
    intro p z
    rcases z with ⟨z, -⟩ | ⟨-, z1, z2⟩
    · simp at z
    · dsimp only at z1 z2; rw [← z2]; exact hnp z1
  have hpjj : ∀ w, pj_in ((18, a, b) :: s) w → pj_in ((1, 0, 0) :: (37, 59, 0) :: (19, k, wh) :: s) w := fun w q => by
    simp only [pj_cons] at q ⊢
    rcases q with q | q
    · exact absurd q (idle_of (show (18 : Int) ≠ 4 ∧ (18 : Int) ≠ 21 ∧ (18 : Int) ≠ 22 ∧ (18 : Int) ≠ 28 ∧ (18 : Int) ≠ 24 by decide) w)
    · exact Or.inr (Or.inr (Or.inr q))
  have hne : ∀ w : Nat, (w : Int) < (h 0 113) - 1 → (h 74) w = 15 → (h 0 19) = 2 → (h 75) w ≠ (h 0 20) := fun w hw z q => by
    obtain ⟨y1, -, y3⟩ := lt_pop hw
    have := hU w ((h 0 113) - 1).toNat y1 y3 z (A2 q).2.1
    rw [(A2 q).2.2.1] at this; exact this
  have hp0 : ∀ w : Nat, (w : Int) < (h 0 113) - 1 → (h 74) w = 15 → 0 ≤ (h 75) w := fun w hw z => ((hC w (lt_pop hw).2.1).2.2.2.2.2.2.2.2.2.2.2.1 z).1
  refine ⟨⟨?_, ?_, ?_, ?_, ?_, ?_, ?_, n8, n9⟩, ⟨e6.trans b1, ?_, ?_, fun q => ?_⟩, ?_, ?_, ⟨?_, ?_⟩, ?_, ?_, pi_T_ag (ag_sub FAS_FT ag) hT, ⟨fun e => absurd e (by dsimp only; omega), fun e => absurd e (by dsimp only; omega), fun _ y z e => by cases e; intro q; exact absurd q (by dsimp only; omega), fun e => absurd e (by dsimp only; omega)⟩⟩
  · rw [e11]; simp only [pk_sum]; omega
  · rw [v_words, v_at]; simp only [pk_sum]; omega
  · rw [e2, v_at]; simp only [pk_sum]; omega
  · rw [e5, v_at]; omega
  · rw [e4, e2]; exact n5
  · rw [e12]; simp only [pk_sum]; omega
  · rw [e13]; simp only [pk_sum]; omega
  · rw [e14, e15]; exact b2
  · rw [e15]; exact b3
  · rw [e15]
    refine b4 (fun z => q ?_)
    intro y hy; simp only [List.mem_cons] at hy; rcases hy with rfl | rfl | rfl | hy
    · show (1 : Int) ≠ 17; decide
    · show (37 : Int) ≠ 17; decide
    · show (19 : Int) ≠ 17; decide
    · exact z y (List.mem_cons_of_mem _ hy)
  · rw [e8, v_words]
    refine Or.inl ⟨hr3.2, hinIf.2, hinIf.1, hrgl, fun y hy => ?_⟩
    simp only [List.mem_cons] at hy; rcases hy with rfl | rfl | rfl | hy
    · exact Or.inl (show (1 : Int) ≤ 30 by decide)
    · exact Or.inr (show (37 : Int) ≤ 37 by decide)
    · exact Or.inl (show (19 : Int) ≤ 30 by decide)
    · exact hal30 y hy
  · rw [v_words, f1, e1, e15, e3, hst]
    exact pt_eq (show ht ((h 0 113) - 1).toNat = ht ((h 0 113) - 1).toNat - 0 from (Int.sub_zero _).symm) rfl rfl (bs_assign_pt p1 p1' (by rw [eoff18] at p2; exact p2) p2' N6a (gF_treeTop g).1 xu1 xu2 hc01 xo18 xo17.2.2 hq19 hPP (pt_ext (Int.le_refl _) (Int.le_refl _) (Int.le_refl _) hwn (fun j hj => ⟨fun _ => rfl, rfl, rfl, rfl⟩) (pt_pop hopn hst hW0 hal30 p4)))
  · rw [v_words]
    refine pi_C_pop hC f1 f2 f3 e9 e1 hwt (fun w hw z => ?_) F3 hpjj (fun w hw z q y => ?_)
    · unfold pw_pop
      have hor : (h 52) ((h 75) w).toNat ≠ 3 ∨ (h 0 19) ≠ 2 ∨ (h 75) w ≠ (h 0 20) := by
        by_cases q : (h 0 19) = 2
        · exact Or.inr (Or.inr (hne w hw z q))
        · exact Or.inr (Or.inl q)
      have := hpk _ (hp0 w hw z) hor
      rw [this.1, this.2]
    · simp only [pp_cons] at q y
      rcases y with y | y | y | y
      · simp [pp] at y
      · simp [pp] at y
      · rcases y with ⟨y, -⟩ | ⟨-, y1, y2⟩
        · simp at y
        · dsimp only at y1 y2
          rcases hk with ⟨-, q2, q1, -⟩ | ⟨-, -, q1, -⟩
          · exact hne w hw z q2 (by rw [← y2, q1])
          · rcases q1 with q1 | q1
            · rw [q1.1] at y1; exact absurd y1 (by decide)
            · rw [q1.1] at y1; exact absurd y1 (by decide)
      · exact q (Or.inr y)
  · rw [v_words]
    intro w v hwv hv z1 z2
    rw [f1] at z1 z2; rw [f2]
    exact hU w v hwv (lt_pop hv).2.1 z1 z2
  · rw [v_words]
    refine ⟨fun n hn => ?_, by unfold pi_V; rw [e4, l7, e2, l1]; exact hNo.2⟩
    rw [e2] at hn
    have q := pn_f (H := H) l1 l2 l3 l4 l5 l6 l7 e4 (fun z => by rw [← e9]; exact z) (fun x y z q => by rw [hwt]; exact q) (hNo.1 n hn)
    obtain ⟨q1, q2, q3, q4, q5, q6⟩ := q
    refine ⟨q1, q2, fun z => ?_, q4, q5, q6⟩
    obtain ⟨y1, y2, y3, y4⟩ := q3 z
    have hneq : (H 59) n ≠ (h 0 113) - 1 := fun e => by
      rw [e, hrgl] at y4
      have := hr3.1
      clear A1 A2 hk hq19 b4 top q1 q2 q3 q4 q5 q6
      omega
    exact ⟨y1, Int.lt_iff_le_and_ne.mpr ⟨Int.le_sub_one_of_lt y2, hneq⟩, y3, y4⟩
  · refine ⟨fun m hm => ?_, fun p hp => ?_⟩
    · rw [e10] at hm
      rw [m2, e1]
      obtain ⟨a1, a2, a3⟩ := hP.1 m hm
      exact ⟨a1, a2, by rw [(hpk _ a1 (Or.inl (by rw [a3]; decide))).1]; exact a3⟩
    · rw [e1] at hp
      obtain ⟨a1, a2, a3, a4⟩ := hP.2 p hp
      rw [k3, k4, k5, e10]
      have hp0 : ((p : Nat) : Int).toNat = p := rfl
      by_cases q : (h 0 19) = 2 ∧ (p : Int) = (h 0 20)
      · have z3 : (h 52) p = 3 := by
          have := (A2 q.1).2.2.2.1
          rw [← q.2, hp0] at this; exact this
        rcases hk with ⟨-, -, y1, y2, -⟩ | ⟨y, -⟩
        · rw [y1, ← q.2, hp0] at y2
          rw [y2]
          exact ⟨by rcases a1 with a1 | a1; (rw [z3] at a1; exact absurd a1 (by decide)); exact Or.inr a1, a2, fun z => absurd z (by decide), fun z => absurd z (by decide)⟩
        · rw [q.1] at y; exact absurd y (by decide)
      · have hor : (h 52) ((p : Nat) : Int).toNat ≠ 3 ∨ (h 0 19) ≠ 2 ∨ ((p : Nat) : Int) ≠ (h 0 20) := by
          by_cases q2 : (h 0 19) = 2
          · exact Or.inr (Or.inr (fun e => q ⟨q2, e⟩))
          · exact Or.inr (Or.inl q2)
        have := hpk p (Int.natCast_nonneg _) hor
        rw [hp0] at this
        rw [this.1]
        exact ⟨a1, a2, a3, fun z => by rw [hwt]; exact a4 z⟩
