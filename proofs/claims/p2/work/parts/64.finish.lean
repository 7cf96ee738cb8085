/-! the reference: finish (written by a program) -/
/-! the reference: what is compiled -/
/-- a word of a program that is compiled -/
def pf (h : ja_H) (ht st rg : Nat → Int) (W : Int) (w : Nat) : Prop :=
  (1 ≤ (h 74) w ∧ (h 74) w ≤ 26) ∧ (0 ≤ ht w ∧ ht w ≤ 119) ∧ (0 ≤ rg w ∧ rg w ≤ 132 ∧ rg w % 8 ≤ 4) ∧ (st w = 0 ∨ st w = 1) ∧
  pw_need ((h 74) w) ((h 75) w) (pw_pop h ((h 75) w)) ≤ ht w ∧
  ((h 74) w = 26 → ht (w + 1) = 0 ∧ st (w + 1) = 0) ∧
  ((h 74) w ≠ 26 → ht (w + 1) = ht w + pw_eff ((h 74) w) ((h 75) w) (pw_pop h ((h 75) w)) ∧ rg (w + 1) = rg w + 8 * pw_tr ((h 74) w) ∧ (st (w + 1) = 0 ∨ st (w + 1) = 1) ∧ ((h 74) w ≠ 25 → st (w + 1) ≤ st w)) ∧
  ((h 74) w = 18 ∨ (h 74) w = 23 → st w = 1 ∧ st (w + 1) = 0) ∧
  ((h 74) w = 21 ∨ (h 74) w = 23 ∨ (h 74) w = 24 ∨ (h 74) w = 25 → ht w = 0) ∧
  (pw_jmp ((h 74) w) → 0 ≤ (h 75) w ∧ (h 75) w ≤ W ∧ ht ((h 75) w).toNat = ht w + pw_th ((h 74) w) ∧ rg ((h 75) w).toNat = rg w + 8 * pw_tj ((h 74) w) ∧ st ((h 75) w).toNat + pw_ts ((h 74) w) ≤ st w ∧ ((w : Int) < (h 75) w ∨ ((h 75) w < w ∧ st ((h 75) w).toNat = 0 ∧ st (((h 75) w).toNat + 1) = 1))) ∧
  ((h 74) w = 4 ∨ (h 74) w = 5 → 0 ≤ (h 75) w ∧ (h 75) w ≤ 15) ∧
  ((h 74) w = 15 → 0 ≤ (h 75) w ∧ (h 75) w < (h 0 88)) ∧
  ((h 74) w = 16 ∨ (h 74) w = 3 → 0 ≤ (h 75) w ∧ (h 75) w ≤ 7 ∧ 13 * (rg w % 8) = 2 * (h 74) w + 7) ∧
  ((h 74) w = 6 ∨ (h 74) w = 7 → 0 ≤ (h 75) w ∧ (h 75) w ≤ 9 ∧ 0 ≤ (h 76) w ∧ (h 76) w ≤ 7 ∧ 2 ≤ rg w % 8) ∧
  ((h 74) w = 8 → 0 ≤ (h 75) w ∧ (h 75) w ≤ 11) ∧
  (rg w % 8 = 4 → (rg w = 4 ∧ ht w ≤ 60 ∧ ((h 74) w = 4 → (h 75) w ≤ 6)) ∧ ((h 74) w = 1 ∨ (h 74) w = 2 ∨ (h 74) w = 4 ∨ (h 74) w = 6 ∨ (8 ≤ (h 74) w ∧ (h 74) w ≤ 14) ∨ (h 74) w = 26))
/-- a node of a program that is compiled -/
def ciN (h : ja_H) (ht rg : Nat → Int) (n : Nat) : Prop :=
  ((h 58) n = 13 ∨ (h 58) n = 14 → 0 ≤ (h 59) n ∧ (h 59) n < n ∧ 0 ≤ (h 60) n ∧ (h 60) n < n ∧ (h 67) ((h 59) n).toNat = (h 67) n ∧ (h 67) ((h 60) n).toNat = (h 67) n) ∧
  ((h 58) n = 11 ∨ (h 58) n = 15 → 0 ≤ (h 59) n ∧ (h 59) n < n ∧ (h 67) ((h 59) n).toNat = (h 67) n) ∧
  ((h 58) n = 10 → 0 ≤ (h 59) n ∧ (h 59) n < (h 0 113) ∧ ht ((h 59) n).toNat = 0 ∧ rg ((h 59) n).toNat = 4) ∧
  ((h 58) n = 12 → (h 67) n = 0 ∧ (0 ≤ (h 59) n ∧ (h 59) n < (h 0 52)) ∧ ∀ k : Nat, (k : Int) < (h 62) n → 0 ≤ (h 63) (7 * n + k) ∧ (h 63) (7 * n + k) ≤ 6) ∧
  ((h 58) n = 7 ∨ (h 58) n = 8 → lnY ((h 59) n)) ∧
  ((h 58) n = 9 → ∀ k : Nat, (k : Int) < (h 62) n → (h 63) (7 * n + k) = -1 ∨ lnY ((h 63) (7 * n + k)))
def CI (h : ja_H) (ht st rg : Nat → Int) : Prop := (∀ w : Nat, (w : Int) < (h 0 113) → pf h ht st rg (h 0 113) w) ∧ rg (h 0 113).toNat = 200 ∧ (∀ n : Nat, (n : Int) < (h 0 95) → ciN h ht rg n) ∧ pi_P h ∧ it_S h ht st rg ∧ (∃ rk, rk_P (h 12) (h 0 22) rk) ∧ (∀ j : Nat, (j : Int) < (h 0 44) → (h 81) j < (h 0 44)) ∧ ∀ p : Nat, (p : Int) < (h 0 88) → (h 52) p = 2 → 0 ≤ clF h ((h 5) ((h 54) p).toNat)
def FP2 : Nat → Nat → Bool := mo_F [88, 34] [52, 54, 56, 57, 24]
theorem pP_keep2 {h H : ja_H} (oP : pi_P h) (ag : mo_ag FP2 h H) (hv : ∀ k a b, pw_wt h k a b → pw_wt H k a b) : pi_P H := by
  have e2 : (H 0 88) = (h 0 88) := ag _ _ rfl
  have k1 : (H 52) = (h 52) := funext fun j => ag _ _ rfl
  have k3 : (H 54) = (h 54) := funext fun j => ag _ _ rfl
  have k4 : (H 56) = (h 56) := funext fun j => ag _ _ rfl
  have k5 : (H 57) = (h 57) := funext fun j => ag _ _ rfl
  have m1 : (H 0 34) = (h 0 34) := ag _ _ rfl
  have m2 : (H 24) = (h 24) := funext fun j => ag _ _ rfl
  refine ⟨fun m hm => ?_, fun p hp => ?_⟩
  · rw [m1] at hm
    rw [m2, e2, k1]
    exact oP.1 m hm
  · rw [e2] at hp
    rw [k1, k3, k4, k5, m1]
    obtain ⟨a1, a2, a3, a4⟩ := oP.2 p hp
    exact ⟨a1, a2, a3, fun z => hv _ _ _ (a4 z)⟩
def FFF : Nat → Nat → Bool := mo_X [11, 12] [59, 12, 84, 75, 21]
def fiW (h u : ja_H) (n : Int) : Prop := (∀ w : Nat, n ≤ w → (u 75) w = (h 75) w) ∧ ∀ w : Nat, (w : Int) < n → (((h 74) w = 6 ∨ (h 74) w = 7 → 0 ≤ (u 75) w ∧ (u 75) w ≤ 9) ∧ ((h 74) w = 8 → 0 ≤ (u 75) w ∧ (u 75) w ≤ 11) ∧ (¬ ((h 74) w = 6 ∨ (h 74) w = 7 ∨ (h 74) w = 8) → (u 75) w = (h 75) w))
def fiS (h u : ja_H) (n : Int) : Prop := ((h 0 11) = 0 ∧ waS h (h 0 68) ∧ odD h (h 0 64)) ∧ mo_ag FFF h u ∧ ((∃ rk, rk_P (u 12) (h 0 22) rk) ∧ ∀ c : Nat, (h 0 22) ≤ (c : Int) → (u 12) c = (h 12) c) ∧ ((∀ j : Nat, (∀ k : Nat, (k : Int) < (h 0 72) → (h 47) k ≠ j) → (u 59) j = (h 59) j) ∧ ∀ k : Nat, (k : Int) < (h 0 72) → 0 ≤ (u 59) ((h 47) k).toNat ∧ (u 59) ((h 47) k).toNat < (h 0 52)) ∧ fiW h u n
theorem fi_start {h h1 h2 : ja_H} {f p : Int} (hod : f = 0 → (h 0 11) = 0 ∧ odD h (h 0 64)) (w : waU (ja_up (ja_up h 0 11 f) 0 12 p) h1 (h 0 72)) (w2 : (h1 0 11) = 0 → waS (ja_up (ja_up h 0 11 f) 0 12 p) (h 0 68)) (pa : paI h1 h2) (z : (h2 0 11) = 0) : fiS h h2 0 := by
  obtain ⟨w3, w4, w5⟩ := w
  obtain ⟨p1, p2, rk, p3⟩ := pa
  have z1 := p2.1 z
  obtain ⟨z2, z3⟩ := w5 z1
  obtain ⟨y1, y2⟩ := hod z2
  have e1 : (h1 0 22) = (h 0 22) := w3 _ _ rfl
  have eN : (h2 59) = (h1 59) := funext fun j => p1 _ _ rfl
  refine ⟨⟨y1, w2 z1, y2⟩, ag_trans (h' := h1) (ag_trans (h' := ja_up (ja_up h 0 11 f) 0 12 p) (ag_up rfl (ag_up rfl ag_refl)) (ag_sub (X_X (by decide) (by decide)) w3)) (ag_sub (X_X (by decide) (by decide)) p1), ⟨⟨rk, by rw [← e1]; exact p3⟩, fun c hc => (p2.2 c (by rw [e1]; exact hc)).trans (w3 _ _ rfl)⟩, ⟨fun j hj => by rw [eN]; exact w4 j hj, fun k hk => by rw [eN]; exact z3 k hk⟩, ⟨fun w _ => (p1 _ _ rfl).trans (w3 _ _ rfl), fun w hw => by omega⟩⟩
theorem fiS_ag {h u h1 : ja_H} {n : Int} (q : fiS h u n) (ag : mo_ag (mo_X [] [84, 21]) u h1) : fiS h h1 n := by
  obtain ⟨q1, q2, q3, q4, q5⟩ := q
  have f1 : (h1 59) = (u 59) := funext fun j => ag _ _ rfl
  have f2 : (h1 75) = (u 75) := funext fun j => ag _ _ rfl
  have f3 : h1 12 = u 12 := funext fun j => ag _ _ rfl
  refine ⟨q1, ag_trans q2 (ag_sub (X_X (by decide) (by decide)) ag), by rw [f3]; exact q3, by rw [f1]; exact q4, by unfold fiW; rw [f2]; exact q5⟩
theorem fiS_w {h u : ja_H} {n x : Int} (h0 : 0 ≤ n) (q : fiS h u n) (h678 : (h 74) n.toNat = 6 ∨ (h 74) n.toNat = 7 ∨ (h 74) n.toNat = 8) (h67 : (h 74) n.toNat = 6 ∨ (h 74) n.toNat = 7 → 0 ≤ x ∧ x ≤ 9) (h8 : (h 74) n.toNat = 8 → 0 ≤ x ∧ x ≤ 11) : fiS h (ja_up u 75 n.toNat x) (n + 1) := by
  obtain ⟨q1, q2, q3, q4, q5, q6⟩ := q
  refine ⟨q1, ag_up rfl q2, q3, q4, fun w hw => (mo_upJ (by omega)).trans (q5 w (by omega)), fun w hw => ?_⟩
  by_cases e : w = n.toNat
  · subst e
    rw [mo_upS]
    exact ⟨h67, h8, fun z => absurd h678 z⟩
  · rw [mo_upJ e]
    exact q6 w (by omega)
theorem fiS_skip {h u : ja_H} {n : Int} (h0 : 0 ≤ n) (q : fiS h u n) (hx : ¬ ((h 74) n.toNat = 6 ∨ (h 74) n.toNat = 7 ∨ (h 74) n.toNat = 8)) : fiS h u (n + 1) := by
  obtain ⟨q1, q2, q3, q4, q5, q6⟩ := q
  refine ⟨q1, q2, q3, q4, fun w hw => q5 w (by omega), fun w hw => ?_⟩
  by_cases e : w = n.toNat
  · subst e
    exact ⟨fun z => absurd (z.imp id Or.inl) hx, fun z => absurd (Or.inr (Or.inr z)) hx, fun _ => q5 _ (by omega)⟩
  · exact q6 w (by omega)
theorem wt_af {h : ja_H} {a b : Int} (w : waS h (h 0 68)) (q : pw_wt h 1 a b) : 0 ≤ afF h b ((h 5) a.toNat) := by
  obtain ⟨i, q1, q2, q3, q4⟩ := q
  have := (w i q1).2 (by rw [q2]; decide)
  rw [q3, q4 rfl] at this
  exact this
theorem wt_cl {h : ja_H} {a b : Int} (w : waS h (h 0 68)) (q : pw_wt h 0 a b) : 0 ≤ clF h ((h 5) a.toNat) := by
  obtain ⟨i, q1, q2, q3, q4⟩ := q
  have := (w i q1).1 q2
  rw [q3] at this
  exact this
theorem afF_ag {h u : ja_H} (ag : mo_ag (mo_F [] [16, 15]) h u) (a v : Int) : afF u a v = afF h a v := by
  have f1 : (u 16) = (h 16) := funext fun j => ag _ _ rfl
  have f2 : (u 15) = (h 15) := funext fun j => ag _ _ rfl
  unfold afF; rw [f1, f2]
theorem fi_67 {h u : ja_H} {ht st rg : Nat → Int} {n : Int} (q : it h ht st rg) (s : fiS h u n) (h0 : 0 ≤ n) (h1 : n < (h 0 113)) (e : (u 74) n.toNat = 6 ∨ (u 74) n.toNat = 7) : (0 ≤ (u 75) n.toNat ∧ (u 75) n.toNat ≤ 900) ∧ (0 ≤ (u 76) n.toNat ∧ (u 76) n.toNat ≤ 7) ∧ 0 ≤ afF u ((u 76) n.toNat) ((u 5) ((u 75) n.toNat).toNat) := by
  obtain ⟨⟨y1, y2, y3⟩, ag, -, -, s1, -⟩ := s
  have f1 : (u 74) = (h 74) := funext fun j => ag _ _ rfl
  have f2 : (u 76) = (h 76) := funext fun j => ag _ _ rfl
  have f3 : (u 5) = (h 5) := funext fun j => ag _ _ rfl
  have c := (q.1.1.1 n.toNat (by omega)).2.2.2.2.2.2.2.2.2.2.2.2.2.1 (by rw [← f1]; exact e)
  obtain ⟨c1, c2, c3, c4, c5⟩ := c
  rw [afF_ag (ag_sub (X_sub (by decide) (by decide)) ag), f2, f3, s1 n.toNat (by omega)]
  exact ⟨⟨c1, c2⟩, ⟨c3, c4⟩, wt_af y2 (c5 y1).2⟩
theorem fi_8 {h u : ja_H} {ht st rg : Nat → Int} {n : Int} (q : it h ht st rg) (s : fiS h u n) (h0 : 0 ≤ n) (h1 : n < (h 0 113)) (e : (u 74) n.toNat = 8) : (0 ≤ (u 75) n.toNat ∧ (u 75) n.toNat ≤ 900) ∧ 0 ≤ clF u ((u 5) ((u 75) n.toNat).toNat) := by
  obtain ⟨⟨y1, y2, y3⟩, ag, -, -, s1, -⟩ := s
  have f1 : (u 74) = (h 74) := funext fun j => ag _ _ rfl
  have f3 : (u 5) = (h 5) := funext fun j => ag _ _ rfl
  have c := (q.1.1.1 n.toNat (by omega)).2.2.2.2.2.2.2.2.2.2.2.2.2.2.1 (by rw [← f1]; exact e)
  obtain ⟨c1, c2, c5⟩ := c
  rw [clF_ag (ag_sub (X_sub (by decide) (by decide)) ag), f3, s1 n.toNat (by omega)]
  exact ⟨⟨c1, c2⟩, wt_cl y2 c5⟩
/-- what layNodes asks -/
theorem fi_lnR {h u h1 : ja_H} {ht st rg : Nat → Int} {n0 : Int} (q : it h ht st rg) (s : fiS h u n0) (a1 : mo_ag FLY u h1) (n : Nat) (hn : (n : Int) < (h1 0 95)) : lnR h1 n := by
  obtain ⟨⟨y1, y2, y3⟩, ag, -, ⟨s1, -⟩, -⟩ := s
  have agh : mo_ag (mo_X [11, 12] [59, 12, 84, 75, 21, 83, 82]) h h1 := ag_trans (ag_sub (X_X (by decide) (by decide)) ag) (ag_sub (X_X (by decide) (by decide)) a1)
  have e1 : (h1 0 95) = (h 0 95) := agh _ _ rfl
  rw [e1] at hn
  obtain ⟨-, -, -, -, c5, c6⟩ := q.1.2.2.1.1 n hn
  have hV := q.1.2.2.1.2
  have k1 : (h1 58) = (h 58) := funext fun j => agh _ _ rfl
  have k2 : (h1 63) = (h 63) := funext fun j => agh _ _ rfl
  have k3 : (h1 62) = (h 62) := funext fun j => agh _ _ rfl
  have k4 : (h1 5) = (h 5) := funext fun j => agh _ _ rfl
  have k5 : (h1 59) = (u 59) := funext fun j => a1 _ _ rfl
  have cl : ∀ v, clF h1 v = clF h v := clF_ag (ag_sub (X_sub (by decide) (by decide)) agh)
  have X : ∀ a, ((0 ≤ a ∧ a ≤ 6) ∨ (1000 ≤ a ∧ a ≤ 1900 ∧ pw_wt h 0 (a - 1000) 0)) → lnX h1 a := fun a z => by
    rcases z with z | ⟨z1, z2, z3⟩
    · exact Or.inl z
    · exact Or.inr ⟨z1, z2, by rw [cl, k4]; exact wt_cl y2 z3⟩
  unfold lnR
  rw [k1, k2, k3]
  refine ⟨fun z => ?_, fun z k hk => ?_⟩
  · rw [k5, s1 n (fun k hk e => ?_)]
    · exact X _ (c5 z)
    · have := (hV k hk).2
      rw [e, Int.toNat_natCast] at this
      omega
  · rcases c6 z k hk with a | a
    · exact Or.inl a
    · exact Or.inr (X _ a)
theorem fi_od {h u : ja_H} {n : Int} (q : odD h n) (ag : mo_ag (mo_F [] [43, 5]) h u) : odD u n := by
  have f1 : (u 43) = (h 43) := funext fun j => ag _ _ rfl
  have f2 : (u 5) = (h 5) := funext fun j => ag _ _ rfl
  have e : odN u = odN h := by funext j; unfold odN; rw [f1, f2]
  unfold odD; rw [e]; exact q
theorem fi_all {h u h1 h2 h3 : ja_H} {ht st rg : Nat → Int} (g : mo_G mo_zr h) (q : it h ht st rg) (s : fiS h u (h 0 113)) (a1 : mo_ag FLY u h1) (a2 : lnI h1 h2 (h1 0 95)) (a3 : mo_ag FLO h2 h3) (a4 : ∀ j : Nat, (j : Int) < (h2 0 44) → (h3 81) j < (h2 0 44)) : CI h3 ht st rg := by
  obtain ⟨⟨y1, y2, y3⟩, ag, ⟨hrk, -⟩, ⟨s1, s2⟩, s3, s4⟩ := s
  obtain ⟨l1, l2, -⟩ := a2
  obtain ⟨⟨⟨qC, qU⟩, q200, ⟨qN, qV⟩, -, -⟩, qP, qn, qS, -⟩ := q
  have agu : mo_ag (mo_X [] [83, 82, 68, 59, 63, 81]) u h3 := ag_trans (ag_sub (X_X (by decide) (by decide)) a1) (ag_trans (ag_sub (X_X (by decide) (by decide)) l1) (ag_sub (X_X (by decide) (by decide)) a3))
  have agh : mo_ag (mo_X [11, 12] [59, 12, 84, 75, 21, 83, 82, 68, 63, 81]) h h3 := ag_trans (ag_sub (X_X (by decide) (by decide)) ag) (ag_sub (X_X (by decide) (by decide)) agu)
  have e1 : (h3 0 113) = (h 0 113) := agh _ _ rfl
  have e2 : (h3 0 88) = (h 0 88) := agh _ _ rfl
  have e3 : (h3 0 95) = (h 0 95) := agh _ _ rfl
  have e4 : (h3 0 52) = (h 0 52) := agh _ _ rfl
  have e5 : (h3 0 22) = (h 0 22) := agh _ _ rfl
  have e6 : (h3 0 44) = (h 0 44) := agh _ _ rfl
  have e7 : (h2 0 44) = (h 0 44) := (l1 _ _ rfl).trans ((a1 _ _ rfl).trans (ag _ _ rfl))
  have e8 : (h1 0 95) = (h 0 95) := (a1 _ _ rfl).trans (ag _ _ rfl)
  have f1 : (h3 74) = (h 74) := funext fun j => agh _ _ rfl
  have f2 : (h3 76) = (h 76) := funext fun j => agh _ _ rfl
  have f3 : (h3 75) = (u 75) := funext fun j => agu _ _ rfl
  have f4 : h3 12 = u 12 := funext fun j => agu _ _ rfl
  have f5 : (h3 5) = (h 5) := funext fun j => agh _ _ rfl
  have k1 : (h3 52) = (h 52) := funext fun j => agh _ _ rfl
  have k2 : (h3 55) = (h 55) := funext fun j => agh _ _ rfl
  have k3 : (h3 54) = (h 54) := funext fun j => agh _ _ rfl
  have m1 : (h3 58) = (h 58) := funext fun j => agh _ _ rfl
  have m2 : (h3 60) = (h 60) := funext fun j => agh _ _ rfl
  have m3 : (h3 62) = (h 62) := funext fun j => agh _ _ rfl
  have m4 : (h3 67) = (h 67) := funext fun j => agh _ _ rfl
  have n1 : (h3 59) = (h2 59) := funext fun j => a3 _ _ rfl
  have n2 : (h3 63) = (h2 63) := funext fun j => a3 _ _ rfl
  have n3 : (h1 59) = (u 59) := funext fun j => a1 _ _ rfl
  have n4 : (h1 63) = (h 63) := funext fun j => (a1 _ _ rfl).trans (ag _ _ rfl)
  have n5 : (h1 58) = (h 58) := funext fun j => (a1 _ _ rfl).trans (ag _ _ rfl)
  have n6 : (h1 62) = (h 62) := funext fun j => (a1 _ _ rfl).trans (ag _ _ rfl)
  have hpop : ∀ a, pw_pop h3 a = pw_pop h a := fun a => by unfold pw_pop; rw [k1, k2]
  have hv : ∀ k a b, pw_wt h k a b → pw_wt h3 k a b := wt_same (agh _ _ rfl) (funext fun j => agh _ _ rfl) (funext fun j => agh _ _ rfl) (funext fun j => agh _ _ rfl)
  have cl : ∀ v, clF h3 v = clF h v := clF_ag (ag_sub (X_sub (by decide) (by decide)) agh)
  refine ⟨fun w hw => ?_, by rw [e1]; exact q200, fun n hn => ?_, pP_keep2 qP (ag_sub (X_sub (by decide) (by decide)) agh) hv, ?_, by rw [f4, e5]; exact hrk, fun j hj => by rw [e6]; rw [← e7]; exact a4 j (by omega), fun p hp hk => ?_⟩
  · rw [e1] at hw
    obtain ⟨c1, c2, c3, c4, c5, c6, c7, c8, c9, c10, c11, c12, c13, c14, c15, c16⟩ := qC w hw
    obtain ⟨d1, d2, d3⟩ := s4 w hw
    have nE : pw_need ((h 74) w) ((u 75) w) (pw_pop h ((u 75) w)) = pw_need ((h 74) w) ((h 75) w) (pw_pop h ((h 75) w)) := by
      by_cases z : (h 74) w = 6 ∨ (h 74) w = 7 ∨ (h 74) w = 8
      · unfold pw_need; rcases z with z | z | z <;> simp [z]
      · rw [d3 z]
    have nF : pw_eff ((h 74) w) ((u 75) w) (pw_pop h ((u 75) w)) = pw_eff ((h 74) w) ((h 75) w) (pw_pop h ((h 75) w)) := by
      by_cases z : (h 74) w = 6 ∨ (h 74) w = 7 ∨ (h 74) w = 8
      · unfold pw_eff; rcases z with z | z | z <;> simp [z]
      · rw [d3 z]
    have oA : ¬ ((h 74) w = 6 ∨ (h 74) w = 7 ∨ (h 74) w = 8) → (u 75) w = (h 75) w := d3
    unfold pf
    rw [f1, f2, f3, e1, e2, hpop, nE, nF]
    refine ⟨c1, c2, c3, c4, c5, c6, c7, c8, c9, fun z => ?_, fun z => ?_, fun z => ?_, fun z => ?_, fun z => ?_, d2, fun z => ?_⟩
    · rw [oA (by unfold pw_jmp at z; omega)]
      rcases c10 z with ⟨y, hy, -⟩ | a
      · cases hy
      · exact a
    · rw [oA (by omega)]; exact c11 z
    · rw [oA (by omega)]; exact ⟨(c12 z).1, (c12 z).2.1⟩
    · rw [oA (by omega)]; exact ⟨(c13 z).1, (c13 z).2.1, (c13 z).2.2 y1⟩
    · obtain ⟨b1, b2, b3, b4, b5⟩ := c14 z
      exact ⟨(d1 z).1, (d1 z).2, b3, b4, (b5 y1).1⟩
    · obtain ⟨⟨b1, b2, b3⟩, b4⟩ := c16 z
      exact ⟨⟨b1, b2, fun y => by rw [oA (by omega)]; exact b3 y⟩, b4⟩
  · rw [e3] at hn
    obtain ⟨c1, c2, c3, c4, c5, c6⟩ := qN n hn
    obtain ⟨d1, d2, d3, d4⟩ := l2 n (by omega)
    rw [n5] at d1 d2 d3 d4
    rw [n6] at d2
    have gm := gC_nodeMany g n
    have nu : (h 58) n ≠ 12 → ∀ k : Nat, (k : Int) < (h 0 72) → (h 47) k ≠ n := fun z k hk e => by
      have := (qV k hk).2
      rw [e, Int.toNat_natCast] at this
      exact z this
    have oA : ¬ ((h 58) n = 7 ∨ (h 58) n = 8) → (h 58) n ≠ 12 → (h2 59) n = (h 59) n := fun a b => by rw [d3 a, n3]; exact s1 n (nu b)
    unfold ciN
    rw [m1, m2, m3, m4, n1, n2, e1, e4]
    refine ⟨fun z => ?_, fun z => ?_, fun z => ?_, fun z => ?_, d1, d2⟩
    · rw [oA (by omega) (by omega)]; exact c1 z
    · rw [oA (by omega) (by omega)]; exact c2 z
    · rw [oA (by omega) (by omega)]; exact c3 z
    · obtain ⟨b1, b2, i, b3, b4⟩ := c4 z
      have := s2 i b3
      rw [b4, Int.toNat_natCast] at this
      refine ⟨b1, by rw [d3 (by omega), n3]; exact this, fun k hk => ?_⟩
      rw [d4 (by omega) k (by omega), n4]
      exact b2 y1 k hk
  · have t1 : (h3 0 34) = (h 0 34) := agh _ _ rfl
    have t2 : (h3 0 66) = (h 0 66) := agh _ _ rfl
    have t3 : (h3 0 67) = (h 0 67) := agh _ _ rfl
    have t4 : (h3 0 57) = (h 0 57) := agh _ _ rfl
    have t5 : (h3 0 26) = (h 0 26) := agh _ _ rfl
    have u1 : (h3 23) = (h 23) := funext fun j => agh _ _ rfl
    have u2 : (h3 32) = (h 32) := funext fun j => agh _ _ rfl
    have u3 : (h3 31) = (h 31) := funext fun j => agh _ _ rfl
    have u4 : (h3 29) = (h 29) := funext fun j => agh _ _ rfl
    have u5 : (h3 37) = (h 37) := funext fun j => agh _ _ rfl
    have u6 : (h3 38) = (h 38) := funext fun j => agh _ _ rfl
    unfold it_S
    rw [e1, e3, e4, e6, t1, t2, t3, t4, t5, u1, u2, u3, u4, u5, u6, m4]
    exact qS
  · rw [e2] at hp
    rw [k1] at hk
    rw [k3, f5, cl]
    exact wt_cl y2 ((qP.2 p hp).2.2.2 hk)
/-- what CI rests on -/
def FCG : Nat → Nat → Bool := mo_F [113, 88, 95, 52, 22, 44, 34, 66, 67, 57, 26, 68] [74, 75, 76, 52, 55, 54, 56, 57, 24, 45, 44, 46, 58, 59, 60, 62, 63, 67, 12, 10, 5, 81, 23, 32, 31, 29, 37, 38]
theorem ci_g {h u : ja_H} {ht st rg : Nat → Int} (q : CI h ht st rg) (ag : mo_ag FCG h u) : CI u ht st rg := by
  obtain ⟨q1, q2, q3, q4, q5, q6, q7, q8⟩ := q
  have e1 : (u 0 113) = (h 0 113) := ag _ _ rfl
  have e2 : (u 0 88) = (h 0 88) := ag _ _ rfl
  have e3 : (u 0 95) = (h 0 95) := ag _ _ rfl
  have e4 : (u 0 52) = (h 0 52) := ag _ _ rfl
  have e5 : (u 0 22) = (h 0 22) := ag _ _ rfl
  have e6 : (u 0 44) = (h 0 44) := ag _ _ rfl
  have f1 : (u 74) = (h 74) := funext fun j => ag _ _ rfl
  have f2 : (u 76) = (h 76) := funext fun j => ag _ _ rfl
  have f3 : (u 75) = (h 75) := funext fun j => ag _ _ rfl
  have f4 : u 12 = h 12 := funext fun j => ag _ _ rfl
  have f5 : (u 5) = (h 5) := funext fun j => ag _ _ rfl
  have f6 : (u 81) = (h 81) := funext fun j => ag _ _ rfl
  have k1 : (u 52) = (h 52) := funext fun j => ag _ _ rfl
  have k2 : (u 55) = (h 55) := funext fun j => ag _ _ rfl
  have k3 : (u 54) = (h 54) := funext fun j => ag _ _ rfl
  have m1 : (u 58) = (h 58) := funext fun j => ag _ _ rfl
  have m2 : (u 60) = (h 60) := funext fun j => ag _ _ rfl
  have m3 : (u 62) = (h 62) := funext fun j => ag _ _ rfl
  have m4 : (u 67) = (h 67) := funext fun j => ag _ _ rfl
  have n1 : (u 59) = (h 59) := funext fun j => ag _ _ rfl
  have n2 : (u 63) = (h 63) := funext fun j => ag _ _ rfl
  have t1 : (u 0 34) = (h 0 34) := ag _ _ rfl
  have t2 : (u 0 66) = (h 0 66) := ag _ _ rfl
  have t3 : (u 0 67) = (h 0 67) := ag _ _ rfl
  have t4 : (u 0 57) = (h 0 57) := ag _ _ rfl
  have t5 : (u 0 26) = (h 0 26) := ag _ _ rfl
  have u1 : (u 23) = (h 23) := funext fun j => ag _ _ rfl
  have u2 : (u 32) = (h 32) := funext fun j => ag _ _ rfl
  have u3 : (u 31) = (h 31) := funext fun j => ag _ _ rfl
  have u4 : (u 29) = (h 29) := funext fun j => ag _ _ rfl
  have u5 : (u 37) = (h 37) := funext fun j => ag _ _ rfl
  have u6 : (u 38) = (h 38) := funext fun j => ag _ _ rfl
  have hv : ∀ k a b, pw_wt h k a b → pw_wt u k a b := wt_same (ag _ _ rfl) (funext fun j => ag _ _ rfl) (funext fun j => ag _ _ rfl) (funext fun j => ag _ _ rfl)
  have cl : ∀ v, clF u v = clF h v := clF_ag (ag_sub (F_F (by decide) (by decide)) ag)
  have hpop : pw_pop u = pw_pop h := by funext a; unfold pw_pop; rw [k1, k2]
  refine ⟨fun w hw => ?_, by rw [e1]; exact q2, fun n hn => ?_, pP_keep2 q4 (ag_sub (F_F (by decide) (by decide)) ag) hv, ?_, by rw [f4, e5]; exact q6, by rw [e6, f6]; exact q7, fun p hp hk => ?_⟩
  · rw [e1] at hw
    have := q1 w hw
    unfold pf at this ⊢
    rw [f1, f2, f3, e1, e2, hpop]; exact this
  · rw [e3] at hn
    have := q3 n hn
    unfold ciN at this ⊢
    rw [m1, m2, m3, m4, n1, n2, e1, e4]; exact this
  · unfold it_S
    rw [e1, e3, e4, e6, t1, t2, t3, t4, t5, u1, u2, u3, u4, u5, u6, m4]
    exact q5
  · rw [e2] at hp
    rw [k1] at hk
    rw [k3, f5, cl]
    exact q8 p hp hk
/-- what the last loops of finish change -/
def FCI : Nat → Nat → Bool := mo_X [11, 12, 119] [1, 73, 71, 72, 78, 79, 80]
theorem ci_ag {h u : ja_H} {ht st rg : Nat → Int} (q : CI h ht st rg) (ag : mo_ag FCI h u) : CI u ht st rg := ci_g q (ag_sub (X_sub (by decide) (by decide)) ag)
theorem ci_nd {h : ja_H} {ht st rg : Nat → Int} (g : mo_G mo_zr h) (q : CI h ht st rg) (n : Nat) (hn : (n : Int) < (h 0 95)) : ndK h n := by
  obtain ⟨-, -, q3, -⟩ := q
  obtain ⟨c1, c2, c3, c4, c5, c6⟩ := q3 n hn
  have gn := gF_nodes g
  have gp := gF_picks g
  refine ⟨fun z => ?_, fun z => ?_, fun z => ?_, fun z => ?_⟩
  · have := c5 z
    unfold lnY at this
    omega
  · by_cases y : (h 58) n = 13 ∨ (h 58) n = 14
    · have := c1 y; omega
    · have := c2 (by omega); omega
  · have := c1 z; omega
  · have := c4 z; omega
theorem ci_pt {h : ja_H} {ht st rg : Nat → Int} (q : CI h ht st rg) (p : Nat) (hp : (p : Int) < (h 0 88)) : ptK h p := by
  obtain ⟨-, -, -, q4, -⟩ := q
  obtain ⟨a1, a2, -⟩ := q4.2 p hp
  exact ⟨a1, a2⟩
/-- classes' aboves: ranked, the others as they were -/
def rcK (h u : ja_H) : Prop := (∃ rk, rk_P (u 12) (h 0 22) rk) ∧ ∀ c : Nat, (h 0 22) ≤ (c : Int) → (u 12) c = (h 12) c
theorem rcK_e {h u v : ja_H} (q : rcK h u) (e : ∀ j, v 12 j = u 12 j) : rcK h v := by
  have f : v 12 = u 12 := funext e
  unfold rcK; rw [f]; exact q
/-- the loops behind the layout -/
def fiE (h u : ja_H) (ht st rg : Nat → Int) : Prop := CI u ht st rg ∧ mo_ag (mo_F [1, 118, 127, 22, 95, 88, 57, 188, 189] [90, 91, 92, 93, 94, 95, 106, 107, 108, 109, 110, 111, 120, 121, 126, 127, 128, 129, 130, 131, 136, 137, 117, 118, 89]) h u ∧ rcK h u
theorem fiE_ag {h u v : ja_H} {ht st rg : Nat → Int} (q : fiE h u ht st rg) (ag : mo_ag FCI u v) : fiE h v ht st rg := ⟨ci_ag q.1 ag, ag_trans q.2.1 (ag_sub (X_sub (by decide) (by decide)) ag), rcK_e q.2.2 (fun j => ag _ j rfl)⟩
def FKR : Nat → Nat → Bool := mo_F [1, 118, 127, 188, 189] [90, 91, 92, 93, 94, 95, 106, 107, 108, 109, 110, 111, 120, 121, 126, 127, 128, 129, 130, 131, 136, 137, 117, 118, 89]
/-- what compile makes of the aboves -/
def clN (h u : ja_H) : Prop := ∃ n : Int, (0 ≤ n ∧ n ≤ 12) ∧ ((u 0 22) = n) ∧ (∃ rk, rk_P (u 12) n rk) ∧ ∀ c : Nat, n ≤ (c : Int) → (u 12) c = (h 12) c
theorem clN_of {h u : ja_H} (g : mo_G mo_zr h) (e : (u 0 22) = (h 0 22)) (q : rcK h u) : clN h u := ⟨(h 0 22), gF_classes g, e, q.1, q.2⟩
theorem clN_pa {h h1 h2 : ja_H} {f p n : Int} (g : mo_G mo_zr h) (w : waU (ja_up (ja_up h 0 11 f) 0 12 p) h1 n) (pa : paI h1 h2) : clN h h2 := by
  obtain ⟨p1, p2, p3⟩ := pa
  have e1 : (h1 0 22) = (h 0 22) := w.1 _ _ rfl
  have e2 : (h2 0 22) = (h 0 22) := (p1 _ _ rfl).trans e1
  exact clN_of g e2 ⟨by rw [← e1]; exact p3, fun c hc => (p2.2 c (by rw [e1]; exact hc)).trans (w.1 _ _ rfl)⟩
noncomputable def rkU (f : Nat → Int) (n : Int) : Nat → Nat := by
  classical
  exact if q : ∃ rk, rk_P f n rk then Classical.choose q else fun _ => 0
theorem rkU_P {f : Nat → Int} {n : Int} (q : ∃ rk, rk_P f n rk) : rk_P f n (rkU f n) := by
  unfold rkU; rw [dif_pos q]; exact Classical.choose_spec q
theorem fi_rk {u h1 : ja_H} {n : Int} {rk : Nat → Nat} (ag : mo_ag FLY u h1) (e : (u 0 22) = n) (q : rk_P (u 12) n rk) : rk_P (h1 12) (h1 0 22) rk := by
  have e1 : (h1 0 22) = (u 0 22) := ag _ _ rfl
  have f1 : h1 12 = u 12 := funext fun j => ag _ _ rfl
  rw [f1, e1, e]; exact q
theorem fi_ord {h u h1 h2 : ja_H} {ht st rg : Nat → Int} {n m : Int} (q : it h ht st rg) (s : fiS h u n) (a1 : mo_ag FLY u h1) (a2 : lnI h1 h2 m) : odD h2 (h2 0 64) ∧ ∀ a : Nat, (a : Int) < (h2 0 44) → (h2 29) a < (h2 0 26) := by
  obtain ⟨⟨y1, y2, y3⟩, ag, -⟩ := s
  have agh : mo_ag (mo_X [11, 12] [59, 12, 84, 75, 21, 83, 82, 68, 63]) h h2 := ag_trans (ag_sub (X_X (by decide) (by decide)) ag) (ag_trans (ag_sub (X_X (by decide) (by decide)) a1) (ag_sub (X_X (by decide) (by decide)) a2.1))
  have e1 : (h2 0 64) = (h 0 64) := agh _ _ rfl
  have e2 : (h2 0 44) = (h 0 44) := agh _ _ rfl
  have e3 : (h2 0 26) = (h 0 26) := agh _ _ rfl
  have f1 : (h2 29) = (h 29) := funext fun j => agh _ _ rfl
  refine ⟨by rw [e1]; exact fi_od y3 (ag_sub (X_sub (by decide) (by decide)) agh), fun a ha => ?_⟩
  rw [e3, f1]
  exact (q.2.2.2.1.2.1 a (by omega)).2.2.2
theorem fi_kr {h h1 h2 : ja_H} {f p n : Int} (w : waU (ja_up (ja_up h 0 11 f) 0 12 p) h1 n) (pa : paI h1 h2) : mo_ag FKR h h2 :=
  ag_trans (h' := h1) (ag_trans (h' := ja_up (ja_up h 0 11 f) 0 12 p) (ag_up rfl (ag_up rfl ag_refl)) (ag_sub (X_sub (by decide) (by decide)) w.1)) (ag_sub (X_sub (by decide) (by decide)) pa.1)
noncomputable def rkM (f : Nat → Int) (n x : Int) : Int := rkO (fun c => cntP (fun y => decide (rkU f n y < rkU f n c)) n.toNat) x
theorem rkM_0 {f : Nat → Int} {n x : Int} : 0 ≤ rkM f n x := rkO_0
theorem rk_lowc {f : Nat → Int} {n : Int} {rk : Nat → Nat} (q : rk_P f n rk) (h0 : 0 ≤ n) : rk_P f n (fun x => cntP (fun y => decide (rk y < rk x)) n.toNat) ∧ ∀ x : Nat, (x : Int) < n → ((fun x => cntP (fun y => decide (rk y < rk x)) n.toNat) x : Int) < n := by
  refine ⟨fun c hc => ?_, fun x hx => ?_⟩
  · obtain ⟨q1, q2⟩ := q c hc
    refine ⟨q1, fun z => ?_⟩
    have lt := q2 z
    exact cntP_lt (x := (f c).toNat) (by simp) (by simpa using lt) n.toNat (fun j hj a => by simp at a ⊢; omega) (by omega)
  · have a := cntP_lt (p := fun y => decide (rk y < rk x)) (q := fun _ => true) (x := x) (by simp) rfl n.toNat (fun _ _ _ => rfl) (by omega)
    have b := cntP_n (p := fun _ => true) n.toNat
    dsimp only
    omega
theorem rkM_s {f : Nat → Int} {n x : Int} (q : ∃ rk, rk_P f n rk) (h0 : ¬ x < 0) (h1 : x < n) : rkM f n (f x.toNat) < rkM f n x := rkO_s (rk_lowc (rkU_P q) (by omega)).1 h0 h1
theorem rkM_12 {f : Nat → Int} {n x : Int} (q : ∃ rk, rk_P f n rk) (h1 : x < n) (h2 : n ≤ 12) : rkM f n x ≤ 12 := by
  by_cases z : x < 0
  · unfold rkM rkO; rw [if_pos z]; decide
  · have := rkO_c (rk_lowc (rkU_P q) (show 0 ≤ n by omega)).2 (show 0 ≤ x by omega) h1
    unfold rkM; omega
theorem dfinish_0 : decode cX12_finish 0 = .ok (.aload_n 0, 1) := by decide +kernel
theorem dfinish_1 : decode cX12_finish 1 = .ok (.invokevirtual 918, 3) := by decide +kernel
theorem dfinish_4 : decode cX12_finish 4 = .ok (.aload_n 0, 1) := by decide +kernel
theorem dfinish_5 : decode cX12_finish 5 = .ok (.invokevirtual 921, 3) := by decide +kernel
theorem dfinish_8 : decode cX12_finish 8 = .ok (.aload_n 0, 1) := by decide +kernel
theorem dfinish_9 : decode cX12_finish 9 = .ok (.invokevirtual 924, 3) := by decide +kernel
theorem dfinish_12 : decode cX12_finish 12 = .ok (.aload_n 0, 1) := by decide +kernel
theorem dfinish_13 : decode cX12_finish 13 = .ok (.getfield 602, 3) := by decide +kernel
theorem dfinish_16 : decode cX12_finish 16 = .ok (.ifCond .le 4, 3) := by decide +kernel
theorem dfinish_19 : decode cX12_finish 19 = .ok (.return_, 1) := by decide +kernel
theorem dfinish_20 : decode cX12_finish 20 = .ok (.iconst 0, 1) := by decide +kernel
theorem dfinish_21 : decode cX12_finish 21 = .ok (.istore_n 1, 1) := by decide +kernel
theorem dfinish_22 : decode cX12_finish 22 = .ok (.iload_n 1, 1) := by decide +kernel
theorem dfinish_23 : decode cX12_finish 23 = .ok (.aload_n 0, 1) := by decide +kernel
theorem dfinish_24 : decode cX12_finish 24 = .ok (.getfield 647, 3) := by decide +kernel
theorem dfinish_27 : decode cX12_finish 27 = .ok (.if_icmp .ge 83, 3) := by decide +kernel
theorem dfinish_30 : decode cX12_finish 30 = .ok (.aload_n 0, 1) := by decide +kernel
theorem dfinish_31 : decode cX12_finish 31 = .ok (.getfield 261, 3) := by decide +kernel
theorem dfinish_34 : decode cX12_finish 34 = .ok (.iload_n 1, 1) := by decide +kernel
theorem dfinish_35 : decode cX12_finish 35 = .ok (.iconst 0, 1) := by decide +kernel
theorem dfinish_36 : decode cX12_finish 36 = .ok (.iastore, 1) := by decide +kernel
theorem dfinish_37 : decode cX12_finish 37 = .ok (.iconst 0, 1) := by decide +kernel
theorem dfinish_38 : decode cX12_finish 38 = .ok (.istore_n 2, 1) := by decide +kernel
theorem dfinish_39 : decode cX12_finish 39 = .ok (.iload_n 2, 1) := by decide +kernel
theorem dfinish_40 : decode cX12_finish 40 = .ok (.aload_n 0, 1) := by decide +kernel
theorem dfinish_41 : decode cX12_finish 41 = .ok (.getfield 647, 3) := by decide +kernel
theorem dfinish_44 : decode cX12_finish 44 = .ok (.if_icmp .ge 60, 3) := by decide +kernel
theorem dfinish_47 : decode cX12_finish 47 = .ok (.iload_n 2, 1) := by decide +kernel
theorem dfinish_48 : decode cX12_finish 48 = .ok (.istore_n 3, 1) := by decide +kernel
theorem dfinish_49 : decode cX12_finish 49 = .ok (.iload_n 3, 1) := by decide +kernel
theorem dfinish_50 : decode cX12_finish 50 = .ok (.ifCond .lt 18, 3) := by decide +kernel
theorem dfinish_53 : decode cX12_finish 53 = .ok (.iload_n 3, 1) := by decide +kernel
theorem dfinish_54 : decode cX12_finish 54 = .ok (.iload_n 1, 1) := by decide +kernel
theorem dfinish_55 : decode cX12_finish 55 = .ok (.if_icmp .eq 13, 3) := by decide +kernel
theorem dfinish_58 : decode cX12_finish 58 = .ok (.aload_n 0, 1) := by decide +kernel
theorem dfinish_59 : decode cX12_finish 59 = .ok (.getfield 43, 3) := by decide +kernel
theorem dfinish_62 : decode cX12_finish 62 = .ok (.iload_n 3, 1) := by decide +kernel
theorem dfinish_63 : decode cX12_finish 63 = .ok (.iaload, 1) := by decide +kernel
theorem dfinish_64 : decode cX12_finish 64 = .ok (.istore_n 3, 1) := by decide +kernel
theorem dfinish_65 : decode cX12_finish 65 = .ok (.goto (-16), 3) := by decide +kernel
theorem dfinish_68 : decode cX12_finish 68 = .ok (.aload_n 0, 1) := by decide +kernel
theorem dfinish_69 : decode cX12_finish 69 = .ok (.getfield 261, 3) := by decide +kernel
theorem dfinish_72 : decode cX12_finish 72 = .ok (.iload_n 1, 1) := by decide +kernel
theorem dfinish_73 : decode cX12_finish 73 = .ok (.iload_n 3, 1) := by decide +kernel
theorem dfinish_74 : decode cX12_finish 74 = .ok (.iload_n 1, 1) := by decide +kernel
theorem dfinish_75 : decode cX12_finish 75 = .ok (.if_icmp .ne 16, 3) := by decide +kernel
theorem dfinish_78 : decode cX12_finish 78 = .ok (.aload_n 0, 1) := by decide +kernel
theorem dfinish_79 : decode cX12_finish 79 = .ok (.getfield 261, 3) := by decide +kernel
theorem dfinish_82 : decode cX12_finish 82 = .ok (.iload_n 1, 1) := by decide +kernel
theorem dfinish_83 : decode cX12_finish 83 = .ok (.iaload, 1) := by decide +kernel
theorem dfinish_84 : decode cX12_finish 84 = .ok (.iconst 1, 1) := by decide +kernel
theorem dfinish_85 : decode cX12_finish 85 = .ok (.iload_n 2, 1) := by decide +kernel
theorem dfinish_86 : decode cX12_finish 86 = .ok (.ishl, 1) := by decide +kernel
theorem dfinish_87 : decode cX12_finish 87 = .ok (.ior, 1) := by decide +kernel
theorem dfinish_88 : decode cX12_finish 88 = .ok (.goto 9, 3) := by decide +kernel
theorem dfinish_91 : decode cX12_finish 91 = .ok (.aload_n 0, 1) := by decide +kernel
theorem dfinish_92 : decode cX12_finish 92 = .ok (.getfield 261, 3) := by decide +kernel
theorem dfinish_95 : decode cX12_finish 95 = .ok (.iload_n 1, 1) := by decide +kernel
theorem dfinish_96 : decode cX12_finish 96 = .ok (.iaload, 1) := by decide +kernel
theorem dfinish_97 : decode cX12_finish 97 = .ok (.iastore, 1) := by decide +kernel
theorem dfinish_98 : decode cX12_finish 98 = .ok (.iinc 2 1, 3) := by decide +kernel
theorem dfinish_101 : decode cX12_finish 101 = .ok (.goto (-62), 3) := by decide +kernel
theorem dfinish_104 : decode cX12_finish 104 = .ok (.iinc 1 1, 3) := by decide +kernel
theorem dfinish_107 : decode cX12_finish 107 = .ok (.goto (-85), 3) := by decide +kernel
theorem dfinish_110 : decode cX12_finish 110 = .ok (.iconst 0, 1) := by decide +kernel
theorem dfinish_111 : decode cX12_finish 111 = .ok (.istore_n 1, 1) := by decide +kernel
theorem dfinish_112 : decode cX12_finish 112 = .ok (.iload_n 1, 1) := by decide +kernel
theorem dfinish_113 : decode cX12_finish 113 = .ok (.aload_n 0, 1) := by decide +kernel
theorem dfinish_114 : decode cX12_finish 114 = .ok (.getfield 611, 3) := by decide +kernel
theorem dfinish_117 : decode cX12_finish 117 = .ok (.if_icmp .ge 91, 3) := by decide +kernel
theorem dfinish_120 : decode cX12_finish 120 = .ok (.aload_n 0, 1) := by decide +kernel
theorem dfinish_121 : decode cX12_finish 121 = .ok (.getfield 231, 3) := by decide +kernel
theorem dfinish_124 : decode cX12_finish 124 = .ok (.iload_n 1, 1) := by decide +kernel
theorem dfinish_125 : decode cX12_finish 125 = .ok (.iaload, 1) := by decide +kernel
theorem dfinish_126 : decode cX12_finish 126 = .ok (.bipush 6, 2) := by decide +kernel
theorem dfinish_128 : decode cX12_finish 128 = .ok (.if_icmp .eq 14, 3) := by decide +kernel
theorem dfinish_131 : decode cX12_finish 131 = .ok (.aload_n 0, 1) := by decide +kernel
theorem dfinish_132 : decode cX12_finish 132 = .ok (.getfield 231, 3) := by decide +kernel
theorem dfinish_135 : decode cX12_finish 135 = .ok (.iload_n 1, 1) := by decide +kernel
theorem dfinish_136 : decode cX12_finish 136 = .ok (.iaload, 1) := by decide +kernel
theorem dfinish_137 : decode cX12_finish 137 = .ok (.bipush 7, 2) := by decide +kernel
theorem dfinish_139 : decode cX12_finish 139 = .ok (.if_icmp .ne 32, 3) := by decide +kernel
theorem dfinish_142 : decode cX12_finish 142 = .ok (.aload_n 0, 1) := by decide +kernel
theorem dfinish_143 : decode cX12_finish 143 = .ok (.getfield 234, 3) := by decide +kernel
theorem dfinish_146 : decode cX12_finish 146 = .ok (.iload_n 1, 1) := by decide +kernel
theorem dfinish_147 : decode cX12_finish 147 = .ok (.aload_n 0, 1) := by decide +kernel
theorem dfinish_148 : decode cX12_finish 148 = .ok (.aload_n 0, 1) := by decide +kernel
theorem dfinish_149 : decode cX12_finish 149 = .ok (.getfield 237, 3) := by decide +kernel
theorem dfinish_152 : decode cX12_finish 152 = .ok (.iload_n 1, 1) := by decide +kernel
theorem dfinish_153 : decode cX12_finish 153 = .ok (.iaload, 1) := by decide +kernel
theorem dfinish_154 : decode cX12_finish 154 = .ok (.aload_n 0, 1) := by decide +kernel
theorem dfinish_155 : decode cX12_finish 155 = .ok (.aload_n 0, 1) := by decide +kernel
theorem dfinish_156 : decode cX12_finish 156 = .ok (.getfield 234, 3) := by decide +kernel
theorem dfinish_159 : decode cX12_finish 159 = .ok (.iload_n 1, 1) := by decide +kernel
theorem dfinish_160 : decode cX12_finish 160 = .ok (.iaload, 1) := by decide +kernel
theorem dfinish_161 : decode cX12_finish 161 = .ok (.invokevirtual 716, 3) := by decide +kernel
theorem dfinish_164 : decode cX12_finish 164 = .ok (.invokevirtual 909, 3) := by decide +kernel
theorem dfinish_167 : decode cX12_finish 167 = .ok (.iastore, 1) := by decide +kernel
theorem dfinish_168 : decode cX12_finish 168 = .ok (.goto 34, 3) := by decide +kernel
theorem dfinish_171 : decode cX12_finish 171 = .ok (.aload_n 0, 1) := by decide +kernel
theorem dfinish_172 : decode cX12_finish 172 = .ok (.getfield 231, 3) := by decide +kernel
theorem dfinish_175 : decode cX12_finish 175 = .ok (.iload_n 1, 1) := by decide +kernel
theorem dfinish_176 : decode cX12_finish 176 = .ok (.iaload, 1) := by decide +kernel
theorem dfinish_177 : decode cX12_finish 177 = .ok (.bipush 8, 2) := by decide +kernel
theorem dfinish_179 : decode cX12_finish 179 = .ok (.if_icmp .ne 23, 3) := by decide +kernel
theorem dfinish_182 : decode cX12_finish 182 = .ok (.aload_n 0, 1) := by decide +kernel
theorem dfinish_183 : decode cX12_finish 183 = .ok (.getfield 234, 3) := by decide +kernel
theorem dfinish_186 : decode cX12_finish 186 = .ok (.iload_n 1, 1) := by decide +kernel
theorem dfinish_187 : decode cX12_finish 187 = .ok (.aload_n 0, 1) := by decide +kernel
theorem dfinish_188 : decode cX12_finish 188 = .ok (.aload_n 0, 1) := by decide +kernel
theorem dfinish_189 : decode cX12_finish 189 = .ok (.aload_n 0, 1) := by decide +kernel
theorem dfinish_190 : decode cX12_finish 190 = .ok (.getfield 234, 3) := by decide +kernel
theorem dfinish_193 : decode cX12_finish 193 = .ok (.iload_n 1, 1) := by decide +kernel
theorem dfinish_194 : decode cX12_finish 194 = .ok (.iaload, 1) := by decide +kernel
theorem dfinish_195 : decode cX12_finish 195 = .ok (.invokevirtual 716, 3) := by decide +kernel
theorem dfinish_198 : decode cX12_finish 198 = .ok (.invokevirtual 903, 3) := by decide +kernel
theorem dfinish_201 : decode cX12_finish 201 = .ok (.iastore, 1) := by decide +kernel
theorem dfinish_202 : decode cX12_finish 202 = .ok (.iinc 1 1, 3) := by decide +kernel
theorem dfinish_205 : decode cX12_finish 205 = .ok (.goto (-93), 3) := by decide +kernel
theorem dfinish_208 : decode cX12_finish 208 = .ok (.iconst 0, 1) := by decide +kernel
theorem dfinish_209 : decode cX12_finish 209 = .ok (.istore_n 1, 1) := by decide +kernel
theorem dfinish_210 : decode cX12_finish 210 = .ok (.iload_n 1, 1) := by decide +kernel
theorem dfinish_211 : decode cX12_finish 211 = .ok (.aload_n 0, 1) := by decide +kernel
theorem dfinish_212 : decode cX12_finish 212 = .ok (.getfield 656, 3) := by decide +kernel
theorem dfinish_215 : decode cX12_finish 215 = .ok (.if_icmp .ge 25, 3) := by decide +kernel
theorem dfinish_218 : decode cX12_finish 218 = .ok (.aload_n 0, 1) := by decide +kernel
theorem dfinish_219 : decode cX12_finish 219 = .ok (.getfield 71, 3) := by decide +kernel
theorem dfinish_222 : decode cX12_finish 222 = .ok (.iload_n 1, 1) := by decide +kernel
theorem dfinish_223 : decode cX12_finish 223 = .ok (.aload_n 0, 1) := by decide +kernel
theorem dfinish_224 : decode cX12_finish 224 = .ok (.aload_n 0, 1) := by decide +kernel
theorem dfinish_225 : decode cX12_finish 225 = .ok (.getfield 68, 3) := by decide +kernel
theorem dfinish_228 : decode cX12_finish 228 = .ok (.iload_n 1, 1) := by decide +kernel
theorem dfinish_229 : decode cX12_finish 229 = .ok (.iaload, 1) := by decide +kernel
theorem dfinish_230 : decode cX12_finish 230 = .ok (.invokevirtual 903, 3) := by decide +kernel
theorem dfinish_233 : decode cX12_finish 233 = .ok (.iastore, 1) := by decide +kernel
theorem dfinish_234 : decode cX12_finish 234 = .ok (.iinc 1 1, 3) := by decide +kernel
theorem dfinish_237 : decode cX12_finish 237 = .ok (.goto (-27), 3) := by decide +kernel
theorem dfinish_240 : decode cX12_finish 240 = .ok (.aload_n 0, 1) := by decide +kernel
theorem dfinish_241 : decode cX12_finish 241 = .ok (.invokevirtual 927, 3) := by decide +kernel
theorem dfinish_244 : decode cX12_finish 244 = .ok (.aload_n 0, 1) := by decide +kernel
theorem dfinish_245 : decode cX12_finish 245 = .ok (.invokevirtual 930, 3) := by decide +kernel
theorem dfinish_248 : decode cX12_finish 248 = .ok (.aload_n 0, 1) := by decide +kernel
theorem dfinish_249 : decode cX12_finish 249 = .ok (.invokevirtual 933, 3) := by decide +kernel
theorem dfinish_252 : decode cX12_finish 252 = .ok (.iconst 0, 1) := by decide +kernel
theorem dfinish_253 : decode cX12_finish 253 = .ok (.istore_n 1, 1) := by decide +kernel
theorem dfinish_254 : decode cX12_finish 254 = .ok (.iload_n 1, 1) := by decide +kernel
theorem dfinish_255 : decode cX12_finish 255 = .ok (.aload_n 0, 1) := by decide +kernel
theorem dfinish_256 : decode cX12_finish 256 = .ok (.getfield 686, 3) := by decide +kernel
theorem dfinish_259 : decode cX12_finish 259 = .ok (.if_icmp .ge 23, 3) := by decide +kernel
theorem dfinish_262 : decode cX12_finish 262 = .ok (.aload_n 0, 1) := by decide +kernel
theorem dfinish_263 : decode cX12_finish 263 = .ok (.getfield 209, 3) := by decide +kernel
theorem dfinish_266 : decode cX12_finish 266 = .ok (.iload_n 1, 1) := by decide +kernel
theorem dfinish_267 : decode cX12_finish 267 = .ok (.baload, 1) := by decide +kernel
theorem dfinish_268 : decode cX12_finish 268 = .ok (.ifCond .eq 8, 3) := by decide +kernel
theorem dfinish_271 : decode cX12_finish 271 = .ok (.aload_n 0, 1) := by decide +kernel
theorem dfinish_272 : decode cX12_finish 272 = .ok (.iload_n 1, 1) := by decide +kernel
theorem dfinish_273 : decode cX12_finish 273 = .ok (.invokevirtual 936, 3) := by decide +kernel
theorem dfinish_276 : decode cX12_finish 276 = .ok (.iinc 1 1, 3) := by decide +kernel
theorem dfinish_279 : decode cX12_finish 279 = .ok (.goto (-25), 3) := by decide +kernel
theorem dfinish_282 : decode cX12_finish 282 = .ok (.iconst 0, 1) := by decide +kernel
theorem dfinish_283 : decode cX12_finish 283 = .ok (.istore_n 1, 1) := by decide +kernel
theorem dfinish_284 : decode cX12_finish 284 = .ok (.iload_n 1, 1) := by decide +kernel
theorem dfinish_285 : decode cX12_finish 285 = .ok (.aload_n 0, 1) := by decide +kernel
theorem dfinish_286 : decode cX12_finish 286 = .ok (.getfield 686, 3) := by decide +kernel
theorem dfinish_289 : decode cX12_finish 289 = .ok (.if_icmp .ge 23, 3) := by decide +kernel
theorem dfinish_292 : decode cX12_finish 292 = .ok (.aload_n 0, 1) := by decide +kernel
theorem dfinish_293 : decode cX12_finish 293 = .ok (.getfield 209, 3) := by decide +kernel
theorem dfinish_296 : decode cX12_finish 296 = .ok (.iload_n 1, 1) := by decide +kernel
theorem dfinish_297 : decode cX12_finish 297 = .ok (.baload, 1) := by decide +kernel
theorem dfinish_298 : decode cX12_finish 298 = .ok (.ifCond .ne 8, 3) := by decide +kernel
theorem dfinish_301 : decode cX12_finish 301 = .ok (.aload_n 0, 1) := by decide +kernel
theorem dfinish_302 : decode cX12_finish 302 = .ok (.iload_n 1, 1) := by decide +kernel
theorem dfinish_303 : decode cX12_finish 303 = .ok (.invokevirtual 936, 3) := by decide +kernel
theorem dfinish_306 : decode cX12_finish 306 = .ok (.iinc 1 1, 3) := by decide +kernel
theorem dfinish_309 : decode cX12_finish 309 = .ok (.goto (-25), 3) := by decide +kernel
theorem dfinish_312 : decode cX12_finish 312 = .ok (.iconst 0, 1) := by decide +kernel
theorem dfinish_313 : decode cX12_finish 313 = .ok (.istore_n 1, 1) := by decide +kernel
theorem dfinish_314 : decode cX12_finish 314 = .ok (.iload_n 1, 1) := by decide +kernel
theorem dfinish_315 : decode cX12_finish 315 = .ok (.aload_n 0, 1) := by decide +kernel
theorem dfinish_316 : decode cX12_finish 316 = .ok (.getfield 668, 3) := by decide +kernel
theorem dfinish_319 : decode cX12_finish 319 = .ok (.if_icmp .ge 113, 3) := by decide +kernel
theorem dfinish_322 : decode cX12_finish 322 = .ok (.iconst 0, 1) := by decide +kernel
theorem dfinish_323 : decode cX12_finish 323 = .ok (.istore_n 2, 1) := by decide +kernel
theorem dfinish_324 : decode cX12_finish 324 = .ok (.iload_n 2, 1) := by decide +kernel
theorem dfinish_325 : decode cX12_finish 325 = .ok (.aload_n 0, 1) := by decide +kernel
theorem dfinish_326 : decode cX12_finish 326 = .ok (.getfield 617, 3) := by decide +kernel
theorem dfinish_329 : decode cX12_finish 329 = .ok (.if_icmp .ge 97, 3) := by decide +kernel
theorem dfinish_332 : decode cX12_finish 332 = .ok (.aload_n 0, 1) := by decide +kernel
theorem dfinish_333 : decode cX12_finish 333 = .ok (.getfield 222, 3) := by decide +kernel
theorem dfinish_336 : decode cX12_finish 336 = .ok (.sipush 400, 3) := by decide +kernel
theorem dfinish_339 : decode cX12_finish 339 = .ok (.aload_n 0, 1) := by decide +kernel
theorem dfinish_340 : decode cX12_finish 340 = .ok (.getfield 122, 3) := by decide +kernel
theorem dfinish_343 : decode cX12_finish 343 = .ok (.iload_n 1, 1) := by decide +kernel
theorem dfinish_344 : decode cX12_finish 344 = .ok (.iaload, 1) := by decide +kernel
theorem dfinish_345 : decode cX12_finish 345 = .ok (.imul, 1) := by decide +kernel
theorem dfinish_346 : decode cX12_finish 346 = .ok (.iload_n 2, 1) := by decide +kernel
theorem dfinish_347 : decode cX12_finish 347 = .ok (.iadd, 1) := by decide +kernel
theorem dfinish_348 : decode cX12_finish 348 = .ok (.iaload, 1) := by decide +kernel
theorem dfinish_349 : decode cX12_finish 349 = .ok (.istore_n 3, 1) := by decide +kernel
theorem dfinish_350 : decode cX12_finish 350 = .ok (.iload_n 3, 1) := by decide +kernel
theorem dfinish_351 : decode cX12_finish 351 = .ok (.ifCond .le 43, 3) := by decide +kernel
theorem dfinish_354 : decode cX12_finish 354 = .ok (.aload_n 0, 1) := by decide +kernel
theorem dfinish_355 : decode cX12_finish 355 = .ok (.getfield 243, 3) := by decide +kernel
theorem dfinish_358 : decode cX12_finish 358 = .ok (.aload_n 0, 1) := by decide +kernel
theorem dfinish_359 : decode cX12_finish 359 = .ok (.getfield 707, 3) := by decide +kernel
theorem dfinish_362 : decode cX12_finish 362 = .ok (.iload_n 1, 1) := by decide +kernel
theorem dfinish_363 : decode cX12_finish 363 = .ok (.iastore, 1) := by decide +kernel
theorem dfinish_364 : decode cX12_finish 364 = .ok (.aload_n 0, 1) := by decide +kernel
theorem dfinish_365 : decode cX12_finish 365 = .ok (.getfield 246, 3) := by decide +kernel
theorem dfinish_368 : decode cX12_finish 368 = .ok (.aload_n 0, 1) := by decide +kernel
theorem dfinish_369 : decode cX12_finish 369 = .ok (.getfield 707, 3) := by decide +kernel
theorem dfinish_372 : decode cX12_finish 372 = .ok (.iload_n 2, 1) := by decide +kernel
theorem dfinish_373 : decode cX12_finish 373 = .ok (.iastore, 1) := by decide +kernel
theorem dfinish_374 : decode cX12_finish 374 = .ok (.aload_n 0, 1) := by decide +kernel
theorem dfinish_375 : decode cX12_finish 375 = .ok (.getfield 249, 3) := by decide +kernel
theorem dfinish_378 : decode cX12_finish 378 = .ok (.aload_n 0, 1) := by decide +kernel
theorem dfinish_379 : decode cX12_finish 379 = .ok (.getfield 707, 3) := by decide +kernel
theorem dfinish_382 : decode cX12_finish 382 = .ok (.iload_n 3, 1) := by decide +kernel
theorem dfinish_383 : decode cX12_finish 383 = .ok (.iastore, 1) := by decide +kernel
theorem dfinish_384 : decode cX12_finish 384 = .ok (.aload_n 0, 1) := by decide +kernel
theorem dfinish_385 : decode cX12_finish 385 = .ok (.dup, 1) := by decide +kernel
theorem dfinish_386 : decode cX12_finish 386 = .ok (.getfield 707, 3) := by decide +kernel
theorem dfinish_389 : decode cX12_finish 389 = .ok (.iconst 1, 1) := by decide +kernel
theorem dfinish_390 : decode cX12_finish 390 = .ok (.iadd, 1) := by decide +kernel
theorem dfinish_391 : decode cX12_finish 391 = .ok (.putfield 707, 3) := by decide +kernel
theorem dfinish_394 : decode cX12_finish 394 = .ok (.iload_n 3, 1) := by decide +kernel
theorem dfinish_395 : decode cX12_finish 395 = .ok (.iconst 1, 1) := by decide +kernel
theorem dfinish_396 : decode cX12_finish 396 = .ok (.if_icmp .ne 24, 3) := by decide +kernel
theorem dfinish_399 : decode cX12_finish 399 = .ok (.aload_n 0, 1) := by decide +kernel
theorem dfinish_400 : decode cX12_finish 400 = .ok (.getfield 125, 3) := by decide +kernel
theorem dfinish_403 : decode cX12_finish 403 = .ok (.iload_n 1, 1) := by decide +kernel
theorem dfinish_404 : decode cX12_finish 404 = .ok (.baload, 1) := by decide +kernel
theorem dfinish_405 : decode cX12_finish 405 = .ok (.ifCond .ne 15, 3) := by decide +kernel
theorem dfinish_408 : decode cX12_finish 408 = .ok (.aload_n 0, 1) := by decide +kernel
theorem dfinish_409 : decode cX12_finish 409 = .ok (.bipush 8, 2) := by decide +kernel
theorem dfinish_411 : decode cX12_finish 411 = .ok (.aload_n 0, 1) := by decide +kernel
theorem dfinish_412 : decode cX12_finish 412 = .ok (.getfield 128, 3) := by decide +kernel
theorem dfinish_415 : decode cX12_finish 415 = .ok (.iload_n 1, 1) := by decide +kernel
theorem dfinish_416 : decode cX12_finish 416 = .ok (.iaload, 1) := by decide +kernel
theorem dfinish_417 : decode cX12_finish 417 = .ok (.invokevirtual 719, 3) := by decide +kernel
theorem dfinish_420 : decode cX12_finish 420 = .ok (.iinc 2 1, 3) := by decide +kernel
theorem dfinish_423 : decode cX12_finish 423 = .ok (.goto (-99), 3) := by decide +kernel
theorem dfinish_426 : decode cX12_finish 426 = .ok (.iinc 1 1, 3) := by decide +kernel
theorem dfinish_429 : decode cX12_finish 429 = .ok (.goto (-115), 3) := by decide +kernel
theorem dfinish_432 : decode cX12_finish 432 = .ok (.return_, 1) := by decide +kernel
section
variable {l : Launch} {D : va_G} {cA : Nat → ClassId} {ad : Nat → Nat}
theorem s_finish {ht st rg : Nat → Int} {h : ja_H} {Q : Option ja_V → ja_H → Prop} (g : mo_G mo_zr h) (p1 : it h ht st rg) (p2 : (h 0 119) = 0) (k1 : ∀ (h' : ja_H), (((h' 0 11) = 0 → ∃ ht st rg : Nat → Int, CI h' ht st rg) ∧ mo_ag FKR h h' ∧ clN h h') → mo_G mo_zr h' → Q none h') : mM_finish l D cA ad  h Q := by
  show mJ l D cA ad 7 cX12_finish 4 none 0 [(0, (2, ((0 : Nat) : Int)))] [] h Q
  have kn_classes := gF_classes g
  have kn_words := gF_words g
  have kn_methods := gF_methods g
  have kn_nodes := gF_nodes g
  have kn_points := gF_points g
  have kn_bars := gF_bars g
  have kn_false1 := gF_false1 g
  have kn_falseAt := gF_falseAt g
  have CUT : ∀ n : Nat, (∀ (x1 : Int) (u : ja_H), mo_G mo_zr u → (-2147483648 ≤ x1 ∧ x1 ≤ 2147483647) → ((0 ≤ x1 ∧ x1 ≤ (h 0 22)) ∧ fiS h u 0) → (((90000000 : Int) + 100000 * ((13 : Int) - x1)).toNat) = n → mJ l D cA ad 7 cX12_finish 4 none 22 [(0, (2, ((0 : Nat) : Int))), (1, (0, x1))] [] u Q) ∧ (∀ (x1 x2 : Int) (u : ja_H), mo_G mo_zr u → (-2147483648 ≤ x1 ∧ x1 ≤ 2147483647) → (-2147483648 ≤ x2 ∧ x2 ≤ 2147483647) → ((0 ≤ x1 ∧ x1 < (h 0 22) ∧ 0 ≤ x2 ∧ x2 ≤ (h 0 22)) ∧ fiS h u 0) → (((90000000 : Int) + 100000 * ((13 : Int) - x1) - 10 - 1000 * x2).toNat) = n → mJ l D cA ad 7 cX12_finish 4 none 39 [(0, (2, ((0 : Nat) : Int))), (1, (0, x1)), (2, (0, x2))] [] u Q) ∧ (∀ (x1 x2 x3 : Int) (u : ja_H), mo_G mo_zr u → (-2147483648 ≤ x1 ∧ x1 ≤ 2147483647) → (-2147483648 ≤ x2 ∧ x2 ≤ 2147483647) → (-2147483648 ≤ x3 ∧ x3 ≤ 2147483647) → ((0 ≤ x1 ∧ x1 < (h 0 22) ∧ 0 ≤ x2 ∧ x2 < (h 0 22) ∧ -1 ≤ x3 ∧ x3 < (h 0 22)) ∧ fiS h u 0) → (((90000000 : Int) + 100000 * ((13 : Int) - x1) - 10 - 1000 * x2 - 900 + rkM ((u 12)) (h 0 22) x3).toNat) = n → mJ l D cA ad 7 cX12_finish 4 none 49 [(0, (2, ((0 : Nat) : Int))), (1, (0, x1)), (2, (0, x2)), (3, (0, x3))] [] u Q) ∧ (∀ (x1 : Int) (u : ja_H), mo_G mo_zr u → (-2147483648 ≤ x1 ∧ x1 ≤ 2147483647) → ((0 ≤ x1 ∧ x1 ≤ (h 0 113)) ∧ fiS h u x1) → (((50000000 : Int) + ((6000 : Int) - x1)).toNat) = n → mJ l D cA ad 7 cX12_finish 4 none 112 [(0, (2, ((0 : Nat) : Int))), (1, (0, x1))] [] u Q) ∧ (∀ (x1 : Int) (u : ja_H), mo_G mo_zr u → (-2147483648 ≤ x1 ∧ x1 ≤ 2147483647) → ((0 ≤ x1 ∧ x1 ≤ (h 0 34)) ∧ fiS h u (h 0 113)) → (((40000000 : Int) + ((100 : Int) - x1)).toNat) = n → mJ l D cA ad 7 cX12_finish 4 none 210 [(0, (2, ((0 : Nat) : Int))), (1, (0, x1))] [] u Q) ∧ (∀ (x1 : Int) (u : ja_H), mo_G mo_zr u → (-2147483648 ≤ x1 ∧ x1 ≤ 2147483647) → ((0 ≤ x1 ∧ x1 ≤ (h 0 95) ∧ (u 0 119) = 0) ∧ ∃ ht1 st1 rg1 : Nat → Int, fiE h u ht1 st1 rg1) → (((30000000 : Int) + ((1000 : Int) - x1)).toNat) = n → mJ l D cA ad 7 cX12_finish 4 none 254 [(0, (2, ((0 : Nat) : Int))), (1, (0, x1))] [] u Q) ∧ (∀ (x1 : Int) (u : ja_H), mo_G mo_zr u → (-2147483648 ≤ x1 ∧ x1 ≤ 2147483647) → ((0 ≤ x1 ∧ x1 ≤ (h 0 95) ∧ (u 0 119) = 0) ∧ ∃ ht1 st1 rg1 : Nat → Int, fiE h u ht1 st1 rg1) → (((20000000 : Int) + ((1000 : Int) - x1)).toNat) = n → mJ l D cA ad 7 cX12_finish 4 none 284 [(0, (2, ((0 : Nat) : Int))), (1, (0, x1))] [] u Q) ∧ (∀ (x1 : Int) (u : ja_H), mo_G mo_zr u → (-2147483648 ≤ x1 ∧ x1 ≤ 2147483647) → ((0 ≤ x1 ∧ x1 ≤ (h 0 57)) ∧ (u 0 119) ≤ 400 * x1 ∧ ∃ ht1 st1 rg1 : Nat → Int, fiE h u ht1 st1 rg1) → (((1000 : Int) * ((13 : Int) - x1)).toNat) = n → mJ l D cA ad 7 cX12_finish 4 none 314 [(0, (2, ((0 : Nat) : Int))), (1, (0, x1))] [] u Q) ∧ (∀ (x1 x2 : Int) (u : ja_H), mo_G mo_zr u → (-2147483648 ≤ x1 ∧ x1 ≤ 2147483647) → (-2147483648 ≤ x2 ∧ x2 ≤ 2147483647) → ((0 ≤ x1 ∧ x1 < (h 0 57) ∧ 0 ≤ x2 ∧ x2 ≤ (h 0 88)) ∧ (u 0 119) ≤ 400 * x1 + x2 ∧ ∃ ht1 st1 rg1 : Nat → Int, fiE h u ht1 st1 rg1) → (((1000 : Int) * ((13 : Int) - x1) - 1 - x2).toNat) = n → mJ l D cA ad 7 cX12_finish 4 none 324 [(0, (2, ((0 : Nat) : Int))), (1, (0, x1)), (2, (0, x2))] [] u Q) := by
    intro n
    induction n using Nat.strongRecOn with
    | _ n ih =>
      refine ⟨?_, ?_, ?_, ?_, ?_, ?_, ?_, ?_, ?_⟩
      · intro x1 u gu qx1 iv hm
        subst hm
        have ku_classes := gF_classes gu
        have ku_words := gF_words gu
        have ku_methods := gF_methods gu
        have ku_nodes := gF_nodes gu
        have ku_points := gF_points gu
        have ku_bars := gF_bars gu
        have ku_false1 := gF_false1 gu
        have ku_falseAt := gF_falseAt gu
        obtain ⟨iv, hs⟩ := iv
        have ag := hs.2.1
        have e_classes : (u 0 22) = (h 0 22) := ag 0 22 rfl
        have e_words : (u 0 113) = (h 0 113) := ag 0 113 rfl
        have e_methods : (u 0 34) = (h 0 34) := ag 0 34 rfl
        have e_fields : (u 0 31) = (h 0 31) := ag 0 31 rfl
        have e_findings : (u 0 119) = (h 0 119) := ag 0 119 rfl
        have e_nodes : (u 0 95) = (h 0 95) := ag 0 95 rfl
        have hrk := rkU_P hs.2.2.1.1
        have eop : u 74 = h 74 := funext fun j => ag 74 j rfl
        refine ja_iload_n dfinish_22 rfl rfl ?_
        refine ja_aload_n dfinish_23 rfl rfl ?_
        refine fg_classes (v := u 0 22) rfl dfinish_24 ?_
        have f1 := gF_classes gu
        refine ja_icmp_ge 110 dfinish_27 rfl ⟨by omega, by omega⟩ ⟨by omega, by omega⟩ (fun c27 => ?_) (fun c27 => ?_)
        · refine ja_iconst dfinish_110 ?_
          refine ja_istore_n dfinish_111 rfl (by decide) (L2 := [(1, (0, 0)), (0, (2, ((0 : Nat) : Int)))]) rfl ?_
          exact ja_wk (fun q hq => by simp only [List.mem_cons, List.not_mem_nil, or_false] at hq; rcases hq with rfl | rfl <;> rfl) ((ih (((50000000 : Int) + ((6000 : Int) - 0)).toNat) (by omega)).2.2.2.1 0 u gu ⟨by decide, by decide⟩ (⟨by omega, hs⟩) rfl)
        · refine ja_aload_n dfinish_30 rfl rfl ?_
          refine fa_below dfinish_31 ?_
          refine ja_iload_n dfinish_34 rfl rfl ?_
          refine ja_iconst dfinish_35 ?_
          have g2 := gW_below gu (x1).toNat (x := 0) ⟨by decide, by decide⟩
          refine is_below ⟨by omega, by omega⟩ dfinish_36 ?_
          refine ja_iconst dfinish_37 ?_
          refine ja_istore_n dfinish_38 rfl (by decide) (L2 := [(2, (0, 0)), (0, (2, ((0 : Nat) : Int))), (1, (0, x1))]) rfl ?_
          exact ja_wk (fun q hq => by simp only [List.mem_cons, List.not_mem_nil, or_false] at hq; rcases hq with rfl | rfl | rfl <;> rfl) ((ih (((90000000 : Int) + 100000 * ((13 : Int) - x1) - 10 - 1000 * 0).toNat) (by omega)).2.1 x1 0 (ja_up u 84 ((x1).toNat) 0) g2 ⟨by omega, by omega⟩ ⟨by decide, by decide⟩ (⟨by omega, fiS_ag hs (by (repeat (first | exact ag_refl | refine ag_up rfl ?_)))⟩) rfl)
      · intro x1 x2 u gu qx1 qx2 iv hm
        subst hm
        have ku_classes := gF_classes gu
        have ku_words := gF_words gu
        have ku_methods := gF_methods gu
        have ku_nodes := gF_nodes gu
        have ku_points := gF_points gu
        have ku_bars := gF_bars gu
        have ku_false1 := gF_false1 gu
        have ku_falseAt := gF_falseAt gu
        obtain ⟨iv, hs⟩ := iv
        have ag := hs.2.1
        have e_classes : (u 0 22) = (h 0 22) := ag 0 22 rfl
        have e_words : (u 0 113) = (h 0 113) := ag 0 113 rfl
        have e_methods : (u 0 34) = (h 0 34) := ag 0 34 rfl
        have e_fields : (u 0 31) = (h 0 31) := ag 0 31 rfl
        have e_findings : (u 0 119) = (h 0 119) := ag 0 119 rfl
        have e_nodes : (u 0 95) = (h 0 95) := ag 0 95 rfl
        have hrk := rkU_P hs.2.2.1.1
        have eop : u 74 = h 74 := funext fun j => ag 74 j rfl
        refine ja_iload_n dfinish_39 rfl rfl ?_
        refine ja_aload_n dfinish_40 rfl rfl ?_
        refine fg_classes (v := u 0 22) rfl dfinish_41 ?_
        have f3 := gF_classes gu
        refine ja_icmp_ge 104 dfinish_44 rfl ⟨by omega, by omega⟩ ⟨by omega, by omega⟩ (fun c44 => ?_) (fun c44 => ?_)
        · refine ja_iinc dfinish_104 rfl (by decide) (L2 := [(1, (0, (x1 + 1))), (0, (2, ((0 : Nat) : Int))), (2, (0, x2))]) rfl ?_
          refine ja_goto 22 dfinish_107 rfl ?_
          exact ja_wk (fun q hq => by simp only [List.mem_cons, List.not_mem_nil, or_false] at hq; rcases hq with rfl | rfl <;> rfl) ((ih (((90000000 : Int) + 100000 * ((13 : Int) - (x1 + 1))).toNat) (by omega)).1 (x1 + 1) u gu ⟨by omega, by omega⟩ (⟨by omega, fiS_ag hs (by (repeat (first | exact ag_refl | refine ag_up rfl ?_)))⟩) rfl)
        · refine ja_iload_n dfinish_47 rfl rfl ?_
          refine ja_istore_n dfinish_48 rfl (by decide) (L2 := [(3, (0, x2)), (0, (2, ((0 : Nat) : Int))), (1, (0, x1)), (2, (0, x2))]) rfl ?_
          exact ja_wk (fun q hq => by simp only [List.mem_cons, List.not_mem_nil, or_false] at hq; rcases hq with rfl | rfl | rfl | rfl <;> rfl) ((ih (((90000000 : Int) + 100000 * ((13 : Int) - x1) - 10 - 1000 * x2 - 900 + rkM ((u 12)) (h 0 22) x2).toNat) ((by have := rkM_12 hs.2.2.1.1 (show x2 < (h 0 22) by omega) (show (h 0 22) ≤ 12 by omega); omega))).2.2.1 x1 x2 x2 u gu ⟨by omega, by omega⟩ ⟨by omega, by omega⟩ ⟨by omega, by omega⟩ (⟨by omega, hs⟩) rfl)
      · intro x1 x2 x3 u gu qx1 qx2 qx3 iv hm
        subst hm
        have ku_classes := gF_classes gu
        have ku_words := gF_words gu
        have ku_methods := gF_methods gu
        have ku_nodes := gF_nodes gu
        have ku_points := gF_points gu
        have ku_bars := gF_bars gu
        have ku_false1 := gF_false1 gu
        have ku_falseAt := gF_falseAt gu
        obtain ⟨iv, hs⟩ := iv
        have ag := hs.2.1
        have e_classes : (u 0 22) = (h 0 22) := ag 0 22 rfl
        have e_words : (u 0 113) = (h 0 113) := ag 0 113 rfl
        have e_methods : (u 0 34) = (h 0 34) := ag 0 34 rfl
        have e_fields : (u 0 31) = (h 0 31) := ag 0 31 rfl
        have e_findings : (u 0 119) = (h 0 119) := ag 0 119 rfl
        have e_nodes : (u 0 95) = (h 0 95) := ag 0 95 rfl
        have hrk := rkU_P hs.2.2.1.1
        have eop : u 74 = h 74 := funext fun j => ag 74 j rfl
        have kr0 := rkM_0 (f := (u 12)) (n := (h 0 22)) (x := x3)
        refine ja_iload_n dfinish_49 rfl rfl ?_
        refine ja_if_lt 68 dfinish_50 rfl ⟨by omega, by omega⟩ (fun c50 => ?_) (fun c50 => ?_)
        · refine ja_aload_n dfinish_68 rfl rfl ?_
          refine fa_below dfinish_69 ?_
          refine ja_iload_n dfinish_72 rfl rfl ?_
          refine ja_iload_n dfinish_73 rfl rfl ?_
          refine ja_iload_n dfinish_74 rfl rfl ?_
          refine ja_icmp_ne 91 dfinish_75 rfl ⟨by omega, by omega⟩ ⟨by omega, by omega⟩ (fun c75 => ?_) (fun c75 => ?_)
          · refine ja_aload_n dfinish_91 rfl rfl ?_
            refine fa_below dfinish_92 ?_
            refine ja_iload_n dfinish_95 rfl rfl ?_
            refine il_below (v := u 84 (x1).toNat) rfl ⟨by omega, by omega⟩ dfinish_96 ?_
            have f4 := gC_below gu (x1).toNat
            have g5 := gW_below gu (x1).toNat (x := u 84 (x1).toNat) ⟨by omega, by omega⟩
            refine is_below ⟨by omega, by omega⟩ dfinish_97 ?_
            refine ja_iinc dfinish_98 rfl (by decide) (L2 := [(2, (0, (x2 + 1))), (0, (2, ((0 : Nat) : Int))), (1, (0, x1)), (3, (0, x3))]) rfl ?_
            refine ja_goto 39 dfinish_101 rfl ?_
            exact ja_wk (fun q hq => by simp only [List.mem_cons, List.not_mem_nil, or_false] at hq; rcases hq with rfl | rfl | rfl <;> rfl) ((ih (((90000000 : Int) + 100000 * ((13 : Int) - x1) - 10 - 1000 * (x2 + 1)).toNat) (by omega)).2.1 x1 (x2 + 1) (ja_up u 84 ((x1).toNat) (u 84 (x1).toNat)) g5 ⟨by omega, by omega⟩ ⟨by omega, by omega⟩ (⟨by omega, fiS_ag hs (by (repeat (first | exact ag_refl | refine ag_up rfl ?_)))⟩) rfl)
          · refine ja_aload_n dfinish_78 rfl rfl ?_
            refine fa_below dfinish_79 ?_
            refine ja_iload_n dfinish_82 rfl rfl ?_
            refine il_below (v := u 84 (x1).toNat) rfl ⟨by omega, by omega⟩ dfinish_83 ?_
            have f6 := gC_below gu (x1).toNat
            refine ja_iconst dfinish_84 ?_
            refine ja_iload_n dfinish_85 rfl rfl ?_
            refine mo_hishl dfinish_86 (fun v7 rv7 => ?_)
            refine mo_hior dfinish_87 (fun v8 rv8 => ?_)
            refine ja_goto 97 dfinish_88 rfl ?_
            have g9 := gW_below gu (x1).toNat (x := v8) ⟨by omega, by omega⟩
            refine is_below ⟨by omega, by omega⟩ dfinish_97 ?_
            refine ja_iinc dfinish_98 rfl (by decide) (L2 := [(2, (0, (x2 + 1))), (0, (2, ((0 : Nat) : Int))), (1, (0, x1)), (3, (0, x3))]) rfl ?_
            refine ja_goto 39 dfinish_101 rfl ?_
            exact ja_wk (fun q hq => by simp only [List.mem_cons, List.not_mem_nil, or_false] at hq; rcases hq with rfl | rfl | rfl <;> rfl) ((ih (((90000000 : Int) + 100000 * ((13 : Int) - x1) - 10 - 1000 * (x2 + 1)).toNat) (by omega)).2.1 x1 (x2 + 1) (ja_up u 84 ((x1).toNat) v8) g9 ⟨by omega, by omega⟩ ⟨by omega, by omega⟩ (⟨by omega, fiS_ag hs (by (repeat (first | exact ag_refl | refine ag_up rfl ?_)))⟩) rfl)
        · refine ja_iload_n dfinish_53 rfl rfl ?_
          refine ja_iload_n dfinish_54 rfl rfl ?_
          refine ja_icmp_eq 68 dfinish_55 rfl ⟨by omega, by omega⟩ ⟨by omega, by omega⟩ (fun c55 => ?_) (fun c55 => ?_)
          · refine ja_aload_n dfinish_68 rfl rfl ?_
            refine fa_below dfinish_69 ?_
            refine ja_iload_n dfinish_72 rfl rfl ?_
            refine ja_iload_n dfinish_73 rfl rfl ?_
            refine ja_iload_n dfinish_74 rfl rfl ?_
            refine ja_icmp_ne 91 dfinish_75 rfl ⟨by omega, by omega⟩ ⟨by omega, by omega⟩ (fun c75 => ?_) (fun c75 => ?_)
            · refine ja_aload_n dfinish_91 rfl rfl ?_
              refine fa_below dfinish_92 ?_
              refine ja_iload_n dfinish_95 rfl rfl ?_
              refine il_below (v := u 84 (x1).toNat) rfl ⟨by omega, by omega⟩ dfinish_96 ?_
              have f10 := gC_below gu (x1).toNat
              have g11 := gW_below gu (x1).toNat (x := u 84 (x1).toNat) ⟨by omega, by omega⟩
              refine is_below ⟨by omega, by omega⟩ dfinish_97 ?_
              refine ja_iinc dfinish_98 rfl (by decide) (L2 := [(2, (0, (x2 + 1))), (0, (2, ((0 : Nat) : Int))), (1, (0, x1)), (3, (0, x3))]) rfl ?_
              refine ja_goto 39 dfinish_101 rfl ?_
              exact ja_wk (fun q hq => by simp only [List.mem_cons, List.not_mem_nil, or_false] at hq; rcases hq with rfl | rfl | rfl <;> rfl) ((ih (((90000000 : Int) + 100000 * ((13 : Int) - x1) - 10 - 1000 * (x2 + 1)).toNat) (by omega)).2.1 x1 (x2 + 1) (ja_up u 84 ((x1).toNat) (u 84 (x1).toNat)) g11 ⟨by omega, by omega⟩ ⟨by omega, by omega⟩ (⟨by omega, fiS_ag hs (by (repeat (first | exact ag_refl | refine ag_up rfl ?_)))⟩) rfl)
            · refine ja_aload_n dfinish_78 rfl rfl ?_
              refine fa_below dfinish_79 ?_
              refine ja_iload_n dfinish_82 rfl rfl ?_
              refine il_below (v := u 84 (x1).toNat) rfl ⟨by omega, by omega⟩ dfinish_83 ?_
              have f12 := gC_below gu (x1).toNat
              refine ja_iconst dfinish_84 ?_
              refine ja_iload_n dfinish_85 rfl rfl ?_
              refine mo_hishl dfinish_86 (fun v13 rv13 => ?_)
              refine mo_hior dfinish_87 (fun v14 rv14 => ?_)
              refine ja_goto 97 dfinish_88 rfl ?_
              have g15 := gW_below gu (x1).toNat (x := v14) ⟨by omega, by omega⟩
              refine is_below ⟨by omega, by omega⟩ dfinish_97 ?_
              refine ja_iinc dfinish_98 rfl (by decide) (L2 := [(2, (0, (x2 + 1))), (0, (2, ((0 : Nat) : Int))), (1, (0, x1)), (3, (0, x3))]) rfl ?_
              refine ja_goto 39 dfinish_101 rfl ?_
              exact ja_wk (fun q hq => by simp only [List.mem_cons, List.not_mem_nil, or_false] at hq; rcases hq with rfl | rfl | rfl <;> rfl) ((ih (((90000000 : Int) + 100000 * ((13 : Int) - x1) - 10 - 1000 * (x2 + 1)).toNat) (by omega)).2.1 x1 (x2 + 1) (ja_up u 84 ((x1).toNat) v14) g15 ⟨by omega, by omega⟩ ⟨by omega, by omega⟩ (⟨by omega, fiS_ag hs (by (repeat (first | exact ag_refl | refine ag_up rfl ?_)))⟩) rfl)
          · refine ja_aload_n dfinish_58 rfl rfl ?_
            refine fa_classAbove dfinish_59 ?_
            refine ja_iload_n dfinish_62 rfl rfl ?_
            refine il_classAbove (v := u 12 (x3).toNat) rfl ⟨by omega, by omega⟩ dfinish_63 ?_
            have f16 := gC_classAbove gu (x3).toNat
            refine ja_istore_n dfinish_64 rfl (by decide) (L2 := [(3, (0, (u 12 (x3).toNat))), (0, (2, ((0 : Nat) : Int))), (1, (0, x1)), (2, (0, x2))]) rfl ?_
            refine ja_goto 49 dfinish_65 rfl ?_
            exact ja_wk (fun q hq => by simp only [List.mem_cons, List.not_mem_nil, or_false] at hq; rcases hq with rfl | rfl | rfl | rfl <;> rfl) ((ih (((90000000 : Int) + 100000 * ((13 : Int) - x1) - 10 - 1000 * x2 - 900 + rkM ((u 12)) (h 0 22) (u 12 (x3).toNat)).toNat) ((by have := rkM_s hs.2.2.1.1 (show ¬ x3 < 0 by omega) (show x3 < (h 0 22) by omega); have := rkM_0 (f := u 12) (n := (h 0 22)) (x := (u 12 (x3).toNat)); omega))).2.2.1 x1 x2 (u 12 (x3).toNat) u gu ⟨by omega, by omega⟩ ⟨by omega, by omega⟩ ⟨by omega, by omega⟩ (⟨(by have := (hrk (x3).toNat (by omega)).1; have := gC_classAbove gu (x3).toNat; omega), hs⟩) rfl)
      · intro x1 u gu qx1 iv hm
        subst hm
        have ku_classes := gF_classes gu
        have ku_words := gF_words gu
        have ku_methods := gF_methods gu
        have ku_nodes := gF_nodes gu
        have ku_points := gF_points gu
        have ku_bars := gF_bars gu
        have ku_false1 := gF_false1 gu
        have ku_falseAt := gF_falseAt gu
        obtain ⟨iv, hs⟩ := iv
        have ag := hs.2.1
        have e_classes : (u 0 22) = (h 0 22) := ag 0 22 rfl
        have e_words : (u 0 113) = (h 0 113) := ag 0 113 rfl
        have e_methods : (u 0 34) = (h 0 34) := ag 0 34 rfl
        have e_fields : (u 0 31) = (h 0 31) := ag 0 31 rfl
        have e_findings : (u 0 119) = (h 0 119) := ag 0 119 rfl
        have e_nodes : (u 0 95) = (h 0 95) := ag 0 95 rfl
        have hrk := rkU_P hs.2.2.1.1
        have eop : u 74 = h 74 := funext fun j => ag 74 j rfl
        refine ja_iload_n dfinish_112 rfl rfl ?_
        refine ja_aload_n dfinish_113 rfl rfl ?_
        refine fg_words (v := u 0 113) rfl dfinish_114 ?_
        have f17 := gF_words gu
        refine ja_icmp_ge 208 dfinish_117 rfl ⟨by omega, by omega⟩ ⟨by omega, by omega⟩ (fun c117 => ?_) (fun c117 => ?_)
        · refine ja_iconst dfinish_208 ?_
          refine ja_istore_n dfinish_209 rfl (by decide) (L2 := [(1, (0, 0)), (0, (2, ((0 : Nat) : Int)))]) rfl ?_
          exact ja_wk (fun q hq => by simp only [List.mem_cons, List.not_mem_nil, or_false] at hq; rcases hq with rfl | rfl <;> rfl) ((ih (((40000000 : Int) + ((100 : Int) - 0)).toNat) (by omega)).2.2.2.2.1 0 u gu ⟨by decide, by decide⟩ (⟨by omega, (by have e : x1 = (h 0 113) := (by omega); subst e; exact hs)⟩) rfl)
        · refine ja_aload_n dfinish_120 rfl rfl ?_
          refine fa_op dfinish_121 ?_
          refine ja_iload_n dfinish_124 rfl rfl ?_
          refine il_op (v := u 74 (x1).toNat) rfl ⟨by omega, by omega⟩ dfinish_125 ?_
          have f18 := gC_op gu (x1).toNat
          refine ja_bipush 6 dfinish_126 rfl ?_
          refine ja_icmp_eq 142 dfinish_128 rfl ⟨by omega, by omega⟩ ⟨by decide, by decide⟩ (fun c128 => ?_) (fun c128 => ?_)
          · have kwf := gC_aspectFields gu (u 76 (x1).toNat).toNat
            obtain ⟨w1, w2, w3⟩ := fi_67 p1 hs (by omega) (by omega) (by omega)
            refine ja_aload_n dfinish_142 rfl rfl ?_
            refine fa_opA dfinish_143 ?_
            refine ja_iload_n dfinish_146 rfl rfl ?_
            refine ja_aload_n dfinish_147 rfl rfl ?_
            refine ja_aload_n dfinish_148 rfl rfl ?_
            refine fa_opB dfinish_149 ?_
            refine ja_iload_n dfinish_152 rfl rfl ?_
            refine il_opB (v := u 76 (x1).toNat) rfl ⟨by omega, by omega⟩ dfinish_153 ?_
            have f19 := gC_opB gu (x1).toNat
            refine ja_aload_n dfinish_154 rfl rfl ?_
            refine ja_aload_n dfinish_155 rfl rfl ?_
            refine fa_opA dfinish_156 ?_
            refine ja_iload_n dfinish_159 rfl rfl ?_
            refine il_opA (v := u 75 (x1).toNat) rfl ⟨by omega, by omega⟩ dfinish_160 ?_
            have f20 := gC_opA gu (x1).toNat
            refine t_id (by decide) (show (4 : Nat) ≤ 8 by decide) dfinish_161 gu ⟨by omega, by omega⟩ (show 0 ≤ (u 75 (x1).toNat) ∧ (u 75 (x1).toNat) ≤ 900 by omega) ?_
            intro k161_0
            refine t_aspectFieldOf2 (by decide) (show (2 : Nat) ≤ 8 by decide) dfinish_164 gu ⟨by omega, by omega⟩ ⟨by omega, by omega⟩ (show 0 ≤ (u 76 (x1).toNat) ∧ (u 76 (x1).toNat) ≤ 7 by omega) ?_ ?_
            · intro w21 k164_0
              have g22 := gW_opA gu (x1).toNat (x := w21) ⟨by omega, by omega⟩
              refine is_opA ⟨by omega, by omega⟩ dfinish_167 ?_
              refine ja_goto 202 dfinish_168 rfl ?_
              refine ja_iinc dfinish_202 rfl (by decide) (L2 := [(1, (0, (x1 + 1))), (0, (2, ((0 : Nat) : Int)))]) rfl ?_
              refine ja_goto 112 dfinish_205 rfl ?_
              exact ja_wk (fun q hq => by simp only [List.mem_cons, List.not_mem_nil, or_false] at hq; rcases hq with rfl | rfl <;> rfl) ((ih (((50000000 : Int) + ((6000 : Int) - (x1 + 1))).toNat) (by omega)).2.2.2.1 (x1 + 1) (ja_up u 75 ((x1).toNat) w21) g22 ⟨by omega, by omega⟩ (⟨by omega, (by have eox : (u 74 (x1).toNat) = (h 74 (x1).toNat) := congrFun eop _; exact fiS_w (n := x1) (by omega) hs (by omega) (fun _ => by omega) (fun z => by exfalso; omega))⟩) rfl)
            · intro k164_1
              exfalso; omega
          · refine ja_aload_n dfinish_131 rfl rfl ?_
            refine fa_op dfinish_132 ?_
            refine ja_iload_n dfinish_135 rfl rfl ?_
            refine il_op (v := u 74 (x1).toNat) rfl ⟨by omega, by omega⟩ dfinish_136 ?_
            refine ja_bipush 7 dfinish_137 rfl ?_
            refine ja_icmp_ne 171 dfinish_139 rfl ⟨by omega, by omega⟩ ⟨by decide, by decide⟩ (fun c139 => ?_) (fun c139 => ?_)
            · refine ja_aload_n dfinish_171 rfl rfl ?_
              refine fa_op dfinish_172 ?_
              refine ja_iload_n dfinish_175 rfl rfl ?_
              refine il_op (v := u 74 (x1).toNat) rfl ⟨by omega, by omega⟩ dfinish_176 ?_
              refine ja_bipush 8 dfinish_177 rfl ?_
              refine ja_icmp_ne 202 dfinish_179 rfl ⟨by omega, by omega⟩ ⟨by decide, by decide⟩ (fun c179 => ?_) (fun c179 => ?_)
              · refine ja_iinc dfinish_202 rfl (by decide) (L2 := [(1, (0, (x1 + 1))), (0, (2, ((0 : Nat) : Int)))]) rfl ?_
                refine ja_goto 112 dfinish_205 rfl ?_
                exact ja_wk (fun q hq => by simp only [List.mem_cons, List.not_mem_nil, or_false] at hq; rcases hq with rfl | rfl <;> rfl) ((ih (((50000000 : Int) + ((6000 : Int) - (x1 + 1))).toNat) (by omega)).2.2.2.1 (x1 + 1) u gu ⟨by omega, by omega⟩ (⟨by omega, (by have eox : (u 74 (x1).toNat) = (h 74 (x1).toNat) := congrFun eop _; exact fiS_skip (by omega) hs (by omega))⟩) rfl)
              · obtain ⟨w1, w3⟩ := fi_8 p1 hs (by omega) (by omega) (by omega)
                refine ja_aload_n dfinish_182 rfl rfl ?_
                refine fa_opA dfinish_183 ?_
                refine ja_iload_n dfinish_186 rfl rfl ?_
                refine ja_aload_n dfinish_187 rfl rfl ?_
                refine ja_aload_n dfinish_188 rfl rfl ?_
                refine ja_aload_n dfinish_189 rfl rfl ?_
                refine fa_opA dfinish_190 ?_
                refine ja_iload_n dfinish_193 rfl rfl ?_
                refine il_opA (v := u 75 (x1).toNat) rfl ⟨by omega, by omega⟩ dfinish_194 ?_
                have f23 := gC_opA gu (x1).toNat
                refine t_id (by decide) (show (3 : Nat) ≤ 8 by decide) dfinish_195 gu ⟨by omega, by omega⟩ (show 0 ≤ (u 75 (x1).toNat) ∧ (u 75 (x1).toNat) ≤ 900 by omega) ?_
                intro k195_0
                refine t_classOf2 (by decide) (show (2 : Nat) ≤ 8 by decide) dfinish_198 gu ⟨by omega, by omega⟩ ?_ ?_
                · intro w24 k198_0
                  have g25 := gW_opA gu (x1).toNat (x := w24) ⟨by omega, by omega⟩
                  refine is_opA ⟨by omega, by omega⟩ dfinish_201 ?_
                  refine ja_iinc dfinish_202 rfl (by decide) (L2 := [(1, (0, (x1 + 1))), (0, (2, ((0 : Nat) : Int)))]) rfl ?_
                  refine ja_goto 112 dfinish_205 rfl ?_
                  exact ja_wk (fun q hq => by simp only [List.mem_cons, List.not_mem_nil, or_false] at hq; rcases hq with rfl | rfl <;> rfl) ((ih (((50000000 : Int) + ((6000 : Int) - (x1 + 1))).toNat) (by omega)).2.2.2.1 (x1 + 1) (ja_up u 75 ((x1).toNat) w24) g25 ⟨by omega, by omega⟩ (⟨by omega, (by have eox : (u 74 (x1).toNat) = (h 74 (x1).toNat) := congrFun eop _; exact fiS_w (n := x1) (by omega) hs (by omega) (fun z => by exfalso; omega) (fun _ => by omega))⟩) rfl)
                · intro k198_1
                  exfalso; omega
            · have kwf := gC_aspectFields gu (u 76 (x1).toNat).toNat
              obtain ⟨w1, w2, w3⟩ := fi_67 p1 hs (by omega) (by omega) (by omega)
              refine ja_aload_n dfinish_142 rfl rfl ?_
              refine fa_opA dfinish_143 ?_
              refine ja_iload_n dfinish_146 rfl rfl ?_
              refine ja_aload_n dfinish_147 rfl rfl ?_
              refine ja_aload_n dfinish_148 rfl rfl ?_
              refine fa_opB dfinish_149 ?_
              refine ja_iload_n dfinish_152 rfl rfl ?_
              refine il_opB (v := u 76 (x1).toNat) rfl ⟨by omega, by omega⟩ dfinish_153 ?_
              have f26 := gC_opB gu (x1).toNat
              refine ja_aload_n dfinish_154 rfl rfl ?_
              refine ja_aload_n dfinish_155 rfl rfl ?_
              refine fa_opA dfinish_156 ?_
              refine ja_iload_n dfinish_159 rfl rfl ?_
              refine il_opA (v := u 75 (x1).toNat) rfl ⟨by omega, by omega⟩ dfinish_160 ?_
              have f27 := gC_opA gu (x1).toNat
              refine t_id (by decide) (show (4 : Nat) ≤ 8 by decide) dfinish_161 gu ⟨by omega, by omega⟩ (show 0 ≤ (u 75 (x1).toNat) ∧ (u 75 (x1).toNat) ≤ 900 by omega) ?_
              intro k161_0
              refine t_aspectFieldOf2 (by decide) (show (2 : Nat) ≤ 8 by decide) dfinish_164 gu ⟨by omega, by omega⟩ ⟨by omega, by omega⟩ (show 0 ≤ (u 76 (x1).toNat) ∧ (u 76 (x1).toNat) ≤ 7 by omega) ?_ ?_
              · intro w28 k164_0
                have g29 := gW_opA gu (x1).toNat (x := w28) ⟨by omega, by omega⟩
                refine is_opA ⟨by omega, by omega⟩ dfinish_167 ?_
                refine ja_goto 202 dfinish_168 rfl ?_
                refine ja_iinc dfinish_202 rfl (by decide) (L2 := [(1, (0, (x1 + 1))), (0, (2, ((0 : Nat) : Int)))]) rfl ?_
                refine ja_goto 112 dfinish_205 rfl ?_
                exact ja_wk (fun q hq => by simp only [List.mem_cons, List.not_mem_nil, or_false] at hq; rcases hq with rfl | rfl <;> rfl) ((ih (((50000000 : Int) + ((6000 : Int) - (x1 + 1))).toNat) (by omega)).2.2.2.1 (x1 + 1) (ja_up u 75 ((x1).toNat) w28) g29 ⟨by omega, by omega⟩ (⟨by omega, (by have eox : (u 74 (x1).toNat) = (h 74 (x1).toNat) := congrFun eop _; exact fiS_w (n := x1) (by omega) hs (by omega) (fun _ => by omega) (fun z => by exfalso; omega))⟩) rfl)
              · intro k164_1
                exfalso; omega
      · intro x1 u gu qx1 iv hm
        subst hm
        have ku_classes := gF_classes gu
        have ku_words := gF_words gu
        have ku_methods := gF_methods gu
        have ku_nodes := gF_nodes gu
        have ku_points := gF_points gu
        have ku_bars := gF_bars gu
        have ku_false1 := gF_false1 gu
        have ku_falseAt := gF_falseAt gu
        obtain ⟨iv, hs⟩ := iv
        have ag := hs.2.1
        have e_classes : (u 0 22) = (h 0 22) := ag 0 22 rfl
        have e_words : (u 0 113) = (h 0 113) := ag 0 113 rfl
        have e_methods : (u 0 34) = (h 0 34) := ag 0 34 rfl
        have e_fields : (u 0 31) = (h 0 31) := ag 0 31 rfl
        have e_findings : (u 0 119) = (h 0 119) := ag 0 119 rfl
        have e_nodes : (u 0 95) = (h 0 95) := ag 0 95 rfl
        have hrk := rkU_P hs.2.2.1.1
        have eop : u 74 = h 74 := funext fun j => ag 74 j rfl
        refine ja_iload_n dfinish_210 rfl rfl ?_
        refine ja_aload_n dfinish_211 rfl rfl ?_
        refine fg_methods (v := u 0 34) rfl dfinish_212 ?_
        have f30 := gF_methods gu
        refine ja_icmp_ge 240 dfinish_215 rfl ⟨by omega, by omega⟩ ⟨by omega, by omega⟩ (fun c215 => ?_) (fun c215 => ?_)
        · obtain ⟨rk2, hr2, hb2⟩ := rk_low hrk (by omega)
          have hor : True := trivial
          refine ja_aload_n dfinish_240 rfl rfl ?_
          refine t_layFields (by decide) (show (0 : Nat) ≤ 8 by decide) dfinish_241 gu ((rk_cast e_classes hr2)) ((fun x hx => by have := hb2 x (by omega); omega)) ((it_F_eq (it_F_of p1) e_fields (funext fun j => ag _ j rfl))) ?_
          intro h31 k241_0 g32
          refine ja_aload_n dfinish_244 rfl rfl ?_
          refine t_layNodes (by decide) (show (0 : Nat) ≤ 8 by decide) dfinish_245 g32 ((fi_rk k241_0 e_classes hr2)) ((fi_lnR p1 hs k241_0)) ?_
          intro h33 k245_0 g34
          refine ja_aload_n dfinish_248 rfl rfl ?_
          refine t_layOrder (by decide) (show (0 : Nat) ≤ 8 by decide) dfinish_249 g34 ((fi_ord p1 hs k241_0 k245_0).1) ((fi_ord p1 hs k241_0 k245_0).2) ?_
          intro h35 k249_0 g36
          refine ja_iconst dfinish_252 ?_
          refine ja_istore_n dfinish_253 rfl (by decide) (L2 := [(1, (0, 0)), (0, (2, ((0 : Nat) : Int)))]) rfl ?_
          exact ja_wk (fun q hq => by simp only [List.mem_cons, List.not_mem_nil, or_false] at hq; rcases hq with rfl | rfl <;> rfl) ((ih (((30000000 : Int) + ((1000 : Int) - 0)).toNat) (by omega)).2.2.2.2.2.1 0 h35 g36 ⟨by decide, by decide⟩ (⟨⟨by omega, by omega, (by have e1 : ((h35 0 119) : Int) = (h33 0 119) := k249_0.1 0 119 rfl; have e2 := k245_0.1 0 119 rfl; have e3 := k241_0 0 119 rfl; omega)⟩, ⟨_, _, _, fi_all g p1 hs k241_0 k245_0 k249_0.1 k249_0.2, (ag_trans (ag_sub (X_sub (by decide) (by decide)) hs.2.1) (ag_trans (ag_sub (X_sub (by decide) (by decide)) k241_0) (ag_trans (ag_sub (X_sub (by decide) (by decide)) k245_0.1) (ag_sub (X_sub (by decide) (by decide)) k249_0.1)))), rcK_e hs.2.2.1 (fun j => (k249_0.1 _ j rfl).trans ((k245_0.1 _ j rfl).trans (k241_0 _ j rfl)))⟩⟩) rfl)
        · refine ja_aload_n dfinish_218 rfl rfl ?_
          refine fa_methodClass dfinish_219 ?_
          refine ja_iload_n dfinish_222 rfl rfl ?_
          refine ja_aload_n dfinish_223 rfl rfl ?_
          refine ja_aload_n dfinish_224 rfl rfl ?_
          refine fa_methodOf dfinish_225 ?_
          refine ja_iload_n dfinish_228 rfl rfl ?_
          refine il_methodOf (v := u 20 (x1).toNat) rfl ⟨by omega, by omega⟩ dfinish_229 ?_
          have f37 := gC_methodOf gu (x1).toNat
          refine t_classOf2 (by decide) (show (2 : Nat) ≤ 8 by decide) dfinish_230 gu ⟨by omega, by omega⟩ ?_ ?_
          · intro w38 k230_0
            have g39 := gW_methodClass gu (x1).toNat (x := w38) ⟨by omega, by omega⟩
            refine is_methodClass ⟨by omega, by omega⟩ dfinish_233 ?_
            refine ja_iinc dfinish_234 rfl (by decide) (L2 := [(1, (0, (x1 + 1))), (0, (2, ((0 : Nat) : Int)))]) rfl ?_
            refine ja_goto 210 dfinish_237 rfl ?_
            exact ja_wk (fun q hq => by simp only [List.mem_cons, List.not_mem_nil, or_false] at hq; rcases hq with rfl | rfl <;> rfl) ((ih (((40000000 : Int) + ((100 : Int) - (x1 + 1))).toNat) (by omega)).2.2.2.2.1 (x1 + 1) (ja_up u 21 ((x1).toNat) w38) g39 ⟨by omega, by omega⟩ (⟨by omega, fiS_ag hs (by (repeat (first | exact ag_refl | refine ag_up rfl ?_)))⟩) rfl)
          · intro k230_1
            have g40 := gW_methodClass gu (x1).toNat (x := (-1)) ⟨by decide, by decide⟩
            refine is_methodClass ⟨by omega, by omega⟩ dfinish_233 ?_
            refine ja_iinc dfinish_234 rfl (by decide) (L2 := [(1, (0, (x1 + 1))), (0, (2, ((0 : Nat) : Int)))]) rfl ?_
            refine ja_goto 210 dfinish_237 rfl ?_
            exact ja_wk (fun q hq => by simp only [List.mem_cons, List.not_mem_nil, or_false] at hq; rcases hq with rfl | rfl <;> rfl) ((ih (((40000000 : Int) + ((100 : Int) - (x1 + 1))).toNat) (by omega)).2.2.2.2.1 (x1 + 1) (ja_up u 21 ((x1).toNat) (-1)) g40 ⟨by omega, by omega⟩ (⟨by omega, fiS_ag hs (by (repeat (first | exact ag_refl | refine ag_up rfl ?_)))⟩) rfl)
      · intro x1 u gu qx1 iv hm
        subst hm
        have ku_classes := gF_classes gu
        have ku_words := gF_words gu
        have ku_methods := gF_methods gu
        have ku_nodes := gF_nodes gu
        have ku_points := gF_points gu
        have ku_bars := gF_bars gu
        have ku_false1 := gF_false1 gu
        have ku_falseAt := gF_falseAt gu
        obtain ⟨iv, ht1, st1, rg1, he⟩ := iv
        have heg := he.2.1
        have l_size : (u 0 1) = (h 0 1) := heg 0 1 rfl
        have l_compiled : (u 0 118) = (h 0 118) := heg 0 118 rfl
        have l_started : (u 0 127) = (h 0 127) := heg 0 127 rfl
        have l_nodes : (u 0 95) = (h 0 95) := heg 0 95 rfl
        have l_points : (u 0 88) = (h 0 88) := heg 0 88 rfl
        have l_bars : (u 0 57) = (h 0 57) := heg 0 57 rfl
        refine ja_iload_n dfinish_254 rfl rfl ?_
        refine ja_aload_n dfinish_255 rfl rfl ?_
        refine fg_nodes (v := u 0 95) rfl dfinish_256 ?_
        have f41 := gF_nodes gu
        refine ja_icmp_ge 282 dfinish_259 rfl ⟨by omega, by omega⟩ ⟨by omega, by omega⟩ (fun c259 => ?_) (fun c259 => ?_)
        · refine ja_iconst dfinish_282 ?_
          refine ja_istore_n dfinish_283 rfl (by decide) (L2 := [(1, (0, 0)), (0, (2, ((0 : Nat) : Int)))]) rfl ?_
          exact ja_wk (fun q hq => by simp only [List.mem_cons, List.not_mem_nil, or_false] at hq; rcases hq with rfl | rfl <;> rfl) ((ih (((20000000 : Int) + ((1000 : Int) - 0)).toNat) (by omega)).2.2.2.2.2.2.1 0 u gu ⟨by decide, by decide⟩ (⟨by omega, ⟨_, _, _, he⟩⟩) rfl)
        · refine ja_aload_n dfinish_262 rfl rfl ?_
          refine fa_nodeInPick dfinish_263 ?_
          refine ja_iload_n dfinish_266 rfl rfl ?_
          refine il_nodeInPick (v := u 67 (x1).toNat) rfl ⟨by omega, by omega⟩ dfinish_267 ?_
          have f42 := gC_nodeInPick gu (x1).toNat
          refine ja_if_eq 276 dfinish_268 rfl ⟨by omega, by omega⟩ (fun c268 => ?_) (fun c268 => ?_)
          · refine ja_iinc dfinish_276 rfl (by decide) (L2 := [(1, (0, (x1 + 1))), (0, (2, ((0 : Nat) : Int)))]) rfl ?_
            refine ja_goto 254 dfinish_279 rfl ?_
            exact ja_wk (fun q hq => by simp only [List.mem_cons, List.not_mem_nil, or_false] at hq; rcases hq with rfl | rfl <;> rfl) ((ih (((30000000 : Int) + ((1000 : Int) - (x1 + 1))).toNat) (by omega)).2.2.2.2.2.1 (x1 + 1) u gu ⟨by omega, by omega⟩ (⟨by omega, ⟨_, _, _, he⟩⟩) rfl)
          · refine ja_aload_n dfinish_271 rfl rfl ?_
            refine ja_iload_n dfinish_272 rfl rfl ?_
            refine t_foresee (by decide) (show (0 : Nat) ≤ 8 by decide) dfinish_273 gu ⟨by omega, by omega⟩ (show 0 ≤ x1 ∧ x1 ≤ 899 by omega) ((ci_nd gu he.1 (x1).toNat (by omega))) ((fun p hp => ci_pt he.1 p hp)) ?_
            intro h43 k273_0 g44
            refine ja_iinc dfinish_276 rfl (by decide) (L2 := [(1, (0, (x1 + 1))), (0, (2, ((0 : Nat) : Int)))]) rfl ?_
            refine ja_goto 254 dfinish_279 rfl ?_
            exact ja_wk (fun q hq => by simp only [List.mem_cons, List.not_mem_nil, or_false] at hq; rcases hq with rfl | rfl <;> rfl) ((ih (((30000000 : Int) + ((1000 : Int) - (x1 + 1))).toNat) (by omega)).2.2.2.2.2.1 (x1 + 1) h43 g44 ⟨by omega, by omega⟩ (⟨⟨by omega, by omega, (by have e1 : ((h43 0 119) : Int) = (u 0 119) := k273_0 0 119 rfl; omega)⟩, ⟨_, _, _, fiE_ag he (ag_sub (X_X (by decide) (by decide)) k273_0)⟩⟩) rfl)
      · intro x1 u gu qx1 iv hm
        subst hm
        have ku_classes := gF_classes gu
        have ku_words := gF_words gu
        have ku_methods := gF_methods gu
        have ku_nodes := gF_nodes gu
        have ku_points := gF_points gu
        have ku_bars := gF_bars gu
        have ku_false1 := gF_false1 gu
        have ku_falseAt := gF_falseAt gu
        obtain ⟨iv, ht1, st1, rg1, he⟩ := iv
        have heg := he.2.1
        have l_size : (u 0 1) = (h 0 1) := heg 0 1 rfl
        have l_compiled : (u 0 118) = (h 0 118) := heg 0 118 rfl
        have l_started : (u 0 127) = (h 0 127) := heg 0 127 rfl
        have l_nodes : (u 0 95) = (h 0 95) := heg 0 95 rfl
        have l_points : (u 0 88) = (h 0 88) := heg 0 88 rfl
        have l_bars : (u 0 57) = (h 0 57) := heg 0 57 rfl
        refine ja_iload_n dfinish_284 rfl rfl ?_
        refine ja_aload_n dfinish_285 rfl rfl ?_
        refine fg_nodes (v := u 0 95) rfl dfinish_286 ?_
        have f45 := gF_nodes gu
        refine ja_icmp_ge 312 dfinish_289 rfl ⟨by omega, by omega⟩ ⟨by omega, by omega⟩ (fun c289 => ?_) (fun c289 => ?_)
        · refine ja_iconst dfinish_312 ?_
          refine ja_istore_n dfinish_313 rfl (by decide) (L2 := [(1, (0, 0)), (0, (2, ((0 : Nat) : Int)))]) rfl ?_
          exact ja_wk (fun q hq => by simp only [List.mem_cons, List.not_mem_nil, or_false] at hq; rcases hq with rfl | rfl <;> rfl) ((ih (((1000 : Int) * ((13 : Int) - 0)).toNat) (by omega)).2.2.2.2.2.2.2.1 0 u gu ⟨by decide, by decide⟩ (⟨by omega, by omega, ⟨_, _, _, he⟩⟩) rfl)
        · refine ja_aload_n dfinish_292 rfl rfl ?_
          refine fa_nodeInPick dfinish_293 ?_
          refine ja_iload_n dfinish_296 rfl rfl ?_
          refine il_nodeInPick (v := u 67 (x1).toNat) rfl ⟨by omega, by omega⟩ dfinish_297 ?_
          have f46 := gC_nodeInPick gu (x1).toNat
          refine ja_if_ne 306 dfinish_298 rfl ⟨by omega, by omega⟩ (fun c298 => ?_) (fun c298 => ?_)
          · refine ja_iinc dfinish_306 rfl (by decide) (L2 := [(1, (0, (x1 + 1))), (0, (2, ((0 : Nat) : Int)))]) rfl ?_
            refine ja_goto 284 dfinish_309 rfl ?_
            exact ja_wk (fun q hq => by simp only [List.mem_cons, List.not_mem_nil, or_false] at hq; rcases hq with rfl | rfl <;> rfl) ((ih (((20000000 : Int) + ((1000 : Int) - (x1 + 1))).toNat) (by omega)).2.2.2.2.2.2.1 (x1 + 1) u gu ⟨by omega, by omega⟩ (⟨by omega, ⟨_, _, _, he⟩⟩) rfl)
          · refine ja_aload_n dfinish_301 rfl rfl ?_
            refine ja_iload_n dfinish_302 rfl rfl ?_
            refine t_foresee (by decide) (show (0 : Nat) ≤ 8 by decide) dfinish_303 gu ⟨by omega, by omega⟩ (show 0 ≤ x1 ∧ x1 ≤ 899 by omega) ((ci_nd gu he.1 (x1).toNat (by omega))) ((fun p hp => ci_pt he.1 p hp)) ?_
            intro h47 k303_0 g48
            refine ja_iinc dfinish_306 rfl (by decide) (L2 := [(1, (0, (x1 + 1))), (0, (2, ((0 : Nat) : Int)))]) rfl ?_
            refine ja_goto 284 dfinish_309 rfl ?_
            exact ja_wk (fun q hq => by simp only [List.mem_cons, List.not_mem_nil, or_false] at hq; rcases hq with rfl | rfl <;> rfl) ((ih (((20000000 : Int) + ((1000 : Int) - (x1 + 1))).toNat) (by omega)).2.2.2.2.2.2.1 (x1 + 1) h47 g48 ⟨by omega, by omega⟩ (⟨⟨by omega, by omega, (by have e1 : ((h47 0 119) : Int) = (u 0 119) := k303_0 0 119 rfl; omega)⟩, ⟨_, _, _, fiE_ag he (ag_sub (X_X (by decide) (by decide)) k303_0)⟩⟩) rfl)
      · intro x1 u gu qx1 iv hm
        subst hm
        have ku_classes := gF_classes gu
        have ku_words := gF_words gu
        have ku_methods := gF_methods gu
        have ku_nodes := gF_nodes gu
        have ku_points := gF_points gu
        have ku_bars := gF_bars gu
        have ku_false1 := gF_false1 gu
        have ku_falseAt := gF_falseAt gu
        obtain ⟨iv, iw, ht1, st1, rg1, he⟩ := iv
        have heg := he.2.1
        have l_size : (u 0 1) = (h 0 1) := heg 0 1 rfl
        have l_compiled : (u 0 118) = (h 0 118) := heg 0 118 rfl
        have l_started : (u 0 127) = (h 0 127) := heg 0 127 rfl
        have l_nodes : (u 0 95) = (h 0 95) := heg 0 95 rfl
        have l_points : (u 0 88) = (h 0 88) := heg 0 88 rfl
        have l_bars : (u 0 57) = (h 0 57) := heg 0 57 rfl
        refine ja_iload_n dfinish_314 rfl rfl ?_
        refine ja_aload_n dfinish_315 rfl rfl ?_
        refine fg_bars (v := u 0 57) rfl dfinish_316 ?_
        have f49 := gF_bars gu
        refine ja_icmp_ge 432 dfinish_319 rfl ⟨by omega, by omega⟩ ⟨by omega, by omega⟩ (fun c319 => ?_) (fun c319 => ?_)
        · refine ja_return dfinish_432 rfl ?_
          exact k1 u (⟨fun _ => ⟨_, _, _, he.1⟩, ag_sub (F_F (by decide) (by decide)) he.2.1, clN_of g (he.2.1 _ _ rfl) he.2.2⟩) gu
        · refine ja_iconst dfinish_322 ?_
          refine ja_istore_n dfinish_323 rfl (by decide) (L2 := [(2, (0, 0)), (0, (2, ((0 : Nat) : Int))), (1, (0, x1))]) rfl ?_
          exact ja_wk (fun q hq => by simp only [List.mem_cons, List.not_mem_nil, or_false] at hq; rcases hq with rfl | rfl | rfl <;> rfl) ((ih (((1000 : Int) * ((13 : Int) - x1) - 1 - 0).toNat) (by omega)).2.2.2.2.2.2.2.2 x1 0 u gu ⟨by omega, by omega⟩ ⟨by decide, by decide⟩ (⟨by omega, (show ((u 0 119) : Int) ≤ 400 * x1 + 0 by omega), ⟨_, _, _, fiE_ag he (by (repeat (first | exact ag_refl | refine ag_up rfl ?_)))⟩⟩) rfl)
      · intro x1 x2 u gu qx1 qx2 iv hm
        subst hm
        have ku_classes := gF_classes gu
        have ku_words := gF_words gu
        have ku_methods := gF_methods gu
        have ku_nodes := gF_nodes gu
        have ku_points := gF_points gu
        have ku_bars := gF_bars gu
        have ku_false1 := gF_false1 gu
        have ku_falseAt := gF_falseAt gu
        obtain ⟨iv, iw, ht1, st1, rg1, he⟩ := iv
        have heg := he.2.1
        have l_size : (u 0 1) = (h 0 1) := heg 0 1 rfl
        have l_compiled : (u 0 118) = (h 0 118) := heg 0 118 rfl
        have l_started : (u 0 127) = (h 0 127) := heg 0 127 rfl
        have l_nodes : (u 0 95) = (h 0 95) := heg 0 95 rfl
        have l_points : (u 0 88) = (h 0 88) := heg 0 88 rfl
        have l_bars : (u 0 57) = (h 0 57) := heg 0 57 rfl
        refine ja_iload_n dfinish_324 rfl rfl ?_
        refine ja_aload_n dfinish_325 rfl rfl ?_
        refine fg_points (v := u 0 88) rfl dfinish_326 ?_
        have f50 := gF_points gu
        refine ja_icmp_ge 426 dfinish_329 rfl ⟨by omega, by omega⟩ ⟨by omega, by omega⟩ (fun c329 => ?_) (fun c329 => ?_)
        · refine ja_iinc dfinish_426 rfl (by decide) (L2 := [(1, (0, (x1 + 1))), (0, (2, ((0 : Nat) : Int))), (2, (0, x2))]) rfl ?_
          refine ja_goto 314 dfinish_429 rfl ?_
          exact ja_wk (fun q hq => by simp only [List.mem_cons, List.not_mem_nil, or_false] at hq; rcases hq with rfl | rfl <;> rfl) ((ih (((1000 : Int) * ((13 : Int) - (x1 + 1))).toNat) (by omega)).2.2.2.2.2.2.2.1 (x1 + 1) u gu ⟨by omega, by omega⟩ (⟨by omega, by omega, ⟨_, _, _, he⟩⟩) rfl)
        · refine ja_aload_n dfinish_332 rfl rfl ?_
          refine fa_ahead dfinish_333 ?_
          refine ja_sipush 400 dfinish_336 rfl ?_
          refine ja_aload_n dfinish_339 rfl rfl ?_
          refine fa_barRoot dfinish_340 ?_
          refine ja_iload_n dfinish_343 rfl rfl ?_
          refine il_barRoot (v := u 38 (x1).toNat) rfl ⟨by omega, by omega⟩ dfinish_344 ?_
          have f51 := gC_barRoot gu (x1).toNat
          refine ja_imul dfinish_345 ?_
          refine ja_iload_n dfinish_346 rfl rfl ?_
          refine ja_iadd dfinish_347 ?_
          refine il_ahead (v := u 71 ((400 * (u 38 (x1).toNat)) + x2).toNat) rfl ⟨by omega, by omega⟩ dfinish_348 ?_
          have f52 := gC_ahead gu ((400 * (u 38 (x1).toNat)) + x2).toNat
          refine ja_istore_n dfinish_349 rfl (by decide) (L2 := [(3, (0, (u 71 ((400 * (u 38 (x1).toNat)) + x2).toNat))), (0, (2, ((0 : Nat) : Int))), (1, (0, x1)), (2, (0, x2))]) rfl ?_
          refine ja_iload_n dfinish_350 rfl rfl ?_
          refine ja_if_le 394 dfinish_351 rfl ⟨by omega, by omega⟩ (fun c351 => ?_) (fun c351 => ?_)
          · refine ja_iload_n dfinish_394 rfl rfl ?_
            refine ja_iconst dfinish_395 ?_
            refine ja_icmp_ne 420 dfinish_396 rfl ⟨by omega, by omega⟩ ⟨by decide, by decide⟩ (fun c396 => ?_) (fun c396 => ?_)
            · refine ja_iinc dfinish_420 rfl (by decide) (L2 := [(2, (0, (x2 + 1))), (3, (0, (u 71 ((400 * (u 38 (x1).toNat)) + x2).toNat))), (0, (2, ((0 : Nat) : Int))), (1, (0, x1))]) rfl ?_
              refine ja_goto 324 dfinish_423 rfl ?_
              exact ja_wk (fun q hq => by simp only [List.mem_cons, List.not_mem_nil, or_false] at hq; rcases hq with rfl | rfl | rfl <;> rfl) ((ih (((1000 : Int) * ((13 : Int) - x1) - 1 - (x2 + 1)).toNat) (by omega)).2.2.2.2.2.2.2.2 x1 (x2 + 1) u gu ⟨by omega, by omega⟩ ⟨by omega, by omega⟩ (⟨by omega, (show ((u 0 119) : Int) ≤ 400 * x1 + (x2 + 1) by omega), ⟨_, _, _, fiE_ag he (by (repeat (first | exact ag_refl | refine ag_up rfl ?_)))⟩⟩) rfl)
            · refine ja_aload_n dfinish_399 rfl rfl ?_
              refine fa_barWarns dfinish_400 ?_
              refine ja_iload_n dfinish_403 rfl rfl ?_
              refine il_barWarns (v := u 39 (x1).toNat) rfl ⟨by omega, by omega⟩ dfinish_404 ?_
              have f53 := gC_barWarns gu (x1).toNat
              refine ja_if_ne 420 dfinish_405 rfl ⟨by omega, by omega⟩ (fun c405 => ?_) (fun c405 => ?_)
              · refine ja_iinc dfinish_420 rfl (by decide) (L2 := [(2, (0, (x2 + 1))), (3, (0, (u 71 ((400 * (u 38 (x1).toNat)) + x2).toNat))), (0, (2, ((0 : Nat) : Int))), (1, (0, x1))]) rfl ?_
                refine ja_goto 324 dfinish_423 rfl ?_
                exact ja_wk (fun q hq => by simp only [List.mem_cons, List.not_mem_nil, or_false] at hq; rcases hq with rfl | rfl | rfl <;> rfl) ((ih (((1000 : Int) * ((13 : Int) - x1) - 1 - (x2 + 1)).toNat) (by omega)).2.2.2.2.2.2.2.2 x1 (x2 + 1) u gu ⟨by omega, by omega⟩ ⟨by omega, by omega⟩ (⟨by omega, (show ((u 0 119) : Int) ≤ 400 * x1 + (x2 + 1) by omega), ⟨_, _, _, fiE_ag he (by (repeat (first | exact ag_refl | refine ag_up rfl ?_)))⟩⟩) rfl)
              · refine ja_aload_n dfinish_408 rfl rfl ?_
                refine ja_bipush 8 dfinish_409 rfl ?_
                refine ja_aload_n dfinish_411 rfl rfl ?_
                refine fa_barToken dfinish_412 ?_
                refine ja_iload_n dfinish_415 rfl rfl ?_
                refine il_barToken (v := u 40 (x1).toNat) rfl ⟨by omega, by omega⟩ dfinish_416 ?_
                have f54 := gC_barToken gu (x1).toNat
                refine t_judge (by decide) (show (0 : Nat) ≤ 8 by decide) dfinish_417 gu ⟨by decide, by decide⟩ ⟨by omega, by omega⟩ (show 1 ≤ 8 ∧ 8 ≤ 8 by omega) (show 0 ≤ (u 40 (x1).toNat) ∧ (u 40 (x1).toNat) ≤ 900 by omega) ?_
                intro w55 w56 k417_0 g57
                replace k417_0 : 1 ≤ w55 ∧ w55 ≤ 8 ∧ -2147483648 ≤ w56 ∧ w56 ≤ 2147483647 := k417_0
                replace g57 : mo_G mo_zr (ja_up (ja_up u 0 11 w55) 0 12 w56) := g57
                show mJ l D cA ad 7 cX12_finish 4 none 420 [(3, (0, (u 71 ((400 * (u 38 (x1).toNat)) + x2).toNat))), (0, (2, ((0 : Nat) : Int))), (1, (0, x1)), (2, (0, x2))] [] (ja_up (ja_up u 0 11 w55) 0 12 w56) Q
                refine ja_iinc dfinish_420 rfl (by decide) (L2 := [(2, (0, (x2 + 1))), (3, (0, (u 71 ((400 * (u 38 (x1).toNat)) + x2).toNat))), (0, (2, ((0 : Nat) : Int))), (1, (0, x1))]) rfl ?_
                refine ja_goto 324 dfinish_423 rfl ?_
                exact ja_wk (fun q hq => by simp only [List.mem_cons, List.not_mem_nil, or_false] at hq; rcases hq with rfl | rfl | rfl <;> rfl) ((ih (((1000 : Int) * ((13 : Int) - x1) - 1 - (x2 + 1)).toNat) (by omega)).2.2.2.2.2.2.2.2 x1 (x2 + 1) (ja_up (ja_up u 0 11 w55) 0 12 w56) g57 ⟨by omega, by omega⟩ ⟨by omega, by omega⟩ (⟨by omega, (show ((u 0 119) : Int) ≤ 400 * x1 + (x2 + 1) by omega), ⟨_, _, _, fiE_ag he (by (repeat (first | exact ag_refl | refine ag_up rfl ?_)))⟩⟩) rfl)
          · refine ja_aload_n dfinish_354 rfl rfl ?_
            refine fa_findBar dfinish_355 ?_
            refine ja_aload_n dfinish_358 rfl rfl ?_
            refine fg_findings (v := u 0 119) rfl dfinish_359 ?_
            have f58 := gF_findings gu
            refine ja_iload_n dfinish_362 rfl rfl ?_
            have g59 := gW_findBar gu (u 0 119).toNat (x := x1) ⟨by omega, by omega⟩
            refine is_findBar ⟨by omega, by omega⟩ dfinish_363 ?_
            refine ja_aload_n dfinish_364 rfl rfl ?_
            refine fa_findPoint dfinish_365 ?_
            refine ja_aload_n dfinish_368 rfl rfl ?_
            refine fg_findings (v := u 0 119) rfl dfinish_369 ?_
            refine ja_iload_n dfinish_372 rfl rfl ?_
            have g60 := gW_findPoint g59 (u 0 119).toNat (x := x2) ⟨by omega, by omega⟩
            refine is_findPoint ⟨by omega, by omega⟩ dfinish_373 ?_
            refine ja_aload_n dfinish_374 rfl rfl ?_
            refine fa_findKnown dfinish_375 ?_
            refine ja_aload_n dfinish_378 rfl rfl ?_
            refine fg_findings (v := u 0 119) rfl dfinish_379 ?_
            refine ja_iload_n dfinish_382 rfl rfl ?_
            have g61 := gW_findKnown g60 (u 0 119).toNat (x := u 71 ((400 * (u 38 (x1).toNat)) + x2).toNat) ⟨by omega, by omega⟩
            refine is_findKnown ⟨by omega, by omega⟩ dfinish_383 ?_
            refine ja_aload_n dfinish_384 rfl rfl ?_
            refine ja_dup dfinish_385 (by decide) ?_
            refine fg_findings (v := u 0 119) rfl dfinish_386 ?_
            refine ja_iconst dfinish_389 ?_
            refine ja_iadd dfinish_390 ?_
            have g62 := gP_findings g61 (x := (u 0 119) + 1) ⟨by omega, by omega⟩
            refine fp_findings dfinish_391 ?_
            refine ja_iload_n dfinish_394 rfl rfl ?_
            refine ja_iconst dfinish_395 ?_
            refine ja_icmp_ne 420 dfinish_396 rfl ⟨by omega, by omega⟩ ⟨by decide, by decide⟩ (fun c396 => ?_) (fun c396 => ?_)
            · refine ja_iinc dfinish_420 rfl (by decide) (L2 := [(2, (0, (x2 + 1))), (3, (0, (u 71 ((400 * (u 38 (x1).toNat)) + x2).toNat))), (0, (2, ((0 : Nat) : Int))), (1, (0, x1))]) rfl ?_
              refine ja_goto 324 dfinish_423 rfl ?_
              exact ja_wk (fun q hq => by simp only [List.mem_cons, List.not_mem_nil, or_false] at hq; rcases hq with rfl | rfl | rfl <;> rfl) ((ih (((1000 : Int) * ((13 : Int) - x1) - 1 - (x2 + 1)).toNat) (by omega)).2.2.2.2.2.2.2.2 x1 (x2 + 1) (ja_up (ja_up (ja_up (ja_up u 78 ((u 0 119).toNat) x1) 79 ((u 0 119).toNat) x2) 80 ((u 0 119).toNat) (u 71 ((400 * (u 38 (x1).toNat)) + x2).toNat)) 0 119 ((u 0 119) + 1)) g62 ⟨by omega, by omega⟩ ⟨by omega, by omega⟩ (⟨by omega, (show (((u 0 119) + 1) : Int) ≤ 400 * x1 + (x2 + 1) by omega), ⟨_, _, _, fiE_ag he (by (repeat (first | exact ag_refl | refine ag_up rfl ?_)))⟩⟩) rfl)
            · refine ja_aload_n dfinish_399 rfl rfl ?_
              refine fa_barWarns dfinish_400 ?_
              refine ja_iload_n dfinish_403 rfl rfl ?_
              refine il_barWarns (v := u 39 (x1).toNat) rfl ⟨by omega, by omega⟩ dfinish_404 ?_
              have f63 := gC_barWarns gu (x1).toNat
              refine ja_if_ne 420 dfinish_405 rfl ⟨by omega, by omega⟩ (fun c405 => ?_) (fun c405 => ?_)
              · refine ja_iinc dfinish_420 rfl (by decide) (L2 := [(2, (0, (x2 + 1))), (3, (0, (u 71 ((400 * (u 38 (x1).toNat)) + x2).toNat))), (0, (2, ((0 : Nat) : Int))), (1, (0, x1))]) rfl ?_
                refine ja_goto 324 dfinish_423 rfl ?_
                exact ja_wk (fun q hq => by simp only [List.mem_cons, List.not_mem_nil, or_false] at hq; rcases hq with rfl | rfl | rfl <;> rfl) ((ih (((1000 : Int) * ((13 : Int) - x1) - 1 - (x2 + 1)).toNat) (by omega)).2.2.2.2.2.2.2.2 x1 (x2 + 1) (ja_up (ja_up (ja_up (ja_up u 78 ((u 0 119).toNat) x1) 79 ((u 0 119).toNat) x2) 80 ((u 0 119).toNat) (u 71 ((400 * (u 38 (x1).toNat)) + x2).toNat)) 0 119 ((u 0 119) + 1)) g62 ⟨by omega, by omega⟩ ⟨by omega, by omega⟩ (⟨by omega, (show (((u 0 119) + 1) : Int) ≤ 400 * x1 + (x2 + 1) by omega), ⟨_, _, _, fiE_ag he (by (repeat (first | exact ag_refl | refine ag_up rfl ?_)))⟩⟩) rfl)
              · refine ja_aload_n dfinish_408 rfl rfl ?_
                refine ja_bipush 8 dfinish_409 rfl ?_
                refine ja_aload_n dfinish_411 rfl rfl ?_
                refine fa_barToken dfinish_412 ?_
                refine ja_iload_n dfinish_415 rfl rfl ?_
                refine il_barToken (v := u 40 (x1).toNat) rfl ⟨by omega, by omega⟩ dfinish_416 ?_
                have f64 := gC_barToken gu (x1).toNat
                refine t_judge (by decide) (show (0 : Nat) ≤ 8 by decide) dfinish_417 g62 ⟨by decide, by decide⟩ ⟨by omega, by omega⟩ (show 1 ≤ 8 ∧ 8 ≤ 8 by omega) (show 0 ≤ (u 40 (x1).toNat) ∧ (u 40 (x1).toNat) ≤ 900 by omega) ?_
                intro w65 w66 k417_0 g67
                replace k417_0 : 1 ≤ w65 ∧ w65 ≤ 8 ∧ -2147483648 ≤ w66 ∧ w66 ≤ 2147483647 := k417_0
                replace g67 : mo_G mo_zr (ja_up (ja_up (ja_up (ja_up (ja_up (ja_up u 78 ((u 0 119).toNat) x1) 79 ((u 0 119).toNat) x2) 80 ((u 0 119).toNat) (u 71 ((400 * (u 38 (x1).toNat)) + x2).toNat)) 0 119 ((u 0 119) + 1)) 0 11 w65) 0 12 w66) := g67
                show mJ l D cA ad 7 cX12_finish 4 none 420 [(3, (0, (u 71 ((400 * (u 38 (x1).toNat)) + x2).toNat))), (0, (2, ((0 : Nat) : Int))), (1, (0, x1)), (2, (0, x2))] [] (ja_up (ja_up (ja_up (ja_up (ja_up (ja_up u 78 ((u 0 119).toNat) x1) 79 ((u 0 119).toNat) x2) 80 ((u 0 119).toNat) (u 71 ((400 * (u 38 (x1).toNat)) + x2).toNat)) 0 119 ((u 0 119) + 1)) 0 11 w65) 0 12 w66) Q
                refine ja_iinc dfinish_420 rfl (by decide) (L2 := [(2, (0, (x2 + 1))), (3, (0, (u 71 ((400 * (u 38 (x1).toNat)) + x2).toNat))), (0, (2, ((0 : Nat) : Int))), (1, (0, x1))]) rfl ?_
                refine ja_goto 324 dfinish_423 rfl ?_
                exact ja_wk (fun q hq => by simp only [List.mem_cons, List.not_mem_nil, or_false] at hq; rcases hq with rfl | rfl | rfl <;> rfl) ((ih (((1000 : Int) * ((13 : Int) - x1) - 1 - (x2 + 1)).toNat) (by omega)).2.2.2.2.2.2.2.2 x1 (x2 + 1) (ja_up (ja_up (ja_up (ja_up (ja_up (ja_up u 78 ((u 0 119).toNat) x1) 79 ((u 0 119).toNat) x2) 80 ((u 0 119).toNat) (u 71 ((400 * (u 38 (x1).toNat)) + x2).toNat)) 0 119 ((u 0 119) + 1)) 0 11 w65) 0 12 w66) g67 ⟨by omega, by omega⟩ ⟨by omega, by omega⟩ (⟨by omega, (show (((u 0 119) + 1) : Int) ≤ 400 * x1 + (x2 + 1) by omega), ⟨_, _, _, fiE_ag he (by (repeat (first | exact ag_refl | refine ag_up rfl ?_)))⟩⟩) rfl)
  refine ja_aload_n dfinish_0 rfl rfl ?_
  refine t_twiceTold (by decide) (show (0 : Nat) ≤ 8 by decide) dfinish_1 g  ?_
  intro w68 w69 k1_0 g70
  replace k1_0 : 0 ≤ w68 ∧ w68 ≤ 8 ∧ (1 ≤ w68 ∨ w68 = (h 0 11)) ∧ -2147483648 ≤ w69 ∧ w69 ≤ 2147483647 ∧ (w68 = 0 → (h 0 11) = 0 ∧ odD h (h 0 64)) := k1_0
  replace g70 : mo_G mo_zr (ja_up (ja_up h 0 11 w68) 0 12 w69) := g70
  show mJ l D cA ad 7 cX12_finish 4 none 4 [(0, (2, ((0 : Nat) : Int)))] [] (ja_up (ja_up h 0 11 w68) 0 12 w69) Q
  refine ja_aload_n dfinish_4 rfl rfl ?_
  refine t_wanted (by decide) (show (0 : Nat) ≤ 8 by decide) dfinish_5 g70  ?_
  intro h71 k5_0 g72
  replace k5_0 : waU (ja_up (ja_up h 0 11 w68) 0 12 w69) h71 (h 0 72) ∧ ((h71 0 11) = 0 → waS (ja_up (ja_up h 0 11 w68) 0 12 w69) (h 0 68)) := k5_0
  refine ja_aload_n dfinish_8 rfl rfl ?_
  refine t_parents (by decide) (show (0 : Nat) ≤ 8 by decide) dfinish_9 g72  ?_
  intro h73 k9_0 g74
  refine ja_aload_n dfinish_12 rfl rfl ?_
  refine fg_false1 (v := h73 0 11) rfl dfinish_13 ?_
  have f75 := gF_false1 g74
  refine ja_if_le 20 dfinish_16 rfl ⟨by omega, by omega⟩ (fun c16 => ?_) (fun c16 => ?_)
  · refine ja_iconst dfinish_20 ?_
    refine ja_istore_n dfinish_21 rfl (by decide) (L2 := [(1, (0, 0)), (0, (2, ((0 : Nat) : Int)))]) rfl ?_
    exact ja_wk (fun q hq => by simp only [List.mem_cons, List.not_mem_nil, or_false] at hq; rcases hq with rfl | rfl <;> rfl) ((CUT _).1 0 h73 g74 ⟨by decide, by decide⟩ (⟨by omega, fi_start k1_0.2.2.2.2.2 k5_0.1 k5_0.2 k9_0 (show ((h73 0 11) : Int) = 0 by omega)⟩) rfl)
  · refine ja_return dfinish_19 rfl ?_
    exact k1 h73 (⟨(fun z => by have z2 : ((h73 0 11) : Int) = 0 := z; exfalso; omega), fi_kr k5_0.1 k9_0, clN_pa g k5_0.1 k9_0⟩) g74
theorem t_finish {ht st rg : Nat → Int} {d nL pc : Nat} {cc : ByteArray} {rt : Option FieldType} {L : List (Nat × ja_V)} {S : List ja_V} {h : ja_H} {Q : Option ja_V → ja_H → Prop} (hdd : 7 < d) (hwd : ja_wd S ≤ 8) (hd : decode cc pc = .ok (.invokevirtual 638, 3)) (g : mo_G mo_zr h) (p1 : it h ht st rg) (p2 : (h 0 119) = 0) (k1 : ∀ (h' : ja_H), (((h' 0 11) = 0 → ∃ ht st rg : Nat → Int, CI h' ht st rg) ∧ mo_ag FKR h h' ∧ clN h h') → mo_G mo_zr h' → mJ l D cA ad d cc nL rt (pc + 3) L S h' Q) : mJ l D cA ad d cc nL rt pc L ((2, ((0 : Nat) : Int)) :: S) h Q :=
  mc_finish hdd hwd hd (s_finish g p1 p2 k1)
end
