/-! the reference: what is delivered (written by a program) -/
/-! the reference: what is delivered -/
/-- a frame on top that is no body -/
theorem ri_1 {h : ja_H} {ht st rg : Nat → Int} (q : RI h ht st rg) (t : 3 ≤ (h 96) ((h 0 150) - 1).toNat) : RC h ht st rg 1 := by
  obtain ⟨⟨w, tw, rc⟩, -⟩ := q
  have e : ((h 0 150)).toNat = ((h 0 150) - 1).toNat + 1 := by have := rc.1.1; omega
  have q2 := rc.1.2
  rw [e] at q2
  rcases q2 with ⟨z, -⟩ | ⟨-, z, -⟩
  · omega
  · subst z; exact rc
theorem ri_n {h : ja_H} {ht st rg : Nat → Int} (g : mo_G mo_zr h) (c : CI h ht st rg) (q : RI h ht st rg) : 1 ≤ (h 0 150) ∧ (h 0 150) ≤ 2132 ∧ (h 0 144) ≤ 40 ∧ (h 0 149) ≤ 4920 ∧ (h 0 168) ≤ 656 ∧ 0 ≤ (h 0 144) := by
  have n := ri_num g c q
  obtain ⟨⟨w, tw, rc⟩, -⟩ := q
  have := rc.1.1
  have := rc.2.1.2
  have pb := pot_bd g ((h 0 150) - 1).toNat
  omega
/-- the frame on top goes, what it gave is told below -/
def FDP : Nat → Nat → Bool := mo_X [150, 172, 186, 187, 188, 189] []
theorem dv_pop {h u : ja_H} {ht st rg : Nat → Int} (g : mo_G mo_zr h) (gu : mo_G mo_zr u) (b : RB h ht st rg) (q : RI h ht st rg) (t3 : 3 ≤ (h 96) ((h 0 150) - 1).toNat) (ag : mo_ag FDP h u) (ef : (u 0 150) = (h 0 150) - 1) (er : (u 0 172) = (h 0 172) - (if (h 96) ((h 0 150) - 1).toNat = 3 then 1 else 0)) (eu : (u 0 186) = 1) (vi : VI u) : RO h u ht st rg := by
  have n := ri_n g b.2.1 q
  obtain ⟨rc, f2, -, -⟩ := rc_popn g (ri_1 q t3) (ag_sub (X_sub (by decide) (by decide)) ag) t3 ef er
  have rb := rb_ag b vi (ag_sub (X_sub (by decide) (by decide)) ag)
  have ri : RI u ht st rg := ⟨⟨1, ⟨by decide, fun z => by omega, fun _ => rfl⟩, rc⟩, fun z => by omega⟩
  refine ⟨rb, ag_sub (X_sub (by decide) (by decide)) ag, fun _ => ⟨ri, ?_⟩⟩
  refine rV_fall (k := ((h 0 150) - 1).toNat) gu rb.2.1 ri ⟨funext fun j => ag _ _ rfl, fun j _ => ⟨ag _ _ rfl, ag _ _ rfl, ag _ _ rfl, ag _ _ rfl⟩⟩ (by omega) (by omega) (by omega) ?_
  have fb := fD_b (st := st) g b.2.1.1 (n := ((h 0 150) - 1).toNat) (fun z => by omega)
  rw [rX_at (h := u) (by omega), rX_in (by omega)]
  unfold pD; rw [if_pos eu]
  omega
/-- before: the rest comes -/
theorem dv_rest {h u : ja_H} {ht st rg : Nat → Int} (g : mo_G mo_zr h) (gu : mo_G mo_zr u) (b : RB h ht st rg) (q : RI h ht st rg) (t4 : (h 96) ((h 0 150) - 1).toNat = 4) (s1 : (h 104) ((h 0 150) - 1).toNat = 1) (ag : mo_ag (mo_X [150, 186, 190, 191] [128, 129]) h u) (ef : (u 0 150) = (h 0 150) - 1) (eu : (u 0 186) = 2) (e1 : (u 0 190) = (h 102) ((h 0 150) - 1).toNat) (e2 : (u 0 191) = (h 103) ((h 0 150) - 1).toNat + 1) (vi : VI u) : RO h u ht st rg := by
  have n := ri_n g b.2.1 q
  have rc1 := ri_1 q (by omega)
  have rd : (u 0 172) = (h 0 172) := ag _ _ rfl
  obtain ⟨rc, f2, K, fr⟩ := rc_popn g rc1 (ag_sub (X_sub (by decide) (by decide)) ag) (by omega) ef (by rw [if_neg (by omega)]; omega)
  obtain ⟨k1, k2, k3, k4, k5, k6⟩ := K
  obtain ⟨k7, k8⟩ := k3 t4
  obtain ⟨P1, P2, P3, P4⟩ := pot_all (h := h) (u := u) (ag_sub (X_sub (by decide) (by decide)) ag)
  have gr := gC_frameRow g ((h 0 150) - 1).toNat
  have gl := gC_frameLevel g ((h 0 150) - 1).toNat
  have em : (u 123) = (h 123) := funext fun j => ag _ _ rfl
  have eN : ((h 0 150) - 1).toNat - 1 = ((u 0 150) - 1).toNat := by omega
  have ph : pot h ((h 0 150) - 1).toNat = rwX h ((h 102) ((h 0 150) - 1).toNat).toNat - ((h 103) ((h 0 150) - 1).toNat + 1) ∧ rpot h ((h 0 150) - 1).toNat = rwY h ((h 102) ((h 0 150) - 1).toNat).toNat := by
    unfold pot rpot
    rw [if_neg (by omega), if_neg (by omega), if_pos t4, if_neg (by omega), if_neg (by omega)]; exact ⟨rfl, rfl⟩
  have pn : pnd u := by
    unfold pnd
    rw [P1, P2, P3, P4, e1, e2, em, ← eN]
    rw [ph.1] at k5
    rw [ph.2, if_neg (by omega)] at k6
    exact ⟨⟨by omega, by omega⟩, by omega, by omega⟩
  have rb := rb_ag b vi (ag_sub (X_sub (by decide) (by decide)) ag)
  have ri : RI u ht st rg := ⟨⟨1, ⟨by decide, fun z => by omega, fun _ => rfl⟩, rc⟩, fun _ => pn⟩
  refine ⟨rb, ag_sub (X_sub (by decide) (by decide)) ag, fun _ => ⟨ri, ?_⟩⟩
  refine rV_fall (k := ((h 0 150) - 1).toNat) gu rb.2.1 ri ⟨funext fun j => ag _ _ rfl, fun j _ => ⟨ag _ _ rfl, ag _ _ rfl, ag _ _ rfl, ag _ _ rfl⟩⟩ (by omega) (by omega) (by omega) ?_
  rw [rX_at (h := u) (by omega), rX_in (by omega), fD_4 t4, s1, pD_e eu, e2]
  have := eeL_s (l := (h 103) ((h 0 150) - 1).toNat) gl.1 (by omega)
  simp only [if_true]
  omega
/-- behind: its body is begun -/
def FST : Nat → Nat → Bool := mo_X [] [105, 106, 107, 104]
theorem dv_top {h v : ja_H} {ht st rg : Nat → Int} (g : mo_G mo_zr h) (b : RB h ht st rg) (q : RI h ht st rg) (t4 : (h 96) ((h 0 150) - 1).toNat = 4) (ag : mo_ag FST h v) (lv : ∀ j : Nat, j ≠ ((h 0 150) - 1).toNat → (v 107) j = (h 107) j) : RC v ht st rg 1 := by
  have n := ri_n g b.2.1 q
  obtain ⟨⟨q1, q2⟩, ⟨q3, q4⟩, q5, q6, q7⟩ := ri_1 q (by omega)
  have em : ((h 0 150)).toNat = ((h 0 150) - 1).toNat + 1 := by omega
  have hca : caN h → caN v := caN_e (ag _ _ rfl)
  have n1 : (v 0 150) = (h 0 150) := ag _ _ rfl
  have n2 : (v 0 149) = (h 0 149) := ag _ _ rfl
  have n3 : (v 0 113) = (h 0 113) := ag _ _ rfl
  have n4 : (v 0 168) = (h 0 168) := ag _ _ rfl
  have n5 : (v 0 165) = (h 0 165) := ag _ _ rfl
  have n6 : (v 0 144) = (h 0 144) := ag _ _ rfl
  have n7 : (v 0 172) = (h 0 172) := ag _ _ rfl
  have n10 : (v 0 132) = (h 0 132) := ag _ _ rfl
  have n11 : (v 0 130) = (h 0 130) := ag _ _ rfl
  have f1 : (v 96) = (h 96) := funext fun j => ag _ _ rfl
  have f2 : (v 102) = (h 102) := funext fun j => ag _ _ rfl
  have f3 : (v 103) = (h 103) := funext fun j => ag _ _ rfl
  have f4 : (v 97) = (h 97) := funext fun j => ag _ _ rfl
  have f5 : (v 123) = (h 123) := funext fun j => ag _ _ rfl
  obtain ⟨P1, P2, -, -⟩ := pot_all (h := h) (u := v) (ag_sub (X_sub (by decide) (by decide)) ag)
  have fa : fAg h v ((h 0 150) - 1).toNat := fun j hj => ⟨ag _ _ rfl, ag _ _ rfl, ag _ _ rfl, ag _ _ rfl, ag _ _ rfl, lv j (by omega), ag _ _ rfl, ag _ _ rfl⟩
  rw [em] at q2 q3 q5 q7
  rcases q2 with ⟨z, -⟩ | ⟨z0, z1, K, f0⟩
  · omega
  have f := ft_ext g n3 hca fa ⟨funext fun j => ag _ _ rfl, fun r _ => ⟨ag _ _ rfl, ag _ _ rfl⟩⟩ (fun k _ => ⟨ag _ _ rfl, ag _ _ rfl⟩) f0
  have eB : ∀ n, fB v n = fB h n := fun n => by
    induction n with
    | zero => rfl
    | succ n ih => show fB v n + isB v n = fB h n + isB h n; unfold isB; rw [ih, f1]
  have eR : ∀ n, fR v n = fR h n := fun n => by
    induction n with
    | zero => rfl
    | succ n ih => show fR v n + (if (v 96) n = 3 then 1 else 0) = fR h n + (if (h 96) n = 3 then 1 else 0); rw [ih, f1]
  have eT : ∀ n, fT v st n = fT h st n := fun n => by
    induction n with
    | zero => rfl
    | succ n ih => show fT v st n + (if (v 96) n ≤ 2 then st ((v 97) n).toNat else 0) = fT h st n + (if (h 96) n ≤ 2 then st ((h 97) n).toNat else 0); rw [ih, f1, f4]
  obtain ⟨k1, k2, k3, k4, k5, k6⟩ := K
  unfold RC
  rw [n1, em, n2, n4, n5, n6, n7, n10, n11, eB, eR, eT]
  refine ⟨⟨q1, Or.inr ⟨by rw [f1]; exact z0, rfl, ?_, f⟩⟩, ⟨q3, q4⟩, q5, rwI_e q6 (by omega) (ag _ _ rfl) (ag _ _ rfl) (funext fun j => ag _ _ rfl) (fun r _ => ⟨ag _ _ rfl, ag _ _ rfl, ag _ _ rfl⟩) (funext fun j => ag _ _ rfl) hca, q7⟩
  unfold nbK
  rw [P1, P2, f1, f2, f3, f5, eR]
  exact ⟨k1, k2, k3, fun z => by omega, k5, k6⟩
theorem dv_begun {h v u : ja_H} {ht st rg : Nat → Int} (g : mo_G mo_zr h) (gu : mo_G mo_zr u) (b : RB h ht st rg) (q : RI h ht st rg) (t4 : (h 96) ((h 0 150) - 1).toNat = 4) (s2 : (h 104) ((h 0 150) - 1).toNat = 2) (ag : mo_ag FST h v) (lv : ∀ j : Nat, j ≠ ((h 0 150) - 1).toNat → (v 104) j = (h 104) j) (s3 : (v 104) ((h 0 150) - 1).toNat = 3) (bo : BO v u ht st rg) : RO h u ht st rg := by
  have n := ri_n g b.2.1 q
  have n1 : (v 0 150) = (h 0 150) := ag _ _ rfl
  obtain ⟨b1, b2, b3, b4, b5⟩ := bo
  have gl := gC_frameLevel g ((h 0 150) - 1).toNat
  refine ⟨b1, ag_trans (ag_sub (X_sub (by decide) (by decide)) ag) b2, fun _ => ⟨b3, ?_⟩⟩
  have d : dAg h v ((h 0 150) - 1).toNat := ⟨funext fun j => ag _ _ rfl, fun j hj => ⟨ag _ _ rfl, ag _ _ rfl, ag _ _ rfl, lv j (by omega)⟩⟩
  refine rV_fall (k := ((h 0 150) - 1).toNat) gu b1.2.1 b3 (dAg_tr d b4 (by omega)) (by omega) (by omega) (by omega) ?_
  obtain ⟨x1, x2, x3, x4⟩ := b4.2 ((h 0 150) - 1).toNat (by omega)
  have tv : (v 96) ((h 0 150) - 1).toNat = 4 := (ag _ _ rfl).trans t4
  have lv2 : (v 103) ((h 0 150) - 1).toNat = (h 103) ((h 0 150) - 1).toNat := ag _ _ rfl
  rw [rX_in (h := h) (by omega), rX_in (by omega), fD_4 (x1.trans tv), x3, x4, lv2, s3, fD_4 t4, s2]
  have := eeL_s (l := (h 103) ((h 0 150) - 1).toNat) gl.1 (by omega)
  simp only [show ¬ (3 : Int) = 1 by decide, show ¬ (3 : Int) = 2 by decide, show ¬ (2 : Int) = 1 by decide, if_false, if_true]
  omega
/-- a value is put -/
theorem dv_put {h u : ja_H} {ht st rg : Nat → Int} (g : mo_G mo_zr h) (gu : mo_G mo_zr u) (b : RB h ht st rg) (q : RI h ht st rg) (t2 : (h 96) ((h 0 150) - 1).toNat ≤ 2) (hu : (h 0 186) = 1) (hf : (h 0 187) = 0) (ag : mo_ag (mo_X [186, 149] [94, 95]) h u) (eu : (u 0 186) = 0) (ep : (u 0 149) = (h 0 149) + 1) (vi : VI u) : RO h u ht st rg := by
  have n := ri_n g b.2.1 q
  obtain ⟨⟨w, tw, rc⟩, -⟩ := q
  have ew := tw.2.2 (Or.inr ⟨hu, hf⟩)
  subst ew
  obtain ⟨⟨b1, b2, b3, b4, b5, b6⟩, t3⟩ := rc_top rc t2
  have et : (u 0 168) = (h 0 168) := ag _ _ rfl
  have eo : (u 0 132) = (h 0 132) := ag _ _ rfl
  have es : (u 0 130) = (h 0 130) := ag _ _ rfl
  have n1 : (u 0 150) = (h 0 150) := ag _ _ rfl
  have rc' : RC u ht st rg 0 := rc_wordT (pc := (h 97) ((h 0 150) - 1).toNat) g rc t2 (ag_sub (X_X (by decide) (by decide)) ag) (fun j _ => ag _ _ rfl) (ag _ _ rfl) b1 (by omega) ⟨b3.1, rfl⟩ (by omega) (fun k _ => ⟨ag _ _ rfl, ag _ _ rfl⟩) (fun k k1 k2 => by
    have := b6 k k1 (by omega)
    rw [(ag _ _ rfl : (u 113) k = (h 113) k), (ag _ _ rfl : (u 112) k = (h 112) k)]; exact this) (by omega)
  have rb := rb_ag b vi (ag_sub (X_sub (by decide) (by decide)) ag)
  have ri : RI u ht st rg := ⟨⟨0, ⟨by decide, fun _ => rfl, fun z => by omega⟩, rc'⟩, fun z => by omega⟩
  refine ⟨rb, ag_sub (X_sub (by decide) (by decide)) ag, fun _ => ⟨ri, ?_⟩⟩
  refine rV_fall (k := ((h 0 150)).toNat) gu rb.2.1 ri ⟨funext fun j => ag _ _ rfl, fun j _ => ⟨ag _ _ rfl, ag _ _ rfl, ag _ _ rfl, ag _ _ rfl⟩⟩ (by omega) (by omega) (by omega) ?_
  rw [rX_at (h := u) (by omega), rX_at (h := h) (by omega)]
  unfold pD; rw [if_neg (by omega), if_neg (by omega), if_pos hu]; decide
theorem ra_tp {h : ja_H} {ht st rg : Nat → Int} (g : mo_G mo_zr h) (c : CI h ht st rg) (q : RI h ht st rg) (t2 : (h 96) ((h 0 150) - 1).toNat ≤ 2) : (h 100) ((h 0 150) - 1).toNat < (h 0 168) → (h 113) ((h 0 168) - 1).toNat ≤ 4921 := fun z => by
  have n := ri_n g c q
  obtain ⟨⟨w, tw, rc⟩, -⟩ := q
  obtain ⟨⟨b1, b2, b3, b4, b5, b6⟩, t3⟩ := rc_top rc t2
  have gt := gC_frameTries g ((h 0 150) - 1).toNat
  have c1 := (b6 ((h 0 168) - 1).toNat (by omega) (by omega)).1
  have P := (c.1 ((h 97) ((h 0 150) - 1).toNat).toNat (by omega)).2.1
  have tw1 := tw.1
  omega
/-- a try takes it -/
theorem dv_try {h u : ja_H} {ht st rg : Nat → Int} (g : mo_G mo_zr h) (gu : mo_G mo_zr u) (b : RB h ht st rg) (q : RI h ht st rg) (t2 : (h 96) ((h 0 150) - 1).toNat ≤ 2) (ht0 : (h 100) ((h 0 150) - 1).toNat < (h 0 168)) (ag : mo_ag (mo_X [186, 149, 168] [94, 95, 97]) h u) (eu : (u 0 186) = 0) (et : (u 0 168) = (h 0 168) - 1) (ep : (u 0 149) = (h 113) ((h 0 168) - 1).toNat + 1) (E : (u 97) ((h 0 150) - 1).toNat = (h 112) ((h 0 168) - 1).toNat) (N : ∀ j : Nat, j ≠ ((h 0 150) - 1).toNat → (u 97) j = (h 97) j) (vi : VI u) : RO h u ht st rg := by
  have n := ri_n g b.2.1 q
  obtain ⟨⟨w, tw, rc⟩, -⟩ := q
  obtain ⟨⟨b1, b2, b3, b4, b5, b6⟩, t3⟩ := rc_top rc t2
  have gt := gC_frameTries g ((h 0 150) - 1).toNat
  obtain ⟨c1, c2, c3, c4, c5⟩ := b6 ((h 0 168) - 1).toNat (by omega) (by omega)
  have eo : (u 0 132) = (h 0 132) := ag _ _ rfl
  have es : (u 0 130) = (h 0 130) := ag _ _ rfl
  have n1 : (u 0 150) = (h 0 150) := ag _ _ rfl
  have P := (b.2.1.1 ((h 97) ((h 0 150) - 1).toNat).toNat (by omega)).2.2
  have p1 := P.1
  have p2 := P.2.1
  clear P
  have ec : ((((h 0 168) - 1).toNat : Nat) : Int) = (h 0 168) - 1 := by omega
  have rc' : RC u ht st rg 0 := rc_wordT (pc := (h 112) ((h 0 168) - 1).toNat) g rc t2 (ag_sub (X_X (by decide) (by decide)) ag) N E c2 (by omega) ⟨by omega, by omega⟩ (by omega) (fun k _ => ⟨ag _ _ rfl, ag _ _ rfl⟩) (fun k k1 k2 => by
    have := b6 k k1 (by omega)
    rw [(ag _ _ rfl : (u 113) k = (h 113) k), (ag _ _ rfl : (u 112) k = (h 112) k)]
    obtain ⟨d1, d2, d3, d4, d5⟩ := this
    exact ⟨d1, d2, d3, d4, by omega⟩) (by omega)
  have rb := rb_ag b vi (ag_sub (X_sub (by decide) (by decide)) ag)
  have ri : RI u ht st rg := ⟨⟨0, ⟨by decide, fun _ => rfl, fun z => by omega⟩, rc'⟩, fun z => by omega⟩
  refine ⟨rb, ag_sub (X_sub (by decide) (by decide)) ag, fun _ => ⟨ri, ?_⟩⟩
  have tu : (u 96) ((h 0 150) - 1).toNat ≤ 2 := by rw [(ag _ _ rfl : (u 96) ((h 0 150) - 1).toNat = (h 96) ((h 0 150) - 1).toNat)]; exact t2
  refine rV_fall (k := ((h 0 150) - 1).toNat) gu rb.2.1 ri ⟨funext fun j => ag _ _ rfl, fun j hj => ⟨ag _ _ rfl, N j (by omega), ag _ _ rfl, ag _ _ rfl⟩⟩ (by omega) (by omega) (by omega) ?_
  rw [rX_in (h := u) (by omega), rX_in (h := h) (by omega), fD_body tu, fD_body t2, E]
  unfold dg
  rw [c4]
  (repeat' split) <;> omega
/-- a body is left -/
theorem dv_leave {h u : ja_H} {ht st rg : Nat → Int} (g : mo_G mo_zr h) (gu : mo_G mo_zr u) (b : RB h ht st rg) (q : RI h ht st rg) (t2 : (h 96) ((h 0 150) - 1).toNat ≤ 2) (t0 : (h 96) ((h 0 150) - 1).toNat ≠ 0) (ag : mo_ag (mo_X [186, 150, 149, 168, 165, 144, 187, 188, 189] [97]) h u) (N : ∀ j : Nat, j ≠ ((h 0 150) - 1).toNat → (u 97) j = (h 97) j) (ef : (u 0 150) = (h 0 150) - 1) (ep : (u 0 149) = (h 99) ((h 0 150) - 1).toNat) (et : (u 0 168) = (h 100) ((h 0 150) - 1).toNat) (el : (u 0 165) = (h 101) ((h 0 150) - 1).toNat) (eb : (u 0 144) = (h 0 144) - 1) (eu : (u 0 186) = 1) (vi : VI u) : RO h u ht st rg := by
  have n := ri_n g b.2.1 q
  obtain ⟨⟨w, tw, rc⟩, -⟩ := q
  obtain ⟨rc', f2⟩ := rc_leave g b.2.1 rc (ag_sub (X_sub (by decide) (by decide)) ag) N t0 t2 ef ep et el eb
  have bT := (rc_top rc t2).1.1
  have rb := rb_ag b vi (ag_sub (X_sub (by decide) (by decide)) ag)
  have ri : RI u ht st rg := ⟨⟨1, ⟨by decide, fun z => by omega, fun _ => rfl⟩, rc'⟩, fun z => by omega⟩
  refine ⟨rb, ag_sub (X_sub (by decide) (by decide)) ag, fun _ => ⟨ri, ?_⟩⟩
  refine rV_fall (k := ((h 0 150) - 1).toNat) gu rb.2.1 ri ⟨funext fun j => ag _ _ rfl, fun j hj => ⟨ag _ _ rfl, N j (by omega), ag _ _ rfl, ag _ _ rfl⟩⟩ (by omega) (by omega) (by omega) ?_
  have fb := fD_b (st := st) g b.2.1.1 (n := ((h 0 150) - 1).toNat) (fun _ => bT)
  rw [rX_at (h := u) (by omega), rX_in (by omega)]
  unfold pD; rw [if_pos eu]
  omega
/-- the run ends -/
theorem dv_end {h u : ja_H} {ht st rg : Nat → Int} (b : RB h ht st rg) (vi : VI u) (a1 : mo_ag FRB h u) (a2 : mo_ag FRO h u) (e : (u 0 129) ≠ 1) : RO h u ht st rg := ⟨rb_ag b vi a1, a2, fun z => absurd z e⟩

theorem nb_top {h : ja_H} {ht st rg : Nat → Int} (q : RI h ht st rg) (h1 : 1 ≤ (h 0 150)) (t : 3 ≤ (h 96) ((h 0 150) - 1).toNat) : nbK h ((h 0 150) - 1).toNat ∧ (h 0 172) = fR h ((h 0 150) - 1).toNat + (if (h 96) ((h 0 150) - 1).toNat = 3 then 1 else 0) := by
  have rc := ri_1 q t
  have e : ((h 0 150)).toNat = ((h 0 150) - 1).toNat + 1 := by omega
  obtain ⟨⟨-, q2⟩, -, q5, -⟩ := rc
  rw [e] at q2 q5
  rcases q2 with ⟨z, -⟩ | ⟨-, -, K, -⟩
  · omega
  · exact ⟨K, q5⟩
theorem nb5 {h : ja_H} {ht st rg : Nat → Int} (q : RI h ht st rg) (h1 : 1 ≤ (h 0 150)) (t : (h 96) ((h 0 150) - 1).toNat = 5) : (0 ≤ (h 107) ((h 0 150) - 1).toNat ∧ (h 107) ((h 0 150) - 1).toNat ≤ 200) ∧ caN h := (nb_top q h1 (by omega)).1.2.2.2.1 t
theorem nb3 {h : ja_H} {ht st rg : Nat → Int} (g : mo_G mo_zr h) (q : RI h ht st rg) (h1 : 1 ≤ (h 0 150)) (t : (h 96) ((h 0 150) - 1).toNat = 3) : 1 ≤ (h 0 172) := by
  have := (nb_top q h1 (by omega)).2
  have f0 := fR_0 (h := h) ((h 0 150) - 1).toNat
  rw [if_pos t] at this
  omega
theorem draise_0 : decode cX12_raise 0 = .ok (.aload_n 0, 1) := by decide +kernel
theorem draise_1 : decode cX12_raise 1 = .ok (.getfield 1002, 3) := by decide +kernel
theorem draise_4 : decode cX12_raise 4 = .ok (.aload_n 0, 1) := by decide +kernel
theorem draise_5 : decode cX12_raise 5 = .ok (.getfield 309, 3) := by decide +kernel
theorem draise_8 : decode cX12_raise 8 = .ok (.iload_n 1, 1) := by decide +kernel
theorem draise_9 : decode cX12_raise 9 = .ok (.iaload, 1) := by decide +kernel
theorem draise_10 : decode cX12_raise 10 = .ok (.if_icmp .le 59, 3) := by decide +kernel
theorem draise_13 : decode cX12_raise 13 = .ok (.aload_n 0, 1) := by decide +kernel
theorem draise_14 : decode cX12_raise 14 = .ok (.dup, 1) := by decide +kernel
theorem draise_15 : decode cX12_raise 15 = .ok (.getfield 1002, 3) := by decide +kernel
theorem draise_18 : decode cX12_raise 18 = .ok (.iconst 1, 1) := by decide +kernel
theorem draise_19 : decode cX12_raise 19 = .ok (.isub, 1) := by decide +kernel
theorem draise_20 : decode cX12_raise 20 = .ok (.putfield 1002, 3) := by decide +kernel
theorem draise_23 : decode cX12_raise 23 = .ok (.aload_n 0, 1) := by decide +kernel
theorem draise_24 : decode cX12_raise 24 = .ok (.aload_n 0, 1) := by decide +kernel
theorem draise_25 : decode cX12_raise 25 = .ok (.getfield 348, 3) := by decide +kernel
theorem draise_28 : decode cX12_raise 28 = .ok (.aload_n 0, 1) := by decide +kernel
theorem draise_29 : decode cX12_raise 29 = .ok (.getfield 1002, 3) := by decide +kernel
theorem draise_32 : decode cX12_raise 32 = .ok (.iaload, 1) := by decide +kernel
theorem draise_33 : decode cX12_raise 33 = .ok (.putfield 993, 3) := by decide +kernel
theorem draise_36 : decode cX12_raise 36 = .ok (.aload_n 0, 1) := by decide +kernel
theorem draise_37 : decode cX12_raise 37 = .ok (.aload_n 0, 1) := by decide +kernel
theorem draise_38 : decode cX12_raise 38 = .ok (.getfield 1027, 3) := by decide +kernel
theorem draise_41 : decode cX12_raise 41 = .ok (.aload_n 0, 1) := by decide +kernel
theorem draise_42 : decode cX12_raise 42 = .ok (.getfield 1030, 3) := by decide +kernel
theorem draise_45 : decode cX12_raise 45 = .ok (.invokevirtual 1045, 3) := by decide +kernel
theorem draise_48 : decode cX12_raise 48 = .ok (.aload_n 0, 1) := by decide +kernel
theorem draise_49 : decode cX12_raise 49 = .ok (.getfield 300, 3) := by decide +kernel
theorem draise_52 : decode cX12_raise 52 = .ok (.iload_n 1, 1) := by decide +kernel
theorem draise_53 : decode cX12_raise 53 = .ok (.aload_n 0, 1) := by decide +kernel
theorem draise_54 : decode cX12_raise 54 = .ok (.getfield 345, 3) := by decide +kernel
theorem draise_57 : decode cX12_raise 57 = .ok (.aload_n 0, 1) := by decide +kernel
theorem draise_58 : decode cX12_raise 58 = .ok (.getfield 1002, 3) := by decide +kernel
theorem draise_61 : decode cX12_raise 61 = .ok (.iaload, 1) := by decide +kernel
theorem draise_62 : decode cX12_raise 62 = .ok (.iastore, 1) := by decide +kernel
theorem draise_63 : decode cX12_raise 63 = .ok (.aload_n 0, 1) := by decide +kernel
theorem draise_64 : decode cX12_raise 64 = .ok (.iconst 0, 1) := by decide +kernel
theorem draise_65 : decode cX12_raise 65 = .ok (.putfield 1008, 3) := by decide +kernel
theorem draise_68 : decode cX12_raise 68 = .ok (.return_, 1) := by decide +kernel
theorem draise_69 : decode cX12_raise 69 = .ok (.aload_n 0, 1) := by decide +kernel
theorem draise_70 : decode cX12_raise 70 = .ok (.getfield 297, 3) := by decide +kernel
theorem draise_73 : decode cX12_raise 73 = .ok (.iload_n 1, 1) := by decide +kernel
theorem draise_74 : decode cX12_raise 74 = .ok (.iaload, 1) := by decide +kernel
theorem draise_75 : decode cX12_raise 75 = .ok (.ifCond .ne 7, 3) := by decide +kernel
theorem draise_78 : decode cX12_raise 78 = .ok (.iconst 1, 1) := by decide +kernel
theorem draise_79 : decode cX12_raise 79 = .ok (.goto 4, 3) := by decide +kernel
theorem draise_82 : decode cX12_raise 82 = .ok (.iconst 0, 1) := by decide +kernel
theorem draise_83 : decode cX12_raise 83 = .ok (.istore_n 2, 1) := by decide +kernel
theorem draise_84 : decode cX12_raise 84 = .ok (.aload_n 0, 1) := by decide +kernel
theorem draise_85 : decode cX12_raise 85 = .ok (.invokevirtual 1054, 3) := by decide +kernel
theorem draise_88 : decode cX12_raise 88 = .ok (.iload_n 2, 1) := by decide +kernel
theorem draise_89 : decode cX12_raise 89 = .ok (.ifCond .eq 29, 3) := by decide +kernel
theorem draise_92 : decode cX12_raise 92 = .ok (.aload_n 0, 1) := by decide +kernel
theorem draise_93 : decode cX12_raise 93 = .ok (.iconst 2, 1) := by decide +kernel
theorem draise_94 : decode cX12_raise 94 = .ok (.putfield 1016, 3) := by decide +kernel
theorem draise_97 : decode cX12_raise 97 = .ok (.aload_n 0, 1) := by decide +kernel
theorem draise_98 : decode cX12_raise 98 = .ok (.aload_n 0, 1) := by decide +kernel
theorem draise_99 : decode cX12_raise 99 = .ok (.getfield 1027, 3) := by decide +kernel
theorem draise_102 : decode cX12_raise 102 = .ok (.putfield 1010, 3) := by decide +kernel
theorem draise_105 : decode cX12_raise 105 = .ok (.aload_n 0, 1) := by decide +kernel
theorem draise_106 : decode cX12_raise 106 = .ok (.aload_n 0, 1) := by decide +kernel
theorem draise_107 : decode cX12_raise 107 = .ok (.getfield 1030, 3) := by decide +kernel
theorem draise_110 : decode cX12_raise 110 = .ok (.putfield 1013, 3) := by decide +kernel
theorem draise_113 : decode cX12_raise 113 = .ok (.aload_n 0, 1) := by decide +kernel
theorem draise_114 : decode cX12_raise 114 = .ok (.iconst 0, 1) := by decide +kernel
theorem draise_115 : decode cX12_raise 115 = .ok (.putfield 1008, 3) := by decide +kernel
theorem draise_118 : decode cX12_raise 118 = .ok (.return_, 1) := by decide +kernel
section
variable {l : Launch} {D : va_G} {cA : Nat → ClassId} {ad : Nat → Nat}
theorem s_raise {a1 : Int} {ht st rg : Nat → Int} {h : ja_H} {Q : Option ja_V → ja_H → Prop} (g : mo_G mo_zr h) (r1 : -2147483648 ≤ a1 ∧ a1 ≤ 2147483647) (p1 : RB h ht st rg) (p2 : RI h ht st rg) (p3 : (h 0 186) = 1) (p4 : (h 0 187) = 1) (p5 : a1 = (h 0 150) - 1) (p6 : (h 96 ((h 0 150) - 1).toNat) ≤ 2) (k1 : ∀ (h' : ja_H), (RO h h' ht st rg) → mo_G mo_zr h' → Q none h') : mM_raise l D cA ad a1 h Q := by
  show mJ l D cA ad 2 cX12_raise 3 none 0 [(0, (2, ((0 : Nat) : Int))), (1, (0, a1))] [] h Q
  have kn_frames := gF_frames g
  have kn_tries := gF_tries g
  have kn_bodies := gF_bodies g
  have kn_pile := gF_pile g
  have kn_under := gF_under g
  have kn_resultKind := gF_resultKind g
  have hn := ri_n g p1.2.1 p2
  have qv := p1.1
  have hgt := gC_frameTries g (a1).toNat
  have htp := ra_tp g p1.2.1 p2 p6
  rw [← p5] at htp
  have eft : (h 96 ((h 0 150) - 1).toNat) = (h 96 (a1).toNat) := (by rw [p5])
  have eftr : (h 100 ((h 0 150) - 1).toNat) = (h 100 (a1).toNat) := (by rw [p5])
  refine ja_aload_n draise_0 rfl rfl ?_
  refine fg_tries (v := h 0 168) rfl draise_1 ?_
  have f1 := gF_tries g
  refine ja_aload_n draise_4 rfl rfl ?_
  refine fa_frameTries draise_5 ?_
  refine ja_iload_n draise_8 rfl rfl ?_
  refine il_frameTries (v := h 100 (a1).toNat) rfl ⟨by omega, by omega⟩ draise_9 ?_
  have f2 := gC_frameTries g (a1).toNat
  refine ja_icmp_le 69 draise_10 rfl ⟨by omega, by omega⟩ ⟨by omega, by omega⟩ (fun c10 => ?_) (fun c10 => ?_)
  · refine ja_aload_n draise_69 rfl rfl ?_
    refine fa_frameType draise_70 ?_
    refine ja_iload_n draise_73 rfl rfl ?_
    refine il_frameType (v := h 96 (a1).toNat) rfl ⟨by omega, by omega⟩ draise_74 ?_
    have f3 := gC_frameType g (a1).toNat
    refine ja_if_ne 82 draise_75 rfl ⟨by omega, by omega⟩ (fun c75 => ?_) (fun c75 => ?_)
    · refine ja_iconst draise_82 ?_
      refine ja_istore_n draise_83 rfl (by decide) (L2 := [(2, (0, 0)), (0, (2, ((0 : Nat) : Int))), (1, (0, a1))]) rfl ?_
      refine ja_aload_n draise_84 rfl rfl ?_
      refine t_leave (by decide) (show (0 : Nat) ≤ 8 by decide) draise_85 g (show 1 ≤ (h 0 150) by omega) (show 0 ≤ (h 0 144) by omega) ?_
      intro w4 k85_0 g5
      replace k85_0 : ((h 96 ((h 0 150) - 1).toNat) = 0 ∧ w4 = (h 0 144)) ∨ (¬ (h 96 ((h 0 150) - 1).toNat) = 0 ∧ w4 = (h 0 144) - 1) := k85_0
      replace g5 : mo_G mo_zr (ja_up (ja_up (ja_up (ja_up (ja_up h 0 150 ((h 0 150) - 1)) 0 149 (h 99 ((h 0 150) - 1).toNat)) 0 168 (h 100 ((h 0 150) - 1).toNat)) 0 165 (h 101 ((h 0 150) - 1).toNat)) 0 144 w4) := g5
      show mJ l D cA ad 2 cX12_raise 3 none 88 [(2, (0, 0)), (0, (2, ((0 : Nat) : Int))), (1, (0, a1))] [] (ja_up (ja_up (ja_up (ja_up (ja_up h 0 150 ((h 0 150) - 1)) 0 149 (h 99 ((h 0 150) - 1).toNat)) 0 168 (h 100 ((h 0 150) - 1).toNat)) 0 165 (h 101 ((h 0 150) - 1).toNat)) 0 144 w4) Q
      refine ja_iload_n draise_88 rfl rfl ?_
      refine ja_if_eq 118 draise_89 rfl ⟨by decide, by decide⟩ (fun c89 => ?_) (fun c89 => absurd c89 (by omega))
      refine ja_return draise_118 rfl ?_
      exact k1 (ja_up (ja_up (ja_up (ja_up (ja_up h 0 150 ((h 0 150) - 1)) 0 149 (h 99 ((h 0 150) - 1).toNat)) 0 168 (h 100 ((h 0 150) - 1).toNat)) 0 165 (h 101 ((h 0 150) - 1).toNat)) 0 144 w4) ((dv_leave g g5 p1 p2 (by omega) (by omega) (by (repeat (first | exact ag_refl | refine ag_up rfl ?_))) (fun j hj => rfl) rfl rfl rfl rfl (by simp [ja_up]; omega) (by simp [ja_up]; omega) (by (repeat (first | exact qv | refine vi_set (by decide) (by decide) (by decide) ?_ (by first | exact (fun z => absurd z (by decide)) | exact vi_aS qv (by decide) _ | exact qv.2 | exact (fun z => ⟨by omega, hca⟩) | exact (fun z => ⟨by omega, hca z⟩) | (intro z; exfalso; omega)) | refine vi_res ?_ (by first | exact (fun z => absurd z (by decide)) | exact vi_aS qv (by decide) _ | exact qv.2 | exact (fun z => ⟨by omega, hca⟩) | exact (fun z => ⟨by omega, hca z⟩) | (intro z; exfalso; omega)) | refine vi_arr (by decide) (by decide) ?_ | refine vi_up (by decide) (by decide) ?_ | refine vi_val (ck := 106) (by decide) (by decide) (by decide) ?_ ⟨by omega, by omega⟩))))) g5
    · refine ja_iconst draise_78 ?_
      refine ja_goto 83 draise_79 rfl ?_
      refine ja_istore_n draise_83 rfl (by decide) (L2 := [(2, (0, 1)), (0, (2, ((0 : Nat) : Int))), (1, (0, a1))]) rfl ?_
      refine ja_aload_n draise_84 rfl rfl ?_
      refine t_leave (by decide) (show (0 : Nat) ≤ 8 by decide) draise_85 g (show 1 ≤ (h 0 150) by omega) (show 0 ≤ (h 0 144) by omega) ?_
      intro w6 k85_0 g7
      replace k85_0 : ((h 96 ((h 0 150) - 1).toNat) = 0 ∧ w6 = (h 0 144)) ∨ (¬ (h 96 ((h 0 150) - 1).toNat) = 0 ∧ w6 = (h 0 144) - 1) := k85_0
      replace g7 : mo_G mo_zr (ja_up (ja_up (ja_up (ja_up (ja_up h 0 150 ((h 0 150) - 1)) 0 149 (h 99 ((h 0 150) - 1).toNat)) 0 168 (h 100 ((h 0 150) - 1).toNat)) 0 165 (h 101 ((h 0 150) - 1).toNat)) 0 144 w6) := g7
      show mJ l D cA ad 2 cX12_raise 3 none 88 [(2, (0, 1)), (0, (2, ((0 : Nat) : Int))), (1, (0, a1))] [] (ja_up (ja_up (ja_up (ja_up (ja_up h 0 150 ((h 0 150) - 1)) 0 149 (h 99 ((h 0 150) - 1).toNat)) 0 168 (h 100 ((h 0 150) - 1).toNat)) 0 165 (h 101 ((h 0 150) - 1).toNat)) 0 144 w6) Q
      refine ja_iload_n draise_88 rfl rfl ?_
      refine ja_if_eq 118 draise_89 rfl ⟨by decide, by decide⟩ (fun c89 => absurd c89 (by omega)) (fun c89 => ?_)
      refine ja_aload_n draise_92 rfl rfl ?_
      refine ja_iconst draise_93 ?_
      have g8 := gP_state g7 (x := 2) ⟨by decide, by decide⟩
      refine fp_state draise_94 ?_
      refine ja_aload_n draise_97 rfl rfl ?_
      refine ja_aload_n draise_98 rfl rfl ?_
      refine fg_resultKind (v := h 0 188) rfl draise_99 ?_
      have f9 := gF_resultKind g
      have g10 := gP_failureKind g8 (x := h 0 188) ⟨by omega, by omega⟩
      refine fp_failureKind draise_102 ?_
      refine ja_aload_n draise_105 rfl rfl ?_
      refine ja_aload_n draise_106 rfl rfl ?_
      refine fg_resultValue (v := h 0 189) rfl draise_107 ?_
      have f11 := gF_resultValue g
      have g12 := gP_failureValue g10 (x := h 0 189) ⟨by omega, by omega⟩
      refine fp_failureValue draise_110 ?_
      refine ja_aload_n draise_113 rfl rfl ?_
      refine ja_iconst draise_114 ?_
      have g13 := gP_under g12 (x := 0) ⟨by decide, by decide⟩
      refine fp_under draise_115 ?_
      refine ja_return draise_118 rfl ?_
      exact k1 (ja_up (ja_up (ja_up (ja_up (ja_up (ja_up (ja_up (ja_up (ja_up h 0 150 ((h 0 150) - 1)) 0 149 (h 99 ((h 0 150) - 1).toNat)) 0 168 (h 100 ((h 0 150) - 1).toNat)) 0 165 (h 101 ((h 0 150) - 1).toNat)) 0 144 w6) 0 129 2) 0 145 (h 0 188)) 0 146 (h 0 189)) 0 186 0) ((dv_end p1 (by (repeat (first | exact qv | refine vi_set (by decide) (by decide) (by decide) ?_ (by first | exact (fun z => absurd z (by decide)) | exact vi_aS qv (by decide) _ | exact qv.2 | exact (fun z => ⟨by omega, hca⟩) | exact (fun z => ⟨by omega, hca z⟩) | (intro z; exfalso; omega)) | refine vi_res ?_ (by first | exact (fun z => absurd z (by decide)) | exact vi_aS qv (by decide) _ | exact qv.2 | exact (fun z => ⟨by omega, hca⟩) | exact (fun z => ⟨by omega, hca z⟩) | (intro z; exfalso; omega)) | refine vi_arr (by decide) (by decide) ?_ | refine vi_up (by decide) (by decide) ?_ | refine vi_val (ck := 106) (by decide) (by decide) (by decide) ?_ ⟨by omega, by omega⟩))) (by (repeat (first | exact ag_refl | refine ag_up rfl ?_))) (by (repeat (first | exact ag_refl | refine ag_up rfl ?_))) (show ¬ (2 : Int) = 1 by decide))) g13
  · refine ja_aload_n draise_13 rfl rfl ?_
    refine ja_dup draise_14 (by decide) ?_
    refine fg_tries (v := h 0 168) rfl draise_15 ?_
    refine ja_iconst draise_18 ?_
    refine ja_isub draise_19 ?_
    have g14 := gP_tries g (x := (h 0 168) - 1) ⟨by omega, by omega⟩
    refine fp_tries draise_20 ?_
    refine ja_aload_n draise_23 rfl rfl ?_
    refine ja_aload_n draise_24 rfl rfl ?_
    refine fa_tryPile draise_25 ?_
    refine ja_aload_n draise_28 rfl rfl ?_
    refine fg_tries (v := (h 0 168) - 1) rfl draise_29 ?_
    refine il_tryPile (v := h 113 ((h 0 168) - 1).toNat) rfl ⟨by omega, by omega⟩ draise_32 ?_
    have f15 := gC_tryPile g ((h 0 168) - 1).toNat
    have g16 := gP_pile g14 (x := h 113 ((h 0 168) - 1).toNat) ⟨by omega, by omega⟩
    refine fp_pile draise_33 ?_
    refine ja_aload_n draise_36 rfl rfl ?_
    refine ja_aload_n draise_37 rfl rfl ?_
    refine fg_resultKind (v := h 0 188) rfl draise_38 ?_
    have f17 := gF_resultKind g
    refine ja_aload_n draise_41 rfl rfl ?_
    refine fg_resultValue (v := h 0 189) rfl draise_42 ?_
    have f18 := gF_resultValue g
    refine t_put (by decide) (show (0 : Nat) ≤ 8 by decide) draise_45 g16 ⟨by omega, by omega⟩ ⟨by omega, by omega⟩ (show 0 ≤ (h 0 188) ∧ (h 0 188) ≤ 2 by omega) (show (h 113 ((h 0 168) - 1).toNat) < 6000 by omega) ?_
    intro g19
    replace g19 : mo_G mo_zr (ja_up (ja_up (ja_up (ja_up (ja_up h 0 168 ((h 0 168) - 1)) 0 149 (h 113 ((h 0 168) - 1).toNat)) 94 ((h 113 ((h 0 168) - 1).toNat).toNat) (h 0 188)) 95 ((h 113 ((h 0 168) - 1).toNat).toNat) (h 0 189)) 0 149 ((h 113 ((h 0 168) - 1).toNat) + 1)) := g19
    show mJ l D cA ad 2 cX12_raise 3 none 48 [(0, (2, ((0 : Nat) : Int))), (1, (0, a1))] [] (ja_up (ja_up (ja_up (ja_up (ja_up h 0 168 ((h 0 168) - 1)) 0 149 (h 113 ((h 0 168) - 1).toNat)) 94 ((h 113 ((h 0 168) - 1).toNat).toNat) (h 0 188)) 95 ((h 113 ((h 0 168) - 1).toNat).toNat) (h 0 189)) 0 149 ((h 113 ((h 0 168) - 1).toNat) + 1)) Q
    refine ja_aload_n draise_48 rfl rfl ?_
    refine fa_framePc draise_49 ?_
    refine ja_iload_n draise_52 rfl rfl ?_
    refine ja_aload_n draise_53 rfl rfl ?_
    refine fa_tryPc draise_54 ?_
    refine ja_aload_n draise_57 rfl rfl ?_
    refine fg_tries (v := (h 0 168) - 1) rfl draise_58 ?_
    refine il_tryPc (v := h 112 ((h 0 168) - 1).toNat) rfl ⟨by omega, by omega⟩ draise_61 ?_
    have f20 := gC_tryPc g ((h 0 168) - 1).toNat
    have g21 := gW_framePc g19 (a1).toNat (x := h 112 ((h 0 168) - 1).toNat) ⟨by omega, by omega⟩
    refine is_framePc ⟨by omega, by omega⟩ draise_62 ?_
    refine ja_aload_n draise_63 rfl rfl ?_
    refine ja_iconst draise_64 ?_
    have g22 := gP_under g21 (x := 0) ⟨by decide, by decide⟩
    refine fp_under draise_65 ?_
    refine ja_return draise_68 rfl ?_
    exact k1 (ja_up (ja_up (ja_up (ja_up (ja_up (ja_up (ja_up h 0 168 ((h 0 168) - 1)) 0 149 (h 113 ((h 0 168) - 1).toNat)) 94 ((h 113 ((h 0 168) - 1).toNat).toNat) (h 0 188)) 95 ((h 113 ((h 0 168) - 1).toNat).toNat) (h 0 189)) 0 149 ((h 113 ((h 0 168) - 1).toNat) + 1)) 97 ((a1).toNat) (h 112 ((h 0 168) - 1).toNat)) 0 186 0) ((dv_try g g22 p1 p2 (by omega) (by omega) (by (repeat (first | exact ag_refl | refine ag_up rfl ?_))) (by simp [ja_up]) (by simp [ja_up]) (by simp [ja_up]) (by rw [← p5]; simp [ja_up]) (fun j hj => by rw [← p5] at hj; simp [ja_up, hj]) (by (repeat (first | exact qv | refine vi_set (by decide) (by decide) (by decide) ?_ (by first | exact (fun z => absurd z (by decide)) | exact vi_aS qv (by decide) _ | exact qv.2 | exact (fun z => ⟨by omega, hca⟩) | exact (fun z => ⟨by omega, hca z⟩) | (intro z; exfalso; omega)) | refine vi_res ?_ (by first | exact (fun z => absurd z (by decide)) | exact vi_aS qv (by decide) _ | exact qv.2 | exact (fun z => ⟨by omega, hca⟩) | exact (fun z => ⟨by omega, hca z⟩) | (intro z; exfalso; omega)) | refine vi_arr (by decide) (by decide) ?_ | refine vi_up (by decide) (by decide) ?_ | refine vi_val (ck := 106) (by decide) (by decide) (by decide) ?_ ⟨by omega, by omega⟩))))) g22
theorem t_raise {a1 : Int} {ht st rg : Nat → Int} {d nL pc : Nat} {cc : ByteArray} {rt : Option FieldType} {L : List (Nat × ja_V)} {S : List ja_V} {h : ja_H} {Q : Option ja_V → ja_H → Prop} (hdd : 2 < d) (hwd : ja_wd S ≤ 8) (hd : decode cc pc = .ok (.invokevirtual 1042, 3)) (g : mo_G mo_zr h) (r1 : -2147483648 ≤ a1 ∧ a1 ≤ 2147483647) (p1 : RB h ht st rg) (p2 : RI h ht st rg) (p3 : (h 0 186) = 1) (p4 : (h 0 187) = 1) (p5 : a1 = (h 0 150) - 1) (p6 : (h 96 ((h 0 150) - 1).toNat) ≤ 2) (k1 : ∀ (h' : ja_H), (RO h h' ht st rg) → mo_G mo_zr h' → mJ l D cA ad d cc nL rt (pc + 3) L S h' Q) : mJ l D cA ad d cc nL rt pc L ((0, a1) :: (2, ((0 : Nat) : Int)) :: S) h Q :=
  mc_raise hdd hwd hd (s_raise g r1 p1 p2 p3 p4 p5 p6 k1)
end
theorem ddeliverRest_0 : decode cX12_deliverRest 0 = .ok (.aload_n 0, 1) := by decide +kernel
theorem ddeliverRest_1 : decode cX12_deliverRest 1 = .ok (.getfield 321, 3) := by decide +kernel
theorem ddeliverRest_4 : decode cX12_deliverRest 4 = .ok (.iload_n 1, 1) := by decide +kernel
theorem ddeliverRest_5 : decode cX12_deliverRest 5 = .ok (.iaload, 1) := by decide +kernel
theorem ddeliverRest_6 : decode cX12_deliverRest 6 = .ok (.istore_n 2, 1) := by decide +kernel
theorem ddeliverRest_7 : decode cX12_deliverRest 7 = .ok (.iload_n 2, 1) := by decide +kernel
theorem ddeliverRest_8 : decode cX12_deliverRest 8 = .ok (.iconst 1, 1) := by decide +kernel
theorem ddeliverRest_9 : decode cX12_deliverRest 9 = .ok (.if_icmp .ne 55, 3) := by decide +kernel
theorem ddeliverRest_12 : decode cX12_deliverRest 12 = .ok (.aload_n 0, 1) := by decide +kernel
theorem ddeliverRest_13 : decode cX12_deliverRest 13 = .ok (.dup, 1) := by decide +kernel
theorem ddeliverRest_14 : decode cX12_deliverRest 14 = .ok (.getfield 996, 3) := by decide +kernel
theorem ddeliverRest_17 : decode cX12_deliverRest 17 = .ok (.iconst 1, 1) := by decide +kernel
theorem ddeliverRest_18 : decode cX12_deliverRest 18 = .ok (.isub, 1) := by decide +kernel
theorem ddeliverRest_19 : decode cX12_deliverRest 19 = .ok (.putfield 996, 3) := by decide +kernel
theorem ddeliverRest_22 : decode cX12_deliverRest 22 = .ok (.aload_n 0, 1) := by decide +kernel
theorem ddeliverRest_23 : decode cX12_deliverRest 23 = .ok (.getfield 1024, 3) := by decide +kernel
theorem ddeliverRest_26 : decode cX12_deliverRest 26 = .ok (.ifCond .ne 248, 3) := by decide +kernel
theorem ddeliverRest_29 : decode cX12_deliverRest 29 = .ok (.aload_n 0, 1) := by decide +kernel
theorem ddeliverRest_30 : decode cX12_deliverRest 30 = .ok (.aload_n 0, 1) := by decide +kernel
theorem ddeliverRest_31 : decode cX12_deliverRest 31 = .ok (.getfield 315, 3) := by decide +kernel
theorem ddeliverRest_34 : decode cX12_deliverRest 34 = .ok (.iload_n 1, 1) := by decide +kernel
theorem ddeliverRest_35 : decode cX12_deliverRest 35 = .ok (.iaload, 1) := by decide +kernel
theorem ddeliverRest_36 : decode cX12_deliverRest 36 = .ok (.putfield 1057, 3) := by decide +kernel
theorem ddeliverRest_39 : decode cX12_deliverRest 39 = .ok (.aload_n 0, 1) := by decide +kernel
theorem ddeliverRest_40 : decode cX12_deliverRest 40 = .ok (.aload_n 0, 1) := by decide +kernel
theorem ddeliverRest_41 : decode cX12_deliverRest 41 = .ok (.getfield 318, 3) := by decide +kernel
theorem ddeliverRest_44 : decode cX12_deliverRest 44 = .ok (.iload_n 1, 1) := by decide +kernel
theorem ddeliverRest_45 : decode cX12_deliverRest 45 = .ok (.iaload, 1) := by decide +kernel
theorem ddeliverRest_46 : decode cX12_deliverRest 46 = .ok (.iconst 1, 1) := by decide +kernel
theorem ddeliverRest_47 : decode cX12_deliverRest 47 = .ok (.iadd, 1) := by decide +kernel
theorem ddeliverRest_48 : decode cX12_deliverRest 48 = .ok (.putfield 1060, 3) := by decide +kernel
theorem ddeliverRest_51 : decode cX12_deliverRest 51 = .ok (.aload_n 0, 1) := by decide +kernel
theorem ddeliverRest_52 : decode cX12_deliverRest 52 = .ok (.iload_n 1, 1) := by decide +kernel
theorem ddeliverRest_53 : decode cX12_deliverRest 53 = .ok (.invokevirtual 1063, 3) := by decide +kernel
theorem ddeliverRest_56 : decode cX12_deliverRest 56 = .ok (.aload_n 0, 1) := by decide +kernel
theorem ddeliverRest_57 : decode cX12_deliverRest 57 = .ok (.iconst 2, 1) := by decide +kernel
theorem ddeliverRest_58 : decode cX12_deliverRest 58 = .ok (.putfield 1008, 3) := by decide +kernel
theorem ddeliverRest_61 : decode cX12_deliverRest 61 = .ok (.goto 213, 3) := by decide +kernel
theorem ddeliverRest_64 : decode cX12_deliverRest 64 = .ok (.iload_n 2, 1) := by decide +kernel
theorem ddeliverRest_65 : decode cX12_deliverRest 65 = .ok (.iconst 2, 1) := by decide +kernel
theorem ddeliverRest_66 : decode cX12_deliverRest 66 = .ok (.if_icmp .ne 134, 3) := by decide +kernel
theorem ddeliverRest_69 : decode cX12_deliverRest 69 = .ok (.aload_n 0, 1) := by decide +kernel
theorem ddeliverRest_70 : decode cX12_deliverRest 70 = .ok (.getfield 92, 3) := by decide +kernel
theorem ddeliverRest_73 : decode cX12_deliverRest 73 = .ok (.aload_n 0, 1) := by decide +kernel
theorem ddeliverRest_74 : decode cX12_deliverRest 74 = .ok (.getfield 381, 3) := by decide +kernel
theorem ddeliverRest_77 : decode cX12_deliverRest 77 = .ok (.bipush 24, 2) := by decide +kernel
theorem ddeliverRest_79 : decode cX12_deliverRest 79 = .ok (.aload_n 0, 1) := by decide +kernel
theorem ddeliverRest_80 : decode cX12_deliverRest 80 = .ok (.getfield 315, 3) := by decide +kernel
theorem ddeliverRest_83 : decode cX12_deliverRest 83 = .ok (.iload_n 1, 1) := by decide +kernel
theorem ddeliverRest_84 : decode cX12_deliverRest 84 = .ok (.iaload, 1) := by decide +kernel
theorem ddeliverRest_85 : decode cX12_deliverRest 85 = .ok (.imul, 1) := by decide +kernel
theorem ddeliverRest_86 : decode cX12_deliverRest 86 = .ok (.aload_n 0, 1) := by decide +kernel
theorem ddeliverRest_87 : decode cX12_deliverRest 87 = .ok (.getfield 318, 3) := by decide +kernel
theorem ddeliverRest_90 : decode cX12_deliverRest 90 = .ok (.iload_n 1, 1) := by decide +kernel
theorem ddeliverRest_91 : decode cX12_deliverRest 91 = .ok (.iaload, 1) := by decide +kernel
theorem ddeliverRest_92 : decode cX12_deliverRest 92 = .ok (.iadd, 1) := by decide +kernel
theorem ddeliverRest_93 : decode cX12_deliverRest 93 = .ok (.iaload, 1) := by decide +kernel
theorem ddeliverRest_94 : decode cX12_deliverRest 94 = .ok (.iaload, 1) := by decide +kernel
theorem ddeliverRest_95 : decode cX12_deliverRest 95 = .ok (.istore_n 3, 1) := by decide +kernel
theorem ddeliverRest_96 : decode cX12_deliverRest 96 = .ok (.iload_n 3, 1) := by decide +kernel
theorem ddeliverRest_97 : decode cX12_deliverRest 97 = .ok (.ifCond .eq 27, 3) := by decide +kernel
theorem ddeliverRest_100 : decode cX12_deliverRest 100 = .ok (.iload_n 3, 1) := by decide +kernel
theorem ddeliverRest_101 : decode cX12_deliverRest 101 = .ok (.iconst 1, 1) := by decide +kernel
theorem ddeliverRest_102 : decode cX12_deliverRest 102 = .ok (.if_icmp .ne 10, 3) := by decide +kernel
theorem ddeliverRest_105 : decode cX12_deliverRest 105 = .ok (.aload_n 0, 1) := by decide +kernel
theorem ddeliverRest_106 : decode cX12_deliverRest 106 = .ok (.getfield 1024, 3) := by decide +kernel
theorem ddeliverRest_109 : decode cX12_deliverRest 109 = .ok (.ifCond .eq 15, 3) := by decide +kernel
theorem ddeliverRest_112 : decode cX12_deliverRest 112 = .ok (.iload_n 3, 1) := by decide +kernel
theorem ddeliverRest_113 : decode cX12_deliverRest 113 = .ok (.iconst 2, 1) := by decide +kernel
theorem ddeliverRest_114 : decode cX12_deliverRest 114 = .ok (.if_icmp .ne 14, 3) := by decide +kernel
theorem ddeliverRest_117 : decode cX12_deliverRest 117 = .ok (.aload_n 0, 1) := by decide +kernel
theorem ddeliverRest_118 : decode cX12_deliverRest 118 = .ok (.getfield 1024, 3) := by decide +kernel
theorem ddeliverRest_121 : decode cX12_deliverRest 121 = .ok (.ifCond .eq 7, 3) := by decide +kernel
theorem ddeliverRest_124 : decode cX12_deliverRest 124 = .ok (.iconst 1, 1) := by decide +kernel
theorem ddeliverRest_125 : decode cX12_deliverRest 125 = .ok (.goto 4, 3) := by decide +kernel
theorem ddeliverRest_128 : decode cX12_deliverRest 128 = .ok (.iconst 0, 1) := by decide +kernel
theorem ddeliverRest_129 : decode cX12_deliverRest 129 = .ok (.istore 4, 2) := by decide +kernel
theorem ddeliverRest_131 : decode cX12_deliverRest 131 = .ok (.iload 4, 2) := by decide +kernel
theorem ddeliverRest_133 : decode cX12_deliverRest 133 = .ok (.ifCond .ne 14, 3) := by decide +kernel
theorem ddeliverRest_136 : decode cX12_deliverRest 136 = .ok (.aload_n 0, 1) := by decide +kernel
theorem ddeliverRest_137 : decode cX12_deliverRest 137 = .ok (.dup, 1) := by decide +kernel
theorem ddeliverRest_138 : decode cX12_deliverRest 138 = .ok (.getfield 996, 3) := by decide +kernel
theorem ddeliverRest_141 : decode cX12_deliverRest 141 = .ok (.iconst 1, 1) := by decide +kernel
theorem ddeliverRest_142 : decode cX12_deliverRest 142 = .ok (.isub, 1) := by decide +kernel
theorem ddeliverRest_143 : decode cX12_deliverRest 143 = .ok (.putfield 996, 3) := by decide +kernel
theorem ddeliverRest_146 : decode cX12_deliverRest 146 = .ok (.return_, 1) := by decide +kernel
theorem ddeliverRest_147 : decode cX12_deliverRest 147 = .ok (.aload_n 0, 1) := by decide +kernel
theorem ddeliverRest_148 : decode cX12_deliverRest 148 = .ok (.getfield 324, 3) := by decide +kernel
theorem ddeliverRest_151 : decode cX12_deliverRest 151 = .ok (.iload_n 1, 1) := by decide +kernel
theorem ddeliverRest_152 : decode cX12_deliverRest 152 = .ok (.aload_n 0, 1) := by decide +kernel
theorem ddeliverRest_153 : decode cX12_deliverRest 153 = .ok (.getfield 1024, 3) := by decide +kernel
theorem ddeliverRest_156 : decode cX12_deliverRest 156 = .ok (.ifCond .eq 7, 3) := by decide +kernel
theorem ddeliverRest_159 : decode cX12_deliverRest 159 = .ok (.iconst 1, 1) := by decide +kernel
theorem ddeliverRest_160 : decode cX12_deliverRest 160 = .ok (.goto 4, 3) := by decide +kernel
theorem ddeliverRest_163 : decode cX12_deliverRest 163 = .ok (.iconst 0, 1) := by decide +kernel
theorem ddeliverRest_164 : decode cX12_deliverRest 164 = .ok (.iastore, 1) := by decide +kernel
theorem ddeliverRest_165 : decode cX12_deliverRest 165 = .ok (.aload_n 0, 1) := by decide +kernel
theorem ddeliverRest_166 : decode cX12_deliverRest 166 = .ok (.getfield 327, 3) := by decide +kernel
theorem ddeliverRest_169 : decode cX12_deliverRest 169 = .ok (.iload_n 1, 1) := by decide +kernel
theorem ddeliverRest_170 : decode cX12_deliverRest 170 = .ok (.aload_n 0, 1) := by decide +kernel
theorem ddeliverRest_171 : decode cX12_deliverRest 171 = .ok (.getfield 1027, 3) := by decide +kernel
theorem ddeliverRest_174 : decode cX12_deliverRest 174 = .ok (.iastore, 1) := by decide +kernel
theorem ddeliverRest_175 : decode cX12_deliverRest 175 = .ok (.aload_n 0, 1) := by decide +kernel
theorem ddeliverRest_176 : decode cX12_deliverRest 176 = .ok (.getfield 330, 3) := by decide +kernel
theorem ddeliverRest_179 : decode cX12_deliverRest 179 = .ok (.iload_n 1, 1) := by decide +kernel
theorem ddeliverRest_180 : decode cX12_deliverRest 180 = .ok (.aload_n 0, 1) := by decide +kernel
theorem ddeliverRest_181 : decode cX12_deliverRest 181 = .ok (.getfield 1030, 3) := by decide +kernel
theorem ddeliverRest_184 : decode cX12_deliverRest 184 = .ok (.iastore, 1) := by decide +kernel
theorem ddeliverRest_185 : decode cX12_deliverRest 185 = .ok (.aload_n 0, 1) := by decide +kernel
theorem ddeliverRest_186 : decode cX12_deliverRest 186 = .ok (.getfield 321, 3) := by decide +kernel
theorem ddeliverRest_189 : decode cX12_deliverRest 189 = .ok (.iload_n 1, 1) := by decide +kernel
theorem ddeliverRest_190 : decode cX12_deliverRest 190 = .ok (.iconst 3, 1) := by decide +kernel
theorem ddeliverRest_191 : decode cX12_deliverRest 191 = .ok (.iastore, 1) := by decide +kernel
theorem ddeliverRest_192 : decode cX12_deliverRest 192 = .ok (.aload_n 0, 1) := by decide +kernel
theorem ddeliverRest_193 : decode cX12_deliverRest 193 = .ok (.iload_n 1, 1) := by decide +kernel
theorem ddeliverRest_194 : decode cX12_deliverRest 194 = .ok (.invokevirtual 1066, 3) := by decide +kernel
theorem ddeliverRest_197 : decode cX12_deliverRest 197 = .ok (.goto 77, 3) := by decide +kernel
theorem ddeliverRest_200 : decode cX12_deliverRest 200 = .ok (.iload_n 2, 1) := by decide +kernel
theorem ddeliverRest_201 : decode cX12_deliverRest 201 = .ok (.iconst 3, 1) := by decide +kernel
theorem ddeliverRest_202 : decode cX12_deliverRest 202 = .ok (.if_icmp .ne 62, 3) := by decide +kernel
theorem ddeliverRest_205 : decode cX12_deliverRest 205 = .ok (.aload_n 0, 1) := by decide +kernel
theorem ddeliverRest_206 : decode cX12_deliverRest 206 = .ok (.dup, 1) := by decide +kernel
theorem ddeliverRest_207 : decode cX12_deliverRest 207 = .ok (.getfield 996, 3) := by decide +kernel
theorem ddeliverRest_210 : decode cX12_deliverRest 210 = .ok (.iconst 1, 1) := by decide +kernel
theorem ddeliverRest_211 : decode cX12_deliverRest 211 = .ok (.isub, 1) := by decide +kernel
theorem ddeliverRest_212 : decode cX12_deliverRest 212 = .ok (.putfield 996, 3) := by decide +kernel
theorem ddeliverRest_215 : decode cX12_deliverRest 215 = .ok (.aload_n 0, 1) := by decide +kernel
theorem ddeliverRest_216 : decode cX12_deliverRest 216 = .ok (.getfield 1024, 3) := by decide +kernel
theorem ddeliverRest_219 : decode cX12_deliverRest 219 = .ok (.ifCond .ne 55, 3) := by decide +kernel
theorem ddeliverRest_222 : decode cX12_deliverRest 222 = .ok (.aload_n 0, 1) := by decide +kernel
theorem ddeliverRest_223 : decode cX12_deliverRest 223 = .ok (.aload_n 0, 1) := by decide +kernel
theorem ddeliverRest_224 : decode cX12_deliverRest 224 = .ok (.getfield 324, 3) := by decide +kernel
theorem ddeliverRest_227 : decode cX12_deliverRest 227 = .ok (.iload_n 1, 1) := by decide +kernel
theorem ddeliverRest_228 : decode cX12_deliverRest 228 = .ok (.iaload, 1) := by decide +kernel
theorem ddeliverRest_229 : decode cX12_deliverRest 229 = .ok (.iconst 1, 1) := by decide +kernel
theorem ddeliverRest_230 : decode cX12_deliverRest 230 = .ok (.if_icmp .ne 7, 3) := by decide +kernel
theorem ddeliverRest_233 : decode cX12_deliverRest 233 = .ok (.iconst 1, 1) := by decide +kernel
theorem ddeliverRest_234 : decode cX12_deliverRest 234 = .ok (.goto 4, 3) := by decide +kernel
theorem ddeliverRest_237 : decode cX12_deliverRest 237 = .ok (.iconst 0, 1) := by decide +kernel
theorem ddeliverRest_238 : decode cX12_deliverRest 238 = .ok (.putfield 1024, 3) := by decide +kernel
theorem ddeliverRest_241 : decode cX12_deliverRest 241 = .ok (.aload_n 0, 1) := by decide +kernel
theorem ddeliverRest_242 : decode cX12_deliverRest 242 = .ok (.aload_n 0, 1) := by decide +kernel
theorem ddeliverRest_243 : decode cX12_deliverRest 243 = .ok (.getfield 327, 3) := by decide +kernel
theorem ddeliverRest_246 : decode cX12_deliverRest 246 = .ok (.iload_n 1, 1) := by decide +kernel
theorem ddeliverRest_247 : decode cX12_deliverRest 247 = .ok (.iaload, 1) := by decide +kernel
theorem ddeliverRest_248 : decode cX12_deliverRest 248 = .ok (.putfield 1027, 3) := by decide +kernel
theorem ddeliverRest_251 : decode cX12_deliverRest 251 = .ok (.aload_n 0, 1) := by decide +kernel
theorem ddeliverRest_252 : decode cX12_deliverRest 252 = .ok (.aload_n 0, 1) := by decide +kernel
theorem ddeliverRest_253 : decode cX12_deliverRest 253 = .ok (.getfield 330, 3) := by decide +kernel
theorem ddeliverRest_256 : decode cX12_deliverRest 256 = .ok (.iload_n 1, 1) := by decide +kernel
theorem ddeliverRest_257 : decode cX12_deliverRest 257 = .ok (.iaload, 1) := by decide +kernel
theorem ddeliverRest_258 : decode cX12_deliverRest 258 = .ok (.putfield 1030, 3) := by decide +kernel
theorem ddeliverRest_261 : decode cX12_deliverRest 261 = .ok (.goto 13, 3) := by decide +kernel
theorem ddeliverRest_264 : decode cX12_deliverRest 264 = .ok (.aload_n 0, 1) := by decide +kernel
theorem ddeliverRest_265 : decode cX12_deliverRest 265 = .ok (.dup, 1) := by decide +kernel
theorem ddeliverRest_266 : decode cX12_deliverRest 266 = .ok (.getfield 996, 3) := by decide +kernel
theorem ddeliverRest_269 : decode cX12_deliverRest 269 = .ok (.iconst 1, 1) := by decide +kernel
theorem ddeliverRest_270 : decode cX12_deliverRest 270 = .ok (.isub, 1) := by decide +kernel
theorem ddeliverRest_271 : decode cX12_deliverRest 271 = .ok (.putfield 996, 3) := by decide +kernel
theorem ddeliverRest_274 : decode cX12_deliverRest 274 = .ok (.return_, 1) := by decide +kernel
section
variable {l : Launch} {D : va_G} {cA : Nat → ClassId} {ad : Nat → Nat}
theorem s_deliverRest {a1 : Int} {ht st rg : Nat → Int} {h : ja_H} {Q : Option ja_V → ja_H → Prop} (g : mo_G mo_zr h) (r1 : -2147483648 ≤ a1 ∧ a1 ≤ 2147483647) (p1 : RB h ht st rg) (p2 : RI h ht st rg) (p3 : (h 0 186) = 1) (p4 : a1 = (h 0 150) - 1) (p5 : (h 96 ((h 0 150) - 1).toNat) = 4) (k1 : ∀ (h' : ja_H), (RO h h' ht st rg) → mo_G mo_zr h' → Q none h') : mM_deliverRest l D cA ad a1 h Q := by
  show mJ l D cA ad 4 cX12_deliverRest 5 none 0 [(0, (2, ((0 : Nat) : Int))), (1, (0, a1))] [] h Q
  have kn_frames := gF_frames g
  have kn_under := gF_under g
  have kn_resultKind := gF_resultKind g
  have hn := ri_n g p1.2.1 p2
  have qv := p1.1
  have hrc1 := ri_1 p2 (by omega)
  have hba := ba_f g (f := a1) ⟨p1, hrc1, p4, (by rw [p4]; exact p5)⟩
  obtain ⟨hb1, hb2, hb3, hb4⟩ := hba
  clear hrc1
  have ghm := gC_heldMany g (h 102 (a1).toNat).toNat
  have p5a : (h 96 (a1).toNat) = 4 := (by rw [p4]; exact p5)
  have est : (h 104 ((h 0 150) - 1).toNat) = (h 104 (a1).toNat) := (by rw [p4])
  refine ja_aload_n ddeliverRest_0 rfl rfl ?_
  refine fa_frameStage ddeliverRest_1 ?_
  refine ja_iload_n ddeliverRest_4 rfl rfl ?_
  refine il_frameStage (v := h 104 (a1).toNat) rfl ⟨by omega, by omega⟩ ddeliverRest_5 ?_
  have f1 := gC_frameStage g (a1).toNat
  refine ja_istore_n ddeliverRest_6 rfl (by decide) (L2 := [(2, (0, (h 104 (a1).toNat))), (0, (2, ((0 : Nat) : Int))), (1, (0, a1))]) rfl ?_
  refine ja_iload_n ddeliverRest_7 rfl rfl ?_
  refine ja_iconst ddeliverRest_8 ?_
  refine ja_icmp_ne 64 ddeliverRest_9 rfl ⟨by omega, by omega⟩ ⟨by decide, by decide⟩ (fun c9 => ?_) (fun c9 => ?_)
  · refine ja_iload_n ddeliverRest_64 rfl rfl ?_
    refine ja_iconst ddeliverRest_65 ?_
    refine ja_icmp_ne 200 ddeliverRest_66 rfl ⟨by omega, by omega⟩ ⟨by decide, by decide⟩ (fun c66 => ?_) (fun c66 => ?_)
    · refine ja_iload_n ddeliverRest_200 rfl rfl ?_
      refine ja_iconst ddeliverRest_201 ?_
      refine ja_icmp_ne 264 ddeliverRest_202 rfl ⟨by omega, by omega⟩ ⟨by decide, by decide⟩ (fun c202 => ?_) (fun c202 => ?_)
      · refine ja_aload_n ddeliverRest_264 rfl rfl ?_
        refine ja_dup ddeliverRest_265 (by decide) ?_
        refine fg_frames (v := h 0 150) rfl ddeliverRest_266 ?_
        have f2 := gF_frames g
        refine ja_iconst ddeliverRest_269 ?_
        refine ja_isub ddeliverRest_270 ?_
        have g3 := gP_frames g (x := (h 0 150) - 1) ⟨by omega, by omega⟩
        refine fp_frames ddeliverRest_271 ?_
        refine ja_return ddeliverRest_274 rfl ?_
        exact k1 (ja_up h 0 150 ((h 0 150) - 1)) ((dv_pop g g3 p1 p2 (by omega) (by (repeat (first | exact ag_refl | refine ag_up rfl ?_))) (by simp [ja_up]) (by rw [if_neg (by omega)]; simp [ja_up]) (by simp [ja_up]; omega) (by (repeat (first | exact qv | refine vi_set (by decide) (by decide) (by decide) ?_ (by first | exact (fun z => absurd z (by decide)) | exact vi_aS qv (by decide) _ | exact qv.2 | exact (fun z => ⟨by omega, hca⟩) | exact (fun z => ⟨by omega, hca z⟩) | (intro z; exfalso; omega)) | refine vi_res ?_ (by first | exact (fun z => absurd z (by decide)) | exact vi_aS qv (by decide) _ | exact qv.2 | exact (fun z => ⟨by omega, hca⟩) | exact (fun z => ⟨by omega, hca z⟩) | (intro z; exfalso; omega)) | refine vi_arr (by decide) (by decide) ?_ | refine vi_up (by decide) (by decide) ?_ | refine vi_val (ck := 106) (by decide) (by decide) (by decide) ?_ ⟨by omega, by omega⟩))))) g3
      · refine ja_aload_n ddeliverRest_205 rfl rfl ?_
        refine ja_dup ddeliverRest_206 (by decide) ?_
        refine fg_frames (v := h 0 150) rfl ddeliverRest_207 ?_
        have f4 := gF_frames g
        refine ja_iconst ddeliverRest_210 ?_
        refine ja_isub ddeliverRest_211 ?_
        have g5 := gP_frames g (x := (h 0 150) - 1) ⟨by omega, by omega⟩
        refine fp_frames ddeliverRest_212 ?_
        refine ja_aload_n ddeliverRest_215 rfl rfl ?_
        refine fg_resultFails (v := h 0 187) rfl ddeliverRest_216 ?_
        have f6 := gF_resultFails g
        refine ja_if_ne 274 ddeliverRest_219 rfl ⟨by omega, by omega⟩ (fun c219 => ?_) (fun c219 => ?_)
        · refine ja_return ddeliverRest_274 rfl ?_
          exact k1 (ja_up h 0 150 ((h 0 150) - 1)) ((dv_pop g g5 p1 p2 (by omega) (by (repeat (first | exact ag_refl | refine ag_up rfl ?_))) (by simp [ja_up]) (by rw [if_neg (by omega)]; simp [ja_up]) (by simp [ja_up]; omega) (by (repeat (first | exact qv | refine vi_set (by decide) (by decide) (by decide) ?_ (by first | exact (fun z => absurd z (by decide)) | exact vi_aS qv (by decide) _ | exact qv.2 | exact (fun z => ⟨by omega, hca⟩) | exact (fun z => ⟨by omega, hca z⟩) | (intro z; exfalso; omega)) | refine vi_res ?_ (by first | exact (fun z => absurd z (by decide)) | exact vi_aS qv (by decide) _ | exact qv.2 | exact (fun z => ⟨by omega, hca⟩) | exact (fun z => ⟨by omega, hca z⟩) | (intro z; exfalso; omega)) | refine vi_arr (by decide) (by decide) ?_ | refine vi_up (by decide) (by decide) ?_ | refine vi_val (ck := 106) (by decide) (by decide) (by decide) ?_ ⟨by omega, by omega⟩))))) g5
        · refine ja_aload_n ddeliverRest_222 rfl rfl ?_
          refine ja_aload_n ddeliverRest_223 rfl rfl ?_
          refine fa_frameFails ddeliverRest_224 ?_
          refine ja_iload_n ddeliverRest_227 rfl rfl ?_
          refine il_frameFails (v := h 105 (a1).toNat) rfl ⟨by omega, by omega⟩ ddeliverRest_228 ?_
          have f7 := gC_frameFails g (a1).toNat
          refine ja_iconst ddeliverRest_229 ?_
          refine ja_icmp_ne 237 ddeliverRest_230 rfl ⟨by omega, by omega⟩ ⟨by decide, by decide⟩ (fun c230 => ?_) (fun c230 => ?_)
          · refine ja_iconst ddeliverRest_237 ?_
            have g8 := gP_resultFails g5 (x := 0) ⟨by decide, by decide⟩
            refine fp_resultFails (by omega) ddeliverRest_238 ?_
            refine ja_aload_n ddeliverRest_241 rfl rfl ?_
            refine ja_aload_n ddeliverRest_242 rfl rfl ?_
            refine fa_frameKind ddeliverRest_243 ?_
            refine ja_iload_n ddeliverRest_246 rfl rfl ?_
            refine il_frameKind (v := h 106 (a1).toNat) rfl ⟨by omega, by omega⟩ ddeliverRest_247 ?_
            have f9 := gC_frameKind g (a1).toNat
            have g10 := gP_resultKind g8 (x := h 106 (a1).toNat) ⟨by omega, by omega⟩
            refine fp_resultKind ddeliverRest_248 ?_
            refine ja_aload_n ddeliverRest_251 rfl rfl ?_
            refine ja_aload_n ddeliverRest_252 rfl rfl ?_
            refine fa_frameValue ddeliverRest_253 ?_
            refine ja_iload_n ddeliverRest_256 rfl rfl ?_
            refine il_frameValue (v := h 107 (a1).toNat) rfl ⟨by omega, by omega⟩ ddeliverRest_257 ?_
            have f11 := gC_frameValue g (a1).toNat
            have g12 := gP_resultValue g10 (x := h 107 (a1).toNat) ⟨by omega, by omega⟩
            refine fp_resultValue ddeliverRest_258 ?_
            refine ja_goto 274 ddeliverRest_261 rfl ?_
            refine ja_return ddeliverRest_274 rfl ?_
            exact k1 (ja_up (ja_up (ja_up (ja_up h 0 150 ((h 0 150) - 1)) 0 187 0) 0 188 (h 106 (a1).toNat)) 0 189 (h 107 (a1).toNat)) ((dv_pop g g12 p1 p2 (by omega) (by (repeat (first | exact ag_refl | refine ag_up rfl ?_))) (by simp [ja_up]) (by rw [if_neg (by omega)]; simp [ja_up]) (by simp [ja_up]; omega) (by (repeat (first | exact qv | refine vi_set (by decide) (by decide) (by decide) ?_ (by first | exact (fun z => absurd z (by decide)) | exact vi_aS qv (by decide) _ | exact qv.2 | exact (fun z => ⟨by omega, hca⟩) | exact (fun z => ⟨by omega, hca z⟩) | (intro z; exfalso; omega)) | refine vi_res ?_ (by first | exact (fun z => absurd z (by decide)) | exact vi_aS qv (by decide) _ | exact qv.2 | exact (fun z => ⟨by omega, hca⟩) | exact (fun z => ⟨by omega, hca z⟩) | (intro z; exfalso; omega)) | refine vi_arr (by decide) (by decide) ?_ | refine vi_up (by decide) (by decide) ?_ | refine vi_val (ck := 106) (by decide) (by decide) (by decide) ?_ ⟨by omega, by omega⟩))))) g12
          · refine ja_iconst ddeliverRest_233 ?_
            refine ja_goto 238 ddeliverRest_234 rfl ?_
            have g13 := gP_resultFails g5 (x := 1) ⟨by decide, by decide⟩
            refine fp_resultFails (by omega) ddeliverRest_238 ?_
            refine ja_aload_n ddeliverRest_241 rfl rfl ?_
            refine ja_aload_n ddeliverRest_242 rfl rfl ?_
            refine fa_frameKind ddeliverRest_243 ?_
            refine ja_iload_n ddeliverRest_246 rfl rfl ?_
            refine il_frameKind (v := h 106 (a1).toNat) rfl ⟨by omega, by omega⟩ ddeliverRest_247 ?_
            have f14 := gC_frameKind g (a1).toNat
            have g15 := gP_resultKind g13 (x := h 106 (a1).toNat) ⟨by omega, by omega⟩
            refine fp_resultKind ddeliverRest_248 ?_
            refine ja_aload_n ddeliverRest_251 rfl rfl ?_
            refine ja_aload_n ddeliverRest_252 rfl rfl ?_
            refine fa_frameValue ddeliverRest_253 ?_
            refine ja_iload_n ddeliverRest_256 rfl rfl ?_
            refine il_frameValue (v := h 107 (a1).toNat) rfl ⟨by omega, by omega⟩ ddeliverRest_257 ?_
            have f16 := gC_frameValue g (a1).toNat
            have g17 := gP_resultValue g15 (x := h 107 (a1).toNat) ⟨by omega, by omega⟩
            refine fp_resultValue ddeliverRest_258 ?_
            refine ja_goto 274 ddeliverRest_261 rfl ?_
            refine ja_return ddeliverRest_274 rfl ?_
            exact k1 (ja_up (ja_up (ja_up (ja_up h 0 150 ((h 0 150) - 1)) 0 187 1) 0 188 (h 106 (a1).toNat)) 0 189 (h 107 (a1).toNat)) ((dv_pop g g17 p1 p2 (by omega) (by (repeat (first | exact ag_refl | refine ag_up rfl ?_))) (by simp [ja_up]) (by rw [if_neg (by omega)]; simp [ja_up]) (by simp [ja_up]; omega) (by (repeat (first | exact qv | refine vi_set (by decide) (by decide) (by decide) ?_ (by first | exact (fun z => absurd z (by decide)) | exact vi_aS qv (by decide) _ | exact qv.2 | exact (fun z => ⟨by omega, hca⟩) | exact (fun z => ⟨by omega, hca z⟩) | (intro z; exfalso; omega)) | refine vi_res ?_ (by first | exact (fun z => absurd z (by decide)) | exact vi_aS qv (by decide) _ | exact qv.2 | exact (fun z => ⟨by omega, hca⟩) | exact (fun z => ⟨by omega, hca z⟩) | (intro z; exfalso; omega)) | refine vi_arr (by decide) (by decide) ?_ | refine vi_up (by decide) (by decide) ?_ | refine vi_val (ck := 106) (by decide) (by decide) (by decide) ?_ ⟨by omega, by omega⟩))))) g17
    · refine ja_aload_n ddeliverRest_69 rfl rfl ?_
      refine fa_adviceGive ddeliverRest_70 ?_
      refine ja_aload_n ddeliverRest_73 rfl rfl ?_
      refine fa_heldAdvice ddeliverRest_74 ?_
      refine ja_bipush 24 ddeliverRest_77 rfl ?_
      refine ja_aload_n ddeliverRest_79 rfl rfl ?_
      refine fa_frameRow ddeliverRest_80 ?_
      refine ja_iload_n ddeliverRest_83 rfl rfl ?_
      refine il_frameRow (v := h 102 (a1).toNat) rfl ⟨by omega, by omega⟩ ddeliverRest_84 ?_
      have f18 := gC_frameRow g (a1).toNat
      refine ja_imul ddeliverRest_85 ?_
      refine ja_aload_n ddeliverRest_86 rfl rfl ?_
      refine fa_frameLevel ddeliverRest_87 ?_
      refine ja_iload_n ddeliverRest_90 rfl rfl ?_
      refine il_frameLevel (v := h 103 (a1).toNat) rfl ⟨by omega, by omega⟩ ddeliverRest_91 ?_
      have f19 := gC_frameLevel g (a1).toNat
      refine ja_iadd ddeliverRest_92 ?_
      refine il_heldAdvice (v := h 124 ((24 * (h 102 (a1).toNat)) + (h 103 (a1).toNat)).toNat) rfl ⟨by omega, by omega⟩ ddeliverRest_93 ?_
      have f20 := gC_heldAdvice g ((24 * (h 102 (a1).toNat)) + (h 103 (a1).toNat)).toNat
      refine il_adviceGive (v := h 28 (h 124 ((24 * (h 102 (a1).toNat)) + (h 103 (a1).toNat)).toNat).toNat) rfl ⟨by omega, by omega⟩ ddeliverRest_94 ?_
      have f21 := gC_adviceGive g (h 124 ((24 * (h 102 (a1).toNat)) + (h 103 (a1).toNat)).toNat).toNat
      refine ja_istore_n ddeliverRest_95 rfl (by decide) (L2 := [(3, (0, (h 28 (h 124 ((24 * (h 102 (a1).toNat)) + (h 103 (a1).toNat)).toNat).toNat))), (2, (0, (h 104 (a1).toNat))), (0, (2, ((0 : Nat) : Int))), (1, (0, a1))]) rfl ?_
      refine ja_iload_n ddeliverRest_96 rfl rfl ?_
      refine ja_if_eq 124 ddeliverRest_97 rfl ⟨by omega, by omega⟩ (fun c97 => ?_) (fun c97 => ?_)
      · refine ja_iconst ddeliverRest_124 ?_
        refine ja_goto 129 ddeliverRest_125 rfl ?_
        refine ja_istore ddeliverRest_129 (by decide) (L2 := [(4, (0, 1)), (3, (0, (h 28 (h 124 ((24 * (h 102 (a1).toNat)) + (h 103 (a1).toNat)).toNat).toNat))), (2, (0, (h 104 (a1).toNat))), (0, (2, ((0 : Nat) : Int))), (1, (0, a1))]) rfl ?_
        refine ja_iload ddeliverRest_131 rfl ?_
        refine ja_if_ne 147 ddeliverRest_133 rfl ⟨by decide, by decide⟩ (fun c133 => ?_) (fun c133 => absurd c133 (by omega))
        refine ja_aload_n ddeliverRest_147 rfl rfl ?_
        refine fa_frameFails ddeliverRest_148 ?_
        refine ja_iload_n ddeliverRest_151 rfl rfl ?_
        refine ja_aload_n ddeliverRest_152 rfl rfl ?_
        refine fg_resultFails (v := h 0 187) rfl ddeliverRest_153 ?_
        have f22 := gF_resultFails g
        refine ja_if_eq 163 ddeliverRest_156 rfl ⟨by omega, by omega⟩ (fun c156 => ?_) (fun c156 => ?_)
        · refine ja_iconst ddeliverRest_163 ?_
          have g23 := gW_frameFails g (a1).toNat (x := 0) ⟨by decide, by decide⟩
          refine is_frameFails ⟨by omega, by omega⟩ ddeliverRest_164 ?_
          refine ja_aload_n ddeliverRest_165 rfl rfl ?_
          refine fa_frameKind ddeliverRest_166 ?_
          refine ja_iload_n ddeliverRest_169 rfl rfl ?_
          refine ja_aload_n ddeliverRest_170 rfl rfl ?_
          refine fg_resultKind (v := h 0 188) rfl ddeliverRest_171 ?_
          have f24 := gF_resultKind g
          have g25 := gW_frameKind g23 (a1).toNat (x := h 0 188) ⟨by omega, by omega⟩
          refine is_frameKind ⟨by omega, by omega⟩ ddeliverRest_174 ?_
          refine ja_aload_n ddeliverRest_175 rfl rfl ?_
          refine fa_frameValue ddeliverRest_176 ?_
          refine ja_iload_n ddeliverRest_179 rfl rfl ?_
          refine ja_aload_n ddeliverRest_180 rfl rfl ?_
          refine fg_resultValue (v := h 0 189) rfl ddeliverRest_181 ?_
          have f26 := gF_resultValue g
          have g27 := gW_frameValue g25 (a1).toNat (x := h 0 189) ⟨by omega, by omega⟩
          refine is_frameValue ⟨by omega, by omega⟩ ddeliverRest_184 ?_
          refine ja_aload_n ddeliverRest_185 rfl rfl ?_
          refine fa_frameStage ddeliverRest_186 ?_
          refine ja_iload_n ddeliverRest_189 rfl rfl ?_
          refine ja_iconst ddeliverRest_190 ?_
          have g28 := gW_frameStage g27 (a1).toNat (x := 3) ⟨by decide, by decide⟩
          refine is_frameStage ⟨by omega, by omega⟩ ddeliverRest_191 ?_
          refine ja_aload_n ddeliverRest_192 rfl rfl ?_
          refine ja_iload_n ddeliverRest_193 rfl rfl ?_
          refine t_beginAdvice (by decide) (show (0 : Nat) ≤ 8 by decide) ddeliverRest_194 g28 ⟨by omega, by omega⟩ ((⟨rb_ag p1 (by (repeat (first | exact qv | refine vi_set (by decide) (by decide) (by decide) ?_ (by first | exact (fun z => absurd z (by decide)) | exact vi_aS qv (by decide) _ | exact qv.2 | exact (fun z => ⟨by omega, hca⟩) | exact (fun z => ⟨by omega, hca z⟩) | (intro z; exfalso; omega)) | refine vi_res ?_ (by first | exact (fun z => absurd z (by decide)) | exact vi_aS qv (by decide) _ | exact qv.2 | exact (fun z => ⟨by omega, hca⟩) | exact (fun z => ⟨by omega, hca z⟩) | (intro z; exfalso; omega)) | refine vi_arr (by decide) (by decide) ?_ | refine vi_up (by decide) (by decide) ?_ | refine vi_val (ck := 106) (by decide) (by decide) (by decide) ?_ ⟨by omega, by omega⟩))) (by (repeat (first | exact ag_refl | refine ag_up rfl ?_))), dv_top g p1 p2 p5 (by (repeat (first | exact ag_refl | refine ag_up rfl ?_))) (fun j hj => by rw [← p4] at hj; simp [ja_up, hj]), p4, p5a⟩)) ?_
          intro h29 k194_0 g30
          replace k194_0 : BO (ja_up (ja_up (ja_up (ja_up h 105 ((a1).toNat) 0) 106 ((a1).toNat) (h 0 188)) 107 ((a1).toNat) (h 0 189)) 104 ((a1).toNat) 3) h29 ht st rg := k194_0
          refine ja_goto 274 ddeliverRest_197 rfl ?_
          refine ja_return ddeliverRest_274 rfl ?_
          exact k1 h29 ((dv_begun g g30 p1 p2 (by omega) (by omega) (by (repeat (first | exact ag_refl | refine ag_up rfl ?_))) (fun j hj => by rw [← p4] at hj; simp [ja_up, hj]) (by rw [← p4]; simp [ja_up]) k194_0)) g30
        · refine ja_iconst ddeliverRest_159 ?_
          refine ja_goto 164 ddeliverRest_160 rfl ?_
          have g31 := gW_frameFails g (a1).toNat (x := 1) ⟨by decide, by decide⟩
          refine is_frameFails ⟨by omega, by omega⟩ ddeliverRest_164 ?_
          refine ja_aload_n ddeliverRest_165 rfl rfl ?_
          refine fa_frameKind ddeliverRest_166 ?_
          refine ja_iload_n ddeliverRest_169 rfl rfl ?_
          refine ja_aload_n ddeliverRest_170 rfl rfl ?_
          refine fg_resultKind (v := h 0 188) rfl ddeliverRest_171 ?_
          have f32 := gF_resultKind g
          have g33 := gW_frameKind g31 (a1).toNat (x := h 0 188) ⟨by omega, by omega⟩
          refine is_frameKind ⟨by omega, by omega⟩ ddeliverRest_174 ?_
          refine ja_aload_n ddeliverRest_175 rfl rfl ?_
          refine fa_frameValue ddeliverRest_176 ?_
          refine ja_iload_n ddeliverRest_179 rfl rfl ?_
          refine ja_aload_n ddeliverRest_180 rfl rfl ?_
          refine fg_resultValue (v := h 0 189) rfl ddeliverRest_181 ?_
          have f34 := gF_resultValue g
          have g35 := gW_frameValue g33 (a1).toNat (x := h 0 189) ⟨by omega, by omega⟩
          refine is_frameValue ⟨by omega, by omega⟩ ddeliverRest_184 ?_
          refine ja_aload_n ddeliverRest_185 rfl rfl ?_
          refine fa_frameStage ddeliverRest_186 ?_
          refine ja_iload_n ddeliverRest_189 rfl rfl ?_
          refine ja_iconst ddeliverRest_190 ?_
          have g36 := gW_frameStage g35 (a1).toNat (x := 3) ⟨by decide, by decide⟩
          refine is_frameStage ⟨by omega, by omega⟩ ddeliverRest_191 ?_
          refine ja_aload_n ddeliverRest_192 rfl rfl ?_
          refine ja_iload_n ddeliverRest_193 rfl rfl ?_
          refine t_beginAdvice (by decide) (show (0 : Nat) ≤ 8 by decide) ddeliverRest_194 g36 ⟨by omega, by omega⟩ ((⟨rb_ag p1 (by (repeat (first | exact qv | refine vi_set (by decide) (by decide) (by decide) ?_ (by first | exact (fun z => absurd z (by decide)) | exact vi_aS qv (by decide) _ | exact qv.2 | exact (fun z => ⟨by omega, hca⟩) | exact (fun z => ⟨by omega, hca z⟩) | (intro z; exfalso; omega)) | refine vi_res ?_ (by first | exact (fun z => absurd z (by decide)) | exact vi_aS qv (by decide) _ | exact qv.2 | exact (fun z => ⟨by omega, hca⟩) | exact (fun z => ⟨by omega, hca z⟩) | (intro z; exfalso; omega)) | refine vi_arr (by decide) (by decide) ?_ | refine vi_up (by decide) (by decide) ?_ | refine vi_val (ck := 106) (by decide) (by decide) (by decide) ?_ ⟨by omega, by omega⟩))) (by (repeat (first | exact ag_refl | refine ag_up rfl ?_))), dv_top g p1 p2 p5 (by (repeat (first | exact ag_refl | refine ag_up rfl ?_))) (fun j hj => by rw [← p4] at hj; simp [ja_up, hj]), p4, p5a⟩)) ?_
          intro h37 k194_0 g38
          replace k194_0 : BO (ja_up (ja_up (ja_up (ja_up h 105 ((a1).toNat) 1) 106 ((a1).toNat) (h 0 188)) 107 ((a1).toNat) (h 0 189)) 104 ((a1).toNat) 3) h37 ht st rg := k194_0
          refine ja_goto 274 ddeliverRest_197 rfl ?_
          refine ja_return ddeliverRest_274 rfl ?_
          exact k1 h37 ((dv_begun g g38 p1 p2 (by omega) (by omega) (by (repeat (first | exact ag_refl | refine ag_up rfl ?_))) (fun j hj => by rw [← p4] at hj; simp [ja_up, hj]) (by rw [← p4]; simp [ja_up]) k194_0)) g38
      · refine ja_iload_n ddeliverRest_100 rfl rfl ?_
        refine ja_iconst ddeliverRest_101 ?_
        refine ja_icmp_ne 112 ddeliverRest_102 rfl ⟨by omega, by omega⟩ ⟨by decide, by decide⟩ (fun c102 => ?_) (fun c102 => ?_)
        · refine ja_iload_n ddeliverRest_112 rfl rfl ?_
          refine ja_iconst ddeliverRest_113 ?_
          refine ja_icmp_ne 128 ddeliverRest_114 rfl ⟨by omega, by omega⟩ ⟨by decide, by decide⟩ (fun c114 => ?_) (fun c114 => ?_)
          · refine ja_iconst ddeliverRest_128 ?_
            refine ja_istore ddeliverRest_129 (by decide) (L2 := [(4, (0, 0)), (3, (0, (h 28 (h 124 ((24 * (h 102 (a1).toNat)) + (h 103 (a1).toNat)).toNat).toNat))), (2, (0, (h 104 (a1).toNat))), (0, (2, ((0 : Nat) : Int))), (1, (0, a1))]) rfl ?_
            refine ja_iload ddeliverRest_131 rfl ?_
            refine ja_if_ne 147 ddeliverRest_133 rfl ⟨by decide, by decide⟩ (fun c133 => absurd c133 (by omega)) (fun c133 => ?_)
            refine ja_aload_n ddeliverRest_136 rfl rfl ?_
            refine ja_dup ddeliverRest_137 (by decide) ?_
            refine fg_frames (v := h 0 150) rfl ddeliverRest_138 ?_
            have f39 := gF_frames g
            refine ja_iconst ddeliverRest_141 ?_
            refine ja_isub ddeliverRest_142 ?_
            have g40 := gP_frames g (x := (h 0 150) - 1) ⟨by omega, by omega⟩
            refine fp_frames ddeliverRest_143 ?_
            refine ja_return ddeliverRest_146 rfl ?_
            exact k1 (ja_up h 0 150 ((h 0 150) - 1)) ((dv_pop g g40 p1 p2 (by omega) (by (repeat (first | exact ag_refl | refine ag_up rfl ?_))) (by simp [ja_up]) (by rw [if_neg (by omega)]; simp [ja_up]) (by simp [ja_up]; omega) (by (repeat (first | exact qv | refine vi_set (by decide) (by decide) (by decide) ?_ (by first | exact (fun z => absurd z (by decide)) | exact vi_aS qv (by decide) _ | exact qv.2 | exact (fun z => ⟨by omega, hca⟩) | exact (fun z => ⟨by omega, hca z⟩) | (intro z; exfalso; omega)) | refine vi_res ?_ (by first | exact (fun z => absurd z (by decide)) | exact vi_aS qv (by decide) _ | exact qv.2 | exact (fun z => ⟨by omega, hca⟩) | exact (fun z => ⟨by omega, hca z⟩) | (intro z; exfalso; omega)) | refine vi_arr (by decide) (by decide) ?_ | refine vi_up (by decide) (by decide) ?_ | refine vi_val (ck := 106) (by decide) (by decide) (by decide) ?_ ⟨by omega, by omega⟩))))) g40
          · refine ja_aload_n ddeliverRest_117 rfl rfl ?_
            refine fg_resultFails (v := h 0 187) rfl ddeliverRest_118 ?_
            have f41 := gF_resultFails g
            refine ja_if_eq 128 ddeliverRest_121 rfl ⟨by omega, by omega⟩ (fun c121 => ?_) (fun c121 => ?_)
            · refine ja_iconst ddeliverRest_128 ?_
              refine ja_istore ddeliverRest_129 (by decide) (L2 := [(4, (0, 0)), (3, (0, (h 28 (h 124 ((24 * (h 102 (a1).toNat)) + (h 103 (a1).toNat)).toNat).toNat))), (2, (0, (h 104 (a1).toNat))), (0, (2, ((0 : Nat) : Int))), (1, (0, a1))]) rfl ?_
              refine ja_iload ddeliverRest_131 rfl ?_
              refine ja_if_ne 147 ddeliverRest_133 rfl ⟨by decide, by decide⟩ (fun c133 => absurd c133 (by omega)) (fun c133 => ?_)
              refine ja_aload_n ddeliverRest_136 rfl rfl ?_
              refine ja_dup ddeliverRest_137 (by decide) ?_
              refine fg_frames (v := h 0 150) rfl ddeliverRest_138 ?_
              have f42 := gF_frames g
              refine ja_iconst ddeliverRest_141 ?_
              refine ja_isub ddeliverRest_142 ?_
              have g43 := gP_frames g (x := (h 0 150) - 1) ⟨by omega, by omega⟩
              refine fp_frames ddeliverRest_143 ?_
              refine ja_return ddeliverRest_146 rfl ?_
              exact k1 (ja_up h 0 150 ((h 0 150) - 1)) ((dv_pop g g43 p1 p2 (by omega) (by (repeat (first | exact ag_refl | refine ag_up rfl ?_))) (by simp [ja_up]) (by rw [if_neg (by omega)]; simp [ja_up]) (by simp [ja_up]; omega) (by (repeat (first | exact qv | refine vi_set (by decide) (by decide) (by decide) ?_ (by first | exact (fun z => absurd z (by decide)) | exact vi_aS qv (by decide) _ | exact qv.2 | exact (fun z => ⟨by omega, hca⟩) | exact (fun z => ⟨by omega, hca z⟩) | (intro z; exfalso; omega)) | refine vi_res ?_ (by first | exact (fun z => absurd z (by decide)) | exact vi_aS qv (by decide) _ | exact qv.2 | exact (fun z => ⟨by omega, hca⟩) | exact (fun z => ⟨by omega, hca z⟩) | (intro z; exfalso; omega)) | refine vi_arr (by decide) (by decide) ?_ | refine vi_up (by decide) (by decide) ?_ | refine vi_val (ck := 106) (by decide) (by decide) (by decide) ?_ ⟨by omega, by omega⟩))))) g43
            · refine ja_iconst ddeliverRest_124 ?_
              refine ja_goto 129 ddeliverRest_125 rfl ?_
              refine ja_istore ddeliverRest_129 (by decide) (L2 := [(4, (0, 1)), (3, (0, (h 28 (h 124 ((24 * (h 102 (a1).toNat)) + (h 103 (a1).toNat)).toNat).toNat))), (2, (0, (h 104 (a1).toNat))), (0, (2, ((0 : Nat) : Int))), (1, (0, a1))]) rfl ?_
              refine ja_iload ddeliverRest_131 rfl ?_
              refine ja_if_ne 147 ddeliverRest_133 rfl ⟨by decide, by decide⟩ (fun c133 => ?_) (fun c133 => absurd c133 (by omega))
              refine ja_aload_n ddeliverRest_147 rfl rfl ?_
              refine fa_frameFails ddeliverRest_148 ?_
              refine ja_iload_n ddeliverRest_151 rfl rfl ?_
              refine ja_aload_n ddeliverRest_152 rfl rfl ?_
              refine fg_resultFails (v := h 0 187) rfl ddeliverRest_153 ?_
              refine ja_if_eq 163 ddeliverRest_156 rfl ⟨by omega, by omega⟩ (fun c156 => ?_) (fun c156 => ?_)
              · refine ja_iconst ddeliverRest_163 ?_
                have g44 := gW_frameFails g (a1).toNat (x := 0) ⟨by decide, by decide⟩
                refine is_frameFails ⟨by omega, by omega⟩ ddeliverRest_164 ?_
                refine ja_aload_n ddeliverRest_165 rfl rfl ?_
                refine fa_frameKind ddeliverRest_166 ?_
                refine ja_iload_n ddeliverRest_169 rfl rfl ?_
                refine ja_aload_n ddeliverRest_170 rfl rfl ?_
                refine fg_resultKind (v := h 0 188) rfl ddeliverRest_171 ?_
                have f45 := gF_resultKind g
                have g46 := gW_frameKind g44 (a1).toNat (x := h 0 188) ⟨by omega, by omega⟩
                refine is_frameKind ⟨by omega, by omega⟩ ddeliverRest_174 ?_
                refine ja_aload_n ddeliverRest_175 rfl rfl ?_
                refine fa_frameValue ddeliverRest_176 ?_
                refine ja_iload_n ddeliverRest_179 rfl rfl ?_
                refine ja_aload_n ddeliverRest_180 rfl rfl ?_
                refine fg_resultValue (v := h 0 189) rfl ddeliverRest_181 ?_
                have f47 := gF_resultValue g
                have g48 := gW_frameValue g46 (a1).toNat (x := h 0 189) ⟨by omega, by omega⟩
                refine is_frameValue ⟨by omega, by omega⟩ ddeliverRest_184 ?_
                refine ja_aload_n ddeliverRest_185 rfl rfl ?_
                refine fa_frameStage ddeliverRest_186 ?_
                refine ja_iload_n ddeliverRest_189 rfl rfl ?_
                refine ja_iconst ddeliverRest_190 ?_
                have g49 := gW_frameStage g48 (a1).toNat (x := 3) ⟨by decide, by decide⟩
                refine is_frameStage ⟨by omega, by omega⟩ ddeliverRest_191 ?_
                refine ja_aload_n ddeliverRest_192 rfl rfl ?_
                refine ja_iload_n ddeliverRest_193 rfl rfl ?_
                refine t_beginAdvice (by decide) (show (0 : Nat) ≤ 8 by decide) ddeliverRest_194 g49 ⟨by omega, by omega⟩ ((⟨rb_ag p1 (by (repeat (first | exact qv | refine vi_set (by decide) (by decide) (by decide) ?_ (by first | exact (fun z => absurd z (by decide)) | exact vi_aS qv (by decide) _ | exact qv.2 | exact (fun z => ⟨by omega, hca⟩) | exact (fun z => ⟨by omega, hca z⟩) | (intro z; exfalso; omega)) | refine vi_res ?_ (by first | exact (fun z => absurd z (by decide)) | exact vi_aS qv (by decide) _ | exact qv.2 | exact (fun z => ⟨by omega, hca⟩) | exact (fun z => ⟨by omega, hca z⟩) | (intro z; exfalso; omega)) | refine vi_arr (by decide) (by decide) ?_ | refine vi_up (by decide) (by decide) ?_ | refine vi_val (ck := 106) (by decide) (by decide) (by decide) ?_ ⟨by omega, by omega⟩))) (by (repeat (first | exact ag_refl | refine ag_up rfl ?_))), dv_top g p1 p2 p5 (by (repeat (first | exact ag_refl | refine ag_up rfl ?_))) (fun j hj => by rw [← p4] at hj; simp [ja_up, hj]), p4, p5a⟩)) ?_
                intro h50 k194_0 g51
                replace k194_0 : BO (ja_up (ja_up (ja_up (ja_up h 105 ((a1).toNat) 0) 106 ((a1).toNat) (h 0 188)) 107 ((a1).toNat) (h 0 189)) 104 ((a1).toNat) 3) h50 ht st rg := k194_0
                refine ja_goto 274 ddeliverRest_197 rfl ?_
                refine ja_return ddeliverRest_274 rfl ?_
                exact k1 h50 ((dv_begun g g51 p1 p2 (by omega) (by omega) (by (repeat (first | exact ag_refl | refine ag_up rfl ?_))) (fun j hj => by rw [← p4] at hj; simp [ja_up, hj]) (by rw [← p4]; simp [ja_up]) k194_0)) g51
              · refine ja_iconst ddeliverRest_159 ?_
                refine ja_goto 164 ddeliverRest_160 rfl ?_
                have g52 := gW_frameFails g (a1).toNat (x := 1) ⟨by decide, by decide⟩
                refine is_frameFails ⟨by omega, by omega⟩ ddeliverRest_164 ?_
                refine ja_aload_n ddeliverRest_165 rfl rfl ?_
                refine fa_frameKind ddeliverRest_166 ?_
                refine ja_iload_n ddeliverRest_169 rfl rfl ?_
                refine ja_aload_n ddeliverRest_170 rfl rfl ?_
                refine fg_resultKind (v := h 0 188) rfl ddeliverRest_171 ?_
                have f53 := gF_resultKind g
                have g54 := gW_frameKind g52 (a1).toNat (x := h 0 188) ⟨by omega, by omega⟩
                refine is_frameKind ⟨by omega, by omega⟩ ddeliverRest_174 ?_
                refine ja_aload_n ddeliverRest_175 rfl rfl ?_
                refine fa_frameValue ddeliverRest_176 ?_
                refine ja_iload_n ddeliverRest_179 rfl rfl ?_
                refine ja_aload_n ddeliverRest_180 rfl rfl ?_
                refine fg_resultValue (v := h 0 189) rfl ddeliverRest_181 ?_
                have f55 := gF_resultValue g
                have g56 := gW_frameValue g54 (a1).toNat (x := h 0 189) ⟨by omega, by omega⟩
                refine is_frameValue ⟨by omega, by omega⟩ ddeliverRest_184 ?_
                refine ja_aload_n ddeliverRest_185 rfl rfl ?_
                refine fa_frameStage ddeliverRest_186 ?_
                refine ja_iload_n ddeliverRest_189 rfl rfl ?_
                refine ja_iconst ddeliverRest_190 ?_
                have g57 := gW_frameStage g56 (a1).toNat (x := 3) ⟨by decide, by decide⟩
                refine is_frameStage ⟨by omega, by omega⟩ ddeliverRest_191 ?_
                refine ja_aload_n ddeliverRest_192 rfl rfl ?_
                refine ja_iload_n ddeliverRest_193 rfl rfl ?_
                refine t_beginAdvice (by decide) (show (0 : Nat) ≤ 8 by decide) ddeliverRest_194 g57 ⟨by omega, by omega⟩ ((⟨rb_ag p1 (by (repeat (first | exact qv | refine vi_set (by decide) (by decide) (by decide) ?_ (by first | exact (fun z => absurd z (by decide)) | exact vi_aS qv (by decide) _ | exact qv.2 | exact (fun z => ⟨by omega, hca⟩) | exact (fun z => ⟨by omega, hca z⟩) | (intro z; exfalso; omega)) | refine vi_res ?_ (by first | exact (fun z => absurd z (by decide)) | exact vi_aS qv (by decide) _ | exact qv.2 | exact (fun z => ⟨by omega, hca⟩) | exact (fun z => ⟨by omega, hca z⟩) | (intro z; exfalso; omega)) | refine vi_arr (by decide) (by decide) ?_ | refine vi_up (by decide) (by decide) ?_ | refine vi_val (ck := 106) (by decide) (by decide) (by decide) ?_ ⟨by omega, by omega⟩))) (by (repeat (first | exact ag_refl | refine ag_up rfl ?_))), dv_top g p1 p2 p5 (by (repeat (first | exact ag_refl | refine ag_up rfl ?_))) (fun j hj => by rw [← p4] at hj; simp [ja_up, hj]), p4, p5a⟩)) ?_
                intro h58 k194_0 g59
                replace k194_0 : BO (ja_up (ja_up (ja_up (ja_up h 105 ((a1).toNat) 1) 106 ((a1).toNat) (h 0 188)) 107 ((a1).toNat) (h 0 189)) 104 ((a1).toNat) 3) h58 ht st rg := k194_0
                refine ja_goto 274 ddeliverRest_197 rfl ?_
                refine ja_return ddeliverRest_274 rfl ?_
                exact k1 h58 ((dv_begun g g59 p1 p2 (by omega) (by omega) (by (repeat (first | exact ag_refl | refine ag_up rfl ?_))) (fun j hj => by rw [← p4] at hj; simp [ja_up, hj]) (by rw [← p4]; simp [ja_up]) k194_0)) g59
        · refine ja_aload_n ddeliverRest_105 rfl rfl ?_
          refine fg_resultFails (v := h 0 187) rfl ddeliverRest_106 ?_
          have f60 := gF_resultFails g
          refine ja_if_eq 124 ddeliverRest_109 rfl ⟨by omega, by omega⟩ (fun c109 => ?_) (fun c109 => ?_)
          · refine ja_iconst ddeliverRest_124 ?_
            refine ja_goto 129 ddeliverRest_125 rfl ?_
            refine ja_istore ddeliverRest_129 (by decide) (L2 := [(4, (0, 1)), (3, (0, (h 28 (h 124 ((24 * (h 102 (a1).toNat)) + (h 103 (a1).toNat)).toNat).toNat))), (2, (0, (h 104 (a1).toNat))), (0, (2, ((0 : Nat) : Int))), (1, (0, a1))]) rfl ?_
            refine ja_iload ddeliverRest_131 rfl ?_
            refine ja_if_ne 147 ddeliverRest_133 rfl ⟨by decide, by decide⟩ (fun c133 => ?_) (fun c133 => absurd c133 (by omega))
            refine ja_aload_n ddeliverRest_147 rfl rfl ?_
            refine fa_frameFails ddeliverRest_148 ?_
            refine ja_iload_n ddeliverRest_151 rfl rfl ?_
            refine ja_aload_n ddeliverRest_152 rfl rfl ?_
            refine fg_resultFails (v := h 0 187) rfl ddeliverRest_153 ?_
            refine ja_if_eq 163 ddeliverRest_156 rfl ⟨by omega, by omega⟩ (fun c156 => ?_) (fun c156 => ?_)
            · refine ja_iconst ddeliverRest_163 ?_
              have g61 := gW_frameFails g (a1).toNat (x := 0) ⟨by decide, by decide⟩
              refine is_frameFails ⟨by omega, by omega⟩ ddeliverRest_164 ?_
              refine ja_aload_n ddeliverRest_165 rfl rfl ?_
              refine fa_frameKind ddeliverRest_166 ?_
              refine ja_iload_n ddeliverRest_169 rfl rfl ?_
              refine ja_aload_n ddeliverRest_170 rfl rfl ?_
              refine fg_resultKind (v := h 0 188) rfl ddeliverRest_171 ?_
              have f62 := gF_resultKind g
              have g63 := gW_frameKind g61 (a1).toNat (x := h 0 188) ⟨by omega, by omega⟩
              refine is_frameKind ⟨by omega, by omega⟩ ddeliverRest_174 ?_
              refine ja_aload_n ddeliverRest_175 rfl rfl ?_
              refine fa_frameValue ddeliverRest_176 ?_
              refine ja_iload_n ddeliverRest_179 rfl rfl ?_
              refine ja_aload_n ddeliverRest_180 rfl rfl ?_
              refine fg_resultValue (v := h 0 189) rfl ddeliverRest_181 ?_
              have f64 := gF_resultValue g
              have g65 := gW_frameValue g63 (a1).toNat (x := h 0 189) ⟨by omega, by omega⟩
              refine is_frameValue ⟨by omega, by omega⟩ ddeliverRest_184 ?_
              refine ja_aload_n ddeliverRest_185 rfl rfl ?_
              refine fa_frameStage ddeliverRest_186 ?_
              refine ja_iload_n ddeliverRest_189 rfl rfl ?_
              refine ja_iconst ddeliverRest_190 ?_
              have g66 := gW_frameStage g65 (a1).toNat (x := 3) ⟨by decide, by decide⟩
              refine is_frameStage ⟨by omega, by omega⟩ ddeliverRest_191 ?_
              refine ja_aload_n ddeliverRest_192 rfl rfl ?_
              refine ja_iload_n ddeliverRest_193 rfl rfl ?_
              refine t_beginAdvice (by decide) (show (0 : Nat) ≤ 8 by decide) ddeliverRest_194 g66 ⟨by omega, by omega⟩ ((⟨rb_ag p1 (by (repeat (first | exact qv | refine vi_set (by decide) (by decide) (by decide) ?_ (by first | exact (fun z => absurd z (by decide)) | exact vi_aS qv (by decide) _ | exact qv.2 | exact (fun z => ⟨by omega, hca⟩) | exact (fun z => ⟨by omega, hca z⟩) | (intro z; exfalso; omega)) | refine vi_res ?_ (by first | exact (fun z => absurd z (by decide)) | exact vi_aS qv (by decide) _ | exact qv.2 | exact (fun z => ⟨by omega, hca⟩) | exact (fun z => ⟨by omega, hca z⟩) | (intro z; exfalso; omega)) | refine vi_arr (by decide) (by decide) ?_ | refine vi_up (by decide) (by decide) ?_ | refine vi_val (ck := 106) (by decide) (by decide) (by decide) ?_ ⟨by omega, by omega⟩))) (by (repeat (first | exact ag_refl | refine ag_up rfl ?_))), dv_top g p1 p2 p5 (by (repeat (first | exact ag_refl | refine ag_up rfl ?_))) (fun j hj => by rw [← p4] at hj; simp [ja_up, hj]), p4, p5a⟩)) ?_
              intro h67 k194_0 g68
              replace k194_0 : BO (ja_up (ja_up (ja_up (ja_up h 105 ((a1).toNat) 0) 106 ((a1).toNat) (h 0 188)) 107 ((a1).toNat) (h 0 189)) 104 ((a1).toNat) 3) h67 ht st rg := k194_0
              refine ja_goto 274 ddeliverRest_197 rfl ?_
              refine ja_return ddeliverRest_274 rfl ?_
              exact k1 h67 ((dv_begun g g68 p1 p2 (by omega) (by omega) (by (repeat (first | exact ag_refl | refine ag_up rfl ?_))) (fun j hj => by rw [← p4] at hj; simp [ja_up, hj]) (by rw [← p4]; simp [ja_up]) k194_0)) g68
            · refine ja_iconst ddeliverRest_159 ?_
              refine ja_goto 164 ddeliverRest_160 rfl ?_
              have g69 := gW_frameFails g (a1).toNat (x := 1) ⟨by decide, by decide⟩
              refine is_frameFails ⟨by omega, by omega⟩ ddeliverRest_164 ?_
              refine ja_aload_n ddeliverRest_165 rfl rfl ?_
              refine fa_frameKind ddeliverRest_166 ?_
              refine ja_iload_n ddeliverRest_169 rfl rfl ?_
              refine ja_aload_n ddeliverRest_170 rfl rfl ?_
              refine fg_resultKind (v := h 0 188) rfl ddeliverRest_171 ?_
              have f70 := gF_resultKind g
              have g71 := gW_frameKind g69 (a1).toNat (x := h 0 188) ⟨by omega, by omega⟩
              refine is_frameKind ⟨by omega, by omega⟩ ddeliverRest_174 ?_
              refine ja_aload_n ddeliverRest_175 rfl rfl ?_
              refine fa_frameValue ddeliverRest_176 ?_
              refine ja_iload_n ddeliverRest_179 rfl rfl ?_
              refine ja_aload_n ddeliverRest_180 rfl rfl ?_
              refine fg_resultValue (v := h 0 189) rfl ddeliverRest_181 ?_
              have f72 := gF_resultValue g
              have g73 := gW_frameValue g71 (a1).toNat (x := h 0 189) ⟨by omega, by omega⟩
              refine is_frameValue ⟨by omega, by omega⟩ ddeliverRest_184 ?_
              refine ja_aload_n ddeliverRest_185 rfl rfl ?_
              refine fa_frameStage ddeliverRest_186 ?_
              refine ja_iload_n ddeliverRest_189 rfl rfl ?_
              refine ja_iconst ddeliverRest_190 ?_
              have g74 := gW_frameStage g73 (a1).toNat (x := 3) ⟨by decide, by decide⟩
              refine is_frameStage ⟨by omega, by omega⟩ ddeliverRest_191 ?_
              refine ja_aload_n ddeliverRest_192 rfl rfl ?_
              refine ja_iload_n ddeliverRest_193 rfl rfl ?_
              refine t_beginAdvice (by decide) (show (0 : Nat) ≤ 8 by decide) ddeliverRest_194 g74 ⟨by omega, by omega⟩ ((⟨rb_ag p1 (by (repeat (first | exact qv | refine vi_set (by decide) (by decide) (by decide) ?_ (by first | exact (fun z => absurd z (by decide)) | exact vi_aS qv (by decide) _ | exact qv.2 | exact (fun z => ⟨by omega, hca⟩) | exact (fun z => ⟨by omega, hca z⟩) | (intro z; exfalso; omega)) | refine vi_res ?_ (by first | exact (fun z => absurd z (by decide)) | exact vi_aS qv (by decide) _ | exact qv.2 | exact (fun z => ⟨by omega, hca⟩) | exact (fun z => ⟨by omega, hca z⟩) | (intro z; exfalso; omega)) | refine vi_arr (by decide) (by decide) ?_ | refine vi_up (by decide) (by decide) ?_ | refine vi_val (ck := 106) (by decide) (by decide) (by decide) ?_ ⟨by omega, by omega⟩))) (by (repeat (first | exact ag_refl | refine ag_up rfl ?_))), dv_top g p1 p2 p5 (by (repeat (first | exact ag_refl | refine ag_up rfl ?_))) (fun j hj => by rw [← p4] at hj; simp [ja_up, hj]), p4, p5a⟩)) ?_
              intro h75 k194_0 g76
              replace k194_0 : BO (ja_up (ja_up (ja_up (ja_up h 105 ((a1).toNat) 1) 106 ((a1).toNat) (h 0 188)) 107 ((a1).toNat) (h 0 189)) 104 ((a1).toNat) 3) h75 ht st rg := k194_0
              refine ja_goto 274 ddeliverRest_197 rfl ?_
              refine ja_return ddeliverRest_274 rfl ?_
              exact k1 h75 ((dv_begun g g76 p1 p2 (by omega) (by omega) (by (repeat (first | exact ag_refl | refine ag_up rfl ?_))) (fun j hj => by rw [← p4] at hj; simp [ja_up, hj]) (by rw [← p4]; simp [ja_up]) k194_0)) g76
          · refine ja_iload_n ddeliverRest_112 rfl rfl ?_
            refine ja_iconst ddeliverRest_113 ?_
            refine ja_icmp_ne 128 ddeliverRest_114 rfl ⟨by omega, by omega⟩ ⟨by decide, by decide⟩ (fun c114 => ?_) (fun c114 => ?_)
            · refine ja_iconst ddeliverRest_128 ?_
              refine ja_istore ddeliverRest_129 (by decide) (L2 := [(4, (0, 0)), (3, (0, (h 28 (h 124 ((24 * (h 102 (a1).toNat)) + (h 103 (a1).toNat)).toNat).toNat))), (2, (0, (h 104 (a1).toNat))), (0, (2, ((0 : Nat) : Int))), (1, (0, a1))]) rfl ?_
              refine ja_iload ddeliverRest_131 rfl ?_
              refine ja_if_ne 147 ddeliverRest_133 rfl ⟨by decide, by decide⟩ (fun c133 => absurd c133 (by omega)) (fun c133 => ?_)
              refine ja_aload_n ddeliverRest_136 rfl rfl ?_
              refine ja_dup ddeliverRest_137 (by decide) ?_
              refine fg_frames (v := h 0 150) rfl ddeliverRest_138 ?_
              have f77 := gF_frames g
              refine ja_iconst ddeliverRest_141 ?_
              refine ja_isub ddeliverRest_142 ?_
              have g78 := gP_frames g (x := (h 0 150) - 1) ⟨by omega, by omega⟩
              refine fp_frames ddeliverRest_143 ?_
              refine ja_return ddeliverRest_146 rfl ?_
              exact k1 (ja_up h 0 150 ((h 0 150) - 1)) ((dv_pop g g78 p1 p2 (by omega) (by (repeat (first | exact ag_refl | refine ag_up rfl ?_))) (by simp [ja_up]) (by rw [if_neg (by omega)]; simp [ja_up]) (by simp [ja_up]; omega) (by (repeat (first | exact qv | refine vi_set (by decide) (by decide) (by decide) ?_ (by first | exact (fun z => absurd z (by decide)) | exact vi_aS qv (by decide) _ | exact qv.2 | exact (fun z => ⟨by omega, hca⟩) | exact (fun z => ⟨by omega, hca z⟩) | (intro z; exfalso; omega)) | refine vi_res ?_ (by first | exact (fun z => absurd z (by decide)) | exact vi_aS qv (by decide) _ | exact qv.2 | exact (fun z => ⟨by omega, hca⟩) | exact (fun z => ⟨by omega, hca z⟩) | (intro z; exfalso; omega)) | refine vi_arr (by decide) (by decide) ?_ | refine vi_up (by decide) (by decide) ?_ | refine vi_val (ck := 106) (by decide) (by decide) (by decide) ?_ ⟨by omega, by omega⟩))))) g78
            · refine ja_aload_n ddeliverRest_117 rfl rfl ?_
              refine fg_resultFails (v := h 0 187) rfl ddeliverRest_118 ?_
              refine ja_if_eq 128 ddeliverRest_121 rfl ⟨by omega, by omega⟩ (fun c121 => ?_) (fun c121 => ?_)
              · refine ja_iconst ddeliverRest_128 ?_
                refine ja_istore ddeliverRest_129 (by decide) (L2 := [(4, (0, 0)), (3, (0, (h 28 (h 124 ((24 * (h 102 (a1).toNat)) + (h 103 (a1).toNat)).toNat).toNat))), (2, (0, (h 104 (a1).toNat))), (0, (2, ((0 : Nat) : Int))), (1, (0, a1))]) rfl ?_
                refine ja_iload ddeliverRest_131 rfl ?_
                refine ja_if_ne 147 ddeliverRest_133 rfl ⟨by decide, by decide⟩ (fun c133 => absurd c133 (by omega)) (fun c133 => ?_)
                refine ja_aload_n ddeliverRest_136 rfl rfl ?_
                refine ja_dup ddeliverRest_137 (by decide) ?_
                refine fg_frames (v := h 0 150) rfl ddeliverRest_138 ?_
                have f79 := gF_frames g
                refine ja_iconst ddeliverRest_141 ?_
                refine ja_isub ddeliverRest_142 ?_
                have g80 := gP_frames g (x := (h 0 150) - 1) ⟨by omega, by omega⟩
                refine fp_frames ddeliverRest_143 ?_
                refine ja_return ddeliverRest_146 rfl ?_
                exact k1 (ja_up h 0 150 ((h 0 150) - 1)) ((dv_pop g g80 p1 p2 (by omega) (by (repeat (first | exact ag_refl | refine ag_up rfl ?_))) (by simp [ja_up]) (by rw [if_neg (by omega)]; simp [ja_up]) (by simp [ja_up]; omega) (by (repeat (first | exact qv | refine vi_set (by decide) (by decide) (by decide) ?_ (by first | exact (fun z => absurd z (by decide)) | exact vi_aS qv (by decide) _ | exact qv.2 | exact (fun z => ⟨by omega, hca⟩) | exact (fun z => ⟨by omega, hca z⟩) | (intro z; exfalso; omega)) | refine vi_res ?_ (by first | exact (fun z => absurd z (by decide)) | exact vi_aS qv (by decide) _ | exact qv.2 | exact (fun z => ⟨by omega, hca⟩) | exact (fun z => ⟨by omega, hca z⟩) | (intro z; exfalso; omega)) | refine vi_arr (by decide) (by decide) ?_ | refine vi_up (by decide) (by decide) ?_ | refine vi_val (ck := 106) (by decide) (by decide) (by decide) ?_ ⟨by omega, by omega⟩))))) g80
              · refine ja_iconst ddeliverRest_124 ?_
                refine ja_goto 129 ddeliverRest_125 rfl ?_
                refine ja_istore ddeliverRest_129 (by decide) (L2 := [(4, (0, 1)), (3, (0, (h 28 (h 124 ((24 * (h 102 (a1).toNat)) + (h 103 (a1).toNat)).toNat).toNat))), (2, (0, (h 104 (a1).toNat))), (0, (2, ((0 : Nat) : Int))), (1, (0, a1))]) rfl ?_
                refine ja_iload ddeliverRest_131 rfl ?_
                refine ja_if_ne 147 ddeliverRest_133 rfl ⟨by decide, by decide⟩ (fun c133 => ?_) (fun c133 => absurd c133 (by omega))
                refine ja_aload_n ddeliverRest_147 rfl rfl ?_
                refine fa_frameFails ddeliverRest_148 ?_
                refine ja_iload_n ddeliverRest_151 rfl rfl ?_
                refine ja_aload_n ddeliverRest_152 rfl rfl ?_
                refine fg_resultFails (v := h 0 187) rfl ddeliverRest_153 ?_
                refine ja_if_eq 163 ddeliverRest_156 rfl ⟨by omega, by omega⟩ (fun c156 => ?_) (fun c156 => ?_)
                · refine ja_iconst ddeliverRest_163 ?_
                  have g81 := gW_frameFails g (a1).toNat (x := 0) ⟨by decide, by decide⟩
                  refine is_frameFails ⟨by omega, by omega⟩ ddeliverRest_164 ?_
                  refine ja_aload_n ddeliverRest_165 rfl rfl ?_
                  refine fa_frameKind ddeliverRest_166 ?_
                  refine ja_iload_n ddeliverRest_169 rfl rfl ?_
                  refine ja_aload_n ddeliverRest_170 rfl rfl ?_
                  refine fg_resultKind (v := h 0 188) rfl ddeliverRest_171 ?_
                  have f82 := gF_resultKind g
                  have g83 := gW_frameKind g81 (a1).toNat (x := h 0 188) ⟨by omega, by omega⟩
                  refine is_frameKind ⟨by omega, by omega⟩ ddeliverRest_174 ?_
                  refine ja_aload_n ddeliverRest_175 rfl rfl ?_
                  refine fa_frameValue ddeliverRest_176 ?_
                  refine ja_iload_n ddeliverRest_179 rfl rfl ?_
                  refine ja_aload_n ddeliverRest_180 rfl rfl ?_
                  refine fg_resultValue (v := h 0 189) rfl ddeliverRest_181 ?_
                  have f84 := gF_resultValue g
                  have g85 := gW_frameValue g83 (a1).toNat (x := h 0 189) ⟨by omega, by omega⟩
                  refine is_frameValue ⟨by omega, by omega⟩ ddeliverRest_184 ?_
                  refine ja_aload_n ddeliverRest_185 rfl rfl ?_
                  refine fa_frameStage ddeliverRest_186 ?_
                  refine ja_iload_n ddeliverRest_189 rfl rfl ?_
                  refine ja_iconst ddeliverRest_190 ?_
                  have g86 := gW_frameStage g85 (a1).toNat (x := 3) ⟨by decide, by decide⟩
                  refine is_frameStage ⟨by omega, by omega⟩ ddeliverRest_191 ?_
                  refine ja_aload_n ddeliverRest_192 rfl rfl ?_
                  refine ja_iload_n ddeliverRest_193 rfl rfl ?_
                  refine t_beginAdvice (by decide) (show (0 : Nat) ≤ 8 by decide) ddeliverRest_194 g86 ⟨by omega, by omega⟩ ((⟨rb_ag p1 (by (repeat (first | exact qv | refine vi_set (by decide) (by decide) (by decide) ?_ (by first | exact (fun z => absurd z (by decide)) | exact vi_aS qv (by decide) _ | exact qv.2 | exact (fun z => ⟨by omega, hca⟩) | exact (fun z => ⟨by omega, hca z⟩) | (intro z; exfalso; omega)) | refine vi_res ?_ (by first | exact (fun z => absurd z (by decide)) | exact vi_aS qv (by decide) _ | exact qv.2 | exact (fun z => ⟨by omega, hca⟩) | exact (fun z => ⟨by omega, hca z⟩) | (intro z; exfalso; omega)) | refine vi_arr (by decide) (by decide) ?_ | refine vi_up (by decide) (by decide) ?_ | refine vi_val (ck := 106) (by decide) (by decide) (by decide) ?_ ⟨by omega, by omega⟩))) (by (repeat (first | exact ag_refl | refine ag_up rfl ?_))), dv_top g p1 p2 p5 (by (repeat (first | exact ag_refl | refine ag_up rfl ?_))) (fun j hj => by rw [← p4] at hj; simp [ja_up, hj]), p4, p5a⟩)) ?_
                  intro h87 k194_0 g88
                  replace k194_0 : BO (ja_up (ja_up (ja_up (ja_up h 105 ((a1).toNat) 0) 106 ((a1).toNat) (h 0 188)) 107 ((a1).toNat) (h 0 189)) 104 ((a1).toNat) 3) h87 ht st rg := k194_0
                  refine ja_goto 274 ddeliverRest_197 rfl ?_
                  refine ja_return ddeliverRest_274 rfl ?_
                  exact k1 h87 ((dv_begun g g88 p1 p2 (by omega) (by omega) (by (repeat (first | exact ag_refl | refine ag_up rfl ?_))) (fun j hj => by rw [← p4] at hj; simp [ja_up, hj]) (by rw [← p4]; simp [ja_up]) k194_0)) g88
                · refine ja_iconst ddeliverRest_159 ?_
                  refine ja_goto 164 ddeliverRest_160 rfl ?_
                  have g89 := gW_frameFails g (a1).toNat (x := 1) ⟨by decide, by decide⟩
                  refine is_frameFails ⟨by omega, by omega⟩ ddeliverRest_164 ?_
                  refine ja_aload_n ddeliverRest_165 rfl rfl ?_
                  refine fa_frameKind ddeliverRest_166 ?_
                  refine ja_iload_n ddeliverRest_169 rfl rfl ?_
                  refine ja_aload_n ddeliverRest_170 rfl rfl ?_
                  refine fg_resultKind (v := h 0 188) rfl ddeliverRest_171 ?_
                  have f90 := gF_resultKind g
                  have g91 := gW_frameKind g89 (a1).toNat (x := h 0 188) ⟨by omega, by omega⟩
                  refine is_frameKind ⟨by omega, by omega⟩ ddeliverRest_174 ?_
                  refine ja_aload_n ddeliverRest_175 rfl rfl ?_
                  refine fa_frameValue ddeliverRest_176 ?_
                  refine ja_iload_n ddeliverRest_179 rfl rfl ?_
                  refine ja_aload_n ddeliverRest_180 rfl rfl ?_
                  refine fg_resultValue (v := h 0 189) rfl ddeliverRest_181 ?_
                  have f92 := gF_resultValue g
                  have g93 := gW_frameValue g91 (a1).toNat (x := h 0 189) ⟨by omega, by omega⟩
                  refine is_frameValue ⟨by omega, by omega⟩ ddeliverRest_184 ?_
                  refine ja_aload_n ddeliverRest_185 rfl rfl ?_
                  refine fa_frameStage ddeliverRest_186 ?_
                  refine ja_iload_n ddeliverRest_189 rfl rfl ?_
                  refine ja_iconst ddeliverRest_190 ?_
                  have g94 := gW_frameStage g93 (a1).toNat (x := 3) ⟨by decide, by decide⟩
                  refine is_frameStage ⟨by omega, by omega⟩ ddeliverRest_191 ?_
                  refine ja_aload_n ddeliverRest_192 rfl rfl ?_
                  refine ja_iload_n ddeliverRest_193 rfl rfl ?_
                  refine t_beginAdvice (by decide) (show (0 : Nat) ≤ 8 by decide) ddeliverRest_194 g94 ⟨by omega, by omega⟩ ((⟨rb_ag p1 (by (repeat (first | exact qv | refine vi_set (by decide) (by decide) (by decide) ?_ (by first | exact (fun z => absurd z (by decide)) | exact vi_aS qv (by decide) _ | exact qv.2 | exact (fun z => ⟨by omega, hca⟩) | exact (fun z => ⟨by omega, hca z⟩) | (intro z; exfalso; omega)) | refine vi_res ?_ (by first | exact (fun z => absurd z (by decide)) | exact vi_aS qv (by decide) _ | exact qv.2 | exact (fun z => ⟨by omega, hca⟩) | exact (fun z => ⟨by omega, hca z⟩) | (intro z; exfalso; omega)) | refine vi_arr (by decide) (by decide) ?_ | refine vi_up (by decide) (by decide) ?_ | refine vi_val (ck := 106) (by decide) (by decide) (by decide) ?_ ⟨by omega, by omega⟩))) (by (repeat (first | exact ag_refl | refine ag_up rfl ?_))), dv_top g p1 p2 p5 (by (repeat (first | exact ag_refl | refine ag_up rfl ?_))) (fun j hj => by rw [← p4] at hj; simp [ja_up, hj]), p4, p5a⟩)) ?_
                  intro h95 k194_0 g96
                  replace k194_0 : BO (ja_up (ja_up (ja_up (ja_up h 105 ((a1).toNat) 1) 106 ((a1).toNat) (h 0 188)) 107 ((a1).toNat) (h 0 189)) 104 ((a1).toNat) 3) h95 ht st rg := k194_0
                  refine ja_goto 274 ddeliverRest_197 rfl ?_
                  refine ja_return ddeliverRest_274 rfl ?_
                  exact k1 h95 ((dv_begun g g96 p1 p2 (by omega) (by omega) (by (repeat (first | exact ag_refl | refine ag_up rfl ?_))) (fun j hj => by rw [← p4] at hj; simp [ja_up, hj]) (by rw [← p4]; simp [ja_up]) k194_0)) g96
  · refine ja_aload_n ddeliverRest_12 rfl rfl ?_
    refine ja_dup ddeliverRest_13 (by decide) ?_
    refine fg_frames (v := h 0 150) rfl ddeliverRest_14 ?_
    have f97 := gF_frames g
    refine ja_iconst ddeliverRest_17 ?_
    refine ja_isub ddeliverRest_18 ?_
    have g98 := gP_frames g (x := (h 0 150) - 1) ⟨by omega, by omega⟩
    refine fp_frames ddeliverRest_19 ?_
    refine ja_aload_n ddeliverRest_22 rfl rfl ?_
    refine fg_resultFails (v := h 0 187) rfl ddeliverRest_23 ?_
    have f99 := gF_resultFails g
    refine ja_if_ne 274 ddeliverRest_26 rfl ⟨by omega, by omega⟩ (fun c26 => ?_) (fun c26 => ?_)
    · refine ja_return ddeliverRest_274 rfl ?_
      exact k1 (ja_up h 0 150 ((h 0 150) - 1)) ((dv_pop g g98 p1 p2 (by omega) (by (repeat (first | exact ag_refl | refine ag_up rfl ?_))) (by simp [ja_up]) (by rw [if_neg (by omega)]; simp [ja_up]) (by simp [ja_up]; omega) (by (repeat (first | exact qv | refine vi_set (by decide) (by decide) (by decide) ?_ (by first | exact (fun z => absurd z (by decide)) | exact vi_aS qv (by decide) _ | exact qv.2 | exact (fun z => ⟨by omega, hca⟩) | exact (fun z => ⟨by omega, hca z⟩) | (intro z; exfalso; omega)) | refine vi_res ?_ (by first | exact (fun z => absurd z (by decide)) | exact vi_aS qv (by decide) _ | exact qv.2 | exact (fun z => ⟨by omega, hca⟩) | exact (fun z => ⟨by omega, hca z⟩) | (intro z; exfalso; omega)) | refine vi_arr (by decide) (by decide) ?_ | refine vi_up (by decide) (by decide) ?_ | refine vi_val (ck := 106) (by decide) (by decide) (by decide) ?_ ⟨by omega, by omega⟩))))) g98
    · refine ja_aload_n ddeliverRest_29 rfl rfl ?_
      refine ja_aload_n ddeliverRest_30 rfl rfl ?_
      refine fa_frameRow ddeliverRest_31 ?_
      refine ja_iload_n ddeliverRest_34 rfl rfl ?_
      refine il_frameRow (v := h 102 (a1).toNat) rfl ⟨by omega, by omega⟩ ddeliverRest_35 ?_
      have f100 := gC_frameRow g (a1).toNat
      have g101 := gP_restRow g98 (x := h 102 (a1).toNat) ⟨by omega, by omega⟩
      refine fp_restRow ddeliverRest_36 ?_
      refine ja_aload_n ddeliverRest_39 rfl rfl ?_
      refine ja_aload_n ddeliverRest_40 rfl rfl ?_
      refine fa_frameLevel ddeliverRest_41 ?_
      refine ja_iload_n ddeliverRest_44 rfl rfl ?_
      refine il_frameLevel (v := h 103 (a1).toNat) rfl ⟨by omega, by omega⟩ ddeliverRest_45 ?_
      have f102 := gC_frameLevel g (a1).toNat
      refine ja_iconst ddeliverRest_46 ?_
      refine ja_iadd ddeliverRest_47 ?_
      have g103 := gP_restLevel g101 (x := (h 103 (a1).toNat) + 1) ⟨by omega, by omega⟩
      refine fp_restLevel ddeliverRest_48 ?_
      refine ja_aload_n ddeliverRest_51 rfl rfl ?_
      refine ja_iload_n ddeliverRest_52 rfl rfl ?_
      refine t_takeArgs (by decide) (show (0 : Nat) ≤ 8 by decide) ddeliverRest_53 g103 ⟨by omega, by omega⟩ (show 0 ≤ a1 ∧ a1 ≤ 2999 by omega) ((by (repeat (first | exact qv | refine vi_set (by decide) (by decide) (by decide) ?_ (by first | exact (fun z => absurd z (by decide)) | exact vi_aS qv (by decide) _ | exact qv.2 | exact (fun z => ⟨by omega, hca⟩) | exact (fun z => ⟨by omega, hca z⟩) | (intro z; exfalso; omega)) | refine vi_res ?_ (by first | exact (fun z => absurd z (by decide)) | exact vi_aS qv (by decide) _ | exact qv.2 | exact (fun z => ⟨by omega, hca⟩) | exact (fun z => ⟨by omega, hca z⟩) | (intro z; exfalso; omega)) | refine vi_arr (by decide) (by decide) ?_ | refine vi_up (by decide) (by decide) ?_ | refine vi_val (ck := 106) (by decide) (by decide) (by decide) ?_ ⟨by omega, by omega⟩)))) ?_
      intro h104 k53_0 g105
      replace k53_0 : mo_ag FAR (ja_up (ja_up (ja_up h 0 150 ((h 0 150) - 1)) 0 190 (h 102 (a1).toNat)) 0 191 ((h 103 (a1).toNat) + 1)) h104 ∧ VI h104 := k53_0
      refine ja_aload_n ddeliverRest_56 rfl rfl ?_
      refine ja_iconst ddeliverRest_57 ?_
      have g106 := gP_under g105 (x := 2) ⟨by decide, by decide⟩
      refine fp_under ddeliverRest_58 ?_
      refine ja_goto 274 ddeliverRest_61 rfl ?_
      refine ja_return ddeliverRest_274 rfl ?_
      exact k1 (ja_up h104 0 186 2) ((dv_rest g g106 p1 p2 (by omega) (by omega) (ag_trans (by (repeat (first | exact ag_refl | refine ag_up rfl ?_))) (ag_trans (ag_sub (X_X (by decide) (by decide)) k53_0.1) (by (repeat (first | exact ag_refl | refine ag_up rfl ?_))))) ((show _ = _ from by simp [ja_up]).trans ((k53_0.1 0 150 rfl).trans (by simp [ja_up]))) (by simp [ja_up]) ((k53_0.1 0 190 rfl).trans (by rw [← p4]; simp [ja_up])) ((k53_0.1 0 191 rfl).trans (by rw [← p4]; simp [ja_up])) (by have qv := k53_0.2; exact (by (repeat (first | exact qv | refine vi_set (by decide) (by decide) (by decide) ?_ (by first | exact (fun z => absurd z (by decide)) | exact vi_aS qv (by decide) _ | exact qv.2 | exact (fun z => ⟨by omega, hca⟩) | exact (fun z => ⟨by omega, hca z⟩) | (intro z; exfalso; omega)) | refine vi_res ?_ (by first | exact (fun z => absurd z (by decide)) | exact vi_aS qv (by decide) _ | exact qv.2 | exact (fun z => ⟨by omega, hca⟩) | exact (fun z => ⟨by omega, hca z⟩) | (intro z; exfalso; omega)) | refine vi_arr (by decide) (by decide) ?_ | refine vi_up (by decide) (by decide) ?_ | refine vi_val (ck := 106) (by decide) (by decide) (by decide) ?_ ⟨by omega, by omega⟩)))))) g106
theorem t_deliverRest {a1 : Int} {ht st rg : Nat → Int} {d nL pc : Nat} {cc : ByteArray} {rt : Option FieldType} {L : List (Nat × ja_V)} {S : List ja_V} {h : ja_H} {Q : Option ja_V → ja_H → Prop} (hdd : 4 < d) (hwd : ja_wd S ≤ 8) (hd : decode cc pc = .ok (.invokevirtual 1048, 3)) (g : mo_G mo_zr h) (r1 : -2147483648 ≤ a1 ∧ a1 ≤ 2147483647) (p1 : RB h ht st rg) (p2 : RI h ht st rg) (p3 : (h 0 186) = 1) (p4 : a1 = (h 0 150) - 1) (p5 : (h 96 ((h 0 150) - 1).toNat) = 4) (k1 : ∀ (h' : ja_H), (RO h h' ht st rg) → mo_G mo_zr h' → mJ l D cA ad d cc nL rt (pc + 3) L S h' Q) : mJ l D cA ad d cc nL rt pc L ((0, a1) :: (2, ((0 : Nat) : Int)) :: S) h Q :=
  mc_deliverRest hdd hwd hd (s_deliverRest g r1 p1 p2 p3 p4 p5 k1)
end
theorem ddeliver_0 : decode cX12_deliver 0 = .ok (.aload_n 0, 1) := by decide +kernel
theorem ddeliver_1 : decode cX12_deliver 1 = .ok (.getfield 996, 3) := by decide +kernel
theorem ddeliver_4 : decode cX12_deliver 4 = .ok (.iconst 1, 1) := by decide +kernel
theorem ddeliver_5 : decode cX12_deliver 5 = .ok (.isub, 1) := by decide +kernel
theorem ddeliver_6 : decode cX12_deliver 6 = .ok (.istore_n 1, 1) := by decide +kernel
theorem ddeliver_7 : decode cX12_deliver 7 = .ok (.aload_n 0, 1) := by decide +kernel
theorem ddeliver_8 : decode cX12_deliver 8 = .ok (.getfield 297, 3) := by decide +kernel
theorem ddeliver_11 : decode cX12_deliver 11 = .ok (.iload_n 1, 1) := by decide +kernel
theorem ddeliver_12 : decode cX12_deliver 12 = .ok (.iaload, 1) := by decide +kernel
theorem ddeliver_13 : decode cX12_deliver 13 = .ok (.tableswitch 101 0 4 #[35, 35, 35, 70, 93], 35) := by decide +kernel
theorem ddeliver_48 : decode cX12_deliver 48 = .ok (.aload_n 0, 1) := by decide +kernel
theorem ddeliver_49 : decode cX12_deliver 49 = .ok (.getfield 1024, 3) := by decide +kernel
theorem ddeliver_52 : decode cX12_deliver 52 = .ok (.ifCond .eq 11, 3) := by decide +kernel
theorem ddeliver_55 : decode cX12_deliver 55 = .ok (.aload_n 0, 1) := by decide +kernel
theorem ddeliver_56 : decode cX12_deliver 56 = .ok (.iload_n 1, 1) := by decide +kernel
theorem ddeliver_57 : decode cX12_deliver 57 = .ok (.invokevirtual 1042, 3) := by decide +kernel
theorem ddeliver_60 : decode cX12_deliver 60 = .ok (.goto 82, 3) := by decide +kernel
theorem ddeliver_63 : decode cX12_deliver 63 = .ok (.aload_n 0, 1) := by decide +kernel
theorem ddeliver_64 : decode cX12_deliver 64 = .ok (.iconst 0, 1) := by decide +kernel
theorem ddeliver_65 : decode cX12_deliver 65 = .ok (.putfield 1008, 3) := by decide +kernel
theorem ddeliver_68 : decode cX12_deliver 68 = .ok (.aload_n 0, 1) := by decide +kernel
theorem ddeliver_69 : decode cX12_deliver 69 = .ok (.aload_n 0, 1) := by decide +kernel
theorem ddeliver_70 : decode cX12_deliver 70 = .ok (.getfield 1027, 3) := by decide +kernel
theorem ddeliver_73 : decode cX12_deliver 73 = .ok (.aload_n 0, 1) := by decide +kernel
theorem ddeliver_74 : decode cX12_deliver 74 = .ok (.getfield 1030, 3) := by decide +kernel
theorem ddeliver_77 : decode cX12_deliver 77 = .ok (.invokevirtual 1045, 3) := by decide +kernel
theorem ddeliver_80 : decode cX12_deliver 80 = .ok (.goto 62, 3) := by decide +kernel
theorem ddeliver_83 : decode cX12_deliver 83 = .ok (.aload_n 0, 1) := by decide +kernel
theorem ddeliver_84 : decode cX12_deliver 84 = .ok (.dup, 1) := by decide +kernel
theorem ddeliver_85 : decode cX12_deliver 85 = .ok (.getfield 1005, 3) := by decide +kernel
theorem ddeliver_88 : decode cX12_deliver 88 = .ok (.iconst 1, 1) := by decide +kernel
theorem ddeliver_89 : decode cX12_deliver 89 = .ok (.isub, 1) := by decide +kernel
theorem ddeliver_90 : decode cX12_deliver 90 = .ok (.putfield 1005, 3) := by decide +kernel
theorem ddeliver_93 : decode cX12_deliver 93 = .ok (.aload_n 0, 1) := by decide +kernel
theorem ddeliver_94 : decode cX12_deliver 94 = .ok (.dup, 1) := by decide +kernel
theorem ddeliver_95 : decode cX12_deliver 95 = .ok (.getfield 996, 3) := by decide +kernel
theorem ddeliver_98 : decode cX12_deliver 98 = .ok (.iconst 1, 1) := by decide +kernel
theorem ddeliver_99 : decode cX12_deliver 99 = .ok (.isub, 1) := by decide +kernel
theorem ddeliver_100 : decode cX12_deliver 100 = .ok (.putfield 996, 3) := by decide +kernel
theorem ddeliver_103 : decode cX12_deliver 103 = .ok (.goto 39, 3) := by decide +kernel
theorem ddeliver_106 : decode cX12_deliver 106 = .ok (.aload_n 0, 1) := by decide +kernel
theorem ddeliver_107 : decode cX12_deliver 107 = .ok (.iload_n 1, 1) := by decide +kernel
theorem ddeliver_108 : decode cX12_deliver 108 = .ok (.invokevirtual 1048, 3) := by decide +kernel
theorem ddeliver_111 : decode cX12_deliver 111 = .ok (.goto 31, 3) := by decide +kernel
theorem ddeliver_114 : decode cX12_deliver 114 = .ok (.aload_n 0, 1) := by decide +kernel
theorem ddeliver_115 : decode cX12_deliver 115 = .ok (.dup, 1) := by decide +kernel
theorem ddeliver_116 : decode cX12_deliver 116 = .ok (.getfield 996, 3) := by decide +kernel
theorem ddeliver_119 : decode cX12_deliver 119 = .ok (.iconst 1, 1) := by decide +kernel
theorem ddeliver_120 : decode cX12_deliver 120 = .ok (.isub, 1) := by decide +kernel
theorem ddeliver_121 : decode cX12_deliver 121 = .ok (.putfield 996, 3) := by decide +kernel
theorem ddeliver_124 : decode cX12_deliver 124 = .ok (.aload_n 0, 1) := by decide +kernel
theorem ddeliver_125 : decode cX12_deliver 125 = .ok (.getfield 1024, 3) := by decide +kernel
theorem ddeliver_128 : decode cX12_deliver 128 = .ok (.ifCond .ne 14, 3) := by decide +kernel
theorem ddeliver_131 : decode cX12_deliver 131 = .ok (.aload_n 0, 1) := by decide +kernel
theorem ddeliver_132 : decode cX12_deliver 132 = .ok (.iconst 2, 1) := by decide +kernel
theorem ddeliver_133 : decode cX12_deliver 133 = .ok (.aload_n 0, 1) := by decide +kernel
theorem ddeliver_134 : decode cX12_deliver 134 = .ok (.getfield 330, 3) := by decide +kernel
theorem ddeliver_137 : decode cX12_deliver 137 = .ok (.iload_n 1, 1) := by decide +kernel
theorem ddeliver_138 : decode cX12_deliver 138 = .ok (.iaload, 1) := by decide +kernel
theorem ddeliver_139 : decode cX12_deliver 139 = .ok (.invokevirtual 1051, 3) := by decide +kernel
theorem ddeliver_142 : decode cX12_deliver 142 = .ok (.return_, 1) := by decide +kernel
section
variable {l : Launch} {D : va_G} {cA : Nat → ClassId} {ad : Nat → Nat}
theorem s_deliver {ht st rg : Nat → Int} {h : ja_H} {Q : Option ja_V → ja_H → Prop} (g : mo_G mo_zr h) (p1 : RB h ht st rg) (p2 : RI h ht st rg) (p3 : (h 0 186) = 1) (k1 : ∀ (h' : ja_H), (RO h h' ht st rg) → mo_G mo_zr h' → Q none h') : mM_deliver l D cA ad  h Q := by
  show mJ l D cA ad 5 cX12_deliver 2 none 0 [(0, (2, ((0 : Nat) : Int)))] [] h Q
  have kn_frames := gF_frames g
  have kn_under := gF_under g
  have kn_reached := gF_reached g
  have kn_pile := gF_pile g
  have kn_resultKind := gF_resultKind g
  have kn_resultFails := gF_resultFails g
  have hn := ri_n g p1.2.1 p2
  have qv := p1.1
  have gft := gC_frameType g ((h 0 150) - 1).toNat
  refine ja_aload_n ddeliver_0 rfl rfl ?_
  refine fg_frames (v := h 0 150) rfl ddeliver_1 ?_
  have f1 := gF_frames g
  refine ja_iconst ddeliver_4 ?_
  refine ja_isub ddeliver_5 ?_
  refine ja_istore_n ddeliver_6 rfl (by decide) (L2 := [(1, (0, ((h 0 150) - 1))), (0, (2, ((0 : Nat) : Int)))]) rfl ?_
  refine ja_aload_n ddeliver_7 rfl rfl ?_
  refine fa_frameType ddeliver_8 ?_
  refine ja_iload_n ddeliver_11 rfl rfl ?_
  refine il_frameType (v := h 96 ((h 0 150) - 1).toNat) rfl ⟨by omega, by omega⟩ ddeliver_12 ?_
  have f2 := gC_frameType g ((h 0 150) - 1).toNat
  have T13_48 : (h 96 ((h 0 150) - 1).toNat = 0 ∨ h 96 ((h 0 150) - 1).toNat = 1 ∨ h 96 ((h 0 150) - 1).toNat = 2) → mJ l D cA ad 5 cX12_deliver 2 none 48 [(1, (0, ((h 0 150) - 1))), (0, (2, ((0 : Nat) : Int)))] [] h Q := by
    intro e13
    refine ja_aload_n ddeliver_48 rfl rfl ?_
    refine fg_resultFails (v := h 0 187) rfl ddeliver_49 ?_
    have f3 := gF_resultFails g
    refine ja_if_eq 63 ddeliver_52 rfl ⟨by omega, by omega⟩ (fun c52 => ?_) (fun c52 => ?_)
    · refine ja_aload_n ddeliver_63 rfl rfl ?_
      refine ja_iconst ddeliver_64 ?_
      have g4 := gP_under g (x := 0) ⟨by decide, by decide⟩
      refine fp_under ddeliver_65 ?_
      refine ja_aload_n ddeliver_68 rfl rfl ?_
      refine ja_aload_n ddeliver_69 rfl rfl ?_
      refine fg_resultKind (v := h 0 188) rfl ddeliver_70 ?_
      have f5 := gF_resultKind g
      refine ja_aload_n ddeliver_73 rfl rfl ?_
      refine fg_resultValue (v := h 0 189) rfl ddeliver_74 ?_
      have f6 := gF_resultValue g
      refine t_put (by decide) (show (0 : Nat) ≤ 8 by decide) ddeliver_77 g4 ⟨by omega, by omega⟩ ⟨by omega, by omega⟩ (show 0 ≤ (h 0 188) ∧ (h 0 188) ≤ 2 by omega) (show (h 0 149) < 6000 by omega) ?_
      intro g7
      replace g7 : mo_G mo_zr (ja_up (ja_up (ja_up (ja_up h 0 186 0) 94 ((h 0 149).toNat) (h 0 188)) 95 ((h 0 149).toNat) (h 0 189)) 0 149 ((h 0 149) + 1)) := g7
      show mJ l D cA ad 5 cX12_deliver 2 none 80 [(1, (0, ((h 0 150) - 1))), (0, (2, ((0 : Nat) : Int)))] [] (ja_up (ja_up (ja_up (ja_up h 0 186 0) 94 ((h 0 149).toNat) (h 0 188)) 95 ((h 0 149).toNat) (h 0 189)) 0 149 ((h 0 149) + 1)) Q
      refine ja_goto 142 ddeliver_80 rfl ?_
      refine ja_return ddeliver_142 rfl ?_
      exact k1 (ja_up (ja_up (ja_up (ja_up h 0 186 0) 94 ((h 0 149).toNat) (h 0 188)) 95 ((h 0 149).toNat) (h 0 189)) 0 149 ((h 0 149) + 1)) ((dv_put g g7 p1 p2 (by omega) p3 (by omega) (by (repeat (first | exact ag_refl | refine ag_up rfl ?_))) (by simp [ja_up]) (by simp [ja_up]) (by (repeat (first | exact qv | refine vi_set (by decide) (by decide) (by decide) ?_ (by first | exact (fun z => absurd z (by decide)) | exact vi_aS qv (by decide) _ | exact qv.2 | exact (fun z => ⟨by omega, hca⟩) | exact (fun z => ⟨by omega, hca z⟩) | (intro z; exfalso; omega)) | refine vi_res ?_ (by first | exact (fun z => absurd z (by decide)) | exact vi_aS qv (by decide) _ | exact qv.2 | exact (fun z => ⟨by omega, hca⟩) | exact (fun z => ⟨by omega, hca z⟩) | (intro z; exfalso; omega)) | refine vi_arr (by decide) (by decide) ?_ | refine vi_up (by decide) (by decide) ?_ | refine vi_val (ck := 106) (by decide) (by decide) (by decide) ?_ ⟨by omega, by omega⟩))))) g7
    · refine ja_aload_n ddeliver_55 rfl rfl ?_
      refine ja_iload_n ddeliver_56 rfl rfl ?_
      refine t_raise (by decide) (show (0 : Nat) ≤ 8 by decide) ddeliver_57 g ⟨by omega, by omega⟩ (p1) (p2) (p3) (show (h 0 187) = 1 by omega) (show ((h 0 150) - 1) = (h 0 150) - 1 by omega) (show (h 96 ((h 0 150) - 1).toNat) ≤ 2 by omega) ?_
      intro h8 k57_0 g9
      refine ja_goto 142 ddeliver_60 rfl ?_
      refine ja_return ddeliver_142 rfl ?_
      exact k1 h8 (k57_0) g9
  have T13_83 : (h 96 ((h 0 150) - 1).toNat = 3) → mJ l D cA ad 5 cX12_deliver 2 none 83 [(1, (0, ((h 0 150) - 1))), (0, (2, ((0 : Nat) : Int)))] [] h Q := by
    intro e13
    have h3r := nb3 g p2 hn.1 (by omega)
    refine ja_aload_n ddeliver_83 rfl rfl ?_
    refine ja_dup ddeliver_84 (by decide) ?_
    refine fg_reached (v := h 0 172) rfl ddeliver_85 ?_
    have f10 := gF_reached g
    refine ja_iconst ddeliver_88 ?_
    refine ja_isub ddeliver_89 ?_
    have g11 := gP_reached g (x := (h 0 172) - 1) ⟨by omega, by omega⟩
    refine fp_reached ddeliver_90 ?_
    refine ja_aload_n ddeliver_93 rfl rfl ?_
    refine ja_dup ddeliver_94 (by decide) ?_
    refine fg_frames (v := h 0 150) rfl ddeliver_95 ?_
    refine ja_iconst ddeliver_98 ?_
    refine ja_isub ddeliver_99 ?_
    have g12 := gP_frames g11 (x := (h 0 150) - 1) ⟨by omega, by omega⟩
    refine fp_frames ddeliver_100 ?_
    refine ja_goto 142 ddeliver_103 rfl ?_
    refine ja_return ddeliver_142 rfl ?_
    exact k1 (ja_up (ja_up h 0 172 ((h 0 172) - 1)) 0 150 ((h 0 150) - 1)) ((dv_pop g g12 p1 p2 (by omega) (by (repeat (first | exact ag_refl | refine ag_up rfl ?_))) (by simp [ja_up]) (by rw [if_pos (by omega)]; simp [ja_up]) (by simp [ja_up]; try omega) (by (repeat (first | exact qv | refine vi_set (by decide) (by decide) (by decide) ?_ (by first | exact (fun z => absurd z (by decide)) | exact vi_aS qv (by decide) _ | exact qv.2 | exact (fun z => ⟨by omega, hca⟩) | exact (fun z => ⟨by omega, hca z⟩) | (intro z; exfalso; omega)) | refine vi_res ?_ (by first | exact (fun z => absurd z (by decide)) | exact vi_aS qv (by decide) _ | exact qv.2 | exact (fun z => ⟨by omega, hca⟩) | exact (fun z => ⟨by omega, hca z⟩) | (intro z; exfalso; omega)) | refine vi_arr (by decide) (by decide) ?_ | refine vi_up (by decide) (by decide) ?_ | refine vi_val (ck := 106) (by decide) (by decide) (by decide) ?_ ⟨by omega, by omega⟩))))) g12
  have T13_106 : (h 96 ((h 0 150) - 1).toNat = 4) → mJ l D cA ad 5 cX12_deliver 2 none 106 [(1, (0, ((h 0 150) - 1))), (0, (2, ((0 : Nat) : Int)))] [] h Q := by
    intro e13
    refine ja_aload_n ddeliver_106 rfl rfl ?_
    refine ja_iload_n ddeliver_107 rfl rfl ?_
    refine t_deliverRest (by decide) (show (0 : Nat) ≤ 8 by decide) ddeliver_108 g ⟨by omega, by omega⟩ (p1) (p2) (p3) (show ((h 0 150) - 1) = (h 0 150) - 1 by omega) (show (h 96 ((h 0 150) - 1).toNat) = 4 by omega) ?_
    intro h13 k108_0 g14
    refine ja_goto 142 ddeliver_111 rfl ?_
    refine ja_return ddeliver_142 rfl ?_
    exact k1 h13 (k108_0) g14
  have T13_114 : (h 96 ((h 0 150) - 1).toNat < 0 ∨ 4 < h 96 ((h 0 150) - 1).toNat) → mJ l D cA ad 5 cX12_deliver 2 none 114 [(1, (0, ((h 0 150) - 1))), (0, (2, ((0 : Nat) : Int)))] [] h Q := by
    intro e13
    have h5 := nb5 p2 hn.1 (by omega)
    have h5b := h5.1
    have hca := h5.2
    refine ja_aload_n ddeliver_114 rfl rfl ?_
    refine ja_dup ddeliver_115 (by decide) ?_
    refine fg_frames (v := h 0 150) rfl ddeliver_116 ?_
    refine ja_iconst ddeliver_119 ?_
    refine ja_isub ddeliver_120 ?_
    have g15 := gP_frames g (x := (h 0 150) - 1) ⟨by omega, by omega⟩
    refine fp_frames ddeliver_121 ?_
    refine ja_aload_n ddeliver_124 rfl rfl ?_
    refine fg_resultFails (v := h 0 187) rfl ddeliver_125 ?_
    have f16 := gF_resultFails g
    refine ja_if_ne 142 ddeliver_128 rfl ⟨by omega, by omega⟩ (fun c128 => ?_) (fun c128 => ?_)
    · refine ja_return ddeliver_142 rfl ?_
      exact k1 (ja_up h 0 150 ((h 0 150) - 1)) ((dv_pop g g15 p1 p2 (by omega) (by (repeat (first | exact ag_refl | refine ag_up rfl ?_))) (by simp [ja_up]) (by rw [if_neg (by omega)]; simp [ja_up]) (by simp [ja_up]; try omega) (by (repeat (first | exact qv | refine vi_set (by decide) (by decide) (by decide) ?_ (by first | exact (fun z => absurd z (by decide)) | exact vi_aS qv (by decide) _ | exact qv.2 | exact (fun z => ⟨by omega, hca⟩) | exact (fun z => ⟨by omega, hca z⟩) | (intro z; exfalso; omega)) | refine vi_res ?_ (by first | exact (fun z => absurd z (by decide)) | exact vi_aS qv (by decide) _ | exact qv.2 | exact (fun z => ⟨by omega, hca⟩) | exact (fun z => ⟨by omega, hca z⟩) | (intro z; exfalso; omega)) | refine vi_arr (by decide) (by decide) ?_ | refine vi_up (by decide) (by decide) ?_ | refine vi_val (ck := 106) (by decide) (by decide) (by decide) ?_ ⟨by omega, by omega⟩))))) g15
    · refine ja_aload_n ddeliver_131 rfl rfl ?_
      refine ja_iconst ddeliver_132 ?_
      refine ja_aload_n ddeliver_133 rfl rfl ?_
      refine fa_frameValue ddeliver_134 ?_
      refine ja_iload_n ddeliver_137 rfl rfl ?_
      refine il_frameValue (v := h 107 ((h 0 150) - 1).toNat) rfl ⟨by omega, by omega⟩ ddeliver_138 ?_
      have f17 := gC_frameValue g ((h 0 150) - 1).toNat
      refine t_result (by decide) (show (0 : Nat) ≤ 8 by decide) ddeliver_139 g15 ⟨by decide, by decide⟩ ⟨by omega, by omega⟩ (show 0 ≤ 2 ∧ 2 ≤ 2 by omega) ?_
      intro g18
      replace g18 : mo_G mo_zr (ja_up (ja_up (ja_up (ja_up (ja_up h 0 150 ((h 0 150) - 1)) 0 186 1) 0 187 0) 0 188 2) 0 189 (h 107 ((h 0 150) - 1).toNat)) := g18
      show mJ l D cA ad 5 cX12_deliver 2 none 142 [(1, (0, ((h 0 150) - 1))), (0, (2, ((0 : Nat) : Int)))] [] (ja_up (ja_up (ja_up (ja_up (ja_up h 0 150 ((h 0 150) - 1)) 0 186 1) 0 187 0) 0 188 2) 0 189 (h 107 ((h 0 150) - 1).toNat)) Q
      refine ja_return ddeliver_142 rfl ?_
      exact k1 (ja_up (ja_up (ja_up (ja_up (ja_up h 0 150 ((h 0 150) - 1)) 0 186 1) 0 187 0) 0 188 2) 0 189 (h 107 ((h 0 150) - 1).toNat)) ((dv_pop g g18 p1 p2 (by omega) (by (repeat (first | exact ag_refl | refine ag_up rfl ?_))) (by simp [ja_up]) (by rw [if_neg (by omega)]; simp [ja_up]) (by simp [ja_up]; try omega) (by (repeat (first | exact qv | refine vi_set (by decide) (by decide) (by decide) ?_ (by first | exact (fun z => absurd z (by decide)) | exact vi_aS qv (by decide) _ | exact qv.2 | exact (fun z => ⟨by omega, hca⟩) | exact (fun z => ⟨by omega, hca z⟩) | (intro z; exfalso; omega)) | refine vi_res ?_ (by first | exact (fun z => absurd z (by decide)) | exact vi_aS qv (by decide) _ | exact qv.2 | exact (fun z => ⟨by omega, hca⟩) | exact (fun z => ⟨by omega, hca z⟩) | (intro z; exfalso; omega)) | refine vi_arr (by decide) (by decide) ?_ | refine vi_up (by decide) (by decide) ?_ | refine vi_val (ck := 106) (by decide) (by decide) (by decide) ?_ ⟨by omega, by omega⟩))))) g18
  rcases (by omega : h 96 ((h 0 150) - 1).toNat = 0 ∨ h 96 ((h 0 150) - 1).toNat = 1 ∨ h 96 ((h 0 150) - 1).toNat = 2 ∨ h 96 ((h 0 150) - 1).toNat = 3 ∨ h 96 ((h 0 150) - 1).toNat = 4 ∨ (h 96 ((h 0 150) - 1).toNat < 0 ∨ 4 < h 96 ((h 0 150) - 1).toNat)) with e | e | e | e | e | e
  · exact ja_tableIn 48 ddeliver_13 ⟨by omega, by omega⟩ (by omega) (by omega) (by rw [e]; rfl) rfl (T13_48 (by omega))
  · exact ja_tableIn 48 ddeliver_13 ⟨by omega, by omega⟩ (by omega) (by omega) (by rw [e]; rfl) rfl (T13_48 (by omega))
  · exact ja_tableIn 48 ddeliver_13 ⟨by omega, by omega⟩ (by omega) (by omega) (by rw [e]; rfl) rfl (T13_48 (by omega))
  · exact ja_tableIn 83 ddeliver_13 ⟨by omega, by omega⟩ (by omega) (by omega) (by rw [e]; rfl) rfl (T13_83 (by omega))
  · exact ja_tableIn 106 ddeliver_13 ⟨by omega, by omega⟩ (by omega) (by omega) (by rw [e]; rfl) rfl (T13_106 (by omega))
  · exact ja_tableOut 114 ddeliver_13 ⟨by omega, by omega⟩ (by omega) rfl (T13_114 (by omega))
theorem t_deliver {ht st rg : Nat → Int} {d nL pc : Nat} {cc : ByteArray} {rt : Option FieldType} {L : List (Nat × ja_V)} {S : List ja_V} {h : ja_H} {Q : Option ja_V → ja_H → Prop} (hdd : 5 < d) (hwd : ja_wd S ≤ 8) (hd : decode cc pc = .ok (.invokevirtual 1036, 3)) (g : mo_G mo_zr h) (p1 : RB h ht st rg) (p2 : RI h ht st rg) (p3 : (h 0 186) = 1) (k1 : ∀ (h' : ja_H), (RO h h' ht st rg) → mo_G mo_zr h' → mJ l D cA ad d cc nL rt (pc + 3) L S h' Q) : mJ l D cA ad d cc nL rt pc L ((2, ((0 : Nat) : Int)) :: S) h Q :=
  mc_deliver hdd hwd hd (s_deliver g p1 p2 p3 k1)
end
