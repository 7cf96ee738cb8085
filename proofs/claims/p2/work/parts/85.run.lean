/-! the reference: POINT words, go (written by a program) -/
/-! the reference: words of a body -/
/-- the word w of the body f is being gone through; h0: ahead of it -/
def EX (h0 h : ja_H) (ht st rg : Nat → Int) (w f : Int) : Prop := mo_G mo_zr h0 ∧ RB h0 ht st rg ∧ RI h0 ht st rg ∧ (h0 0 186) = 0 ∧ f = (h0 0 150) - 1 ∧ w = (h0 97) f.toNat ∧ (h0 74) w.toNat ≠ 25 ∧ h = ja_up h0 97 f.toNat (w + 1)
theorem ex_f {h0 h : ja_H} {ht st rg : Nat → Int} {w f : Int} (q : EX h0 h ht st rg w f) : RB h ht st rg ∧ (0 ≤ w ∧ w < (h 0 113) ∧ (h 0 113) ≤ 5000 ∧ (h 74) w.toNat ≠ 25) ∧ (f = (h 0 150) - 1 ∧ 1 ≤ (h 0 150) ∧ (h 0 150) ≤ 2132) ∧ (0 ≤ (h 96) f.toNat ∧ (h 96) f.toNat ≤ 2 ∧ (h 0 186) = 0 ∧ (h 97) f.toNat = w + 1) ∧ ((h 0 149) = (h 99) f.toNat + ht w.toNat ∧ 0 ≤ (h 99) f.toNat ∧ 0 ≤ ht w.toNat ∧ ht w.toNat ≤ 119 ∧ pw_need ((h 74) w.toNat) ((h 75) w.toNat) (pw_pop h ((h 75) w.toNat)) ≤ ht w.toNat) ∧ ((h 0 168) = (h 100) f.toNat + rg w.toNat / 8 ∧ 0 ≤ rg w.toNat ∧ rg w.toNat ≤ 132) ∧ ((h 0 165) = (h 101) f.toNat + 10 ∧ 0 ≤ (h 101) f.toNat) ∧ ((h 0 149) ≤ 4920 ∧ (h 0 168) ≤ 656 ∧ (h 0 165) ≤ 410 ∧ (h 0 144) ≤ 40) ∧ ((h 74) w.toNat = 3 ∨ (h 96) f.toNat = 1 → caN h) ∧ ((h 74) w.toNat = 6 ∨ (h 74) w.toNat = 7 → 0 ≤ (h 107) f.toNat ∧ (h 107) f.toNat ≤ 200) := by
  obtain ⟨g0, b, q, hu, hf, hw, h25, eh⟩ := q
  have n := ri_n g0 b.2.1 q
  have m := ri_num g0 b.2.1 q
  have gw := gF_words g0
  subst hf
  obtain ⟨t1, ⟨b1, b2, b3, b4, b5, b6⟩, t3⟩ := ri_top q hu
  rw [← hw] at b1 b2 b3 b5
  have P := b.2.1.1 w.toNat (by omega)
  have c13 := P.2.2.2.2.2.2.2.2.2.2.2.2.1
  have c14 := P.2.2.2.2.2.2.2.2.2.2.2.2.2.1
  have c5 := P.2.2.2.2.1
  have c2 := P.2.1
  have c3 := P.2.2.1
  clear P
  have gb := gC_frameBase g0 ((h0 0 150) - 1).toNat
  have gl := gC_frameLocals g0 ((h0 0 150) - 1).toNat
  have gt := gC_frameType g0 ((h0 0 150) - 1).toNat
  have rb : RB h ht st rg := rb_ag b (by have qv := b.1; rw [eh]; exact (by (repeat (first | exact qv | refine vi_set (by decide) (by decide) (by decide) ?_ (by first | exact (fun z => absurd z (by decide)) | exact vi_aS qv (by decide) _ | exact qv.2 | exact (fun z => ⟨by omega, hca⟩) | exact (fun z => ⟨by omega, hca z⟩) | (intro z; exfalso; omega)) | refine vi_res ?_ (by first | exact (fun z => absurd z (by decide)) | exact vi_aS qv (by decide) _ | exact qv.2 | exact (fun z => ⟨by omega, hca⟩) | exact (fun z => ⟨by omega, hca z⟩) | (intro z; exfalso; omega)) | refine vi_arr (by decide) (by decide) ?_ | refine vi_up (by decide) (by decide) ?_ | refine vi_val (ck := 106) (by decide) (by decide) (by decide) ?_ ⟨by omega, by omega⟩)))) (by rw [eh]; exact ag_up rfl ag_refl)
  subst eh
  refine ⟨rb, ⟨b1.1, b1.2, gw.2, h25⟩, ⟨rfl, n.1, n.2.1⟩, ⟨gt.1, t1, hu, mo_upS⟩, ⟨by show (h0 0 149) = (h0 99) ((h0 0 150) - 1).toNat + ht w.toNat; omega, gb.1, c2.1, c2.2, c5⟩, ⟨b3.2, b3.1, c3.2.1⟩, ⟨b4, gl.1⟩, ⟨n.2.2.2.1, n.2.2.2.2.1, by show (h0 0 165) ≤ 410; omega, n.2.2.1⟩, fun z => ?_, fun z => ?_⟩
  · have : caN h0 := by
      rcases b5 with y | y | y
      · exfalso
        rcases z with z | z
        · have z' : (h0 74) w.toNat = 3 := z
          have := (c13 (Or.inr z')).2.2
          omega
        · have z' : (h0 96) ((h0 0 150) - 1).toNat = 1 := z
          omega
      · exact y.2.2.2
      · exfalso
        rcases z with z | z
        · have z' : (h0 74) w.toNat = 3 := z
          have := (c13 (Or.inr z')).2.2
          omega
        · have z' : (h0 96) ((h0 0 150) - 1).toNat = 1 := z
          omega
    exact this
  · have z' : (h0 74) w.toNat = 6 ∨ (h0 74) w.toNat = 7 := z
    have := (c14 z').2.2.2.2
    rcases b5 with y | y | y
    · omega
    · omega
    · exact y.2.2.2.1
def FXW : Nat → Nat → Bool := mo_X [149, 168, 186, 187, 188, 189, 132] [97, 94, 95, 112, 113, 110, 111, 92, 93, 85, 86, 128, 129]
theorem ex_end {h0 h u : ja_H} {ht st rg : Nat → Int} {w f pc wd : Int} (q : EX h0 h ht st rg w f) (gu : mo_G mo_zr u) (vu : VI u) (ag : mo_ag FXW h u) (N : ∀ j : Nat, j ≠ f.toNat → (u 97) j = (h 97) j) (E : (u 97) f.toNat = pc) (hpc : 0 ≤ pc ∧ pc < (h 0 113)) (hw : tw u wd) (hu2 : (u 0 186) = 0 ∨ (u 0 186) = 1) (hp : (u 0 149) = (h 99) f.toNat + ht pc.toNat - wd) (hr : 0 ≤ rg pc.toNat ∧ rg pc.toNat % 8 = rg w.toNat % 8) (hT : (u 0 168) = (h 100) f.toNat + rg pc.toNat / 8)
    (lowT : ∀ k : Nat, (k : Int) < (h 0 168) ∧ (k : Int) < (u 0 168) → (u 113) k = (h 113) k ∧ (u 112) k = (h 112) k) (newT : ∀ k : Nat, (h 0 168) ≤ k → (k : Int) < (u 0 168) → (u 113) k = (h 99) f.toNat ∧ (0 ≤ (u 112) k ∧ (u 112) k < (h 0 113)) ∧ ht ((u 112) k).toNat = 1 ∧ st ((u 112) k).toNat = 0 ∧ rg ((u 112) k).toNat = rg pc.toNat % 8 + 8 * (k - (h 100) f.toNat)) (hO : (u 0 132) + st pc.toNat ≤ (h 0 132) + st w.toNat) (D : dg (h 74) st rg pc < dg (h 74) st rg w) : RO h0 u ht st rg := by
  obtain ⟨g0, b, q, hu, hf, hww, h25, eh⟩ := q
  have n := ri_n g0 b.2.1 q
  subst hf
  obtain ⟨t1, ⟨b1, b2, b3, b4, b5, b6⟩, t3⟩ := ri_top q hu
  have ag0 : mo_ag FXW h0 u := ag_trans (by rw [eh]; exact ag_up rfl ag_refl) ag
  have es : (u 0 130) = (h0 0 130) := ag0 _ _ rfl
  have N0 : ∀ j : Nat, j ≠ ((h0 0 150) - 1).toNat → (u 97) j = (h0 97) j := fun j hj => by rw [N j hj, eh]; exact mo_upJ hj
  subst eh
  have hT' : (u 0 168) = (h0 100) ((h0 0 150) - 1).toNat + rg pc.toNat / 8 := hT
  have hO' : (u 0 132) + st pc.toNat ≤ (h0 0 132) + st w.toNat := hO
  have ri : RI u ht st rg := ri_word (pc := pc) (w := wd) g0 q hu (ag_sub (X_X (by decide) (by decide)) ag0) hu2 hw N0 E hpc hp (by rw [← hww]; exact hr) hT (fun k hk => lowT k ⟨by show (k : Int) < (h0 0 168); omega, by omega⟩) (fun k k1 k2 => by
    rcases Int.lt_or_le (k : Int) (h0 0 168) with l | l
    · obtain ⟨x1, x2⟩ := lowT k ⟨l, k2⟩
      rw [x1, x2]
      obtain ⟨y1, y2, y3, y4, y5⟩ := b6 k k1 l
      rw [← hww] at y5
      exact ⟨y1, y2, y3, y4, by rw [hr.2]; exact y5⟩
    · exact newT k l k2) (by rw [← hww]; omega)
  have rb := rb_ag b vu (ag_sub (X_sub (by decide) (by decide)) ag0)
  exact ⟨rb, ag_sub (X_sub (by decide) (by decide)) ag0, fun _ => ri_go g0 gu rb.2.1 q (by omega) hu (ag_sub (X_X (by decide) (by decide)) ag0) E N0 ri (by rw [← hww]; exact D)⟩
def FXN : Nat → Nat → Bool := mo_X [149, 186, 187, 188, 189, 132] [97, 94, 95, 110, 111, 92, 93, 85, 86, 128, 129]
theorem ex_next {h0 h u : ja_H} {ht st rg : Nat → Int} {w f wd : Int} (q : EX h0 h ht st rg w f) (gu : mo_G mo_zr u) (vu : VI u) (o : (h 74) w.toNat ≠ 23 ∧ (h 74) w.toNat ≠ 24 ∧ (h 74) w.toNat ≠ 26) (ag : mo_ag FXN h u) (F : ∀ j : Nat, (u 97) j = (h 97) j) (hw : tw u wd) (hu2 : (u 0 186) = 0 ∨ (u 0 186) = 1) (hp : (u 0 149) = (h 0 149) + pw_eff ((h 74) w.toNat) ((h 75) w.toNat) (pw_pop h ((h 75) w.toNat)) - wd) (hO : (u 0 132) = (h 0 132) ∨ ((u 0 132) = (h 0 132) + 1 ∧ (h 74) w.toNat = 18)) : RO h0 u ht st rg := by
  obtain ⟨rb, ⟨w1, w2, w3, w4⟩, ⟨f1, f2, f3⟩, ⟨t0, t1, t2, t3⟩, ⟨p1, p2, p3, p4, p5⟩, ⟨r1, r2, r3⟩, -⟩ := ex_f q
  obtain ⟨x1, x2, x3, x4, x5, x6, x7, x8⟩ := w_next rb.2.1 w1 w2 o.2.2
  have tr : pw_tr ((h 74) w.toNat) = 0 := by unfold pw_tr; rw [if_neg o.1, if_neg o.2.1]
  rw [tr] at x3
  have et : (u 0 168) = (h 0 168) := ag _ _ rfl
  have c8 := (rb.2.1.1 w.toNat (by omega)).2.2.2.2.2.2.2.1
  have ew : (w + 1).toNat = w.toNat + 1 := by omega
  refine ex_end (pc := w + 1) (wd := wd) q gu vu (ag_sub (X_X (by decide) (by decide)) ag) (fun j _ => F j) ((F _).trans t3) ⟨by omega, x1⟩ hw hu2 (by omega) ⟨by omega, by omega⟩ (by omega) (fun k _ => ⟨ag _ _ rfl, ag _ _ rfl⟩) (fun k k1 k2 => by omega) ?_ (dg_next rb.2.1 w1 w2 w3 o.2.2 w4)
  have x4' := x4 w4
  rcases hO with z | ⟨z, z18⟩
  · omega
  · have := c8 (Or.inl z18)
    rw [← ew] at this
    omega
theorem ex_jump {h0 h u : ja_H} {ht st rg : Nat → Int} {w f : Int} (q : EX h0 h ht st rg w f) (gu : mo_G mo_zr u) (vu : VI u) (j : pw_jmp ((h 74) w.toNat)) (o23 : (h 74) w.toNat ≠ 23) (ag : mo_ag (mo_X [149, 168] [97, 94, 95]) h u) (N : ∀ j : Nat, j ≠ f.toNat → (u 97) j = (h 97) j) (E : (u 97) f.toNat = (h 75) w.toNat) (hp : (u 0 149) = (h 0 149) + pw_th ((h 74) w.toNat)) (hT : (u 0 168) = (h 0 168) + pw_tj ((h 74) w.toNat)) : RO h0 u ht st rg := by
  obtain ⟨rb, ⟨w1, w2, w3, w4⟩, ⟨f1, f2, f3⟩, ⟨t0, t1, t2, t3⟩, ⟨p1, p2, p3, p4, p5⟩, ⟨r1, r2, r3⟩, -⟩ := ex_f q
  obtain ⟨x1, x2, x3, x4, x5, x6⟩ := w_jump rb.2.1 w1 w2 w3 j o23
  have tj : -1 ≤ pw_tj ((h 74) w.toNat) ∧ pw_tj ((h 74) w.toNat) ≤ 0 := by unfold pw_tj; split <;> decide
  have eu : (u 0 186) = 0 := (ag _ _ rfl).trans t2
  have eo : (u 0 132) = (h 0 132) := ag _ _ rfl
  exact ex_end (pc := (h 75) w.toNat) (wd := 0) q gu vu (ag_sub (X_X (by decide) (by decide)) ag) N E x1 ⟨by decide, fun _ => rfl, fun z => by omega⟩ (Or.inl eu) (by omega) ⟨x5, by omega⟩ (by omega) (fun k _ => ⟨ag _ _ rfl, ag _ _ rfl⟩) (fun k k1 k2 => by omega) (by omega) x6
theorem ex_try {h0 h u : ja_H} {ht st rg : Nat → Int} {w f : Int} (q : EX h0 h ht st rg w f) (gu : mo_G mo_zr u) (vu : VI u) (o23 : (h 74) w.toNat = 23) (ag : mo_ag (mo_X [168] [112, 113]) h u) (hT : (u 0 168) = (h 0 168) + 1) (N : ∀ j : Nat, j ≠ ((h 0 168)).toNat → (u 113) j = (h 113) j ∧ (u 112) j = (h 112) j) (E1 : (u 112) ((h 0 168)).toNat = (h 75) w.toNat) (E2 : (u 113) ((h 0 168)).toNat = (h 0 149)) : RO h0 u ht st rg := by
  obtain ⟨rb, ⟨w1, w2, w3, w4⟩, ⟨f1, f2, f3⟩, ⟨t0, t1, t2, t3⟩, ⟨p1, p2, p3, p4, p5⟩, ⟨r1, r2, r3⟩, -⟩ := ex_f q
  obtain ⟨x1, x2, x3, x4, x5, x6, x7, x8⟩ := w_next rb.2.1 w1 w2 (by omega)
  have P := rb.2.1.1 w.toNat (by omega)
  have q200 := rb.2.1.2.1
  obtain ⟨-, -, -, -, -, -, -, c8, c9, c10, -⟩ := P
  have hz := c9 (by omega)
  obtain ⟨s1, s2⟩ := c8 (Or.inr o23)
  have jm : pw_jmp ((h 74) w.toNat) := by unfold pw_jmp; omega
  obtain ⟨j1, j2, j3, j4, j5, -⟩ := c10 jm
  have th : pw_th ((h 74) w.toNat) = 1 := by rw [o23]; rfl
  have tj : pw_tj ((h 74) w.toNat) = 0 := by rw [o23]; rfl
  have ts : pw_ts ((h 74) w.toNat) = 1 := by rw [o23]; rfl
  have tr : pw_tr ((h 74) w.toNat) = 1 := by rw [o23]; rfl
  have ef : pw_eff ((h 74) w.toNat) ((h 75) w.toNat) (pw_pop h ((h 75) w.toNat)) = 0 := by rw [o23]; rfl
  rw [th] at j3
  rw [tj] at j4
  rw [ts] at j5
  rw [tr] at x3
  rw [ef] at x2
  clear c8 c9 c10
  have lt : (h 75) w.toNat < (h 0 113) := by
    rcases Int.lt_or_le ((h 75) w.toNat) (h 0 113) with l | l
    · exact l
    · exfalso
      have e2 : (h 75) w.toNat = (h 0 113) := by omega
      rw [e2, q200] at j4
      omega
  have Pa := (rb.2.1.1 ((h 75) w.toNat).toNat (by omega)).2.2.2.1
  have eu : (u 0 186) = 0 := (ag _ _ rfl).trans t2
  have eo : (u 0 132) = (h 0 132) := ag _ _ rfl
  have ep : (u 0 149) = (h 0 149) := ag _ _ rfl
  have x4' := x4 w4
  have gt := (gF_tries gu).1
  refine ex_end (pc := w + 1) (wd := 0) q gu vu (ag_sub (X_X (by decide) (by decide)) ag) (fun j _ => ag _ _ rfl) ((ag _ _ rfl).trans t3) ⟨by omega, x1⟩ ⟨by decide, fun _ => rfl, fun z => by omega⟩ (Or.inl eu) (by omega) ⟨by omega, by omega⟩ (by omega) (fun k hk => N k (by omega)) (fun k k1 k2 => ?_) (by omega) (dg_next rb.2.1 w1 w2 w3 (by omega) w4)
  have ek : k = ((h 0 168)).toNat := by omega
  have e0 : ((k : Nat) : Int) = (h 0 168) := by omega
  rw [e0]
  subst ek
  rw [E1, E2]
  exact ⟨by omega, ⟨j1, lt⟩, by omega, by omega, by omega⟩
/-- a body is left -/
theorem ex_leave {h0 h u : ja_H} {ht st rg : Nat → Int} {w f : Int} (q : EX h0 h ht st rg w f) (gu : mo_G mo_zr u) (vu : VI u) (t0 : (h 96) f.toNat ≠ 0) (ag : mo_ag (mo_X [186, 150, 149, 168, 165, 144, 187, 188, 189] []) h u) (ef : (u 0 150) = (h 0 150) - 1) (ep : (u 0 149) = (h 99) f.toNat) (et : (u 0 168) = (h 100) f.toNat) (el : (u 0 165) = (h 101) f.toNat) (eb : (u 0 144) = (h 0 144) - 1) (eu : (u 0 186) = 1) : RO h0 u ht st rg := by
  obtain ⟨g0, b, q, hu, hf, hww, h25, eh⟩ := q
  subst hf
  have t1 := (ri_top q hu).1
  have ag0 : mo_ag (mo_X [186, 150, 149, 168, 165, 144, 187, 188, 189] [97]) h0 u := ag_trans (by rw [eh]; exact ag_up rfl ag_refl) (ag_sub (X_X (by decide) (by decide)) ag)
  have N0 : ∀ j : Nat, j ≠ ((h0 0 150) - 1).toNat → (u 97) j = (h0 97) j := fun j hj => by rw [(ag _ _ rfl : (u 97) j = (h 97) j), eh]; exact mo_upJ hj
  subst eh
  exact dv_leave g0 gu b q t1 t0 ag0 N0 ef ep et el eb eu vu
theorem ex_main {h0 h u : ja_H} {ht st rg : Nat → Int} {w f : Int} (q : EX h0 h ht st rg w f) (vu : VI u) (a1 : mo_ag FRB h u) (a2 : mo_ag FRO h u) (e : (u 0 129) ≠ 1) : RO h0 u ht st rg := by
  obtain ⟨g0, b, q, hu, hf, hww, h25, eh⟩ := q
  exact dv_end b vu (ag_trans (by rw [eh]; exact ag_up rfl ag_refl) a1) (ag_trans (by rw [eh]; exact ag_up rfl ag_refl) a2) e
/-- a word that goes on with a row: the pile is one lower than the word behind says -/
def FXP : Nat → Nat → Bool := mo_X [149, 190, 191, 186] [128, 129]
theorem ex_rc {h0 h v : ja_H} {ht st rg : Nat → Int} {w f : Int} (q : EX h0 h ht st rg w f) (o : (h 74) w.toNat = 15 ∨ (h 74) w.toNat = 16) (ag : mo_ag FXP h v) (hp : (v 0 149) = (h 0 149) + pw_eff ((h 74) w.toNat) ((h 75) w.toNat) (pw_pop h ((h 75) w.toNat)) - 1) : RC v ht st rg 1 ∧ dg (h 74) st rg (w + 1) < dg (h 74) st rg w := by
  obtain ⟨rb, ⟨w1, w2, w3, w4⟩, ⟨f1, f2, f3⟩, ⟨t0, t1, t2, t3⟩, ⟨p1, p2, p3, p4, p5⟩, ⟨r1, r2, r3⟩, -⟩ := ex_f q
  obtain ⟨x1, x2, x3, x4, x5, x6, x7, x8⟩ := w_next rb.2.1 w1 w2 (by omega)
  have tr : pw_tr ((h 74) w.toNat) = 0 := by unfold pw_tr; rw [if_neg (by omega), if_neg (by omega)]
  rw [tr] at x3
  have x4' := x4 w4
  clear x4
  refine ⟨?_, dg_next rb.2.1 w1 w2 w3 (by omega) w4⟩
  obtain ⟨g0, b, q, hu, hf, hww, h25, eh⟩ := q
  subst hf
  obtain ⟨s1, ⟨b1, b2, b3, b4, b5, b6⟩, s3⟩ := ri_top q hu
  have et : (v 0 168) = (h 0 168) := ag _ _ rfl
  have eo : (v 0 132) = (h 0 132) := ag _ _ rfl
  have ag0 : mo_ag (mo_X [149, 190, 191, 186] [97, 128, 129]) h0 v := ag_trans (by rw [eh]; exact ag_up rfl ag_refl) (ag_sub (X_X (by decide) (by decide)) ag)
  have es : (v 0 130) = (h0 0 130) := ag0 _ _ rfl
  have N0 : ∀ j : Nat, j ≠ ((h0 0 150) - 1).toNat → (v 97) j = (h0 97) j := fun j hj => by rw [(ag _ _ rfl : (v 97) j = (h 97) j), eh]; exact mo_upJ hj
  have E : (v 97) ((h0 0 150) - 1).toNat = w + 1 := (ag _ _ rfl).trans t3
  subst eh
  have et' : (v 0 168) = (h0 0 168) := et
  have eo' : (v 0 132) = (h0 0 132) := eo
  have r1' : (h0 0 168) = (h0 100) ((h0 0 150) - 1).toNat + rg w.toNat / 8 := r1
  have p1' : (h0 0 149) = (h0 99) ((h0 0 150) - 1).toNat + ht w.toNat := p1
  have hp' : (v 0 149) = (h0 0 149) + pw_eff ((h0 74) w.toNat) ((h0 75) w.toNat) (pw_pop h0 ((h0 75) w.toNat)) - 1 := hp
  have x2' : ht (w + 1).toNat = ht w.toNat + pw_eff ((h0 74) w.toNat) ((h0 75) w.toNat) (pw_pop h0 ((h0 75) w.toNat)) := x2
  refine rc_word (pc := w + 1) (w := 1) g0 q hu (ag_sub (X_X (by decide) (by decide)) ag0) N0 E ⟨by omega, x1⟩ (by omega) ⟨by omega, by rw [← hww]; omega⟩ (by omega) (fun k _ => ⟨ag0 _ _ rfl, ag0 _ _ rfl⟩) (fun k k1 k2 => ?_) (by rw [← hww]; omega)
  rw [(ag0 _ _ rfl : (v 113) k = (h0 113) k), (ag0 _ _ rfl : (v 112) k = (h0 112) k)]
  obtain ⟨y1, y2, y3, y4, y5⟩ := b6 k k1 (by omega)
  rw [← hww] at y5
  exact ⟨y1, y2, y3, y4, by omega⟩
theorem tw_0 {u : ja_H} (e : (u 0 186) = 0) : tw u 0 := ⟨by decide, fun _ => rfl, fun z => by omega⟩
theorem tw_1 {u : ja_H} (e : (u 0 186) = 1) : tw u 1 := ⟨by decide, fun z => by omega, fun _ => rfl⟩
theorem tw_f {u : ja_H} (e : (u 0 186) = 1) (f : (u 0 187) = 1) : tw u 0 := ⟨by decide, fun z => by omega, fun z => by omega⟩
theorem eff_1 {o a q : Int} (z : o = 1 ∨ o = 2 ∨ o = 3 ∨ o = 4 ∨ o = 6) : pw_eff o a q = 1 := by
  rcases z with z | z | z | z | z <;> (subst z; rfl)
theorem eff_0 {o a q : Int} (z : o = 8 ∨ o = 10 ∨ o = 11 ∨ o = 14) : pw_eff o a q = 0 ∧ pw_need o a q = 1 := by
  rcases z with z | z | z | z <;> (subst z; exact ⟨rfl, rfl⟩)
theorem eff_m {o a q : Int} (z : o = 5 ∨ o = 7 ∨ o = 12 ∨ o = 13 ∨ o = 17 ∨ o = 18 ∨ o = 19 ∨ o = 20 ∨ o = 22) : pw_eff o a q = -1 ∧ pw_need o a q = 1 := by
  rcases z with z | z | z | z | z | z | z | z | z <;> (subst z; exact ⟨rfl, rfl⟩)
theorem eff_9 {o a q : Int} (z : o = 9) : pw_eff o a q = -1 ∧ pw_need o a q = 2 := by
  subst z; exact ⟨rfl, rfl⟩
theorem eff_15 {o a q : Int} (z : o = 15) : pw_eff o a q = 1 - q ∧ pw_need o a q = q := by
  subst z; exact ⟨rfl, rfl⟩
theorem eff_16 {o a q : Int} (z : o = 16) : (a = 0 ∧ pw_eff o a q = 1 ∧ pw_need o a q = 0) ∨ (a ≠ 0 ∧ pw_eff o a q = 2 - a ∧ pw_need o a q = a - 1) := by
  subst z
  by_cases e : a = 0
  · subst e; exact Or.inl ⟨rfl, rfl, rfl⟩
  · refine Or.inr ⟨e, ?_, ?_⟩
    · show (if a = 0 then 1 else 2 - a) = _
      rw [if_neg e]
    · show (if a = 0 then 0 else a - 1) = _
      rw [if_neg e]
theorem pop_of {h : ja_H} {p : Int} (k1 : (h 52) p.toNat ≠ 1) : (((h 52) p.toNat = 0 ∨ (h 52) p.toNat = 3 ∨ (h 52) p.toNat = 4) ∧ pw_pop h p = (h 55) p.toNat + 1) ∨ (¬ ((h 52) p.toNat = 0 ∨ (h 52) p.toNat = 3 ∨ (h 52) p.toNat = 4) ∧ pw_pop h p = (h 55) p.toNat) := by
  unfold pw_pop
  by_cases z : (h 52) p.toNat = 0 ∨ (h 52) p.toNat = 3 ∨ (h 52) p.toNat = 4
  · exact Or.inl ⟨z, by rw [if_pos z]⟩
  · exact Or.inr ⟨z, by rw [if_neg z, if_neg k1, Int.add_zero]⟩
theorem ex_op {h0 h : ja_H} {ht st rg : Nat → Int} {w f : Int} (q : EX h0 h ht st rg w f) : 1 ≤ (h 74) w.toNat ∧ (h 74) w.toNat ≤ 26 := by
  obtain ⟨rb, ⟨w1, w2, w3, w4⟩, -⟩ := ex_f q
  exact (rb.2.1.1 w.toNat (by omega)).1
/-- a POINT word's POINT is no RUN -/
theorem ex_kind {h0 h : ja_H} {ht st rg : Nat → Int} {w f : Int} (q : EX h0 h ht st rg w f) (o : (h 74) w.toNat = 15) (ga : 0 ≤ (h 55) ((h 75) w.toNat).toNat) : (h 52) ((h 75) w.toNat).toNat ≠ 1 ∧ (0 ≤ (h 75) w.toNat ∧ (h 75) w.toNat < (h 0 88)) := by
  obtain ⟨rb, ⟨w1, w2, w3, w4⟩, ⟨f1, f2, f3⟩, ⟨t0, t1, t2, t3⟩, ⟨p1, p2, p3, p4, p5⟩, -⟩ := ex_f q
  refine ⟨fun z => ?_, (rb.2.1.1 w.toNat (by omega)).2.2.2.2.2.2.2.2.2.2.2.1 o⟩
  rw [(eff_15 o).2] at p5
  unfold pw_pop at p5
  rw [z, if_neg (by decide), if_pos rfl] at p5
  omega
def FXA : Nat → Nat → Bool := mo_X [149] [128, 129]
/-- a POINT's row -/
theorem ex_reP {h0 h v : ja_H} {ht st rg : Nat → Int} {w f s : Int} (q : EX h0 h ht st rg w f) (o : (h 74) w.toNat = 15) (ga : 0 ≤ (h 55) ((h 75) w.toNat).toNat) (ag : mo_ag FXP h v) (hs : 0 < s → (h 96) f.toNat = 1) : reP v ((h 75) w.toNat) s ∧ (0 ≤ (h 75) w.toNat ∧ (h 75) w.toNat < (h 0 88)) := by
  obtain ⟨rb, ⟨w1, w2, w3, w4⟩, ⟨f1, f2, f3⟩, ⟨t0, t1, t2, t3⟩, ⟨p1, p2, p3, p4, p5⟩, ⟨r1, r2, r3⟩, -, -, ca, -⟩ := ex_f q
  obtain ⟨k1, c12⟩ := ex_kind q o ga
  have e1 : (v 0 150) = (h 0 150) := ag _ _ rfl
  have kv : (v 52) ((h 75) w.toNat).toNat ≠ 1 := by rw [(ag _ _ rfl : (v 52) ((h 75) w.toNat).toNat = (h 52) ((h 75) w.toNat).toNat)]; exact k1
  have tv : (v 96) ((v 0 150) - 1).toNat ≤ 2 := by
    rw [e1, ← f1, (ag _ _ rfl : (v 96) f.toNat = (h 96) f.toNat)]; exact t1
  refine ⟨⟨fun z => caN_e (ag _ _ rfl) (ca (Or.inr (hs z))), fun z => absurd z kv, ?_⟩, c12⟩
  rw [if_neg kv, if_neg kv]
  unfold pot rpot
  rw [if_pos tv, if_pos tv]
  exact ⟨by decide, by decide⟩
theorem ex_reach {h0 h v u : ja_H} {ht st rg : Nat → Int} {w f : Int} (q : EX h0 h ht st rg w f) (o : (h 74) w.toNat = 15) (gu : mo_G mo_zr u) (ag : mo_ag FXP h v) (D : dg (h 74) st rg (w + 1) < dg (h 74) st rg w) (e : RE v u ht st rg) : RO h0 u ht st rg := by
  obtain ⟨rb, ⟨w1, w2, w3, w4⟩, ⟨f1, f2, f3⟩, ⟨t0, t1, t2, t3⟩, -⟩ := ex_f q
  obtain ⟨g0, b, q, hu, hf, hww, h25, eh⟩ := q
  obtain ⟨e1, e2, e3, ⟨e4, e5, e6⟩, e7, e8⟩ := e
  have ri : RI u ht st rg := ⟨⟨1, ⟨by decide, fun z => by omega, fun _ => rfl⟩, e2⟩, fun _ => e3⟩
  have a0 : mo_ag (mo_X [] [97]) h0 h := by rw [eh]; exact ag_up rfl ag_refl
  have vf : (v 0 150) = (h 0 150) := ag _ _ rfl
  have N : ∀ j : Nat, j ≠ f.toNat → (h 97) j = (h0 97) j := fun j hj => by rw [eh]; exact mo_upJ hj
  have hf0 : (h 0 150) = (h0 0 150) := a0 _ _ rfl
  refine ⟨e1, ag_trans (ag_trans (ag_sub (X_sub (by decide) (by decide)) a0) (ag_sub (X_sub (by decide) (by decide)) ag)) e8, fun _ => ⟨ri, ?_⟩⟩
  have op1 : (u 74) = (h0 74) := e7.1.trans (funext fun j => (ag _ _ rfl).trans (a0 _ _ rfl))
  refine rV_fall (k := f.toNat) gu e1.2.1 ri ⟨op1, fun j hj => ?_⟩ (by omega) (by omega) (by omega) ?_
  · obtain ⟨y1, y2, y3, y4⟩ := e7.2 j (by omega)
    exact ⟨y1.trans ((ag _ _ rfl).trans (a0 _ _ rfl)), y2.trans ((ag _ _ rfl).trans (N j (by omega))), y3.trans ((ag _ _ rfl).trans (a0 _ _ rfl)), y4.trans ((ag _ _ rfl).trans (a0 _ _ rfl))⟩
  · obtain ⟨y1, y2, -, -⟩ := e7.2 f.toNat (by omega)
    have tu : (u 96) f.toNat ≤ 2 := by rw [y1, (ag _ _ rfl : (v 96) f.toNat = (h 96) f.toNat)]; exact t1
    have th : (h0 96) f.toNat ≤ 2 := by rw [← (a0 _ _ rfl : (h 96) f.toNat = (h0 96) f.toNat)]; exact t1
    rw [rX_in (h := u) (by omega), rX_in (h := h0) (by omega), fD_body tu, fD_body th, y2, (ag _ _ rfl : (v 97) f.toNat = (h 97) f.toNat), t3, ← hww, op1]
    rw [(funext fun j => a0 _ _ rfl : (h 74) = (h0 74))] at D
    exact D
/-- go: the frame below -/
theorem ex_below {h0 h : ja_H} {ht st rg : Nat → Int} {w f : Int} (q : EX h0 h ht st rg w f) (o : (h 74) w.toNat = 16) : 1 ≤ f ∧ (0 ≤ (h 102) (f - 1).toNat ∧ (h 102) (f - 1).toNat < (h 0 172)) ∧ (0 ≤ (h 103) (f - 1).toNat ∧ (h 103) (f - 1).toNat < (h 123) ((h 102) (f - 1).toNat).toNat) ∧ (0 ≤ (h 75) w.toNat ∧ (h 75) w.toNat ≤ 7) := by
  obtain ⟨g0, b, q, hu, hf, hww, h25, eh⟩ := q
  subst hf
  obtain ⟨s1, ⟨b1, b2, b3, b4, b5, b6⟩, s3⟩ := ri_top q hu
  have c13 := (b.2.1.1 w.toNat (by rw [hww]; omega)).2.2.2.2.2.2.2.2.2.2.2.2.1
  subst eh
  have o' : (h0 74) w.toNat = 16 := o
  obtain ⟨d1, d2, d3⟩ := c13 (Or.inl o')
  obtain ⟨⟨w0, tw, rc⟩, -⟩ := q
  have r5 := rc.2.2.1
  have hf1 := rc.1.1
  rw [← hww] at b5
  have Y : ((h0 0 150) - 1).toNat ≠ 0 ∧ (h0 96) (((h0 0 150) - 1).toNat - 1) = 4 := by
    rcases b5 with y | y | y
    · omega
    · omega
    · exact ⟨y.2.1, y.2.2.2.2⟩
  obtain ⟨n0, t4⟩ := Y
  have em : ((h0 0 150) - 1).toNat = ((h0 0 150) - 1 - 1).toNat + 1 := by omega
  have ef : ((h0 0 150)).toNat = ((h0 0 150) - 1).toNat + 1 := by omega
  have e1 : ((h0 0 150) - 1).toNat - 1 = ((h0 0 150) - 1 - 1).toNat := by omega
  rw [e1] at t4
  rw [em] at s3
  rcases s3 with ⟨z, -⟩ | ⟨-, -, K, -⟩
  · omega
  obtain ⟨-, -, k3, -⟩ := K
  obtain ⟨k4, k5⟩ := k3 t4
  have r1 : fR h0 (((h0 0 150) - 1).toNat + 1) = fR h0 ((h0 0 150) - 1).toNat + (if (h0 96) ((h0 0 150) - 1).toNat = 3 then 1 else 0) := rfl
  have r2 : fR h0 (((h0 0 150) - 1 - 1).toNat + 1) = fR h0 ((h0 0 150) - 1 - 1).toNat + (if (h0 96) ((h0 0 150) - 1 - 1).toNat = 3 then 1 else 0) := rfl
  rw [ef, r1, em, r2] at r5
  have i1 : 0 ≤ (if (h0 96) (((h0 0 150) - 1 - 1).toNat + 1) = 3 then 1 else 0) := by split <;> decide
  have g1 := gC_frameRow g0 ((h0 0 150) - 1 - 1).toNat
  have g2 := gC_frameLevel g0 ((h0 0 150) - 1 - 1).toNat
  rw [if_neg (by omega)] at r5
  exact ⟨by omega, ⟨g1.1, by show (h0 102) ((h0 0 150) - 1 - 1).toNat < (h0 0 172); omega⟩, ⟨g2.1, k5⟩, ⟨d1, d2⟩⟩
theorem ex_go {h0 h u : ja_H} {ht st rg : Nat → Int} {w f : Int} (q : EX h0 h ht st rg w f) (o : (h 74) w.toNat = 16) (gu : mo_G mo_zr u) (vu : VI u) (ag : mo_ag FXP h u) (hp : (u 0 149) = (h 0 149) + pw_eff ((h 74) w.toNat) ((h 75) w.toNat) (pw_pop h ((h 75) w.toNat)) - 1) (e1 : (u 0 190) = (h 102) (f - 1).toNat) (e2 : (u 0 191) = (h 103) (f - 1).toNat + 1) (eu : (u 0 186) = 2) : RO h0 u ht st rg := by
  obtain ⟨rc, D⟩ := ex_rc q (Or.inr o) ag hp
  obtain ⟨l1, ⟨l2, l3⟩, ⟨l4, l5⟩, -⟩ := ex_below q o
  obtain ⟨rb, ⟨w1, w2, w3, w4⟩, ⟨f1, f2, f3⟩, ⟨t0, t1, t2, t3⟩, -⟩ := ex_f q
  obtain ⟨g0, b, q, hu, hf, hww, h25, eh⟩ := q
  have a0 : mo_ag (mo_X [] [97]) h0 h := by rw [eh]; exact ag_up rfl ag_refl
  have N : ∀ j : Nat, j ≠ f.toNat → (h 97) j = (h0 97) j := fun j hj => by rw [eh]; exact mo_upJ hj
  have uf : (u 0 150) = (h 0 150) := ag _ _ rfl
  have ur : (u 0 172) = (h 0 172) := ag _ _ rfl
  have um : (u 123) = (h 123) := funext fun j => ag _ _ rfl
  have tu : (u 96) f.toNat ≤ 2 := by rw [(ag _ _ rfl : (u 96) f.toNat = (h 96) f.toNat)]; exact t1
  have th : (h0 96) f.toNat ≤ 2 := by rw [← (a0 _ _ rfl : (h 96) f.toNat = (h0 96) f.toNat)]; exact t1
  have eN : ((u 0 150) - 1).toNat = f.toNat := by omega
  have hf0 : (h 0 150) = (h0 0 150) := a0 _ _ rfl
  have ri : RI u ht st rg := ⟨⟨1, ⟨by decide, fun z => by omega, fun _ => rfl⟩, rc⟩, fun _ => pnd_body (by rw [eN]; exact tu) (by omega) (by omega) (by rw [e1, e2, um]; omega)⟩
  have rb' := rb_ag rb vu (ag_sub (X_sub (by decide) (by decide)) ag)
  have op1 : (u 74) = (h0 74) := funext fun j => (ag _ _ rfl).trans (a0 _ _ rfl)
  refine ⟨rb', ag_trans (ag_sub (X_sub (by decide) (by decide)) a0) (ag_sub (X_sub (by decide) (by decide)) ag), fun _ => ⟨ri, ?_⟩⟩
  refine rV_fall (k := f.toNat) gu rb'.2.1 ri ⟨op1, fun j hj => ⟨(ag _ _ rfl).trans (a0 _ _ rfl), (ag _ _ rfl).trans (N j (by omega)), (ag _ _ rfl).trans (a0 _ _ rfl), (ag _ _ rfl).trans (a0 _ _ rfl)⟩⟩ (by omega) (by omega) (by omega) ?_
  rw [rX_in (h := u) (by omega), rX_in (h := h0) (by omega), fD_body tu, fD_body th, (ag _ _ rfl : (u 97) f.toNat = (h 97) f.toNat), t3, ← hww, op1]
  rw [(funext fun j => a0 _ _ rfl : (h 74) = (h0 74))] at D
  exact D
theorem dpointWord_0 : decode cX12_pointWord 0 = .ok (.aload_n 0, 1) := by decide +kernel
theorem dpointWord_1 : decode cX12_pointWord 1 = .ok (.getfield 173, 3) := by decide +kernel
theorem dpointWord_4 : decode cX12_pointWord 4 = .ok (.iload_n 1, 1) := by decide +kernel
theorem dpointWord_5 : decode cX12_pointWord 5 = .ok (.iaload, 1) := by decide +kernel
theorem dpointWord_6 : decode cX12_pointWord 6 = .ok (.istore_n 3, 1) := by decide +kernel
theorem dpointWord_7 : decode cX12_pointWord 7 = .ok (.iconst 0, 1) := by decide +kernel
theorem dpointWord_8 : decode cX12_pointWord 8 = .ok (.istore 4, 2) := by decide +kernel
theorem dpointWord_10 : decode cX12_pointWord 10 = .ok (.iload 4, 2) := by decide +kernel
theorem dpointWord_12 : decode cX12_pointWord 12 = .ok (.bipush 6, 2) := by decide +kernel
theorem dpointWord_14 : decode cX12_pointWord 14 = .ok (.if_icmp .ge 71, 3) := by decide +kernel
theorem dpointWord_17 : decode cX12_pointWord 17 = .ok (.aload_n 0, 1) := by decide +kernel
theorem dpointWord_18 : decode cX12_pointWord 18 = .ok (.getfield 393, 3) := by decide +kernel
theorem dpointWord_21 : decode cX12_pointWord 21 = .ok (.iload 4, 2) := by decide +kernel
theorem dpointWord_23 : decode cX12_pointWord 23 = .ok (.iload 4, 2) := by decide +kernel
theorem dpointWord_25 : decode cX12_pointWord 25 = .ok (.iload_n 3, 1) := by decide +kernel
theorem dpointWord_26 : decode cX12_pointWord 26 = .ok (.if_icmp .ge 20, 3) := by decide +kernel
theorem dpointWord_29 : decode cX12_pointWord 29 = .ok (.aload_n 0, 1) := by decide +kernel
theorem dpointWord_30 : decode cX12_pointWord 30 = .ok (.getfield 291, 3) := by decide +kernel
theorem dpointWord_33 : decode cX12_pointWord 33 = .ok (.aload_n 0, 1) := by decide +kernel
theorem dpointWord_34 : decode cX12_pointWord 34 = .ok (.getfield 993, 3) := by decide +kernel
theorem dpointWord_37 : decode cX12_pointWord 37 = .ok (.iload_n 3, 1) := by decide +kernel
theorem dpointWord_38 : decode cX12_pointWord 38 = .ok (.isub, 1) := by decide +kernel
theorem dpointWord_39 : decode cX12_pointWord 39 = .ok (.iload 4, 2) := by decide +kernel
theorem dpointWord_41 : decode cX12_pointWord 41 = .ok (.iadd, 1) := by decide +kernel
theorem dpointWord_42 : decode cX12_pointWord 42 = .ok (.iaload, 1) := by decide +kernel
theorem dpointWord_43 : decode cX12_pointWord 43 = .ok (.goto 4, 3) := by decide +kernel
theorem dpointWord_46 : decode cX12_pointWord 46 = .ok (.iconst 0, 1) := by decide +kernel
theorem dpointWord_47 : decode cX12_pointWord 47 = .ok (.iastore, 1) := by decide +kernel
theorem dpointWord_48 : decode cX12_pointWord 48 = .ok (.aload_n 0, 1) := by decide +kernel
theorem dpointWord_49 : decode cX12_pointWord 49 = .ok (.getfield 396, 3) := by decide +kernel
theorem dpointWord_52 : decode cX12_pointWord 52 = .ok (.iload 4, 2) := by decide +kernel
theorem dpointWord_54 : decode cX12_pointWord 54 = .ok (.iload 4, 2) := by decide +kernel
theorem dpointWord_56 : decode cX12_pointWord 56 = .ok (.iload_n 3, 1) := by decide +kernel
theorem dpointWord_57 : decode cX12_pointWord 57 = .ok (.if_icmp .ge 20, 3) := by decide +kernel
theorem dpointWord_60 : decode cX12_pointWord 60 = .ok (.aload_n 0, 1) := by decide +kernel
theorem dpointWord_61 : decode cX12_pointWord 61 = .ok (.getfield 294, 3) := by decide +kernel
theorem dpointWord_64 : decode cX12_pointWord 64 = .ok (.aload_n 0, 1) := by decide +kernel
theorem dpointWord_65 : decode cX12_pointWord 65 = .ok (.getfield 993, 3) := by decide +kernel
theorem dpointWord_68 : decode cX12_pointWord 68 = .ok (.iload_n 3, 1) := by decide +kernel
theorem dpointWord_69 : decode cX12_pointWord 69 = .ok (.isub, 1) := by decide +kernel
theorem dpointWord_70 : decode cX12_pointWord 70 = .ok (.iload 4, 2) := by decide +kernel
theorem dpointWord_72 : decode cX12_pointWord 72 = .ok (.iadd, 1) := by decide +kernel
theorem dpointWord_73 : decode cX12_pointWord 73 = .ok (.iaload, 1) := by decide +kernel
theorem dpointWord_74 : decode cX12_pointWord 74 = .ok (.goto 4, 3) := by decide +kernel
theorem dpointWord_77 : decode cX12_pointWord 77 = .ok (.iconst 0, 1) := by decide +kernel
theorem dpointWord_78 : decode cX12_pointWord 78 = .ok (.iastore, 1) := by decide +kernel
theorem dpointWord_79 : decode cX12_pointWord 79 = .ok (.iinc 4 1, 3) := by decide +kernel
theorem dpointWord_82 : decode cX12_pointWord 82 = .ok (.goto (-72), 3) := by decide +kernel
theorem dpointWord_85 : decode cX12_pointWord 85 = .ok (.aload_n 0, 1) := by decide +kernel
theorem dpointWord_86 : decode cX12_pointWord 86 = .ok (.aload_n 0, 1) := by decide +kernel
theorem dpointWord_87 : decode cX12_pointWord 87 = .ok (.getfield 993, 3) := by decide +kernel
theorem dpointWord_90 : decode cX12_pointWord 90 = .ok (.iload_n 3, 1) := by decide +kernel
theorem dpointWord_91 : decode cX12_pointWord 91 = .ok (.isub, 1) := by decide +kernel
theorem dpointWord_92 : decode cX12_pointWord 92 = .ok (.putfield 993, 3) := by decide +kernel
theorem dpointWord_95 : decode cX12_pointWord 95 = .ok (.aload_n 0, 1) := by decide +kernel
theorem dpointWord_96 : decode cX12_pointWord 96 = .ok (.getfield 164, 3) := by decide +kernel
theorem dpointWord_99 : decode cX12_pointWord 99 = .ok (.iload_n 1, 1) := by decide +kernel
theorem dpointWord_100 : decode cX12_pointWord 100 = .ok (.iaload, 1) := by decide +kernel
theorem dpointWord_101 : decode cX12_pointWord 101 = .ok (.istore 4, 2) := by decide +kernel
theorem dpointWord_103 : decode cX12_pointWord 103 = .ok (.iconst 0, 1) := by decide +kernel
theorem dpointWord_104 : decode cX12_pointWord 104 = .ok (.istore 5, 2) := by decide +kernel
theorem dpointWord_106 : decode cX12_pointWord 106 = .ok (.iconst 0, 1) := by decide +kernel
theorem dpointWord_107 : decode cX12_pointWord 107 = .ok (.istore 6, 2) := by decide +kernel
theorem dpointWord_109 : decode cX12_pointWord 109 = .ok (.iload 4, 2) := by decide +kernel
theorem dpointWord_111 : decode cX12_pointWord 111 = .ok (.ifCond .eq 15, 3) := by decide +kernel
theorem dpointWord_114 : decode cX12_pointWord 114 = .ok (.iload 4, 2) := by decide +kernel
theorem dpointWord_116 : decode cX12_pointWord 116 = .ok (.iconst 3, 1) := by decide +kernel
theorem dpointWord_117 : decode cX12_pointWord 117 = .ok (.if_icmp .eq 9, 3) := by decide +kernel
theorem dpointWord_120 : decode cX12_pointWord 120 = .ok (.iload 4, 2) := by decide +kernel
theorem dpointWord_122 : decode cX12_pointWord 122 = .ok (.iconst 4, 1) := by decide +kernel
theorem dpointWord_123 : decode cX12_pointWord 123 = .ok (.if_icmp .ne 35, 3) := by decide +kernel
theorem dpointWord_126 : decode cX12_pointWord 126 = .ok (.aload_n 0, 1) := by decide +kernel
theorem dpointWord_127 : decode cX12_pointWord 127 = .ok (.dup, 1) := by decide +kernel
theorem dpointWord_128 : decode cX12_pointWord 128 = .ok (.getfield 993, 3) := by decide +kernel
theorem dpointWord_131 : decode cX12_pointWord 131 = .ok (.iconst 1, 1) := by decide +kernel
theorem dpointWord_132 : decode cX12_pointWord 132 = .ok (.isub, 1) := by decide +kernel
theorem dpointWord_133 : decode cX12_pointWord 133 = .ok (.putfield 993, 3) := by decide +kernel
theorem dpointWord_136 : decode cX12_pointWord 136 = .ok (.aload_n 0, 1) := by decide +kernel
theorem dpointWord_137 : decode cX12_pointWord 137 = .ok (.getfield 291, 3) := by decide +kernel
theorem dpointWord_140 : decode cX12_pointWord 140 = .ok (.aload_n 0, 1) := by decide +kernel
theorem dpointWord_141 : decode cX12_pointWord 141 = .ok (.getfield 993, 3) := by decide +kernel
theorem dpointWord_144 : decode cX12_pointWord 144 = .ok (.iaload, 1) := by decide +kernel
theorem dpointWord_145 : decode cX12_pointWord 145 = .ok (.istore 5, 2) := by decide +kernel
theorem dpointWord_147 : decode cX12_pointWord 147 = .ok (.aload_n 0, 1) := by decide +kernel
theorem dpointWord_148 : decode cX12_pointWord 148 = .ok (.getfield 294, 3) := by decide +kernel
theorem dpointWord_151 : decode cX12_pointWord 151 = .ok (.aload_n 0, 1) := by decide +kernel
theorem dpointWord_152 : decode cX12_pointWord 152 = .ok (.getfield 993, 3) := by decide +kernel
theorem dpointWord_155 : decode cX12_pointWord 155 = .ok (.iaload, 1) := by decide +kernel
theorem dpointWord_156 : decode cX12_pointWord 156 = .ok (.istore 6, 2) := by decide +kernel
theorem dpointWord_158 : decode cX12_pointWord 158 = .ok (.aload_n 0, 1) := by decide +kernel
theorem dpointWord_159 : decode cX12_pointWord 159 = .ok (.iload_n 1, 1) := by decide +kernel
theorem dpointWord_160 : decode cX12_pointWord 160 = .ok (.aload_n 0, 1) := by decide +kernel
theorem dpointWord_161 : decode cX12_pointWord 161 = .ok (.getfield 297, 3) := by decide +kernel
theorem dpointWord_164 : decode cX12_pointWord 164 = .ok (.iload_n 2, 1) := by decide +kernel
theorem dpointWord_165 : decode cX12_pointWord 165 = .ok (.iaload, 1) := by decide +kernel
theorem dpointWord_166 : decode cX12_pointWord 166 = .ok (.iconst 1, 1) := by decide +kernel
theorem dpointWord_167 : decode cX12_pointWord 167 = .ok (.if_icmp .ne 12, 3) := by decide +kernel
theorem dpointWord_170 : decode cX12_pointWord 170 = .ok (.aload_n 0, 1) := by decide +kernel
theorem dpointWord_171 : decode cX12_pointWord 171 = .ok (.getfield 303, 3) := by decide +kernel
theorem dpointWord_174 : decode cX12_pointWord 174 = .ok (.iload_n 2, 1) := by decide +kernel
theorem dpointWord_175 : decode cX12_pointWord 175 = .ok (.iaload, 1) := by decide +kernel
theorem dpointWord_176 : decode cX12_pointWord 176 = .ok (.goto 4, 3) := by decide +kernel
theorem dpointWord_179 : decode cX12_pointWord 179 = .ok (.iconst 0, 1) := by decide +kernel
theorem dpointWord_180 : decode cX12_pointWord 180 = .ok (.iload 5, 2) := by decide +kernel
theorem dpointWord_182 : decode cX12_pointWord 182 = .ok (.iload 6, 2) := by decide +kernel
theorem dpointWord_184 : decode cX12_pointWord 184 = .ok (.invokevirtual 1085, 3) := by decide +kernel
theorem dpointWord_187 : decode cX12_pointWord 187 = .ok (.return_, 1) := by decide +kernel
section
variable {l : Launch} {D : va_G} {cA : Nat → ClassId} {ad : Nat → Nat}
theorem s_pointWord {a1 a2 : Int} {h9 : ja_H} {ht st rg : Nat → Int} {w9 : Int} {h : ja_H} {Q : Option ja_V → ja_H → Prop} (g : mo_G mo_zr h) (r1 : -2147483648 ≤ a1 ∧ a1 ≤ 2147483647) (r2 : -2147483648 ≤ a2 ∧ a2 ≤ 2147483647) (p1 : EX h9 h ht st rg w9 a2) (p2 : a1 = (h 75 (w9).toNat)) (p3 : (h 74 (w9).toNat) = 15) (k1 : ∀ (h' : ja_H), (RO h9 h' ht st rg) → mo_G mo_zr h' → Q none h') : mM_pointWord l D cA ad a1 a2 h Q := by
  show mJ l D cA ad 11 cX12_pointWord 7 none 0 [(0, (2, ((0 : Nat) : Int))), (1, (0, a1)), (2, (0, a2))] [] h Q
  have kn_pile := gF_pile g
  have kn_points := gF_points g
  obtain ⟨xrb, xw, xf, xt, xp, xr, xl, xn, xc, xv⟩ := ex_f p1
  have qv := xrb.1
  have xop := ex_op p1
  have gpa := gC_pointArgs g (a1).toNat
  obtain ⟨xk, xpt⟩ := ex_kind p1 p3 (by rw [← p2]; exact gpa.1)
  rw [← p2] at xk xpt
  have xe := eff_15 (a := (h 75 (w9).toNat)) (q := pw_pop h (h 75 (w9).toNat)) p3
  have xq := pop_of (h := h) (p := a1) xk
  rw [← p2] at xe xp
  have CUT : ∀ n : Nat, (∀ (x4 : Int) (u : ja_H), mo_G mo_zr u → (-2147483648 ≤ x4 ∧ x4 ≤ 2147483647) → ((0 ≤ x4 ∧ x4 ≤ 6) ∧ mo_ag FAR h u ∧ VI u) → (((20 : Int) - x4).toNat) = n → mJ l D cA ad 11 cX12_pointWord 7 none 10 [(0, (2, ((0 : Nat) : Int))), (1, (0, a1)), (2, (0, a2)), (3, (0, (h 55 (a1).toNat))), (4, (0, x4))] [] u Q) := by
    intro n
    induction n using Nat.strongRecOn with
    | _ n ih =>
      skip
      · intro x4 u gu qx4 iv hm
        subst hm
        have ku_pile := gF_pile gu
        have ku_points := gF_points gu
        obtain ⟨iv, ag, qv⟩ := iv
        have e_pile : (u 0 149) = (h 0 149) := ag 0 149 rfl
        have e_points : (u 0 88) = (h 0 88) := ag 0 88 rfl
        have epk : (u 52 (a1).toNat) = (h 52 (a1).toNat) := ag 52 _ rfl
        have eft2 : (u 96 (a2).toNat) = (h 96 (a2).toNat) := ag 96 _ rfl
        have gkd := gC_pointKind g (a1).toNat
        refine ja_iload dpointWord_10 rfl ?_
        refine ja_bipush 6 dpointWord_12 rfl ?_
        refine ja_icmp_ge 85 dpointWord_14 rfl ⟨by omega, by omega⟩ ⟨by decide, by decide⟩ (fun c14 => ?_) (fun c14 => ?_)
        · refine ja_aload_n dpointWord_85 rfl rfl ?_
          refine ja_aload_n dpointWord_86 rfl rfl ?_
          refine fg_pile (v := u 0 149) rfl dpointWord_87 ?_
          have f1 := gF_pile gu
          refine ja_iload_n dpointWord_90 rfl rfl ?_
          refine ja_isub dpointWord_91 ?_
          have g2 := gP_pile gu (x := (u 0 149) - (h 55 (a1).toNat)) ⟨by omega, by omega⟩
          refine fp_pile dpointWord_92 ?_
          refine ja_aload_n dpointWord_95 rfl rfl ?_
          refine fa_pointKind dpointWord_96 ?_
          refine ja_iload_n dpointWord_99 rfl rfl ?_
          refine il_pointKind (v := u 52 (a1).toNat) rfl ⟨by omega, by omega⟩ dpointWord_100 ?_
          have f3 := gC_pointKind gu (a1).toNat
          refine ja_istore dpointWord_101 (by decide) (L2 := [(4, (0, (u 52 (a1).toNat))), (0, (2, ((0 : Nat) : Int))), (1, (0, a1)), (2, (0, a2)), (3, (0, (h 55 (a1).toNat)))]) rfl ?_
          refine ja_iconst dpointWord_103 ?_
          refine ja_istore dpointWord_104 (by decide) (L2 := [(5, (0, 0)), (4, (0, (u 52 (a1).toNat))), (0, (2, ((0 : Nat) : Int))), (1, (0, a1)), (2, (0, a2)), (3, (0, (h 55 (a1).toNat)))]) rfl ?_
          refine ja_iconst dpointWord_106 ?_
          refine ja_istore dpointWord_107 (by decide) (L2 := [(6, (0, 0)), (5, (0, 0)), (4, (0, (u 52 (a1).toNat))), (0, (2, ((0 : Nat) : Int))), (1, (0, a1)), (2, (0, a2)), (3, (0, (h 55 (a1).toNat)))]) rfl ?_
          refine ja_iload dpointWord_109 rfl ?_
          refine ja_if_eq 126 dpointWord_111 rfl ⟨by omega, by omega⟩ (fun c111 => ?_) (fun c111 => ?_)
          · refine ja_aload_n dpointWord_126 rfl rfl ?_
            refine ja_dup dpointWord_127 (by decide) ?_
            refine fg_pile (v := (u 0 149) - (h 55 (a1).toNat)) rfl dpointWord_128 ?_
            refine ja_iconst dpointWord_131 ?_
            refine ja_isub dpointWord_132 ?_
            have g4 := gP_pile g2 (x := ((u 0 149) - (h 55 (a1).toNat)) - 1) ⟨by omega, by omega⟩
            refine fp_pile dpointWord_133 ?_
            refine ja_aload_n dpointWord_136 rfl rfl ?_
            refine fa_pileKind dpointWord_137 ?_
            refine ja_aload_n dpointWord_140 rfl rfl ?_
            refine fg_pile (v := ((u 0 149) - (h 55 (a1).toNat)) - 1) rfl dpointWord_141 ?_
            refine il_pileKind (v := u 94 (((u 0 149) - (h 55 (a1).toNat)) - 1).toNat) rfl ⟨by omega, by omega⟩ dpointWord_144 ?_
            have f5 := gC_pileKind gu (((u 0 149) - (h 55 (a1).toNat)) - 1).toNat
            refine ja_istore dpointWord_145 (by decide) (L2 := [(5, (0, (u 94 (((u 0 149) - (h 55 (a1).toNat)) - 1).toNat))), (6, (0, 0)), (4, (0, (u 52 (a1).toNat))), (0, (2, ((0 : Nat) : Int))), (1, (0, a1)), (2, (0, a2)), (3, (0, (h 55 (a1).toNat)))]) rfl ?_
            refine ja_aload_n dpointWord_147 rfl rfl ?_
            refine fa_pileValue dpointWord_148 ?_
            refine ja_aload_n dpointWord_151 rfl rfl ?_
            refine fg_pile (v := ((u 0 149) - (h 55 (a1).toNat)) - 1) rfl dpointWord_152 ?_
            refine il_pileValue (v := u 95 (((u 0 149) - (h 55 (a1).toNat)) - 1).toNat) rfl ⟨by omega, by omega⟩ dpointWord_155 ?_
            have f6 := gC_pileValue gu (((u 0 149) - (h 55 (a1).toNat)) - 1).toNat
            refine ja_istore dpointWord_156 (by decide) (L2 := [(6, (0, (u 95 (((u 0 149) - (h 55 (a1).toNat)) - 1).toNat))), (5, (0, (u 94 (((u 0 149) - (h 55 (a1).toNat)) - 1).toNat))), (4, (0, (u 52 (a1).toNat))), (0, (2, ((0 : Nat) : Int))), (1, (0, a1)), (2, (0, a2)), (3, (0, (h 55 (a1).toNat)))]) rfl ?_
            refine ja_aload_n dpointWord_158 rfl rfl ?_
            refine ja_iload_n dpointWord_159 rfl rfl ?_
            refine ja_aload_n dpointWord_160 rfl rfl ?_
            refine fa_frameType dpointWord_161 ?_
            refine ja_iload_n dpointWord_164 rfl rfl ?_
            refine il_frameType (v := u 96 (a2).toNat) rfl ⟨by omega, by omega⟩ dpointWord_165 ?_
            have f7 := gC_frameType gu (a2).toNat
            refine ja_iconst dpointWord_166 ?_
            refine ja_icmp_ne 179 dpointWord_167 rfl ⟨by omega, by omega⟩ ⟨by decide, by decide⟩ (fun c167 => ?_) (fun c167 => ?_)
            · refine ja_iconst dpointWord_179 ?_
              refine ja_iload dpointWord_180 rfl ?_
              refine ja_iload dpointWord_182 rfl ?_
              have xagv : mo_ag FXP h (ja_up (ja_up u 0 149 ((u 0 149) - (h 55 (a1).toNat))) 0 149 (((u 0 149) - (h 55 (a1).toNat)) - 1)) := (ag_trans (ag_sub (X_X (by decide) (by decide)) ag) (by (repeat (first | exact ag_refl | refine ag_up rfl ?_))))
              have xD := (ex_rc p1 (Or.inl p3) xagv (show (((u 0 149) - (h 55 (a1).toNat)) - 1) = (h 0 149) + pw_eff ((h 74 (w9).toNat)) ((h 75 (w9).toNat)) (pw_pop h ((h 75 (w9).toNat))) - 1 by rw [← p2]; omega)).2
              refine t_reach (by decide) (show (0 : Nat) ≤ 8 by decide) dpointWord_184 g4 ⟨by omega, by omega⟩ ⟨by decide, by decide⟩ ⟨by omega, by omega⟩ ⟨by omega, by omega⟩ ((show 0 ≤ a1 ∧ a1 < (u 0 88) by omega)) (show 0 ≤ 0 ∧ 0 ≤ 200 by omega) (show 0 ≤ (u 94 (((u 0 149) - (h 55 (a1).toNat)) - 1).toNat) ∧ (u 94 (((u 0 149) - (h 55 (a1).toNat)) - 1).toNat) ≤ 2 by omega) ((vi_at qv (show (94, 95) ∈ vps by decide) _)) ((fun z => (vi_aS qv (show (94, 95) ∈ vps by decide) _ z).2)) ((rb_ag xrb (by (repeat (first | exact qv | refine vi_set (by decide) (by decide) (by decide) ?_ (by first | exact (fun z => absurd z (by decide)) | exact vi_aS qv (by decide) _ | exact qv.2 | exact (fun z => ⟨by omega, hca⟩) | exact (fun z => ⟨by omega, hca z⟩) | (intro z; exfalso; omega)) | refine vi_res ?_ (by first | exact (fun z => absurd z (by decide)) | exact vi_aS qv (by decide) _ | exact qv.2 | exact (fun z => ⟨by omega, hca⟩) | exact (fun z => ⟨by omega, hca z⟩) | (intro z; exfalso; omega)) | refine vi_arr (by decide) (by decide) ?_ | refine vi_up (by decide) (by decide) ?_ | refine vi_val (ck := 106) (by decide) (by decide) (by decide) ?_ ⟨by omega, by omega⟩))) (ag_sub (X_sub (by decide) (by decide)) xagv))) ((ex_rc p1 (Or.inl p3) xagv (show (((u 0 149) - (h 55 (a1).toNat)) - 1) = (h 0 149) + pw_eff ((h 74 (w9).toNat)) ((h 75 (w9).toNat)) (pw_pop h ((h 75 (w9).toNat))) - 1 by rw [← p2]; omega)).1) ((by rw [p2]; exact (ex_reP p1 p3 (by rw [← p2]; exact gpa.1) xagv (fun z => absurd z (by decide))).1)) ?_
              intro h8 k184_0 g9
              replace k184_0 : RE (ja_up (ja_up u 0 149 ((u 0 149) - (h 55 (a1).toNat))) 0 149 (((u 0 149) - (h 55 (a1).toNat)) - 1)) h8 ht st rg := k184_0
              refine ja_return dpointWord_187 rfl ?_
              exact k1 h8 ((ex_reach p1 p3 g9 xagv xD k184_0)) g9
            · refine ja_aload_n dpointWord_170 rfl rfl ?_
              refine fa_frameSelf dpointWord_171 ?_
              refine ja_iload_n dpointWord_174 rfl rfl ?_
              refine il_frameSelf (v := u 98 (a2).toNat) rfl ⟨by omega, by omega⟩ dpointWord_175 ?_
              have f10 := gC_frameSelf gu (a2).toNat
              refine ja_goto 180 dpointWord_176 rfl ?_
              refine ja_iload dpointWord_180 rfl ?_
              refine ja_iload dpointWord_182 rfl ?_
              have xagv : mo_ag FXP h (ja_up (ja_up u 0 149 ((u 0 149) - (h 55 (a1).toNat))) 0 149 (((u 0 149) - (h 55 (a1).toNat)) - 1)) := (ag_trans (ag_sub (X_X (by decide) (by decide)) ag) (by (repeat (first | exact ag_refl | refine ag_up rfl ?_))))
              have xD := (ex_rc p1 (Or.inl p3) xagv (show (((u 0 149) - (h 55 (a1).toNat)) - 1) = (h 0 149) + pw_eff ((h 74 (w9).toNat)) ((h 75 (w9).toNat)) (pw_pop h ((h 75 (w9).toNat))) - 1 by rw [← p2]; omega)).2
              refine t_reach (by decide) (show (0 : Nat) ≤ 8 by decide) dpointWord_184 g4 ⟨by omega, by omega⟩ ⟨by omega, by omega⟩ ⟨by omega, by omega⟩ ⟨by omega, by omega⟩ ((show 0 ≤ a1 ∧ a1 < (u 0 88) by omega)) (show 0 ≤ (u 98 (a2).toNat) ∧ (u 98 (a2).toNat) ≤ 200 by omega) (show 0 ≤ (u 94 (((u 0 149) - (h 55 (a1).toNat)) - 1).toNat) ∧ (u 94 (((u 0 149) - (h 55 (a1).toNat)) - 1).toNat) ≤ 2 by omega) ((vi_at qv (show (94, 95) ∈ vps by decide) _)) ((fun z => (vi_aS qv (show (94, 95) ∈ vps by decide) _ z).2)) ((rb_ag xrb (by (repeat (first | exact qv | refine vi_set (by decide) (by decide) (by decide) ?_ (by first | exact (fun z => absurd z (by decide)) | exact vi_aS qv (by decide) _ | exact qv.2 | exact (fun z => ⟨by omega, hca⟩) | exact (fun z => ⟨by omega, hca z⟩) | (intro z; exfalso; omega)) | refine vi_res ?_ (by first | exact (fun z => absurd z (by decide)) | exact vi_aS qv (by decide) _ | exact qv.2 | exact (fun z => ⟨by omega, hca⟩) | exact (fun z => ⟨by omega, hca z⟩) | (intro z; exfalso; omega)) | refine vi_arr (by decide) (by decide) ?_ | refine vi_up (by decide) (by decide) ?_ | refine vi_val (ck := 106) (by decide) (by decide) (by decide) ?_ ⟨by omega, by omega⟩))) (ag_sub (X_sub (by decide) (by decide)) xagv))) ((ex_rc p1 (Or.inl p3) xagv (show (((u 0 149) - (h 55 (a1).toNat)) - 1) = (h 0 149) + pw_eff ((h 74 (w9).toNat)) ((h 75 (w9).toNat)) (pw_pop h ((h 75 (w9).toNat))) - 1 by rw [← p2]; omega)).1) ((by rw [p2]; exact (ex_reP p1 p3 (by rw [← p2]; exact gpa.1) xagv (fun _ => (show (h 96 (a2).toNat) = 1 by omega))).1)) ?_
              intro h11 k184_0 g12
              replace k184_0 : RE (ja_up (ja_up u 0 149 ((u 0 149) - (h 55 (a1).toNat))) 0 149 (((u 0 149) - (h 55 (a1).toNat)) - 1)) h11 ht st rg := k184_0
              refine ja_return dpointWord_187 rfl ?_
              exact k1 h11 ((ex_reach p1 p3 g12 xagv xD k184_0)) g12
          · refine ja_iload dpointWord_114 rfl ?_
            refine ja_iconst dpointWord_116 ?_
            refine ja_icmp_eq 126 dpointWord_117 rfl ⟨by omega, by omega⟩ ⟨by decide, by decide⟩ (fun c117 => ?_) (fun c117 => ?_)
            · refine ja_aload_n dpointWord_126 rfl rfl ?_
              refine ja_dup dpointWord_127 (by decide) ?_
              refine fg_pile (v := (u 0 149) - (h 55 (a1).toNat)) rfl dpointWord_128 ?_
              refine ja_iconst dpointWord_131 ?_
              refine ja_isub dpointWord_132 ?_
              have g13 := gP_pile g2 (x := ((u 0 149) - (h 55 (a1).toNat)) - 1) ⟨by omega, by omega⟩
              refine fp_pile dpointWord_133 ?_
              refine ja_aload_n dpointWord_136 rfl rfl ?_
              refine fa_pileKind dpointWord_137 ?_
              refine ja_aload_n dpointWord_140 rfl rfl ?_
              refine fg_pile (v := ((u 0 149) - (h 55 (a1).toNat)) - 1) rfl dpointWord_141 ?_
              refine il_pileKind (v := u 94 (((u 0 149) - (h 55 (a1).toNat)) - 1).toNat) rfl ⟨by omega, by omega⟩ dpointWord_144 ?_
              have f14 := gC_pileKind gu (((u 0 149) - (h 55 (a1).toNat)) - 1).toNat
              refine ja_istore dpointWord_145 (by decide) (L2 := [(5, (0, (u 94 (((u 0 149) - (h 55 (a1).toNat)) - 1).toNat))), (6, (0, 0)), (4, (0, (u 52 (a1).toNat))), (0, (2, ((0 : Nat) : Int))), (1, (0, a1)), (2, (0, a2)), (3, (0, (h 55 (a1).toNat)))]) rfl ?_
              refine ja_aload_n dpointWord_147 rfl rfl ?_
              refine fa_pileValue dpointWord_148 ?_
              refine ja_aload_n dpointWord_151 rfl rfl ?_
              refine fg_pile (v := ((u 0 149) - (h 55 (a1).toNat)) - 1) rfl dpointWord_152 ?_
              refine il_pileValue (v := u 95 (((u 0 149) - (h 55 (a1).toNat)) - 1).toNat) rfl ⟨by omega, by omega⟩ dpointWord_155 ?_
              have f15 := gC_pileValue gu (((u 0 149) - (h 55 (a1).toNat)) - 1).toNat
              refine ja_istore dpointWord_156 (by decide) (L2 := [(6, (0, (u 95 (((u 0 149) - (h 55 (a1).toNat)) - 1).toNat))), (5, (0, (u 94 (((u 0 149) - (h 55 (a1).toNat)) - 1).toNat))), (4, (0, (u 52 (a1).toNat))), (0, (2, ((0 : Nat) : Int))), (1, (0, a1)), (2, (0, a2)), (3, (0, (h 55 (a1).toNat)))]) rfl ?_
              refine ja_aload_n dpointWord_158 rfl rfl ?_
              refine ja_iload_n dpointWord_159 rfl rfl ?_
              refine ja_aload_n dpointWord_160 rfl rfl ?_
              refine fa_frameType dpointWord_161 ?_
              refine ja_iload_n dpointWord_164 rfl rfl ?_
              refine il_frameType (v := u 96 (a2).toNat) rfl ⟨by omega, by omega⟩ dpointWord_165 ?_
              have f16 := gC_frameType gu (a2).toNat
              refine ja_iconst dpointWord_166 ?_
              refine ja_icmp_ne 179 dpointWord_167 rfl ⟨by omega, by omega⟩ ⟨by decide, by decide⟩ (fun c167 => ?_) (fun c167 => ?_)
              · refine ja_iconst dpointWord_179 ?_
                refine ja_iload dpointWord_180 rfl ?_
                refine ja_iload dpointWord_182 rfl ?_
                have xagv : mo_ag FXP h (ja_up (ja_up u 0 149 ((u 0 149) - (h 55 (a1).toNat))) 0 149 (((u 0 149) - (h 55 (a1).toNat)) - 1)) := (ag_trans (ag_sub (X_X (by decide) (by decide)) ag) (by (repeat (first | exact ag_refl | refine ag_up rfl ?_))))
                have xD := (ex_rc p1 (Or.inl p3) xagv (show (((u 0 149) - (h 55 (a1).toNat)) - 1) = (h 0 149) + pw_eff ((h 74 (w9).toNat)) ((h 75 (w9).toNat)) (pw_pop h ((h 75 (w9).toNat))) - 1 by rw [← p2]; omega)).2
                refine t_reach (by decide) (show (0 : Nat) ≤ 8 by decide) dpointWord_184 g13 ⟨by omega, by omega⟩ ⟨by decide, by decide⟩ ⟨by omega, by omega⟩ ⟨by omega, by omega⟩ ((show 0 ≤ a1 ∧ a1 < (u 0 88) by omega)) (show 0 ≤ 0 ∧ 0 ≤ 200 by omega) (show 0 ≤ (u 94 (((u 0 149) - (h 55 (a1).toNat)) - 1).toNat) ∧ (u 94 (((u 0 149) - (h 55 (a1).toNat)) - 1).toNat) ≤ 2 by omega) ((vi_at qv (show (94, 95) ∈ vps by decide) _)) ((fun z => (vi_aS qv (show (94, 95) ∈ vps by decide) _ z).2)) ((rb_ag xrb (by (repeat (first | exact qv | refine vi_set (by decide) (by decide) (by decide) ?_ (by first | exact (fun z => absurd z (by decide)) | exact vi_aS qv (by decide) _ | exact qv.2 | exact (fun z => ⟨by omega, hca⟩) | exact (fun z => ⟨by omega, hca z⟩) | (intro z; exfalso; omega)) | refine vi_res ?_ (by first | exact (fun z => absurd z (by decide)) | exact vi_aS qv (by decide) _ | exact qv.2 | exact (fun z => ⟨by omega, hca⟩) | exact (fun z => ⟨by omega, hca z⟩) | (intro z; exfalso; omega)) | refine vi_arr (by decide) (by decide) ?_ | refine vi_up (by decide) (by decide) ?_ | refine vi_val (ck := 106) (by decide) (by decide) (by decide) ?_ ⟨by omega, by omega⟩))) (ag_sub (X_sub (by decide) (by decide)) xagv))) ((ex_rc p1 (Or.inl p3) xagv (show (((u 0 149) - (h 55 (a1).toNat)) - 1) = (h 0 149) + pw_eff ((h 74 (w9).toNat)) ((h 75 (w9).toNat)) (pw_pop h ((h 75 (w9).toNat))) - 1 by rw [← p2]; omega)).1) ((by rw [p2]; exact (ex_reP p1 p3 (by rw [← p2]; exact gpa.1) xagv (fun z => absurd z (by decide))).1)) ?_
                intro h17 k184_0 g18
                replace k184_0 : RE (ja_up (ja_up u 0 149 ((u 0 149) - (h 55 (a1).toNat))) 0 149 (((u 0 149) - (h 55 (a1).toNat)) - 1)) h17 ht st rg := k184_0
                refine ja_return dpointWord_187 rfl ?_
                exact k1 h17 ((ex_reach p1 p3 g18 xagv xD k184_0)) g18
              · refine ja_aload_n dpointWord_170 rfl rfl ?_
                refine fa_frameSelf dpointWord_171 ?_
                refine ja_iload_n dpointWord_174 rfl rfl ?_
                refine il_frameSelf (v := u 98 (a2).toNat) rfl ⟨by omega, by omega⟩ dpointWord_175 ?_
                have f19 := gC_frameSelf gu (a2).toNat
                refine ja_goto 180 dpointWord_176 rfl ?_
                refine ja_iload dpointWord_180 rfl ?_
                refine ja_iload dpointWord_182 rfl ?_
                have xagv : mo_ag FXP h (ja_up (ja_up u 0 149 ((u 0 149) - (h 55 (a1).toNat))) 0 149 (((u 0 149) - (h 55 (a1).toNat)) - 1)) := (ag_trans (ag_sub (X_X (by decide) (by decide)) ag) (by (repeat (first | exact ag_refl | refine ag_up rfl ?_))))
                have xD := (ex_rc p1 (Or.inl p3) xagv (show (((u 0 149) - (h 55 (a1).toNat)) - 1) = (h 0 149) + pw_eff ((h 74 (w9).toNat)) ((h 75 (w9).toNat)) (pw_pop h ((h 75 (w9).toNat))) - 1 by rw [← p2]; omega)).2
                refine t_reach (by decide) (show (0 : Nat) ≤ 8 by decide) dpointWord_184 g13 ⟨by omega, by omega⟩ ⟨by omega, by omega⟩ ⟨by omega, by omega⟩ ⟨by omega, by omega⟩ ((show 0 ≤ a1 ∧ a1 < (u 0 88) by omega)) (show 0 ≤ (u 98 (a2).toNat) ∧ (u 98 (a2).toNat) ≤ 200 by omega) (show 0 ≤ (u 94 (((u 0 149) - (h 55 (a1).toNat)) - 1).toNat) ∧ (u 94 (((u 0 149) - (h 55 (a1).toNat)) - 1).toNat) ≤ 2 by omega) ((vi_at qv (show (94, 95) ∈ vps by decide) _)) ((fun z => (vi_aS qv (show (94, 95) ∈ vps by decide) _ z).2)) ((rb_ag xrb (by (repeat (first | exact qv | refine vi_set (by decide) (by decide) (by decide) ?_ (by first | exact (fun z => absurd z (by decide)) | exact vi_aS qv (by decide) _ | exact qv.2 | exact (fun z => ⟨by omega, hca⟩) | exact (fun z => ⟨by omega, hca z⟩) | (intro z; exfalso; omega)) | refine vi_res ?_ (by first | exact (fun z => absurd z (by decide)) | exact vi_aS qv (by decide) _ | exact qv.2 | exact (fun z => ⟨by omega, hca⟩) | exact (fun z => ⟨by omega, hca z⟩) | (intro z; exfalso; omega)) | refine vi_arr (by decide) (by decide) ?_ | refine vi_up (by decide) (by decide) ?_ | refine vi_val (ck := 106) (by decide) (by decide) (by decide) ?_ ⟨by omega, by omega⟩))) (ag_sub (X_sub (by decide) (by decide)) xagv))) ((ex_rc p1 (Or.inl p3) xagv (show (((u 0 149) - (h 55 (a1).toNat)) - 1) = (h 0 149) + pw_eff ((h 74 (w9).toNat)) ((h 75 (w9).toNat)) (pw_pop h ((h 75 (w9).toNat))) - 1 by rw [← p2]; omega)).1) ((by rw [p2]; exact (ex_reP p1 p3 (by rw [← p2]; exact gpa.1) xagv (fun _ => (show (h 96 (a2).toNat) = 1 by omega))).1)) ?_
                intro h20 k184_0 g21
                replace k184_0 : RE (ja_up (ja_up u 0 149 ((u 0 149) - (h 55 (a1).toNat))) 0 149 (((u 0 149) - (h 55 (a1).toNat)) - 1)) h20 ht st rg := k184_0
                refine ja_return dpointWord_187 rfl ?_
                exact k1 h20 ((ex_reach p1 p3 g21 xagv xD k184_0)) g21
            · refine ja_iload dpointWord_120 rfl ?_
              refine ja_iconst dpointWord_122 ?_
              refine ja_icmp_ne 158 dpointWord_123 rfl ⟨by omega, by omega⟩ ⟨by decide, by decide⟩ (fun c123 => ?_) (fun c123 => ?_)
              · refine ja_aload_n dpointWord_158 rfl rfl ?_
                refine ja_iload_n dpointWord_159 rfl rfl ?_
                refine ja_aload_n dpointWord_160 rfl rfl ?_
                refine fa_frameType dpointWord_161 ?_
                refine ja_iload_n dpointWord_164 rfl rfl ?_
                refine il_frameType (v := u 96 (a2).toNat) rfl ⟨by omega, by omega⟩ dpointWord_165 ?_
                have f22 := gC_frameType gu (a2).toNat
                refine ja_iconst dpointWord_166 ?_
                refine ja_icmp_ne 179 dpointWord_167 rfl ⟨by omega, by omega⟩ ⟨by decide, by decide⟩ (fun c167 => ?_) (fun c167 => ?_)
                · refine ja_iconst dpointWord_179 ?_
                  refine ja_iload dpointWord_180 rfl ?_
                  refine ja_iload dpointWord_182 rfl ?_
                  have xagv : mo_ag FXP h (ja_up u 0 149 ((u 0 149) - (h 55 (a1).toNat))) := (ag_trans (ag_sub (X_X (by decide) (by decide)) ag) (by (repeat (first | exact ag_refl | refine ag_up rfl ?_))))
                  have xD := (ex_rc p1 (Or.inl p3) xagv (show ((u 0 149) - (h 55 (a1).toNat)) = (h 0 149) + pw_eff ((h 74 (w9).toNat)) ((h 75 (w9).toNat)) (pw_pop h ((h 75 (w9).toNat))) - 1 by rw [← p2]; omega)).2
                  refine t_reach (by decide) (show (0 : Nat) ≤ 8 by decide) dpointWord_184 g2 ⟨by omega, by omega⟩ ⟨by decide, by decide⟩ ⟨by decide, by decide⟩ ⟨by decide, by decide⟩ ((show 0 ≤ a1 ∧ a1 < (u 0 88) by omega)) (show 0 ≤ 0 ∧ 0 ≤ 200 by omega) (show 0 ≤ 0 ∧ 0 ≤ 2 by omega) ((fun z => absurd z (by decide))) ((fun z => absurd z (by decide))) ((rb_ag xrb (by (repeat (first | exact qv | refine vi_set (by decide) (by decide) (by decide) ?_ (by first | exact (fun z => absurd z (by decide)) | exact vi_aS qv (by decide) _ | exact qv.2 | exact (fun z => ⟨by omega, hca⟩) | exact (fun z => ⟨by omega, hca z⟩) | (intro z; exfalso; omega)) | refine vi_res ?_ (by first | exact (fun z => absurd z (by decide)) | exact vi_aS qv (by decide) _ | exact qv.2 | exact (fun z => ⟨by omega, hca⟩) | exact (fun z => ⟨by omega, hca z⟩) | (intro z; exfalso; omega)) | refine vi_arr (by decide) (by decide) ?_ | refine vi_up (by decide) (by decide) ?_ | refine vi_val (ck := 106) (by decide) (by decide) (by decide) ?_ ⟨by omega, by omega⟩))) (ag_sub (X_sub (by decide) (by decide)) xagv))) ((ex_rc p1 (Or.inl p3) xagv (show ((u 0 149) - (h 55 (a1).toNat)) = (h 0 149) + pw_eff ((h 74 (w9).toNat)) ((h 75 (w9).toNat)) (pw_pop h ((h 75 (w9).toNat))) - 1 by rw [← p2]; omega)).1) ((by rw [p2]; exact (ex_reP p1 p3 (by rw [← p2]; exact gpa.1) xagv (fun z => absurd z (by decide))).1)) ?_
                  intro h23 k184_0 g24
                  replace k184_0 : RE (ja_up u 0 149 ((u 0 149) - (h 55 (a1).toNat))) h23 ht st rg := k184_0
                  refine ja_return dpointWord_187 rfl ?_
                  exact k1 h23 ((ex_reach p1 p3 g24 xagv xD k184_0)) g24
                · refine ja_aload_n dpointWord_170 rfl rfl ?_
                  refine fa_frameSelf dpointWord_171 ?_
                  refine ja_iload_n dpointWord_174 rfl rfl ?_
                  refine il_frameSelf (v := u 98 (a2).toNat) rfl ⟨by omega, by omega⟩ dpointWord_175 ?_
                  have f25 := gC_frameSelf gu (a2).toNat
                  refine ja_goto 180 dpointWord_176 rfl ?_
                  refine ja_iload dpointWord_180 rfl ?_
                  refine ja_iload dpointWord_182 rfl ?_
                  have xagv : mo_ag FXP h (ja_up u 0 149 ((u 0 149) - (h 55 (a1).toNat))) := (ag_trans (ag_sub (X_X (by decide) (by decide)) ag) (by (repeat (first | exact ag_refl | refine ag_up rfl ?_))))
                  have xD := (ex_rc p1 (Or.inl p3) xagv (show ((u 0 149) - (h 55 (a1).toNat)) = (h 0 149) + pw_eff ((h 74 (w9).toNat)) ((h 75 (w9).toNat)) (pw_pop h ((h 75 (w9).toNat))) - 1 by rw [← p2]; omega)).2
                  refine t_reach (by decide) (show (0 : Nat) ≤ 8 by decide) dpointWord_184 g2 ⟨by omega, by omega⟩ ⟨by omega, by omega⟩ ⟨by decide, by decide⟩ ⟨by decide, by decide⟩ ((show 0 ≤ a1 ∧ a1 < (u 0 88) by omega)) (show 0 ≤ (u 98 (a2).toNat) ∧ (u 98 (a2).toNat) ≤ 200 by omega) (show 0 ≤ 0 ∧ 0 ≤ 2 by omega) ((fun z => absurd z (by decide))) ((fun z => absurd z (by decide))) ((rb_ag xrb (by (repeat (first | exact qv | refine vi_set (by decide) (by decide) (by decide) ?_ (by first | exact (fun z => absurd z (by decide)) | exact vi_aS qv (by decide) _ | exact qv.2 | exact (fun z => ⟨by omega, hca⟩) | exact (fun z => ⟨by omega, hca z⟩) | (intro z; exfalso; omega)) | refine vi_res ?_ (by first | exact (fun z => absurd z (by decide)) | exact vi_aS qv (by decide) _ | exact qv.2 | exact (fun z => ⟨by omega, hca⟩) | exact (fun z => ⟨by omega, hca z⟩) | (intro z; exfalso; omega)) | refine vi_arr (by decide) (by decide) ?_ | refine vi_up (by decide) (by decide) ?_ | refine vi_val (ck := 106) (by decide) (by decide) (by decide) ?_ ⟨by omega, by omega⟩))) (ag_sub (X_sub (by decide) (by decide)) xagv))) ((ex_rc p1 (Or.inl p3) xagv (show ((u 0 149) - (h 55 (a1).toNat)) = (h 0 149) + pw_eff ((h 74 (w9).toNat)) ((h 75 (w9).toNat)) (pw_pop h ((h 75 (w9).toNat))) - 1 by rw [← p2]; omega)).1) ((by rw [p2]; exact (ex_reP p1 p3 (by rw [← p2]; exact gpa.1) xagv (fun _ => (show (h 96 (a2).toNat) = 1 by omega))).1)) ?_
                  intro h26 k184_0 g27
                  replace k184_0 : RE (ja_up u 0 149 ((u 0 149) - (h 55 (a1).toNat))) h26 ht st rg := k184_0
                  refine ja_return dpointWord_187 rfl ?_
                  exact k1 h26 ((ex_reach p1 p3 g27 xagv xD k184_0)) g27
              · refine ja_aload_n dpointWord_126 rfl rfl ?_
                refine ja_dup dpointWord_127 (by decide) ?_
                refine fg_pile (v := (u 0 149) - (h 55 (a1).toNat)) rfl dpointWord_128 ?_
                refine ja_iconst dpointWord_131 ?_
                refine ja_isub dpointWord_132 ?_
                have g28 := gP_pile g2 (x := ((u 0 149) - (h 55 (a1).toNat)) - 1) ⟨by omega, by omega⟩
                refine fp_pile dpointWord_133 ?_
                refine ja_aload_n dpointWord_136 rfl rfl ?_
                refine fa_pileKind dpointWord_137 ?_
                refine ja_aload_n dpointWord_140 rfl rfl ?_
                refine fg_pile (v := ((u 0 149) - (h 55 (a1).toNat)) - 1) rfl dpointWord_141 ?_
                refine il_pileKind (v := u 94 (((u 0 149) - (h 55 (a1).toNat)) - 1).toNat) rfl ⟨by omega, by omega⟩ dpointWord_144 ?_
                have f29 := gC_pileKind gu (((u 0 149) - (h 55 (a1).toNat)) - 1).toNat
                refine ja_istore dpointWord_145 (by decide) (L2 := [(5, (0, (u 94 (((u 0 149) - (h 55 (a1).toNat)) - 1).toNat))), (6, (0, 0)), (4, (0, (u 52 (a1).toNat))), (0, (2, ((0 : Nat) : Int))), (1, (0, a1)), (2, (0, a2)), (3, (0, (h 55 (a1).toNat)))]) rfl ?_
                refine ja_aload_n dpointWord_147 rfl rfl ?_
                refine fa_pileValue dpointWord_148 ?_
                refine ja_aload_n dpointWord_151 rfl rfl ?_
                refine fg_pile (v := ((u 0 149) - (h 55 (a1).toNat)) - 1) rfl dpointWord_152 ?_
                refine il_pileValue (v := u 95 (((u 0 149) - (h 55 (a1).toNat)) - 1).toNat) rfl ⟨by omega, by omega⟩ dpointWord_155 ?_
                have f30 := gC_pileValue gu (((u 0 149) - (h 55 (a1).toNat)) - 1).toNat
                refine ja_istore dpointWord_156 (by decide) (L2 := [(6, (0, (u 95 (((u 0 149) - (h 55 (a1).toNat)) - 1).toNat))), (5, (0, (u 94 (((u 0 149) - (h 55 (a1).toNat)) - 1).toNat))), (4, (0, (u 52 (a1).toNat))), (0, (2, ((0 : Nat) : Int))), (1, (0, a1)), (2, (0, a2)), (3, (0, (h 55 (a1).toNat)))]) rfl ?_
                refine ja_aload_n dpointWord_158 rfl rfl ?_
                refine ja_iload_n dpointWord_159 rfl rfl ?_
                refine ja_aload_n dpointWord_160 rfl rfl ?_
                refine fa_frameType dpointWord_161 ?_
                refine ja_iload_n dpointWord_164 rfl rfl ?_
                refine il_frameType (v := u 96 (a2).toNat) rfl ⟨by omega, by omega⟩ dpointWord_165 ?_
                have f31 := gC_frameType gu (a2).toNat
                refine ja_iconst dpointWord_166 ?_
                refine ja_icmp_ne 179 dpointWord_167 rfl ⟨by omega, by omega⟩ ⟨by decide, by decide⟩ (fun c167 => ?_) (fun c167 => ?_)
                · refine ja_iconst dpointWord_179 ?_
                  refine ja_iload dpointWord_180 rfl ?_
                  refine ja_iload dpointWord_182 rfl ?_
                  have xagv : mo_ag FXP h (ja_up (ja_up u 0 149 ((u 0 149) - (h 55 (a1).toNat))) 0 149 (((u 0 149) - (h 55 (a1).toNat)) - 1)) := (ag_trans (ag_sub (X_X (by decide) (by decide)) ag) (by (repeat (first | exact ag_refl | refine ag_up rfl ?_))))
                  have xD := (ex_rc p1 (Or.inl p3) xagv (show (((u 0 149) - (h 55 (a1).toNat)) - 1) = (h 0 149) + pw_eff ((h 74 (w9).toNat)) ((h 75 (w9).toNat)) (pw_pop h ((h 75 (w9).toNat))) - 1 by rw [← p2]; omega)).2
                  refine t_reach (by decide) (show (0 : Nat) ≤ 8 by decide) dpointWord_184 g28 ⟨by omega, by omega⟩ ⟨by decide, by decide⟩ ⟨by omega, by omega⟩ ⟨by omega, by omega⟩ ((show 0 ≤ a1 ∧ a1 < (u 0 88) by omega)) (show 0 ≤ 0 ∧ 0 ≤ 200 by omega) (show 0 ≤ (u 94 (((u 0 149) - (h 55 (a1).toNat)) - 1).toNat) ∧ (u 94 (((u 0 149) - (h 55 (a1).toNat)) - 1).toNat) ≤ 2 by omega) ((vi_at qv (show (94, 95) ∈ vps by decide) _)) ((fun z => (vi_aS qv (show (94, 95) ∈ vps by decide) _ z).2)) ((rb_ag xrb (by (repeat (first | exact qv | refine vi_set (by decide) (by decide) (by decide) ?_ (by first | exact (fun z => absurd z (by decide)) | exact vi_aS qv (by decide) _ | exact qv.2 | exact (fun z => ⟨by omega, hca⟩) | exact (fun z => ⟨by omega, hca z⟩) | (intro z; exfalso; omega)) | refine vi_res ?_ (by first | exact (fun z => absurd z (by decide)) | exact vi_aS qv (by decide) _ | exact qv.2 | exact (fun z => ⟨by omega, hca⟩) | exact (fun z => ⟨by omega, hca z⟩) | (intro z; exfalso; omega)) | refine vi_arr (by decide) (by decide) ?_ | refine vi_up (by decide) (by decide) ?_ | refine vi_val (ck := 106) (by decide) (by decide) (by decide) ?_ ⟨by omega, by omega⟩))) (ag_sub (X_sub (by decide) (by decide)) xagv))) ((ex_rc p1 (Or.inl p3) xagv (show (((u 0 149) - (h 55 (a1).toNat)) - 1) = (h 0 149) + pw_eff ((h 74 (w9).toNat)) ((h 75 (w9).toNat)) (pw_pop h ((h 75 (w9).toNat))) - 1 by rw [← p2]; omega)).1) ((by rw [p2]; exact (ex_reP p1 p3 (by rw [← p2]; exact gpa.1) xagv (fun z => absurd z (by decide))).1)) ?_
                  intro h32 k184_0 g33
                  replace k184_0 : RE (ja_up (ja_up u 0 149 ((u 0 149) - (h 55 (a1).toNat))) 0 149 (((u 0 149) - (h 55 (a1).toNat)) - 1)) h32 ht st rg := k184_0
                  refine ja_return dpointWord_187 rfl ?_
                  exact k1 h32 ((ex_reach p1 p3 g33 xagv xD k184_0)) g33
                · refine ja_aload_n dpointWord_170 rfl rfl ?_
                  refine fa_frameSelf dpointWord_171 ?_
                  refine ja_iload_n dpointWord_174 rfl rfl ?_
                  refine il_frameSelf (v := u 98 (a2).toNat) rfl ⟨by omega, by omega⟩ dpointWord_175 ?_
                  have f34 := gC_frameSelf gu (a2).toNat
                  refine ja_goto 180 dpointWord_176 rfl ?_
                  refine ja_iload dpointWord_180 rfl ?_
                  refine ja_iload dpointWord_182 rfl ?_
                  have xagv : mo_ag FXP h (ja_up (ja_up u 0 149 ((u 0 149) - (h 55 (a1).toNat))) 0 149 (((u 0 149) - (h 55 (a1).toNat)) - 1)) := (ag_trans (ag_sub (X_X (by decide) (by decide)) ag) (by (repeat (first | exact ag_refl | refine ag_up rfl ?_))))
                  have xD := (ex_rc p1 (Or.inl p3) xagv (show (((u 0 149) - (h 55 (a1).toNat)) - 1) = (h 0 149) + pw_eff ((h 74 (w9).toNat)) ((h 75 (w9).toNat)) (pw_pop h ((h 75 (w9).toNat))) - 1 by rw [← p2]; omega)).2
                  refine t_reach (by decide) (show (0 : Nat) ≤ 8 by decide) dpointWord_184 g28 ⟨by omega, by omega⟩ ⟨by omega, by omega⟩ ⟨by omega, by omega⟩ ⟨by omega, by omega⟩ ((show 0 ≤ a1 ∧ a1 < (u 0 88) by omega)) (show 0 ≤ (u 98 (a2).toNat) ∧ (u 98 (a2).toNat) ≤ 200 by omega) (show 0 ≤ (u 94 (((u 0 149) - (h 55 (a1).toNat)) - 1).toNat) ∧ (u 94 (((u 0 149) - (h 55 (a1).toNat)) - 1).toNat) ≤ 2 by omega) ((vi_at qv (show (94, 95) ∈ vps by decide) _)) ((fun z => (vi_aS qv (show (94, 95) ∈ vps by decide) _ z).2)) ((rb_ag xrb (by (repeat (first | exact qv | refine vi_set (by decide) (by decide) (by decide) ?_ (by first | exact (fun z => absurd z (by decide)) | exact vi_aS qv (by decide) _ | exact qv.2 | exact (fun z => ⟨by omega, hca⟩) | exact (fun z => ⟨by omega, hca z⟩) | (intro z; exfalso; omega)) | refine vi_res ?_ (by first | exact (fun z => absurd z (by decide)) | exact vi_aS qv (by decide) _ | exact qv.2 | exact (fun z => ⟨by omega, hca⟩) | exact (fun z => ⟨by omega, hca z⟩) | (intro z; exfalso; omega)) | refine vi_arr (by decide) (by decide) ?_ | refine vi_up (by decide) (by decide) ?_ | refine vi_val (ck := 106) (by decide) (by decide) (by decide) ?_ ⟨by omega, by omega⟩))) (ag_sub (X_sub (by decide) (by decide)) xagv))) ((ex_rc p1 (Or.inl p3) xagv (show (((u 0 149) - (h 55 (a1).toNat)) - 1) = (h 0 149) + pw_eff ((h 74 (w9).toNat)) ((h 75 (w9).toNat)) (pw_pop h ((h 75 (w9).toNat))) - 1 by rw [← p2]; omega)).1) ((by rw [p2]; exact (ex_reP p1 p3 (by rw [← p2]; exact gpa.1) xagv (fun _ => (show (h 96 (a2).toNat) = 1 by omega))).1)) ?_
                  intro h35 k184_0 g36
                  replace k184_0 : RE (ja_up (ja_up u 0 149 ((u 0 149) - (h 55 (a1).toNat))) 0 149 (((u 0 149) - (h 55 (a1).toNat)) - 1)) h35 ht st rg := k184_0
                  refine ja_return dpointWord_187 rfl ?_
                  exact k1 h35 ((ex_reach p1 p3 g36 xagv xD k184_0)) g36
        · refine ja_aload_n dpointWord_17 rfl rfl ?_
          refine fa_argKind dpointWord_18 ?_
          refine ja_iload dpointWord_21 rfl ?_
          refine ja_iload dpointWord_23 rfl ?_
          refine ja_iload_n dpointWord_25 rfl rfl ?_
          refine ja_icmp_ge 46 dpointWord_26 rfl ⟨by omega, by omega⟩ ⟨by omega, by omega⟩ (fun c26 => ?_) (fun c26 => ?_)
          · refine ja_iconst dpointWord_46 ?_
            have g37 := gW_argKind gu (x4).toNat (x := 0) ⟨by decide, by decide⟩
            refine is_argKind ⟨by omega, by omega⟩ dpointWord_47 ?_
            refine ja_aload_n dpointWord_48 rfl rfl ?_
            refine fa_argValue dpointWord_49 ?_
            refine ja_iload dpointWord_52 rfl ?_
            refine ja_iload dpointWord_54 rfl ?_
            refine ja_iload_n dpointWord_56 rfl rfl ?_
            refine ja_icmp_ge 77 dpointWord_57 rfl ⟨by omega, by omega⟩ ⟨by omega, by omega⟩ (fun c57 => ?_) (fun c57 => ?_)
            · refine ja_iconst dpointWord_77 ?_
              have g38 := gW_argValue g37 (x4).toNat (x := 0) ⟨by decide, by decide⟩
              refine is_argValue ⟨by omega, by omega⟩ dpointWord_78 ?_
              refine ja_iinc dpointWord_79 rfl (by decide) (L2 := [(4, (0, (x4 + 1))), (0, (2, ((0 : Nat) : Int))), (1, (0, a1)), (2, (0, a2)), (3, (0, (h 55 (a1).toNat)))]) rfl ?_
              refine ja_goto 10 dpointWord_82 rfl ?_
              exact ja_wk (fun q hq => by simp only [List.mem_cons, List.not_mem_nil, or_false] at hq; rcases hq with rfl | rfl | rfl | rfl | rfl <;> rfl) ((ih (((20 : Int) - (x4 + 1)).toNat) (by omega)) (x4 + 1) (ja_up (ja_up u 128 ((x4).toNat) 0) 129 ((x4).toNat) 0) g38 ⟨by omega, by omega⟩ (⟨by omega, (ag_trans ag (by (repeat (first | exact ag_refl | refine ag_up rfl ?_)))), (by (repeat (first | exact qv | refine vi_set (by decide) (by decide) (by decide) ?_ (by first | exact (fun z => absurd z (by decide)) | exact vi_aS qv (by decide) _ | exact qv.2 | exact (fun z => ⟨by omega, hca⟩) | exact (fun z => ⟨by omega, hca z⟩) | (intro z; exfalso; omega)) | refine vi_res ?_ (by first | exact (fun z => absurd z (by decide)) | exact vi_aS qv (by decide) _ | exact qv.2 | exact (fun z => ⟨by omega, hca⟩) | exact (fun z => ⟨by omega, hca z⟩) | (intro z; exfalso; omega)) | refine vi_arr (by decide) (by decide) ?_ | refine vi_up (by decide) (by decide) ?_ | refine vi_val (ck := 106) (by decide) (by decide) (by decide) ?_ ⟨by omega, by omega⟩)))⟩) rfl)
            · refine ja_aload_n dpointWord_60 rfl rfl ?_
              refine fa_pileValue dpointWord_61 ?_
              refine ja_aload_n dpointWord_64 rfl rfl ?_
              refine fg_pile (v := u 0 149) rfl dpointWord_65 ?_
              have f39 := gF_pile gu
              refine ja_iload_n dpointWord_68 rfl rfl ?_
              refine ja_isub dpointWord_69 ?_
              refine ja_iload dpointWord_70 rfl ?_
              refine ja_iadd dpointWord_72 ?_
              refine il_pileValue (v := u 95 (((u 0 149) - (h 55 (a1).toNat)) + x4).toNat) rfl ⟨by omega, by omega⟩ dpointWord_73 ?_
              have f40 := gC_pileValue gu (((u 0 149) - (h 55 (a1).toNat)) + x4).toNat
              refine ja_goto 78 dpointWord_74 rfl ?_
              have g41 := gW_argValue g37 (x4).toNat (x := u 95 (((u 0 149) - (h 55 (a1).toNat)) + x4).toNat) ⟨by omega, by omega⟩
              refine is_argValue ⟨by omega, by omega⟩ dpointWord_78 ?_
              refine ja_iinc dpointWord_79 rfl (by decide) (L2 := [(4, (0, (x4 + 1))), (0, (2, ((0 : Nat) : Int))), (1, (0, a1)), (2, (0, a2)), (3, (0, (h 55 (a1).toNat)))]) rfl ?_
              refine ja_goto 10 dpointWord_82 rfl ?_
              exact ja_wk (fun q hq => by simp only [List.mem_cons, List.not_mem_nil, or_false] at hq; rcases hq with rfl | rfl | rfl | rfl | rfl <;> rfl) ((ih (((20 : Int) - (x4 + 1)).toNat) (by omega)) (x4 + 1) (ja_up (ja_up u 128 ((x4).toNat) 0) 129 ((x4).toNat) (u 95 (((u 0 149) - (h 55 (a1).toNat)) + x4).toNat)) g41 ⟨by omega, by omega⟩ (⟨by omega, (ag_trans ag (by (repeat (first | exact ag_refl | refine ag_up rfl ?_)))), (by (repeat (first | exact qv | refine vi_set (by decide) (by decide) (by decide) ?_ (by first | exact (fun z => absurd z (by decide)) | exact vi_aS qv (by decide) _ | exact qv.2 | exact (fun z => ⟨by omega, hca⟩) | exact (fun z => ⟨by omega, hca z⟩) | (intro z; exfalso; omega)) | refine vi_res ?_ (by first | exact (fun z => absurd z (by decide)) | exact vi_aS qv (by decide) _ | exact qv.2 | exact (fun z => ⟨by omega, hca⟩) | exact (fun z => ⟨by omega, hca z⟩) | (intro z; exfalso; omega)) | refine vi_arr (by decide) (by decide) ?_ | refine vi_up (by decide) (by decide) ?_ | refine vi_val (ck := 106) (by decide) (by decide) (by decide) ?_ ⟨by omega, by omega⟩)))⟩) rfl)
          · refine ja_aload_n dpointWord_29 rfl rfl ?_
            refine fa_pileKind dpointWord_30 ?_
            refine ja_aload_n dpointWord_33 rfl rfl ?_
            refine fg_pile (v := u 0 149) rfl dpointWord_34 ?_
            have f42 := gF_pile gu
            refine ja_iload_n dpointWord_37 rfl rfl ?_
            refine ja_isub dpointWord_38 ?_
            refine ja_iload dpointWord_39 rfl ?_
            refine ja_iadd dpointWord_41 ?_
            refine il_pileKind (v := u 94 (((u 0 149) - (h 55 (a1).toNat)) + x4).toNat) rfl ⟨by omega, by omega⟩ dpointWord_42 ?_
            have f43 := gC_pileKind gu (((u 0 149) - (h 55 (a1).toNat)) + x4).toNat
            refine ja_goto 47 dpointWord_43 rfl ?_
            have g44 := gW_argKind gu (x4).toNat (x := u 94 (((u 0 149) - (h 55 (a1).toNat)) + x4).toNat) ⟨by omega, by omega⟩
            refine is_argKind ⟨by omega, by omega⟩ dpointWord_47 ?_
            refine ja_aload_n dpointWord_48 rfl rfl ?_
            refine fa_argValue dpointWord_49 ?_
            refine ja_iload dpointWord_52 rfl ?_
            refine ja_iload dpointWord_54 rfl ?_
            refine ja_iload_n dpointWord_56 rfl rfl ?_
            refine ja_icmp_ge 77 dpointWord_57 rfl ⟨by omega, by omega⟩ ⟨by omega, by omega⟩ (fun c57 => ?_) (fun c57 => ?_)
            · refine ja_iconst dpointWord_77 ?_
              have g45 := gW_argValue g44 (x4).toNat (x := 0) ⟨by decide, by decide⟩
              refine is_argValue ⟨by omega, by omega⟩ dpointWord_78 ?_
              refine ja_iinc dpointWord_79 rfl (by decide) (L2 := [(4, (0, (x4 + 1))), (0, (2, ((0 : Nat) : Int))), (1, (0, a1)), (2, (0, a2)), (3, (0, (h 55 (a1).toNat)))]) rfl ?_
              refine ja_goto 10 dpointWord_82 rfl ?_
              exact ja_wk (fun q hq => by simp only [List.mem_cons, List.not_mem_nil, or_false] at hq; rcases hq with rfl | rfl | rfl | rfl | rfl <;> rfl) ((ih (((20 : Int) - (x4 + 1)).toNat) (by omega)) (x4 + 1) (ja_up (ja_up u 128 ((x4).toNat) (u 94 (((u 0 149) - (h 55 (a1).toNat)) + x4).toNat)) 129 ((x4).toNat) 0) g45 ⟨by omega, by omega⟩ (⟨by omega, (ag_trans ag (by (repeat (first | exact ag_refl | refine ag_up rfl ?_)))), (by (repeat (first | exact qv | refine vi_set (by decide) (by decide) (by decide) ?_ (by first | exact (fun z => absurd z (by decide)) | exact vi_aS qv (by decide) _ | exact qv.2 | exact (fun z => ⟨by omega, hca⟩) | exact (fun z => ⟨by omega, hca z⟩) | (intro z; exfalso; omega)) | refine vi_res ?_ (by first | exact (fun z => absurd z (by decide)) | exact vi_aS qv (by decide) _ | exact qv.2 | exact (fun z => ⟨by omega, hca⟩) | exact (fun z => ⟨by omega, hca z⟩) | (intro z; exfalso; omega)) | refine vi_arr (by decide) (by decide) ?_ | refine vi_up (by decide) (by decide) ?_ | refine vi_val (ck := 106) (by decide) (by decide) (by decide) ?_ ⟨by omega, by omega⟩)))⟩) rfl)
            · refine ja_aload_n dpointWord_60 rfl rfl ?_
              refine fa_pileValue dpointWord_61 ?_
              refine ja_aload_n dpointWord_64 rfl rfl ?_
              refine fg_pile (v := u 0 149) rfl dpointWord_65 ?_
              refine ja_iload_n dpointWord_68 rfl rfl ?_
              refine ja_isub dpointWord_69 ?_
              refine ja_iload dpointWord_70 rfl ?_
              refine ja_iadd dpointWord_72 ?_
              refine il_pileValue (v := u 95 (((u 0 149) - (h 55 (a1).toNat)) + x4).toNat) rfl ⟨by omega, by omega⟩ dpointWord_73 ?_
              have f46 := gC_pileValue gu (((u 0 149) - (h 55 (a1).toNat)) + x4).toNat
              refine ja_goto 78 dpointWord_74 rfl ?_
              have g47 := gW_argValue g44 (x4).toNat (x := u 95 (((u 0 149) - (h 55 (a1).toNat)) + x4).toNat) ⟨by omega, by omega⟩
              refine is_argValue ⟨by omega, by omega⟩ dpointWord_78 ?_
              refine ja_iinc dpointWord_79 rfl (by decide) (L2 := [(4, (0, (x4 + 1))), (0, (2, ((0 : Nat) : Int))), (1, (0, a1)), (2, (0, a2)), (3, (0, (h 55 (a1).toNat)))]) rfl ?_
              refine ja_goto 10 dpointWord_82 rfl ?_
              exact ja_wk (fun q hq => by simp only [List.mem_cons, List.not_mem_nil, or_false] at hq; rcases hq with rfl | rfl | rfl | rfl | rfl <;> rfl) ((ih (((20 : Int) - (x4 + 1)).toNat) (by omega)) (x4 + 1) (ja_up (ja_up u 128 ((x4).toNat) (u 94 (((u 0 149) - (h 55 (a1).toNat)) + x4).toNat)) 129 ((x4).toNat) (u 95 (((u 0 149) - (h 55 (a1).toNat)) + x4).toNat)) g47 ⟨by omega, by omega⟩ (⟨by omega, (ag_trans ag (by (repeat (first | exact ag_refl | refine ag_up rfl ?_)))), (by (repeat (first | exact qv | refine vi_set (by decide) (by decide) (by decide) ?_ (by first | exact (fun z => absurd z (by decide)) | exact vi_aS qv (by decide) _ | exact qv.2 | exact (fun z => ⟨by omega, hca⟩) | exact (fun z => ⟨by omega, hca z⟩) | (intro z; exfalso; omega)) | refine vi_res ?_ (by first | exact (fun z => absurd z (by decide)) | exact vi_aS qv (by decide) _ | exact qv.2 | exact (fun z => ⟨by omega, hca⟩) | exact (fun z => ⟨by omega, hca z⟩) | (intro z; exfalso; omega)) | refine vi_arr (by decide) (by decide) ?_ | refine vi_up (by decide) (by decide) ?_ | refine vi_val (ck := 106) (by decide) (by decide) (by decide) ?_ ⟨by omega, by omega⟩)))⟩) rfl)
  refine ja_aload_n dpointWord_0 rfl rfl ?_
  refine fa_pointArgs dpointWord_1 ?_
  refine ja_iload_n dpointWord_4 rfl rfl ?_
  refine il_pointArgs (v := h 55 (a1).toNat) rfl ⟨by omega, by omega⟩ dpointWord_5 ?_
  have f48 := gC_pointArgs g (a1).toNat
  refine ja_istore_n dpointWord_6 rfl (by decide) (L2 := [(3, (0, (h 55 (a1).toNat))), (0, (2, ((0 : Nat) : Int))), (1, (0, a1)), (2, (0, a2))]) rfl ?_
  refine ja_iconst dpointWord_7 ?_
  refine ja_istore dpointWord_8 (by decide) (L2 := [(4, (0, 0)), (3, (0, (h 55 (a1).toNat))), (0, (2, ((0 : Nat) : Int))), (1, (0, a1)), (2, (0, a2))]) rfl ?_
  exact ja_wk (fun q hq => by simp only [List.mem_cons, List.not_mem_nil, or_false] at hq; rcases hq with rfl | rfl | rfl | rfl | rfl <;> rfl) ((CUT _) 0 h g ⟨by decide, by decide⟩ (⟨by omega, ag_refl, qv⟩) rfl)
theorem t_pointWord {a1 a2 : Int} {h9 : ja_H} {ht st rg : Nat → Int} {w9 : Int} {d nL pc : Nat} {cc : ByteArray} {rt : Option FieldType} {L : List (Nat × ja_V)} {S : List ja_V} {h : ja_H} {Q : Option ja_V → ja_H → Prop} (hdd : 11 < d) (hwd : ja_wd S ≤ 8) (hd : decode cc pc = .ok (.invokevirtual 1114, 3)) (g : mo_G mo_zr h) (r1 : -2147483648 ≤ a1 ∧ a1 ≤ 2147483647) (r2 : -2147483648 ≤ a2 ∧ a2 ≤ 2147483647) (p1 : EX h9 h ht st rg w9 a2) (p2 : a1 = (h 75 (w9).toNat)) (p3 : (h 74 (w9).toNat) = 15) (k1 : ∀ (h' : ja_H), (RO h9 h' ht st rg) → mo_G mo_zr h' → mJ l D cA ad d cc nL rt (pc + 3) L S h' Q) : mJ l D cA ad d cc nL rt pc L ((0, a2) :: (0, a1) :: (2, ((0 : Nat) : Int)) :: S) h Q :=
  mc_pointWord hdd hwd hd (s_pointWord g r1 r2 p1 p2 p3 k1)
end
theorem dgo_0 : decode cX12_go 0 = .ok (.aload_n 0, 1) := by decide +kernel
theorem dgo_1 : decode cX12_go 1 = .ok (.getfield 315, 3) := by decide +kernel
theorem dgo_4 : decode cX12_go 4 = .ok (.iload_n 2, 1) := by decide +kernel
theorem dgo_5 : decode cX12_go 5 = .ok (.iconst 1, 1) := by decide +kernel
theorem dgo_6 : decode cX12_go 6 = .ok (.isub, 1) := by decide +kernel
theorem dgo_7 : decode cX12_go 7 = .ok (.iaload, 1) := by decide +kernel
theorem dgo_8 : decode cX12_go 8 = .ok (.istore_n 3, 1) := by decide +kernel
theorem dgo_9 : decode cX12_go 9 = .ok (.iload_n 1, 1) := by decide +kernel
theorem dgo_10 : decode cX12_go 10 = .ok (.iconst 1, 1) := by decide +kernel
theorem dgo_11 : decode cX12_go 11 = .ok (.isub, 1) := by decide +kernel
theorem dgo_12 : decode cX12_go 12 = .ok (.istore 4, 2) := by decide +kernel
theorem dgo_14 : decode cX12_go 14 = .ok (.iload_n 1, 1) := by decide +kernel
theorem dgo_15 : decode cX12_go 15 = .ok (.ifCond .ne 13, 3) := by decide +kernel
theorem dgo_18 : decode cX12_go 18 = .ok (.aload_n 0, 1) := by decide +kernel
theorem dgo_19 : decode cX12_go 19 = .ok (.iload_n 2, 1) := by decide +kernel
theorem dgo_20 : decode cX12_go 20 = .ok (.iconst 1, 1) := by decide +kernel
theorem dgo_21 : decode cX12_go 21 = .ok (.isub, 1) := by decide +kernel
theorem dgo_22 : decode cX12_go 22 = .ok (.invokevirtual 1063, 3) := by decide +kernel
theorem dgo_25 : decode cX12_go 25 = .ok (.goto 108, 3) := by decide +kernel
theorem dgo_28 : decode cX12_go 28 = .ok (.aload_n 0, 1) := by decide +kernel
theorem dgo_29 : decode cX12_go 29 = .ok (.aload_n 0, 1) := by decide +kernel
theorem dgo_30 : decode cX12_go 30 = .ok (.getfield 993, 3) := by decide +kernel
theorem dgo_33 : decode cX12_go 33 = .ok (.iload 4, 2) := by decide +kernel
theorem dgo_35 : decode cX12_go 35 = .ok (.isub, 1) := by decide +kernel
theorem dgo_36 : decode cX12_go 36 = .ok (.putfield 993, 3) := by decide +kernel
theorem dgo_39 : decode cX12_go 39 = .ok (.iconst 0, 1) := by decide +kernel
theorem dgo_40 : decode cX12_go 40 = .ok (.istore 5, 2) := by decide +kernel
theorem dgo_42 : decode cX12_go 42 = .ok (.iload 5, 2) := by decide +kernel
theorem dgo_44 : decode cX12_go 44 = .ok (.bipush 6, 2) := by decide +kernel
theorem dgo_46 : decode cX12_go 46 = .ok (.if_icmp .ge 69, 3) := by decide +kernel
theorem dgo_49 : decode cX12_go 49 = .ok (.aload_n 0, 1) := by decide +kernel
theorem dgo_50 : decode cX12_go 50 = .ok (.getfield 393, 3) := by decide +kernel
theorem dgo_53 : decode cX12_go 53 = .ok (.iload 5, 2) := by decide +kernel
theorem dgo_55 : decode cX12_go 55 = .ok (.iload 5, 2) := by decide +kernel
theorem dgo_57 : decode cX12_go 57 = .ok (.iload 4, 2) := by decide +kernel
theorem dgo_59 : decode cX12_go 59 = .ok (.if_icmp .ge 18, 3) := by decide +kernel
theorem dgo_62 : decode cX12_go 62 = .ok (.aload_n 0, 1) := by decide +kernel
theorem dgo_63 : decode cX12_go 63 = .ok (.getfield 291, 3) := by decide +kernel
theorem dgo_66 : decode cX12_go 66 = .ok (.aload_n 0, 1) := by decide +kernel
theorem dgo_67 : decode cX12_go 67 = .ok (.getfield 993, 3) := by decide +kernel
theorem dgo_70 : decode cX12_go 70 = .ok (.iload 5, 2) := by decide +kernel
theorem dgo_72 : decode cX12_go 72 = .ok (.iadd, 1) := by decide +kernel
theorem dgo_73 : decode cX12_go 73 = .ok (.iaload, 1) := by decide +kernel
theorem dgo_74 : decode cX12_go 74 = .ok (.goto 4, 3) := by decide +kernel
theorem dgo_77 : decode cX12_go 77 = .ok (.iconst 0, 1) := by decide +kernel
theorem dgo_78 : decode cX12_go 78 = .ok (.iastore, 1) := by decide +kernel
theorem dgo_79 : decode cX12_go 79 = .ok (.aload_n 0, 1) := by decide +kernel
theorem dgo_80 : decode cX12_go 80 = .ok (.getfield 396, 3) := by decide +kernel
theorem dgo_83 : decode cX12_go 83 = .ok (.iload 5, 2) := by decide +kernel
theorem dgo_85 : decode cX12_go 85 = .ok (.iload 5, 2) := by decide +kernel
theorem dgo_87 : decode cX12_go 87 = .ok (.iload 4, 2) := by decide +kernel
theorem dgo_89 : decode cX12_go 89 = .ok (.if_icmp .ge 18, 3) := by decide +kernel
theorem dgo_92 : decode cX12_go 92 = .ok (.aload_n 0, 1) := by decide +kernel
theorem dgo_93 : decode cX12_go 93 = .ok (.getfield 294, 3) := by decide +kernel
theorem dgo_96 : decode cX12_go 96 = .ok (.aload_n 0, 1) := by decide +kernel
theorem dgo_97 : decode cX12_go 97 = .ok (.getfield 993, 3) := by decide +kernel
theorem dgo_100 : decode cX12_go 100 = .ok (.iload 5, 2) := by decide +kernel
theorem dgo_102 : decode cX12_go 102 = .ok (.iadd, 1) := by decide +kernel
theorem dgo_103 : decode cX12_go 103 = .ok (.iaload, 1) := by decide +kernel
theorem dgo_104 : decode cX12_go 104 = .ok (.goto 4, 3) := by decide +kernel
theorem dgo_107 : decode cX12_go 107 = .ok (.iconst 0, 1) := by decide +kernel
theorem dgo_108 : decode cX12_go 108 = .ok (.iastore, 1) := by decide +kernel
theorem dgo_109 : decode cX12_go 109 = .ok (.iinc 5 1, 3) := by decide +kernel
theorem dgo_112 : decode cX12_go 112 = .ok (.goto (-70), 3) := by decide +kernel
theorem dgo_115 : decode cX12_go 115 = .ok (.iload 4, 2) := by decide +kernel
theorem dgo_117 : decode cX12_go 117 = .ok (.aload_n 0, 1) := by decide +kernel
theorem dgo_118 : decode cX12_go 118 = .ok (.getfield 366, 3) := by decide +kernel
theorem dgo_121 : decode cX12_go 121 = .ok (.iload_n 3, 1) := by decide +kernel
theorem dgo_122 : decode cX12_go 122 = .ok (.iaload, 1) := by decide +kernel
theorem dgo_123 : decode cX12_go 123 = .ok (.if_icmp .eq 10, 3) := by decide +kernel
theorem dgo_126 : decode cX12_go 126 = .ok (.aload_n 0, 1) := by decide +kernel
theorem dgo_127 : decode cX12_go 127 = .ok (.bipush (-4), 2) := by decide +kernel
theorem dgo_129 : decode cX12_go 129 = .ok (.invokevirtual 1072, 3) := by decide +kernel
theorem dgo_132 : decode cX12_go 132 = .ok (.return_, 1) := by decide +kernel
theorem dgo_133 : decode cX12_go 133 = .ok (.aload_n 0, 1) := by decide +kernel
theorem dgo_134 : decode cX12_go 134 = .ok (.iload_n 3, 1) := by decide +kernel
theorem dgo_135 : decode cX12_go 135 = .ok (.putfield 1057, 3) := by decide +kernel
theorem dgo_138 : decode cX12_go 138 = .ok (.aload_n 0, 1) := by decide +kernel
theorem dgo_139 : decode cX12_go 139 = .ok (.aload_n 0, 1) := by decide +kernel
theorem dgo_140 : decode cX12_go 140 = .ok (.getfield 318, 3) := by decide +kernel
theorem dgo_143 : decode cX12_go 143 = .ok (.iload_n 2, 1) := by decide +kernel
theorem dgo_144 : decode cX12_go 144 = .ok (.iconst 1, 1) := by decide +kernel
theorem dgo_145 : decode cX12_go 145 = .ok (.isub, 1) := by decide +kernel
theorem dgo_146 : decode cX12_go 146 = .ok (.iaload, 1) := by decide +kernel
theorem dgo_147 : decode cX12_go 147 = .ok (.iconst 1, 1) := by decide +kernel
theorem dgo_148 : decode cX12_go 148 = .ok (.iadd, 1) := by decide +kernel
theorem dgo_149 : decode cX12_go 149 = .ok (.putfield 1060, 3) := by decide +kernel
theorem dgo_152 : decode cX12_go 152 = .ok (.aload_n 0, 1) := by decide +kernel
theorem dgo_153 : decode cX12_go 153 = .ok (.iconst 2, 1) := by decide +kernel
theorem dgo_154 : decode cX12_go 154 = .ok (.putfield 1008, 3) := by decide +kernel
theorem dgo_157 : decode cX12_go 157 = .ok (.return_, 1) := by decide +kernel
section
variable {l : Launch} {D : va_G} {cA : Nat → ClassId} {ad : Nat → Nat}
theorem s_go {a1 a2 : Int} {h9 : ja_H} {ht st rg : Nat → Int} {w9 : Int} {h : ja_H} {Q : Option ja_V → ja_H → Prop} (g : mo_G mo_zr h) (r1 : -2147483648 ≤ a1 ∧ a1 ≤ 2147483647) (r2 : -2147483648 ≤ a2 ∧ a2 ≤ 2147483647) (p1 : EX h9 h ht st rg w9 a2) (p2 : a1 = (h 75 (w9).toNat)) (p3 : (h 74 (w9).toNat) = 16) (k1 : ∀ (h' : ja_H), (RO h9 h' ht st rg) → mo_G mo_zr h' → Q none h') : mM_go l D cA ad a1 a2 h Q := by
  show mJ l D cA ad 2 cX12_go 6 none 0 [(0, (2, ((0 : Nat) : Int))), (1, (0, a1)), (2, (0, a2))] [] h Q
  have kn_pile := gF_pile g
  have kn_reached := gF_reached g
  obtain ⟨xrb, xw, xf, xt, xp, xr, xl, xn, xc, xv⟩ := ex_f p1
  have qv := xrb.1
  have xop := ex_op p1
  obtain ⟨xb1, xb2, xb3, xb4⟩ := ex_below p1 p3
  rw [← p2] at xb4
  have xe := eff_16 (a := (h 75 (w9).toNat)) (q := pw_pop h (h 75 (w9).toNat)) p3
  rw [← p2] at xe xp
  have CUT : ∀ n : Nat, (∀ (x5 : Int) (u : ja_H), mo_G mo_zr u → (-2147483648 ≤ x5 ∧ x5 ≤ 2147483647) → ((0 ≤ x5 ∧ x5 ≤ 6 ∧ ¬ a1 = 0) ∧ mo_ag FXA h u ∧ (u 0 149) = (h 0 149) - (a1 - 1) ∧ VI u) → (((20 : Int) - x5).toNat) = n → mJ l D cA ad 2 cX12_go 6 none 42 [(0, (2, ((0 : Nat) : Int))), (2, (0, a2)), (3, (0, (h 102 (a2 - 1).toNat))), (4, (0, (a1 - 1))), (5, (0, x5))] [] u Q) := by
    intro n
    induction n using Nat.strongRecOn with
    | _ n ih =>
      skip
      · intro x5 u gu qx5 iv hm
        subst hm
        have ku_pile := gF_pile gu
        have ku_reached := gF_reached gu
        obtain ⟨iv, ag, xpi, qv⟩ := iv
        refine ja_iload dgo_42 rfl ?_
        refine ja_bipush 6 dgo_44 rfl ?_
        refine ja_icmp_ge 115 dgo_46 rfl ⟨by omega, by omega⟩ ⟨by decide, by decide⟩ (fun c46 => ?_) (fun c46 => ?_)
        · refine ja_iload dgo_115 rfl ?_
          refine ja_aload_n dgo_117 rfl rfl ?_
          refine fa_reachMany dgo_118 ?_
          refine ja_iload_n dgo_121 rfl rfl ?_
          refine il_reachMany (v := u 119 (h 102 (a2 - 1).toNat).toNat) rfl ⟨by omega, by omega⟩ dgo_122 ?_
          have f1 := gC_reachMany gu (h 102 (a2 - 1).toNat).toNat
          refine ja_icmp_eq 133 dgo_123 rfl ⟨by omega, by omega⟩ ⟨by omega, by omega⟩ (fun c123 => ?_) (fun c123 => ?_)
          · have efl : (u 103 (a2 - 1).toNat) = (h 103 (a2 - 1).toNat) := ag 103 _ rfl
            have ghm := gC_heldMany g (h 102 (a2 - 1).toNat).toNat
            refine ja_aload_n dgo_133 rfl rfl ?_
            refine ja_iload_n dgo_134 rfl rfl ?_
            have g2 := gP_restRow gu (x := h 102 (a2 - 1).toNat) ⟨by omega, by omega⟩
            refine fp_restRow dgo_135 ?_
            refine ja_aload_n dgo_138 rfl rfl ?_
            refine ja_aload_n dgo_139 rfl rfl ?_
            refine fa_frameLevel dgo_140 ?_
            refine ja_iload_n dgo_143 rfl rfl ?_
            refine ja_iconst dgo_144 ?_
            refine ja_isub dgo_145 ?_
            refine il_frameLevel (v := u 103 (a2 - 1).toNat) rfl ⟨by omega, by omega⟩ dgo_146 ?_
            have f3 := gC_frameLevel gu (a2 - 1).toNat
            refine ja_iconst dgo_147 ?_
            refine ja_iadd dgo_148 ?_
            have g4 := gP_restLevel g2 (x := (u 103 (a2 - 1).toNat) + 1) ⟨by omega, by omega⟩
            refine fp_restLevel dgo_149 ?_
            refine ja_aload_n dgo_152 rfl rfl ?_
            refine ja_iconst dgo_153 ?_
            have g5 := gP_under g4 (x := 2) ⟨by decide, by decide⟩
            refine fp_under dgo_154 ?_
            refine ja_return dgo_157 rfl ?_
            exact k1 (ja_up (ja_up (ja_up u 0 190 (h 102 (a2 - 1).toNat)) 0 191 ((u 103 (a2 - 1).toNat) + 1)) 0 186 2) ((ex_go p1 p3 g5 (by (repeat (first | exact qv | refine vi_set (by decide) (by decide) (by decide) ?_ (by first | exact (fun z => absurd z (by decide)) | exact vi_aS qv (by decide) _ | exact qv.2 | exact (fun z => ⟨by omega, hca⟩) | exact (fun z => ⟨by omega, hca z⟩) | (intro z; exfalso; omega)) | refine vi_res ?_ (by first | exact (fun z => absurd z (by decide)) | exact vi_aS qv (by decide) _ | exact qv.2 | exact (fun z => ⟨by omega, hca⟩) | exact (fun z => ⟨by omega, hca z⟩) | (intro z; exfalso; omega)) | refine vi_arr (by decide) (by decide) ?_ | refine vi_up (by decide) (by decide) ?_ | refine vi_val (ck := 106) (by decide) (by decide) (by decide) ?_ ⟨by omega, by omega⟩))) (ag_trans (ag_sub (X_X (by decide) (by decide)) ag) (by (repeat (first | exact ag_refl | refine ag_up rfl ?_)))) (show (u 0 149) = (h 0 149) + pw_eff ((h 74 (w9).toNat)) ((h 75 (w9).toNat)) (pw_pop h ((h 75 (w9).toNat))) - 1 by rw [← p2]; omega) (by simp [ja_up]) (show ((u 103 (a2 - 1).toNat) + 1) = (h 103 (a2 - 1).toNat) + 1 by omega) (by simp [ja_up]))) g5
          · refine ja_aload_n dgo_126 rfl rfl ?_
            refine ja_bipush (-4) dgo_127 rfl ?_
            refine t_fails (by decide) (show (0 : Nat) ≤ 8 by decide) dgo_129 gu ⟨by decide, by decide⟩ ?_
            intro g6
            replace g6 : mo_G mo_zr (ja_up (ja_up (ja_up (ja_up u 0 186 1) 0 187 1) 0 188 1) 0 189 (-4)) := g6
            show mJ l D cA ad 2 cX12_go 6 none 132 [(0, (2, ((0 : Nat) : Int))), (2, (0, a2)), (3, (0, (h 102 (a2 - 1).toNat))), (4, (0, (a1 - 1))), (5, (0, x5))] [] (ja_up (ja_up (ja_up (ja_up u 0 186 1) 0 187 1) 0 188 1) 0 189 (-4)) Q
            refine ja_return dgo_132 rfl ?_
            exact k1 (ja_up (ja_up (ja_up (ja_up u 0 186 1) 0 187 1) 0 188 1) 0 189 (-4)) ((ex_next (wd := 1) p1 g6 (by (repeat (first | exact qv | refine vi_set (by decide) (by decide) (by decide) ?_ (by first | exact (fun z => absurd z (by decide)) | exact vi_aS qv (by decide) _ | exact qv.2 | exact (fun z => ⟨by omega, hca⟩) | exact (fun z => ⟨by omega, hca z⟩) | (intro z; exfalso; omega)) | refine vi_res ?_ (by first | exact (fun z => absurd z (by decide)) | exact vi_aS qv (by decide) _ | exact qv.2 | exact (fun z => ⟨by omega, hca⟩) | exact (fun z => ⟨by omega, hca z⟩) | (intro z; exfalso; omega)) | refine vi_arr (by decide) (by decide) ?_ | refine vi_up (by decide) (by decide) ?_ | refine vi_val (ck := 106) (by decide) (by decide) (by decide) ?_ ⟨by omega, by omega⟩))) ⟨by omega, by omega, by omega⟩ (ag_trans (ag_sub (X_X (by decide) (by decide)) ag) (by (repeat (first | exact ag_refl | refine ag_up rfl ?_)))) (fun j => ag _ _ rfl) (tw_1 (by simp [ja_up])) (Or.inr (by simp [ja_up])) (show (u 0 149) = (h 0 149) + pw_eff ((h 74 (w9).toNat)) ((h 75 (w9).toNat)) (pw_pop h ((h 75 (w9).toNat))) - 1 by rw [← p2]; omega) (Or.inl (ag 0 132 rfl)))) g6
        · refine ja_aload_n dgo_49 rfl rfl ?_
          refine fa_argKind dgo_50 ?_
          refine ja_iload dgo_53 rfl ?_
          refine ja_iload dgo_55 rfl ?_
          refine ja_iload dgo_57 rfl ?_
          refine ja_icmp_ge 77 dgo_59 rfl ⟨by omega, by omega⟩ ⟨by omega, by omega⟩ (fun c59 => ?_) (fun c59 => ?_)
          · refine ja_iconst dgo_77 ?_
            have g7 := gW_argKind gu (x5).toNat (x := 0) ⟨by decide, by decide⟩
            refine is_argKind ⟨by omega, by omega⟩ dgo_78 ?_
            refine ja_aload_n dgo_79 rfl rfl ?_
            refine fa_argValue dgo_80 ?_
            refine ja_iload dgo_83 rfl ?_
            refine ja_iload dgo_85 rfl ?_
            refine ja_iload dgo_87 rfl ?_
            refine ja_icmp_ge 107 dgo_89 rfl ⟨by omega, by omega⟩ ⟨by omega, by omega⟩ (fun c89 => ?_) (fun c89 => ?_)
            · refine ja_iconst dgo_107 ?_
              have g8 := gW_argValue g7 (x5).toNat (x := 0) ⟨by decide, by decide⟩
              refine is_argValue ⟨by omega, by omega⟩ dgo_108 ?_
              refine ja_iinc dgo_109 rfl (by decide) (L2 := [(5, (0, (x5 + 1))), (0, (2, ((0 : Nat) : Int))), (2, (0, a2)), (3, (0, (h 102 (a2 - 1).toNat))), (4, (0, (a1 - 1)))]) rfl ?_
              refine ja_goto 42 dgo_112 rfl ?_
              exact ja_wk (fun q hq => by simp only [List.mem_cons, List.not_mem_nil, or_false] at hq; rcases hq with rfl | rfl | rfl | rfl | rfl <;> rfl) ((ih (((20 : Int) - (x5 + 1)).toNat) (by omega)) (x5 + 1) (ja_up (ja_up u 128 ((x5).toNat) 0) 129 ((x5).toNat) 0) g8 ⟨by omega, by omega⟩ (⟨by omega, (ag_trans ag (by (repeat (first | exact ag_refl | refine ag_up rfl ?_)))), (show (u 0 149) = (h 0 149) - (a1 - 1) by omega), (by (repeat (first | exact qv | refine vi_set (by decide) (by decide) (by decide) ?_ (by first | exact (fun z => absurd z (by decide)) | exact vi_aS qv (by decide) _ | exact qv.2 | exact (fun z => ⟨by omega, hca⟩) | exact (fun z => ⟨by omega, hca z⟩) | (intro z; exfalso; omega)) | refine vi_res ?_ (by first | exact (fun z => absurd z (by decide)) | exact vi_aS qv (by decide) _ | exact qv.2 | exact (fun z => ⟨by omega, hca⟩) | exact (fun z => ⟨by omega, hca z⟩) | (intro z; exfalso; omega)) | refine vi_arr (by decide) (by decide) ?_ | refine vi_up (by decide) (by decide) ?_ | refine vi_val (ck := 106) (by decide) (by decide) (by decide) ?_ ⟨by omega, by omega⟩)))⟩) rfl)
            · refine ja_aload_n dgo_92 rfl rfl ?_
              refine fa_pileValue dgo_93 ?_
              refine ja_aload_n dgo_96 rfl rfl ?_
              refine fg_pile (v := u 0 149) rfl dgo_97 ?_
              have f9 := gF_pile gu
              refine ja_iload dgo_100 rfl ?_
              refine ja_iadd dgo_102 ?_
              refine il_pileValue (v := u 95 ((u 0 149) + x5).toNat) rfl ⟨by omega, by omega⟩ dgo_103 ?_
              have f10 := gC_pileValue gu ((u 0 149) + x5).toNat
              refine ja_goto 108 dgo_104 rfl ?_
              have g11 := gW_argValue g7 (x5).toNat (x := u 95 ((u 0 149) + x5).toNat) ⟨by omega, by omega⟩
              refine is_argValue ⟨by omega, by omega⟩ dgo_108 ?_
              refine ja_iinc dgo_109 rfl (by decide) (L2 := [(5, (0, (x5 + 1))), (0, (2, ((0 : Nat) : Int))), (2, (0, a2)), (3, (0, (h 102 (a2 - 1).toNat))), (4, (0, (a1 - 1)))]) rfl ?_
              refine ja_goto 42 dgo_112 rfl ?_
              exact ja_wk (fun q hq => by simp only [List.mem_cons, List.not_mem_nil, or_false] at hq; rcases hq with rfl | rfl | rfl | rfl | rfl <;> rfl) ((ih (((20 : Int) - (x5 + 1)).toNat) (by omega)) (x5 + 1) (ja_up (ja_up u 128 ((x5).toNat) 0) 129 ((x5).toNat) (u 95 ((u 0 149) + x5).toNat)) g11 ⟨by omega, by omega⟩ (⟨by omega, (ag_trans ag (by (repeat (first | exact ag_refl | refine ag_up rfl ?_)))), (show (u 0 149) = (h 0 149) - (a1 - 1) by omega), (by (repeat (first | exact qv | refine vi_set (by decide) (by decide) (by decide) ?_ (by first | exact (fun z => absurd z (by decide)) | exact vi_aS qv (by decide) _ | exact qv.2 | exact (fun z => ⟨by omega, hca⟩) | exact (fun z => ⟨by omega, hca z⟩) | (intro z; exfalso; omega)) | refine vi_res ?_ (by first | exact (fun z => absurd z (by decide)) | exact vi_aS qv (by decide) _ | exact qv.2 | exact (fun z => ⟨by omega, hca⟩) | exact (fun z => ⟨by omega, hca z⟩) | (intro z; exfalso; omega)) | refine vi_arr (by decide) (by decide) ?_ | refine vi_up (by decide) (by decide) ?_ | refine vi_val (ck := 106) (by decide) (by decide) (by decide) ?_ ⟨by omega, by omega⟩)))⟩) rfl)
          · refine ja_aload_n dgo_62 rfl rfl ?_
            refine fa_pileKind dgo_63 ?_
            refine ja_aload_n dgo_66 rfl rfl ?_
            refine fg_pile (v := u 0 149) rfl dgo_67 ?_
            have f12 := gF_pile gu
            refine ja_iload dgo_70 rfl ?_
            refine ja_iadd dgo_72 ?_
            refine il_pileKind (v := u 94 ((u 0 149) + x5).toNat) rfl ⟨by omega, by omega⟩ dgo_73 ?_
            have f13 := gC_pileKind gu ((u 0 149) + x5).toNat
            refine ja_goto 78 dgo_74 rfl ?_
            have g14 := gW_argKind gu (x5).toNat (x := u 94 ((u 0 149) + x5).toNat) ⟨by omega, by omega⟩
            refine is_argKind ⟨by omega, by omega⟩ dgo_78 ?_
            refine ja_aload_n dgo_79 rfl rfl ?_
            refine fa_argValue dgo_80 ?_
            refine ja_iload dgo_83 rfl ?_
            refine ja_iload dgo_85 rfl ?_
            refine ja_iload dgo_87 rfl ?_
            refine ja_icmp_ge 107 dgo_89 rfl ⟨by omega, by omega⟩ ⟨by omega, by omega⟩ (fun c89 => ?_) (fun c89 => ?_)
            · refine ja_iconst dgo_107 ?_
              have g15 := gW_argValue g14 (x5).toNat (x := 0) ⟨by decide, by decide⟩
              refine is_argValue ⟨by omega, by omega⟩ dgo_108 ?_
              refine ja_iinc dgo_109 rfl (by decide) (L2 := [(5, (0, (x5 + 1))), (0, (2, ((0 : Nat) : Int))), (2, (0, a2)), (3, (0, (h 102 (a2 - 1).toNat))), (4, (0, (a1 - 1)))]) rfl ?_
              refine ja_goto 42 dgo_112 rfl ?_
              exact ja_wk (fun q hq => by simp only [List.mem_cons, List.not_mem_nil, or_false] at hq; rcases hq with rfl | rfl | rfl | rfl | rfl <;> rfl) ((ih (((20 : Int) - (x5 + 1)).toNat) (by omega)) (x5 + 1) (ja_up (ja_up u 128 ((x5).toNat) (u 94 ((u 0 149) + x5).toNat)) 129 ((x5).toNat) 0) g15 ⟨by omega, by omega⟩ (⟨by omega, (ag_trans ag (by (repeat (first | exact ag_refl | refine ag_up rfl ?_)))), (show (u 0 149) = (h 0 149) - (a1 - 1) by omega), (by (repeat (first | exact qv | refine vi_set (by decide) (by decide) (by decide) ?_ (by first | exact (fun z => absurd z (by decide)) | exact vi_aS qv (by decide) _ | exact qv.2 | exact (fun z => ⟨by omega, hca⟩) | exact (fun z => ⟨by omega, hca z⟩) | (intro z; exfalso; omega)) | refine vi_res ?_ (by first | exact (fun z => absurd z (by decide)) | exact vi_aS qv (by decide) _ | exact qv.2 | exact (fun z => ⟨by omega, hca⟩) | exact (fun z => ⟨by omega, hca z⟩) | (intro z; exfalso; omega)) | refine vi_arr (by decide) (by decide) ?_ | refine vi_up (by decide) (by decide) ?_ | refine vi_val (ck := 106) (by decide) (by decide) (by decide) ?_ ⟨by omega, by omega⟩)))⟩) rfl)
            · refine ja_aload_n dgo_92 rfl rfl ?_
              refine fa_pileValue dgo_93 ?_
              refine ja_aload_n dgo_96 rfl rfl ?_
              refine fg_pile (v := u 0 149) rfl dgo_97 ?_
              refine ja_iload dgo_100 rfl ?_
              refine ja_iadd dgo_102 ?_
              refine il_pileValue (v := u 95 ((u 0 149) + x5).toNat) rfl ⟨by omega, by omega⟩ dgo_103 ?_
              have f16 := gC_pileValue gu ((u 0 149) + x5).toNat
              refine ja_goto 108 dgo_104 rfl ?_
              have g17 := gW_argValue g14 (x5).toNat (x := u 95 ((u 0 149) + x5).toNat) ⟨by omega, by omega⟩
              refine is_argValue ⟨by omega, by omega⟩ dgo_108 ?_
              refine ja_iinc dgo_109 rfl (by decide) (L2 := [(5, (0, (x5 + 1))), (0, (2, ((0 : Nat) : Int))), (2, (0, a2)), (3, (0, (h 102 (a2 - 1).toNat))), (4, (0, (a1 - 1)))]) rfl ?_
              refine ja_goto 42 dgo_112 rfl ?_
              exact ja_wk (fun q hq => by simp only [List.mem_cons, List.not_mem_nil, or_false] at hq; rcases hq with rfl | rfl | rfl | rfl | rfl <;> rfl) ((ih (((20 : Int) - (x5 + 1)).toNat) (by omega)) (x5 + 1) (ja_up (ja_up u 128 ((x5).toNat) (u 94 ((u 0 149) + x5).toNat)) 129 ((x5).toNat) (u 95 ((u 0 149) + x5).toNat)) g17 ⟨by omega, by omega⟩ (⟨by omega, (ag_trans ag (by (repeat (first | exact ag_refl | refine ag_up rfl ?_)))), (show (u 0 149) = (h 0 149) - (a1 - 1) by omega), (by (repeat (first | exact qv | refine vi_set (by decide) (by decide) (by decide) ?_ (by first | exact (fun z => absurd z (by decide)) | exact vi_aS qv (by decide) _ | exact qv.2 | exact (fun z => ⟨by omega, hca⟩) | exact (fun z => ⟨by omega, hca z⟩) | (intro z; exfalso; omega)) | refine vi_res ?_ (by first | exact (fun z => absurd z (by decide)) | exact vi_aS qv (by decide) _ | exact qv.2 | exact (fun z => ⟨by omega, hca⟩) | exact (fun z => ⟨by omega, hca z⟩) | (intro z; exfalso; omega)) | refine vi_arr (by decide) (by decide) ?_ | refine vi_up (by decide) (by decide) ?_ | refine vi_val (ck := 106) (by decide) (by decide) (by decide) ?_ ⟨by omega, by omega⟩)))⟩) rfl)
  refine ja_aload_n dgo_0 rfl rfl ?_
  refine fa_frameRow dgo_1 ?_
  refine ja_iload_n dgo_4 rfl rfl ?_
  refine ja_iconst dgo_5 ?_
  refine ja_isub dgo_6 ?_
  refine il_frameRow (v := h 102 (a2 - 1).toNat) rfl ⟨by omega, by omega⟩ dgo_7 ?_
  have f18 := gC_frameRow g (a2 - 1).toNat
  refine ja_istore_n dgo_8 rfl (by decide) (L2 := [(3, (0, (h 102 (a2 - 1).toNat))), (0, (2, ((0 : Nat) : Int))), (1, (0, a1)), (2, (0, a2))]) rfl ?_
  refine ja_iload_n dgo_9 rfl rfl ?_
  refine ja_iconst dgo_10 ?_
  refine ja_isub dgo_11 ?_
  refine ja_istore dgo_12 (by decide) (L2 := [(4, (0, (a1 - 1))), (3, (0, (h 102 (a2 - 1).toNat))), (0, (2, ((0 : Nat) : Int))), (1, (0, a1)), (2, (0, a2))]) rfl ?_
  refine ja_iload_n dgo_14 rfl rfl ?_
  refine ja_if_ne 28 dgo_15 rfl ⟨by omega, by omega⟩ (fun c15 => ?_) (fun c15 => ?_)
  · refine ja_aload_n dgo_28 rfl rfl ?_
    refine ja_aload_n dgo_29 rfl rfl ?_
    refine fg_pile (v := h 0 149) rfl dgo_30 ?_
    have f19 := gF_pile g
    refine ja_iload dgo_33 rfl ?_
    refine ja_isub dgo_35 ?_
    have g20 := gP_pile g (x := (h 0 149) - (a1 - 1)) ⟨by omega, by omega⟩
    refine fp_pile dgo_36 ?_
    refine ja_iconst dgo_39 ?_
    refine ja_istore dgo_40 (by decide) (L2 := [(5, (0, 0)), (4, (0, (a1 - 1))), (3, (0, (h 102 (a2 - 1).toNat))), (0, (2, ((0 : Nat) : Int))), (1, (0, a1)), (2, (0, a2))]) rfl ?_
    exact ja_wk (fun q hq => by simp only [List.mem_cons, List.not_mem_nil, or_false] at hq; rcases hq with rfl | rfl | rfl | rfl | rfl <;> rfl) ((CUT _) 0 (ja_up h 0 149 ((h 0 149) - (a1 - 1))) g20 ⟨by decide, by decide⟩ (⟨by omega, (by (repeat (first | exact ag_refl | refine ag_up rfl ?_))), (show ((h 0 149) - (a1 - 1)) = (h 0 149) - (a1 - 1) by omega), (by (repeat (first | exact qv | refine vi_set (by decide) (by decide) (by decide) ?_ (by first | exact (fun z => absurd z (by decide)) | exact vi_aS qv (by decide) _ | exact qv.2 | exact (fun z => ⟨by omega, hca⟩) | exact (fun z => ⟨by omega, hca z⟩) | (intro z; exfalso; omega)) | refine vi_res ?_ (by first | exact (fun z => absurd z (by decide)) | exact vi_aS qv (by decide) _ | exact qv.2 | exact (fun z => ⟨by omega, hca⟩) | exact (fun z => ⟨by omega, hca z⟩) | (intro z; exfalso; omega)) | refine vi_arr (by decide) (by decide) ?_ | refine vi_up (by decide) (by decide) ?_ | refine vi_val (ck := 106) (by decide) (by decide) (by decide) ?_ ⟨by omega, by omega⟩)))⟩) rfl)
  · refine ja_aload_n dgo_18 rfl rfl ?_
    refine ja_iload_n dgo_19 rfl rfl ?_
    refine ja_iconst dgo_20 ?_
    refine ja_isub dgo_21 ?_
    refine t_takeArgs (by decide) (show (0 : Nat) ≤ 8 by decide) dgo_22 g ⟨by omega, by omega⟩ (show 0 ≤ (a2 - 1) ∧ (a2 - 1) ≤ 2999 by omega) (qv) ?_
    intro h21 k22_0 g22
    refine ja_goto 133 dgo_25 rfl ?_
    have efl : (h21 103 (a2 - 1).toNat) = (h 103 (a2 - 1).toNat) := k22_0.1 103 _ rfl
    have ghm := gC_heldMany g (h 102 (a2 - 1).toNat).toNat
    refine ja_aload_n dgo_133 rfl rfl ?_
    refine ja_iload_n dgo_134 rfl rfl ?_
    have g23 := gP_restRow g22 (x := h 102 (a2 - 1).toNat) ⟨by omega, by omega⟩
    refine fp_restRow dgo_135 ?_
    refine ja_aload_n dgo_138 rfl rfl ?_
    refine ja_aload_n dgo_139 rfl rfl ?_
    refine fa_frameLevel dgo_140 ?_
    refine ja_iload_n dgo_143 rfl rfl ?_
    refine ja_iconst dgo_144 ?_
    refine ja_isub dgo_145 ?_
    refine il_frameLevel (v := h21 103 (a2 - 1).toNat) rfl ⟨by omega, by omega⟩ dgo_146 ?_
    have f24 := gC_frameLevel g22 (a2 - 1).toNat
    refine ja_iconst dgo_147 ?_
    refine ja_iadd dgo_148 ?_
    have g25 := gP_restLevel g23 (x := (h21 103 (a2 - 1).toNat) + 1) ⟨by omega, by omega⟩
    refine fp_restLevel dgo_149 ?_
    refine ja_aload_n dgo_152 rfl rfl ?_
    refine ja_iconst dgo_153 ?_
    have g26 := gP_under g25 (x := 2) ⟨by decide, by decide⟩
    refine fp_under dgo_154 ?_
    refine ja_return dgo_157 rfl ?_
    exact k1 (ja_up (ja_up (ja_up h21 0 190 (h 102 (a2 - 1).toNat)) 0 191 ((h21 103 (a2 - 1).toNat) + 1)) 0 186 2) ((ex_go p1 p3 g26 (by have qv := k22_0.2; exact (by (repeat (first | exact qv | refine vi_set (by decide) (by decide) (by decide) ?_ (by first | exact (fun z => absurd z (by decide)) | exact vi_aS qv (by decide) _ | exact qv.2 | exact (fun z => ⟨by omega, hca⟩) | exact (fun z => ⟨by omega, hca z⟩) | (intro z; exfalso; omega)) | refine vi_res ?_ (by first | exact (fun z => absurd z (by decide)) | exact vi_aS qv (by decide) _ | exact qv.2 | exact (fun z => ⟨by omega, hca⟩) | exact (fun z => ⟨by omega, hca z⟩) | (intro z; exfalso; omega)) | refine vi_arr (by decide) (by decide) ?_ | refine vi_up (by decide) (by decide) ?_ | refine vi_val (ck := 106) (by decide) (by decide) (by decide) ?_ ⟨by omega, by omega⟩)))) (ag_trans (ag_sub (X_X (by decide) (by decide)) k22_0.1) (by (repeat (first | exact ag_refl | refine ag_up rfl ?_)))) (show (h21 0 149) = (h 0 149) + pw_eff ((h 74 (w9).toNat)) ((h 75 (w9).toNat)) (pw_pop h ((h 75 (w9).toNat))) - 1 by have := k22_0.1 0 149 rfl; rw [← p2]; omega) (by simp [ja_up]) (show ((h21 103 (a2 - 1).toNat) + 1) = (h 103 (a2 - 1).toNat) + 1 by omega) (by simp [ja_up]))) g26
theorem t_go {a1 a2 : Int} {h9 : ja_H} {ht st rg : Nat → Int} {w9 : Int} {d nL pc : Nat} {cc : ByteArray} {rt : Option FieldType} {L : List (Nat × ja_V)} {S : List ja_V} {h : ja_H} {Q : Option ja_V → ja_H → Prop} (hdd : 2 < d) (hwd : ja_wd S ≤ 8) (hd : decode cc pc = .ok (.invokevirtual 1117, 3)) (g : mo_G mo_zr h) (r1 : -2147483648 ≤ a1 ∧ a1 ≤ 2147483647) (r2 : -2147483648 ≤ a2 ∧ a2 ≤ 2147483647) (p1 : EX h9 h ht st rg w9 a2) (p2 : a1 = (h 75 (w9).toNat)) (p3 : (h 74 (w9).toNat) = 16) (k1 : ∀ (h' : ja_H), (RO h9 h' ht st rg) → mo_G mo_zr h' → mJ l D cA ad d cc nL rt (pc + 3) L S h' Q) : mJ l D cA ad d cc nL rt pc L ((0, a2) :: (0, a1) :: (2, ((0 : Nat) : Int)) :: S) h Q :=
  mc_go hdd hwd hd (s_go g r1 r2 p1 p2 p3 k1)
end
