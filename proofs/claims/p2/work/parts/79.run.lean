/-! the reference: frames come, frames go -/
def FRC : Nat → Nat → Bool := mo_F [113, 150, 149, 168, 165, 144, 172, 88, 44, 132, 130] [52, 96, 97, 99, 100, 101, 107, 102, 103, 113, 112, 115, 123, 124, 116, 12]
theorem rc_ext {h u : ja_H} {ht st rg : Nat → Int} {w : Int} (g : mo_G mo_zr h) (ag : mo_ag FRC h u) (q : RC h ht st rg w) : RC u ht st rg w := by
  obtain ⟨⟨q1, q2⟩, ⟨q3, q4⟩, q5, q6, q7⟩ := q
  have n1 : (u 0 150) = (h 0 150) := ag _ _ rfl
  have n2 : (u 0 149) = (h 0 149) := ag _ _ rfl
  have n3 : (u 0 113) = (h 0 113) := ag _ _ rfl
  have n4 : (u 0 168) = (h 0 168) := ag _ _ rfl
  have n5 : (u 0 165) = (h 0 165) := ag _ _ rfl
  have n6 : (u 0 144) = (h 0 144) := ag _ _ rfl
  have n7 : (u 0 172) = (h 0 172) := ag _ _ rfl
  have n8 : (u 0 88) = (h 0 88) := ag _ _ rfl
  have n9 : (u 0 44) = (h 0 44) := ag _ _ rfl
  have n10 : (u 0 132) = (h 0 132) := ag _ _ rfl
  have n11 : (u 0 130) = (h 0 130) := ag _ _ rfl
  have k2 : (u 115) = (h 115) := funext fun j => ag _ _ rfl
  have k3 : (u 123) = (h 123) := funext fun j => ag _ _ rfl
  have k4 : (u 124) = (h 124) := funext fun j => ag _ _ rfl
  have fa : fAg h u ((h 0 150)).toNat := fun j _ => ⟨ag _ _ rfl, ag _ _ rfl, ag _ _ rfl, ag _ _ rfl, ag _ _ rfl, ag _ _ rfl, ag _ _ rfl, ag _ _ rfl⟩
  have hca : caN h → caN u := caN_e (ag _ _ rfl)
  have f := ft_ext g n3 hca fa ⟨funext fun j => ag _ _ rfl, fun r _ => ⟨ag _ _ rfl, ag _ _ rfl⟩⟩ (fun k _ => ⟨ag _ _ rfl, ag _ _ rfl⟩) q2
  have rI := rwI_e q6 (by omega) n8 n9 (funext fun j => ag _ _ rfl) (fun r _ => ⟨ag _ _ rfl, ag _ _ rfl, ag _ _ rfl⟩) k4 hca
  unfold RC
  rw [n1, n2, n4, n5, n6, n7, n10, n11, fB_ext fa, fR_ext fa, fT_ext fa]
  exact ⟨⟨q1, f⟩, ⟨q3, q4⟩, q5, rI, q7⟩
/-- digits below stay -/
def dAg (h u : ja_H) (k : Nat) : Prop := (u 74) = (h 74) ∧ ∀ j : Nat, j < k → (u 96) j = (h 96) j ∧ (u 97) j = (h 97) j ∧ (u 103) j = (h 103) j ∧ (u 104) j = (h 104) j
theorem rX_low {h u : ja_H} {st rg : Nat → Int} {k : Nat} (d : dAg h u k) (h1 : (k : Int) ≤ (h 0 150)) (h2 : (k : Int) ≤ (u 0 150)) : ∀ j : Nat, j < k → rX u st rg j = rX h st rg j := fun j hj => by
  obtain ⟨d1, d2⟩ := d
  obtain ⟨a1, a2, a3, a4⟩ := d2 j hj
  unfold rX
  rw [if_pos (by omega), if_pos (by omega)]
  unfold fD
  rw [a1, a2, a3, a4, d1]
theorem rX_at {h : ja_H} {st rg : Nat → Int} {k : Nat} (e : (k : Int) = (h 0 150)) : rX h st rg k = pD h := by
  unfold rX; rw [if_neg (by omega), if_pos e]
theorem rX_in {h : ja_H} {st rg : Nat → Int} {k : Nat} (e : (k : Int) < (h 0 150)) : rX h st rg k = fD h st rg k := by
  unfold rX; rw [if_pos e]
theorem rV_fall {h u : ja_H} {ht st rg : Nat → Int} {k : Nat} (gu : mo_G mo_zr u) (cu : CI u ht st rg) (qu : RI u ht st rg) (d : dAg h u k) (h1 : (k : Int) ≤ (h 0 150)) (h2 : (k : Int) ≤ (u 0 150)) (h3 : (h 0 150) ≤ 3000) (l : rX u st rg k < rX h st rg k) : rV u st rg < rV h st rg :=
  rV_lt gu cu qu (by omega) (rX_low d h1 h2) l
/-- another frame is pushed -/
def FPN : Nat → Nat → Bool := mo_F [113, 149, 168, 165, 144, 88, 44, 132, 130] [52, 113, 112, 12]
theorem rc_pushn {h u : ja_H} {ht st rg : Nat → Int} (g : mo_G mo_zr h) (q : RC h ht st rg 1) (ag : mo_ag FPN h u) (ef : (u 0 150) = (h 0 150) + 1) (fa : fAg h u ((h 0 150)).toNat) (ra : rAg h u (h 0 172)) (t3 : 3 ≤ (u 96) ((h 0 150)).toNat) (er : (u 0 172) = (h 0 172) + (if (u 96) ((h 0 150)).toNat = 3 then 1 else 0)) (c3 : (u 96) ((h 0 150)).toNat = 3 → (u 102) ((h 0 150)).toNat = (h 0 172))
    (c4 : (u 96) ((h 0 150)).toNat = 4 → (u 102) ((h 0 150)).toNat < (h 0 172) ∧ (u 103) ((h 0 150)).toNat < (u 123) ((u 102) ((h 0 150)).toNat).toNat) (c5 : (u 96) ((h 0 150)).toNat = 5 → (0 ≤ (u 107) ((h 0 150)).toNat ∧ (u 107) ((h 0 150)).toNat ≤ 200) ∧ caN u) (hp : pot u ((h 0 150)).toNat < pot h ((h 0 150) - 1).toNat) (hr : rpot u ((h 0 150)).toNat + (if (u 96) ((h 0 150)).toNat = 3 then 1 else 0) ≤ rpot h ((h 0 150) - 1).toNat) (rw' : rwI u) : RC u ht st rg 1 := by
  obtain ⟨⟨q1, q2⟩, ⟨q3, q4⟩, q5, q6, q7⟩ := q
  have n2 : (u 0 149) = (h 0 149) := ag _ _ rfl
  have n3 : (u 0 113) = (h 0 113) := ag _ _ rfl
  have n4 : (u 0 168) = (h 0 168) := ag _ _ rfl
  have n5 : (u 0 165) = (h 0 165) := ag _ _ rfl
  have n6 : (u 0 144) = (h 0 144) := ag _ _ rfl
  have n10 : (u 0 132) = (h 0 132) := ag _ _ rfl
  have n11 : (u 0 130) = (h 0 130) := ag _ _ rfl
  have e : ((u 0 150)).toNat = ((h 0 150)).toNat + 1 := by omega
  have eR := fR_ext fa
  have f := ft_ext g n3 (caN_e (ag _ _ rfl)) fa (by rw [← q5]; exact ra) (fun k _ => ⟨ag _ _ rfl, ag _ _ rfl⟩) q2
  have em : ((h 0 150)).toNat = ((h 0 150) - 1).toNat + 1 := by omega
  have e1 : fB u (((h 0 150)).toNat + 1) = fB u ((h 0 150)).toNat + isB u ((h 0 150)).toNat := rfl
  have e2 : fR u (((h 0 150)).toNat + 1) = fR u ((h 0 150)).toNat + (if (u 96) ((h 0 150)).toNat = 3 then 1 else 0) := rfl
  have e3 : fT u st (((h 0 150)).toNat + 1) = fT u st ((h 0 150)).toNat + (if (u 96) ((h 0 150)).toNat ≤ 2 then st ((u 97) ((h 0 150)).toNat).toNat else 0) := rfl
  have e4 : isB u ((h 0 150)).toNat = 0 := by unfold isB; rw [if_neg (by omega)]
  have P : pot u ((h 0 150) - 1).toNat = pot h ((h 0 150) - 1).toNat ∧ rpot u ((h 0 150) - 1).toNat = rpot h ((h 0 150) - 1).toNat := by
    rw [em] at q2 fa
    have r2 : fR h (((h 0 150) - 1).toNat + 1) = (h 0 172) := by rw [← em]; exact q5.symm
    exact pot_ext fa ra (fun z => by have := ft_row g q2 z; rw [r2] at this; exact this) (gC_frameType g _).2
  unfold RC
  rw [e, n2, n4, n5, n6, n10, n11, e1, e2, e3, e4, fB_ext fa, eR, fT_ext fa, if_neg (show ¬ (u 96) ((h 0 150)).toNat ≤ 2 by omega)]
  refine ⟨⟨by omega, Or.inr ⟨t3, rfl, ?_, f⟩⟩, ⟨by omega, q4⟩, by rw [er, q5], rw', by omega⟩
  have em1 : ((h 0 150)).toNat - 1 = ((h 0 150) - 1).toNat := by omega
  unfold nbK
  rw [em1, P.1, P.2, eR, ← q5]
  exact ⟨by omega, c3, c4, c5, hp, hr⟩
/-- a body is pushed -/
def FPH : Nat → Nat → Bool := mo_X [150, 165, 144, 186, 135] [96, 97, 98, 99, 100, 101, 107, 110, 111, 87, 88]
def bdP (h u : ja_H) (t pc : Int) : Prop := mo_ag FPH h u ∧ (∀ j : Nat, j ≠ ((h 0 150)).toNat → (u 96) j = (h 96) j ∧ (u 97) j = (h 97) j ∧ (u 99) j = (h 99) j ∧ (u 100) j = (h 100) j ∧ (u 101) j = (h 101) j ∧ (u 107) j = (h 107) j) ∧ ((u 0 150) = (h 0 150) + 1 ∧ (u 0 165) = (h 0 165) + 10 ∧ (u 0 144) = (h 0 144) + 1) ∧
  ((u 96) ((h 0 150)).toNat = t ∧ (u 97) ((h 0 150)).toNat = pc ∧ (u 99) ((h 0 150)).toNat = (h 0 149) ∧ (u 100) ((h 0 150)).toNat = (h 0 168) ∧ (u 101) ((h 0 150)).toNat = (h 0 165)) ∧ (t = 2 → 0 ≤ (u 107) ((h 0 150)).toNat ∧ (u 107) ((h 0 150)).toNat ≤ 200)
theorem bd_fAg {h u : ja_H} {t pc : Int} (b : bdP h u t pc) : fAg h u ((h 0 150)).toNat := fun j hj => by
  obtain ⟨ag, N, -⟩ := b
  obtain ⟨a1, a2, a3, a4, a5, a6⟩ := N j (by omega)
  exact ⟨a1, a2, a3, a4, a5, a6, ag _ _ rfl, ag _ _ rfl⟩
theorem bd_dAg {h u : ja_H} {t pc : Int} (b : bdP h u t pc) : dAg h u ((h 0 150)).toNat := by
  obtain ⟨ag, N, -⟩ := b
  refine ⟨funext fun j => ag _ _ rfl, fun j hj => ?_⟩
  obtain ⟨a1, a2, -⟩ := N j (by omega)
  exact ⟨a1, a2, ag _ _ rfl, ag _ _ rfl⟩
theorem rc_pushb {h u : ja_H} {ht st rg : Nat → Int} {t pc : Int} (g : mo_G mo_zr h) (q : RC h ht st rg 1) (b : bdP h u t pc) (hb : (h 0 144) ≤ 39) (hpc : (0 ≤ pc ∧ pc < (h 0 113)) ∧ ht pc.toNat = 0 ∧ st pc.toNat = 0) (ht' : (t = 1 ∧ rg pc.toNat = 1 ∧ caN h) ∨ (t = 2 ∧ (rg pc.toNat = 2 ∨ rg pc.toNat = 3) ∧ (h 96) ((h 0 150) - 1).toNat = 4)) : RC u ht st rg 0 := by
  have fa := bd_fAg b
  obtain ⟨ag, N, ⟨m1, m2, m3⟩, ⟨b1, b2, b3, b4, b5⟩, b6⟩ := b
  obtain ⟨⟨q1, q2⟩, ⟨q3, q4⟩, q5, q6, q7⟩ := q
  obtain ⟨p1, p2, p3⟩ := hpc
  have n2 : (u 0 149) = (h 0 149) := ag _ _ rfl
  have n3 : (u 0 113) = (h 0 113) := ag _ _ rfl
  have n4 : (u 0 168) = (h 0 168) := ag _ _ rfl
  have n7 : (u 0 172) = (h 0 172) := ag _ _ rfl
  have n8 : (u 0 88) = (h 0 88) := ag _ _ rfl
  have n9 : (u 0 44) = (h 0 44) := ag _ _ rfl
  have n10 : (u 0 132) = (h 0 132) := ag _ _ rfl
  have n11 : (u 0 130) = (h 0 130) := ag _ _ rfl
  have k2 : (u 115) = (h 115) := funext fun j => ag _ _ rfl
  have k3 : (u 123) = (h 123) := funext fun j => ag _ _ rfl
  have k4 : (u 124) = (h 124) := funext fun j => ag _ _ rfl
  have e : ((u 0 150)).toNat = ((h 0 150)).toNat + 1 := by omega
  have hca : caN h → caN u := caN_e (ag _ _ rfl)
  have rI := rwI_e q6 (by omega) n8 n9 (funext fun j => ag _ _ rfl) (fun r _ => ⟨ag _ _ rfl, ag _ _ rfl, ag _ _ rfl⟩) k4 hca
  have f := ft_ext g n3 hca fa ⟨funext fun j => ag _ _ rfl, fun r _ => ⟨ag _ _ rfl, ag _ _ rfl⟩⟩ (fun k _ => ⟨ag _ _ rfl, ag _ _ rfl⟩) q2
  have e1 : fB u (((h 0 150)).toNat + 1) = fB u ((h 0 150)).toNat + isB u ((h 0 150)).toNat := rfl
  have e2 : fR u (((h 0 150)).toNat + 1) = fR u ((h 0 150)).toNat + (if (u 96) ((h 0 150)).toNat = 3 then 1 else 0) := rfl
  have e3 : fT u st (((h 0 150)).toNat + 1) = fT u st ((h 0 150)).toNat + (if (u 96) ((h 0 150)).toNat ≤ 2 then st ((u 97) ((h 0 150)).toNat).toNat else 0) := rfl
  have t2 : (u 96) ((h 0 150)).toNat ≤ 2 := by rw [b1]; omega
  have e4 : isB u ((h 0 150)).toNat = 1 := by unfold isB; rw [if_pos t2]
  have r8 : rg pc.toNat / 8 = 0 ∧ rg pc.toNat % 8 = rg pc.toNat ∧ 0 ≤ rg pc.toNat := by omega
  have a0 : (u 96) (((h 0 150)).toNat - 1) = (h 96) ((h 0 150) - 1).toNat := by
    have em1 : ((h 0 150)).toNat - 1 = ((h 0 150) - 1).toNat := by omega
    rw [em1]; exact (N _ (by omega)).1
  unfold RC
  rw [e, m2, m3, n2, n4, n7, n10, n11, e1, e2, e3, e4, fB_ext fa, fR_ext fa, fT_ext fa, if_pos t2, if_neg (show ¬ (u 96) ((h 0 150)).toNat = 3 by omega), b2, p3]
  refine ⟨⟨by omega, Or.inl ⟨t2, ?_, by rw [b3, b4, b5]; exact f⟩⟩, ⟨by omega, by omega⟩, by omega, rI, by omega⟩
  unfold bdK
  rw [b1, b2, b3, b4, b5, n3, a0, p2, r8.1, r8.2.1]
  refine ⟨p1, by omega, ⟨r8.2.2, by omega⟩, rfl, ?_, fun k z1 z2 => by omega⟩
  rcases ht' with ⟨z1, z2, z4⟩ | ⟨z1, z2, z3⟩
  · exact Or.inr (Or.inl ⟨z1, by omega, z2, hca z4⟩)
  · exact Or.inr (Or.inr ⟨z1, by omega, z2, b6 z1, z3⟩)
/-- another frame goes -/
def FPO : Nat → Nat → Bool := mo_F [113, 149, 168, 165, 144, 88, 44, 132, 130] [52, 96, 97, 99, 100, 101, 107, 102, 103, 113, 112, 115, 123, 124, 116, 12]
theorem pot_all {h u : ja_H} (ag : mo_ag (mo_F [] [52, 96, 102, 103, 115]) h u) : pot u = pot h ∧ rpot u = rpot h ∧ rwX u = rwX h ∧ rwY u = rwY h := by
  have f1 : (u 52) = (h 52) := funext fun j => ag _ _ rfl
  have f2 : (u 96) = (h 96) := funext fun j => ag _ _ rfl
  have f3 : (u 102) = (h 102) := funext fun j => ag _ _ rfl
  have f4 : (u 103) = (h 103) := funext fun j => ag _ _ rfl
  have f5 : (u 115) = (h 115) := funext fun j => ag _ _ rfl
  have x1 : rwX u = rwX h := by funext r; unfold rwX; rw [f1, f5]
  have x2 : rwY u = rwY h := by funext r; unfold rwY; rw [f1, f5]
  refine ⟨?_, ?_, x1, x2⟩
  · funext n; unfold pot; rw [f2, f3, f4, x1]
  · funext n; unfold rpot; rw [f2, f3, x2]
theorem rc_popn {h u : ja_H} {ht st rg : Nat → Int} {w : Int} (g : mo_G mo_zr h) (q : RC h ht st rg w) (ag : mo_ag FPO h u) (t3 : 3 ≤ (h 96) ((h 0 150) - 1).toNat) (ef : (u 0 150) = (h 0 150) - 1) (er : (u 0 172) = (h 0 172) - (if (h 96) ((h 0 150) - 1).toNat = 3 then 1 else 0)) : RC u ht st rg 1 ∧ 2 ≤ (h 0 150) ∧ nbK h ((h 0 150) - 1).toNat ∧ fR h ((h 0 150) - 1).toNat = (u 0 172) := by
  obtain ⟨⟨q1, q2⟩, ⟨q3, q4⟩, q5, q6, q7⟩ := q
  have em : ((h 0 150)).toNat = ((h 0 150) - 1).toNat + 1 := by omega
  rw [em] at q2 q3 q5 q7
  rcases q2 with ⟨z, -⟩ | ⟨-, z1, K, f0⟩
  · omega
  have n2 : (u 0 149) = (h 0 149) := ag _ _ rfl
  have n3 : (u 0 113) = (h 0 113) := ag _ _ rfl
  have n4 : (u 0 168) = (h 0 168) := ag _ _ rfl
  have n5 : (u 0 165) = (h 0 165) := ag _ _ rfl
  have n6 : (u 0 144) = (h 0 144) := ag _ _ rfl
  have n8 : (u 0 88) = (h 0 88) := ag _ _ rfl
  have n9 : (u 0 44) = (h 0 44) := ag _ _ rfl
  have n10 : (u 0 132) = (h 0 132) := ag _ _ rfl
  have n11 : (u 0 130) = (h 0 130) := ag _ _ rfl
  have k2 : (u 115) = (h 115) := funext fun j => ag _ _ rfl
  have k3 : (u 123) = (h 123) := funext fun j => ag _ _ rfl
  have k4 : (u 124) = (h 124) := funext fun j => ag _ _ rfl
  have fa : fAg h u ((h 0 150) - 1).toNat := fun j _ => ⟨ag _ _ rfl, ag _ _ rfl, ag _ _ rfl, ag _ _ rfl, ag _ _ rfl, ag _ _ rfl, ag _ _ rfl, ag _ _ rfl⟩
  have f := ft_ext g n3 (caN_e (ag _ _ rfl)) fa ⟨funext fun j => ag _ _ rfl, fun r _ => ⟨ag _ _ rfl, ag _ _ rfl⟩⟩ (fun k _ => ⟨ag _ _ rfl, ag _ _ rfl⟩) f0
  have hca : caN h → caN u := caN_e (ag _ _ rfl)
  have k0 := K.1
  have e1 : fB h (((h 0 150) - 1).toNat + 1) = fB h ((h 0 150) - 1).toNat + isB h ((h 0 150) - 1).toNat := rfl
  have e2 : fR h (((h 0 150) - 1).toNat + 1) = fR h ((h 0 150) - 1).toNat + (if (h 96) ((h 0 150) - 1).toNat = 3 then 1 else 0) := rfl
  have e3 : fT h st (((h 0 150) - 1).toNat + 1) = fT h st ((h 0 150) - 1).toNat + (if (h 96) ((h 0 150) - 1).toNat ≤ 2 then st ((h 97) ((h 0 150) - 1).toNat).toNat else 0) := rfl
  have e4 : isB h ((h 0 150) - 1).toNat = 0 := by unfold isB; rw [if_neg (by omega)]
  rw [e1, e4] at q3
  rw [e2] at q5
  rw [e3, if_neg (by omega)] at q7
  have er2 : fR h ((h 0 150) - 1).toNat = (u 0 172) := by omega
  have rle : (u 0 172) ≤ (h 0 172) := by rw [er]; split <;> omega
  have rI := rwI_e q6 rle n8 n9 (funext fun j => ag _ _ rfl) (fun r _ => ⟨ag _ _ rfl, ag _ _ rfl, ag _ _ rfl⟩) k4 hca
  refine ⟨?_, by omega, K, er2⟩
  unfold RC
  rw [ef, n2, n4, n5, n6, n10, n11, fB_ext fa, fR_ext fa, fT_ext fa]
  exact ⟨⟨by omega, f⟩, ⟨by omega, q4⟩, er2.symm, rI, by omega⟩
/-- a body goes -/
def FPL : Nat → Nat → Bool := mo_F [113, 172, 88, 44, 132, 130] [52, 96, 99, 100, 101, 107, 102, 103, 113, 112, 115, 123, 124, 116, 12]
theorem rc_leave {h u : ja_H} {ht st rg : Nat → Int} {w : Int} (g : mo_G mo_zr h) (c : CI h ht st rg) (q : RC h ht st rg w) (ag : mo_ag FPL h u) (N : ∀ j : Nat, j ≠ ((h 0 150) - 1).toNat → (u 97) j = (h 97) j) (t0 : (h 96) ((h 0 150) - 1).toNat ≠ 0) (t2 : (h 96) ((h 0 150) - 1).toNat ≤ 2) (ef : (u 0 150) = (h 0 150) - 1) (ep : (u 0 149) = (h 99) ((h 0 150) - 1).toNat) (et : (u 0 168) = (h 100) ((h 0 150) - 1).toNat) (el : (u 0 165) = (h 101) ((h 0 150) - 1).toNat) (eb : (u 0 144) = (h 0 144) - 1) : RC u ht st rg 1 ∧ 2 ≤ (h 0 150) := by
  obtain ⟨⟨q1, q2⟩, ⟨q3, q4⟩, q5, q6, q7⟩ := q
  have em : ((h 0 150)).toNat = ((h 0 150) - 1).toNat + 1 := by omega
  rw [em] at q2 q3 q5 q7
  rcases q2 with ⟨-, K, f0⟩ | ⟨z, -⟩
  rotate_left
  · omega
  have n3 : (u 0 113) = (h 0 113) := ag _ _ rfl
  have n7 : (u 0 172) = (h 0 172) := ag _ _ rfl
  have n8 : (u 0 88) = (h 0 88) := ag _ _ rfl
  have n9 : (u 0 44) = (h 0 44) := ag _ _ rfl
  have n10 : (u 0 132) = (h 0 132) := ag _ _ rfl
  have n11 : (u 0 130) = (h 0 130) := ag _ _ rfl
  have k2 : (u 115) = (h 115) := funext fun j => ag _ _ rfl
  have k3 : (u 123) = (h 123) := funext fun j => ag _ _ rfl
  have k4 : (u 124) = (h 124) := funext fun j => ag _ _ rfl
  have fa : fAg h u ((h 0 150) - 1).toNat := fun j hj => ⟨ag _ _ rfl, N j (by omega), ag _ _ rfl, ag _ _ rfl, ag _ _ rfl, ag _ _ rfl, ag _ _ rfl, ag _ _ rfl⟩
  have f := ft_ext g n3 (caN_e (ag _ _ rfl)) fa ⟨funext fun j => ag _ _ rfl, fun r _ => ⟨ag _ _ rfl, ag _ _ rfl⟩⟩ (fun k _ => ⟨ag _ _ rfl, ag _ _ rfl⟩) f0
  obtain ⟨b1, -, -, -, b5, -⟩ := K
  have k0 : ((h 0 150) - 1).toNat ≠ 0 := by rcases b5 with z | z | z <;> omega
  have s0 := (c.1 ((h 97) ((h 0 150) - 1).toNat).toNat (by omega)).2.2.2.1
  have e1 : fB h (((h 0 150) - 1).toNat + 1) = fB h ((h 0 150) - 1).toNat + isB h ((h 0 150) - 1).toNat := rfl
  have e2 : fR h (((h 0 150) - 1).toNat + 1) = fR h ((h 0 150) - 1).toNat + (if (h 96) ((h 0 150) - 1).toNat = 3 then 1 else 0) := rfl
  have e3 : fT h st (((h 0 150) - 1).toNat + 1) = fT h st ((h 0 150) - 1).toNat + (if (h 96) ((h 0 150) - 1).toNat ≤ 2 then st ((h 97) ((h 0 150) - 1).toNat).toNat else 0) := rfl
  have e4 : isB h ((h 0 150) - 1).toNat = 1 := by unfold isB; rw [if_pos t2]
  rw [e1, e4] at q3
  rw [e2, if_neg (by omega)] at q5
  rw [e3, if_pos t2] at q7
  have rI := rwI_e q6 (by omega) n8 n9 (funext fun j => ag _ _ rfl) (fun r _ => ⟨ag _ _ rfl, ag _ _ rfl, ag _ _ rfl⟩) k4 (caN_e (ag _ _ rfl))
  refine ⟨?_, by omega⟩
  unfold RC
  rw [ef, ep, et, el, eb, n7, n10, n11, fB_ext fa, fR_ext fa, fT_ext fa]
  exact ⟨⟨by omega, f⟩, ⟨by omega, by omega⟩, by omega, rI, by omega⟩
/-- what is to be gone on with, right above a body -/
theorem pnd_body {u : ja_H} (t : (u 96) ((u 0 150) - 1).toNat ≤ 2) (h1 : (u 0 190) < (u 0 172)) (h0 : 0 ≤ (u 0 191)) (h2 : (u 0 191) ≤ (u 123) ((u 0 190)).toNat) : pnd u := by
  have b := rw_bd (h := u) ((u 0 190)).toNat
  have e1 : pot u ((u 0 150) - 1).toNat = 51 := by unfold pot; rw [if_pos t]
  have e2 : rpot u ((u 0 150) - 1).toNat = 2 := by unfold rpot; rw [if_pos t]
  unfold pnd
  rw [e1, e2]
  exact ⟨⟨h1, h2⟩, by omega, by omega⟩
theorem pnd_row {u : ja_H} (t : (u 96) ((u 0 150) - 1).toNat = 3) (e : (u 102) ((u 0 150) - 1).toNat = (u 0 190)) (h1 : (u 0 190) < (u 0 172)) (h0 : (u 0 191) = 0) (h2 : 0 ≤ (u 123) ((u 0 190)).toNat) : pnd u := by
  have e1 : pot u ((u 0 150) - 1).toNat = rwX u ((u 0 190)).toNat := by unfold pot; rw [if_neg (by omega), if_pos t, e]
  have e2 : rpot u ((u 0 150) - 1).toNat = rwY u ((u 0 190)).toNat := by unfold rpot; rw [if_neg (by omega), if_neg (by omega), e]
  unfold pnd
  rw [e1, e2, h0]
  exact ⟨⟨h1, h2⟩, by omega, by omega⟩
theorem pnd_rest {u : ja_H} (t : (u 96) ((u 0 150) - 1).toNat = 4) (e : (u 102) ((u 0 150) - 1).toNat = (u 0 190)) (e' : (u 103) ((u 0 150) - 1).toNat + 1 = (u 0 191)) (h1 : (u 0 190) < (u 0 172)) (h2 : (u 0 191) ≤ (u 123) ((u 0 190)).toNat) : pnd u := by
  have e1 : pot u ((u 0 150) - 1).toNat = rwX u ((u 0 190)).toNat - (u 0 191) := by unfold pot; rw [if_neg (by omega), if_neg (by omega), if_pos t, e, e']
  have e2 : rpot u ((u 0 150) - 1).toNat = rwY u ((u 0 190)).toNat := by unfold rpot; rw [if_neg (by omega), if_neg (by omega), e]
  unfold pnd
  rw [e1, e2]
  exact ⟨⟨h1, h2⟩, by omega, by omega⟩
/-- what a step of a run gives -/
def FRO : Nat → Nat → Bool := mo_F [1, 118, 127, 130] []
