/-! the reference: words go on -/
/-- the digit of a body -/
def dg (op st rg : Nat → Int) (pc : Int) : Nat := 2 + (20000 * st pc.toNat + 10000 * (rg pc.toNat / 8)).toNat + (if op pc.toNat = 25 then 0 else (5001 - pc).toNat)
theorem fD_body {h : ja_H} {st rg : Nat → Int} {n : Nat} (t : (h 96) n ≤ 2) : fD h st rg n = dg (h 74) st rg ((h 97) n) := by
  unfold fD dg; rw [if_pos t]
/-- the word behind a word -/
theorem w_next {h : ja_H} {ht st rg : Nat → Int} {w : Int} (c : CI h ht st rg) (h0 : 0 ≤ w) (h1 : w < (h 0 113)) (o : (h 74) w.toNat ≠ 26) : w + 1 < (h 0 113) ∧ ht (w + 1).toNat = ht w.toNat + pw_eff ((h 74) w.toNat) ((h 75) w.toNat) (pw_pop h ((h 75) w.toNat)) ∧ rg (w + 1).toNat = rg w.toNat + 8 * pw_tr ((h 74) w.toNat) ∧ ((h 74) w.toNat ≠ 25 → st (w + 1).toNat ≤ st w.toNat) ∧ (0 ≤ st (w + 1).toNat ∧ st (w + 1).toNat ≤ 1) ∧ (0 ≤ rg w.toNat ∧ rg w.toNat ≤ 132) ∧ (0 ≤ st w.toNat ∧ st w.toNat ≤ 1) ∧ (0 ≤ ht w.toNat ∧ ht w.toNat ≤ 119) := by
  have e : (w + 1).toNat = w.toNat + 1 := by omega
  have P := c.1 w.toNat (by omega)
  have q200 := c.2.1
  obtain ⟨-, p2, p3, p4, -, -, p7, -⟩ := P
  obtain ⟨a1, a2, a3, a4⟩ := p7 o
  have tr : -1 ≤ pw_tr ((h 74) w.toNat) ∧ pw_tr ((h 74) w.toNat) ≤ 1 := by unfold pw_tr; (repeat' split) <;> decide
  clear p7
  rw [e]
  have lt : w + 1 < (h 0 113) := by
    rcases Int.lt_or_le (w + 1) (h 0 113) with l | l
    · exact l
    · exfalso
      have e2 : ((h 0 113)).toNat = w.toNat + 1 := by omega
      rw [e2] at q200
      omega
  exact ⟨lt, a1, a2, a4, by omega, ⟨p3.1, p3.2.1⟩, by omega, p2⟩
theorem dg_next {h : ja_H} {ht st rg : Nat → Int} {w : Int} (c : CI h ht st rg) (h0 : 0 ≤ w) (h1 : w < (h 0 113)) (hw : (h 0 113) ≤ 5000) (o : (h 74) w.toNat ≠ 26) (o25 : (h 74) w.toNat ≠ 25) : dg (h 74) st rg (w + 1) < dg (h 74) st rg w := by
  obtain ⟨a1, -, a3, a4, a5, a6, a7, -⟩ := w_next c h0 h1 o
  have P := (c.1 w.toNat (by omega)).2.2.2.2.2.2.2.1
  have e : (w + 1).toNat = w.toNat + 1 := by omega
  have a4' := a4 o25
  clear a4
  have tr : ((h 74) w.toNat = 23 ∧ pw_tr ((h 74) w.toNat) = 1) ∨ pw_tr ((h 74) w.toNat) ≤ 0 := by
    unfold pw_tr
    by_cases z : (h 74) w.toNat = 23
    · exact Or.inl ⟨z, by rw [if_pos z]⟩
    · right; rw [if_neg z]; split <;> decide
  unfold dg
  rw [if_neg o25]
  rcases tr with ⟨t1, t2⟩ | t
  · obtain ⟨s1, s2⟩ := P (Or.inr t1)
    rw [← e] at s2
    rw [t2] at a3
    clear P
    split <;> omega
  · clear P
    split <;> omega
/-- where a word jumps -/
theorem w_jump {h : ja_H} {ht st rg : Nat → Int} {w : Int} (c : CI h ht st rg) (h0 : 0 ≤ w) (h1 : w < (h 0 113)) (hw : (h 0 113) ≤ 5000) (j : pw_jmp ((h 74) w.toNat)) (o23 : (h 74) w.toNat ≠ 23) : (0 ≤ (h 75) w.toNat ∧ (h 75) w.toNat < (h 0 113)) ∧ ht ((h 75) w.toNat).toNat = ht w.toNat + pw_th ((h 74) w.toNat) ∧ rg ((h 75) w.toNat).toNat = rg w.toNat + 8 * pw_tj ((h 74) w.toNat) ∧ st ((h 75) w.toNat).toNat ≤ st w.toNat ∧ (0 ≤ rg ((h 75) w.toNat).toNat) ∧ dg (h 74) st rg ((h 75) w.toNat) < dg (h 74) st rg w := by
  have P := c.1 w.toNat (by omega)
  have q200 := c.2.1
  obtain ⟨-, p2, p3, p4, -, -, -, -, -, p10, -⟩ := P
  obtain ⟨j1, j2, j3, j4, j5, j6⟩ := p10 j
  clear p10
  have o25 : (h 74) w.toNat ≠ 25 := fun z => by rw [z] at j; unfold pw_jmp at j; omega
  have ts : pw_ts ((h 74) w.toNat) = 0 := by unfold pw_ts; rw [if_neg o23]
  have tj : -1 ≤ pw_tj ((h 74) w.toNat) ∧ pw_tj ((h 74) w.toNat) ≤ 0 := by unfold pw_tj; split <;> decide
  rw [ts] at j5
  have lt : (h 75) w.toNat < (h 0 113) := by
    rcases Int.lt_or_le ((h 75) w.toNat) (h 0 113) with l | l
    · exact l
    · exfalso
      have e2 : (h 75) w.toNat = (h 0 113) := by omega
      rw [e2, q200] at j4
      omega
  have Pa := c.1 ((h 75) w.toNat).toNat (by omega)
  obtain ⟨-, -, b3, b4, -, b6, b7, -⟩ := Pa
  refine ⟨⟨j1, lt⟩, j3, j4, by omega, b3.1, ?_⟩
  have b25 : (h 75) w.toNat < w → (h 74) ((h 75) w.toNat).toNat = 25 := fun l => by
    rcases j6 with z | ⟨-, l2, l3⟩
    · omega
    · by_cases z26 : (h 74) ((h 75) w.toNat).toNat = 26
      · have := (b6 z26).2; omega
      · by_cases z25 : (h 74) ((h 75) w.toNat).toNat = 25
        · exact z25
        · have := (b7 z26).2.2.2 z25; omega
  have ne : (h 75) w.toNat ≠ w := by rcases j6 with z | z <;> omega
  clear b6 b7
  unfold dg
  rw [if_neg o25]
  by_cases l : (h 75) w.toNat < w
  · rw [if_pos (b25 l)]; clear b25; omega
  · clear b25
    split <;> omega
/-- the body on top goes on: the invariant holds, the measure falls -/
theorem ri_go {h u : ja_H} {ht st rg : Nat → Int} {pc : Int} (g : mo_G mo_zr h) (gu : mo_G mo_zr u) (cu : CI u ht st rg) (q : RI h ht st rg) (hf : (h 0 150) ≤ 3000) (hu : (h 0 186) = 0) (ag : mo_ag FRW h u) (E : (u 97) ((h 0 150) - 1).toNat = pc) (N : ∀ j : Nat, j ≠ ((h 0 150) - 1).toNat → (u 97) j = (h 97) j) (ri : RI u ht st rg) (D : dg (h 74) st rg pc < dg (h 74) st rg ((h 97) ((h 0 150) - 1).toNat)) : RI u ht st rg ∧ rV u st rg < rV h st rg := by
  have t1 := (ri_top q hu).1
  obtain ⟨w1, -, ⟨q1, -⟩, -⟩ := q.1
  have n1 : (u 0 150) = (h 0 150) := ag _ _ rfl
  have f1 : (u 96) = (h 96) := funext fun j => ag _ _ rfl
  have f2 : (u 74) = (h 74) := funext fun j => ag _ _ rfl
  have f3 : (u 104) = (h 104) := funext fun j => ag _ _ rfl
  have f4 : (u 103) = (h 103) := funext fun j => ag _ _ rfl
  refine ⟨ri, rV_lt (k := ((h 0 150) - 1).toNat) gu cu ri (by omega) (fun j hj => ?_) ?_⟩
  · unfold rX
    rw [n1, if_pos (by omega), if_pos (by omega)]
    unfold fD
    rw [f1, f2, f3, f4, N j (by omega)]
  · unfold rX
    rw [n1, if_pos (by omega), if_pos (by omega), fD_body t1, fD_body (by rw [f1]; exact t1), E, f2]
    exact D
