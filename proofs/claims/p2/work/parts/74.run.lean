/-! the reference: the invariant of a run -/
def isB (h : ja_H) (n : Nat) : Int := if (h 96) n ≤ 2 then 1 else 0
/-- bodies, rows, states of them among the first n frames -/
def fB (h : ja_H) : Nat → Int
  | 0 => 0
  | n + 1 => fB h n + isB h n
def fR (h : ja_H) : Nat → Int
  | 0 => 0
  | n + 1 => fR h n + (if (h 96) n = 3 then 1 else 0)
def fT (h : ja_H) (st : Nat → Int) : Nat → Int
  | 0 => 0
  | n + 1 => fT h st n + (if (h 96) n ≤ 2 then st ((h 97) n).toNat else 0)
/-- how many frames, rows may still come ahead of a body -/
def rwX (h : ja_H) (r : Nat) : Int := if (h 52) ((h 115) r).toNat = 1 then 24 else 50
def rwY (h : ja_H) (r : Nat) : Int := if (h 52) ((h 115) r).toNat = 1 then 0 else 1
def pot (h : ja_H) (n : Nat) : Int := if (h 96) n ≤ 2 then 51 else if (h 96) n = 3 then rwX h ((h 102) n).toNat else if (h 96) n = 4 then rwX h ((h 102) n).toNat - ((h 103) n + 1) else 25
def rpot (h : ja_H) (n : Nat) : Int := if (h 96) n ≤ 2 then 2 else if (h 96) n = 5 then 1 else rwY h ((h 102) n).toNat
/-- a body's frame -/
def bdK (h : ja_H) (ht st rg : Nat → Int) (n : Nat) (p t l w : Int) : Prop :=
  (0 ≤ (h 97) n ∧ (h 97) n < (h 0 113)) ∧ p = (h 99) n + ht ((h 97) n).toNat - w ∧ (0 ≤ rg ((h 97) n).toNat ∧ t = (h 100) n + rg ((h 97) n).toNat / 8) ∧ l = (h 101) n + 10 ∧
  (((h 96) n = 0 ∧ n = 0 ∧ rg ((h 97) n).toNat % 8 = 0) ∨ ((h 96) n = 1 ∧ n ≠ 0 ∧ rg ((h 97) n).toNat % 8 = 1 ∧ caN h) ∨ ((h 96) n = 2 ∧ n ≠ 0 ∧ (rg ((h 97) n).toNat % 8 = 2 ∨ rg ((h 97) n).toNat % 8 = 3) ∧ (0 ≤ (h 107) n ∧ (h 107) n ≤ 200) ∧ (h 96) (n - 1) = 4)) ∧
  ∀ k : Nat, (h 100) n ≤ k → (k : Int) < t → (h 113) k = (h 99) n ∧ (0 ≤ (h 112) k ∧ (h 112) k < (h 0 113)) ∧ ht ((h 112) k).toNat = 1 ∧ st ((h 112) k).toNat = 0 ∧ rg ((h 112) k).toNat = rg ((h 97) n).toNat % 8 + 8 * (k - (h 100) n)
/-- another frame -/
def nbK (h : ja_H) (n : Nat) : Prop := n ≠ 0 ∧ ((h 96) n = 3 → (h 102) n = fR h n) ∧ ((h 96) n = 4 → (h 102) n < fR h n ∧ (h 103) n < (h 123) ((h 102) n).toNat) ∧ ((h 96) n = 5 → (0 ≤ (h 107) n ∧ (h 107) n ≤ 200) ∧ caN h) ∧ pot h n < pot h (n - 1) ∧ rpot h n + (if (h 96) n = 3 then 1 else 0) ≤ rpot h (n - 1)
def ft (h : ja_H) (ht st rg : Nat → Int) : Nat → Int → Int → Int → Int → Prop
  | 0, p, t, l, _ => p = 0 ∧ t = 0 ∧ l = 0
  | n + 1, p, t, l, w => ((h 96) n ≤ 2 ∧ bdK h ht st rg n p t l w ∧ ft h ht st rg n ((h 99) n) ((h 100) n) ((h 101) n) 1) ∨ (3 ≤ (h 96) n ∧ w = 1 ∧ nbK h n ∧ ft h ht st rg n p t l 1)
theorem fR_0 {h : ja_H} : ∀ n : Nat, 0 ≤ fR h n
  | 0 => Int.le_refl _
  | n + 1 => by
    have := fR_0 (h := h) n
    show 0 ≤ fR h n + (if (h 96) n = 3 then 1 else 0)
    split <;> omega
theorem fB_0 {h : ja_H} : ∀ n : Nat, 0 ≤ fB h n
  | 0 => Int.le_refl _
  | n + 1 => by
    have := fB_0 (h := h) n
    show 0 ≤ fB h n + isB h n
    unfold isB
    split <;> omega
/-- a frame's row lies among the rows up to it -/
theorem ft_row {h : ja_H} {ht st rg : Nat → Int} (g : mo_G mo_zr h) {n : Nat} {p t l w : Int} (q : ft h ht st rg (n + 1) p t l w) (z : (h 96) n = 3 ∨ (h 96) n = 4) : 0 ≤ (h 102) n ∧ (h 102) n < fR h (n + 1) := by
  have g0 := (gC_frameRow g n).1
  have e : fR h (n + 1) = fR h n + (if (h 96) n = 3 then 1 else 0) := rfl
  rcases q with ⟨q1, -⟩ | ⟨q1, -, ⟨-, q2, q3, -⟩, -⟩
  · omega
  · rcases z with z | z
    · have := q2 z; rw [e, if_pos z]; omega
    · have := (q3 z).1; rw [e, if_neg (by omega)]; omega
theorem rw_bd {h : ja_H} (r : Nat) : 24 ≤ rwX h r ∧ rwX h r ≤ 50 ∧ 0 ≤ rwY h r ∧ rwY h r ≤ 1 := by
  unfold rwX rwY; split <;> omega
theorem pot_bd {h : ja_H} (g : mo_G mo_zr h) (n : Nat) : 0 ≤ pot h n ∧ pot h n ≤ 51 ∧ 0 ≤ rpot h n ∧ rpot h n ≤ 2 := by
  have a := rw_bd (h := h) ((h 102) n).toNat
  have b := gC_frameLevel g n
  unfold pot rpot
  (repeat' split) <;> omega
/-- how many frames and rows there are -/
theorem ft_num {h : ja_H} {ht st rg : Nat → Int} (g : mo_G mo_zr h) : ∀ {n : Nat} {p t l w : Int}, ft h ht st rg (n + 1) p t l w → (n : Int) + 1 + pot h n ≤ 52 * fB h (n + 1) ∧ fR h (n + 1) + rpot h n ≤ 2 * fB h (n + 1) := by
  intro n
  induction n with
  | zero =>
    intro p t l w q
    rcases q with ⟨q1, -⟩ | ⟨-, -, ⟨q1, -⟩, -⟩
    · have e1 : fB h (0 + 1) = 0 + isB h 0 := rfl
      have e2 : fR h (0 + 1) = 0 + (if (h 96) 0 = 3 then 1 else 0) := rfl
      have e3 : isB h 0 = 1 := by unfold isB; rw [if_pos q1]
      have e4 : pot h 0 = 51 := by unfold pot; rw [if_pos q1]
      have e5 : rpot h 0 = 2 := by unfold rpot; rw [if_pos q1]
      rw [e1, e2, e3, e4, e5, if_neg (fun z => by rw [z] at q1; exact absurd q1 (by decide))]
      exact ⟨by decide, by decide⟩
    · exact absurd rfl q1
  | succ n ih =>
    intro p t l w q
    have e1 : fB h (n + 1 + 1) = fB h (n + 1) + isB h (n + 1) := rfl
    have e2 : fR h (n + 1 + 1) = fR h (n + 1) + (if (h 96) (n + 1) = 3 then 1 else 0) := rfl
    have b := pot_bd g n
    rcases q with ⟨q1, -, q3⟩ | ⟨q1, -, ⟨-, -, -, -, q2, q3⟩, q4⟩
    · obtain ⟨i1, i2⟩ := ih q3
      have e3 : isB h (n + 1) = 1 := by unfold isB; rw [if_pos q1]
      have e4 : pot h (n + 1) = 51 := by unfold pot; rw [if_pos q1]
      have e5 : rpot h (n + 1) = 2 := by unfold rpot; rw [if_pos q1]
      rw [e1, e2, e3, e4, e5, if_neg (by omega)]
      exact ⟨by omega, by omega⟩
    · obtain ⟨i1, i2⟩ := ih q4
      have e3 : isB h (n + 1) = 0 := by unfold isB; rw [if_neg (by omega)]
      have e6 : n + 1 - 1 = n := rfl
      rw [e6] at q2 q3
      rw [e1, e2, e3]
      exact ⟨by omega, by omega⟩
/-- heights, tries, locals -/
theorem ft_hei {h : ja_H} {ht st rg : Nat → Int} (c : ∀ w : Nat, (w : Int) < (h 0 113) → pf h ht st rg (h 0 113) w) : ∀ {n : Nat} {p t l w : Int}, 0 ≤ w → ft h ht st rg n p t l w → p ≤ 120 * fB h n ∧ (0 ≤ t ∧ t ≤ 16 * fB h n) ∧ l = 10 * fB h n := by
  intro n
  induction n with
  | zero => intro p t l w hw q; obtain ⟨q1, q2, q3⟩ := q; have e : fB h 0 = 0 := rfl; rw [e]; omega
  | succ n ih =>
    intro p t l w hw q
    have e1 : fB h (n + 1) = fB h n + isB h n := rfl
    rcases q with ⟨q1, ⟨b1, b2, b3, b4, -⟩, q3⟩ | ⟨q1, -, -, q4⟩
    · obtain ⟨i1, i2, i3⟩ := ih (by decide) q3
      have e3 : isB h n = 1 := by unfold isB; rw [if_pos q1]
      have P := c ((h 97) n).toNat (by omega)
      have p1 := P.2.1
      have p2 := P.2.2.1
      clear P
      rw [e1, e3]
      omega
    · obtain ⟨i1, i2, i3⟩ := ih (by decide) q4
      have e3 : isB h n = 0 := by unfold isB; rw [if_neg (by omega)]
      rw [e1, e3]
      omega
/-- what frames below n rest on -/
def fAg (h u : ja_H) (n : Nat) : Prop := ∀ j : Nat, j < n → (u 96) j = (h 96) j ∧ (u 97) j = (h 97) j ∧ (u 99) j = (h 99) j ∧ (u 100) j = (h 100) j ∧ (u 101) j = (h 101) j ∧ (u 107) j = (h 107) j ∧ (u 102) j = (h 102) j ∧ (u 103) j = (h 103) j
theorem fAg_sub {h u : ja_H} {n m : Nat} (q : fAg h u n) (l : m ≤ n) : fAg h u m := fun j hj => q j (by omega)
theorem fR_ext {h u : ja_H} : ∀ {n : Nat}, fAg h u n → fR u n = fR h n
  | 0, _ => rfl
  | n + 1, q => by
    show fR u n + (if (u 96) n = 3 then 1 else 0) = fR h n + (if (h 96) n = 3 then 1 else 0)
    rw [fR_ext (fAg_sub q (by omega)), (q n (by omega)).1]
theorem fB_ext {h u : ja_H} : ∀ {n : Nat}, fAg h u n → fB u n = fB h n
  | 0, _ => rfl
  | n + 1, q => by
    show fB u n + isB u n = fB h n + isB h n
    unfold isB
    rw [fB_ext (fAg_sub q (by omega)), (q n (by omega)).1]
theorem fT_ext {h u : ja_H} {st : Nat → Int} : ∀ {n : Nat}, fAg h u n → fT u st n = fT h st n
  | 0, _ => rfl
  | n + 1, q => by
    show fT u st n + (if (u 96) n ≤ 2 then st ((u 97) n).toNat else 0) = fT h st n + (if (h 96) n ≤ 2 then st ((h 97) n).toNat else 0)
    rw [fT_ext (fAg_sub q (by omega)), (q n (by omega)).1, (q n (by omega)).2.1]
/-- rows below m stay -/
def rAg (h u : ja_H) (m : Int) : Prop := (u 52) = (h 52) ∧ ∀ r : Nat, (r : Int) < m → (u 115) r = (h 115) r ∧ (u 123) r = (h 123) r
theorem pot_ext {h u : ja_H} {n : Nat} {m : Int} (a : fAg h u (n + 1)) (b : rAg h u m) (c : (h 96) n = 3 ∨ (h 96) n = 4 → 0 ≤ (h 102) n ∧ (h 102) n < m) (h5 : (h 96) n ≤ 5) : pot u n = pot h n ∧ rpot u n = rpot h n := by
  obtain ⟨a1, -, -, -, -, -, a7, a8⟩ := a n (by omega)
  obtain ⟨b1, b2⟩ := b
  have X : (h 96) n = 3 ∨ (h 96) n = 4 → rwX u ((h 102) n).toNat = rwX h ((h 102) n).toNat ∧ rwY u ((h 102) n).toNat = rwY h ((h 102) n).toNat := fun z => by
    have := c z
    unfold rwX rwY
    rw [b1, (b2 ((h 102) n).toNat (by omega)).1]
    exact ⟨rfl, rfl⟩
  unfold pot rpot
  rw [a1, a7, a8]
  by_cases z2 : (h 96) n ≤ 2
  · rw [if_pos z2, if_pos z2, if_pos z2, if_pos z2]; exact ⟨rfl, rfl⟩
  · rw [if_neg z2, if_neg z2, if_neg z2, if_neg z2]
    by_cases z5 : (h 96) n = 5
    · rw [if_neg (by omega), if_neg (by omega), if_neg (by omega), if_neg (by omega), if_pos z5, if_pos z5]; exact ⟨rfl, rfl⟩
    · obtain ⟨x1, x2⟩ := X (by omega)
      rw [x1, if_neg z5, if_neg z5, x2]; exact ⟨rfl, rfl⟩
theorem ft_ext {h u : ja_H} {ht st rg : Nat → Int} (g : mo_G mo_zr h) (hw : (u 0 113) = (h 0 113)) (hca : caN h → caN u) : ∀ {n : Nat} {p t l w : Int}, fAg h u n → rAg h u (fR h n) → (∀ k : Nat, (k : Int) < t → (u 113) k = (h 113) k ∧ (u 112) k = (h 112) k) → ft h ht st rg n p t l w → ft u ht st rg n p t l w := by
  intro n
  induction n with
  | zero => intro p t l w _ _ _ q; exact q
  | succ n ih =>
    intro p t l w a b k q
    have q0 := q
    obtain ⟨a1, a2, a3, a4, a5, a6, a7, a8⟩ := a n (by omega)
    have a' := fAg_sub a (show n ≤ n + 1 by omega)
    have rl : fR h n ≤ fR h (n + 1) := by
      show fR h n ≤ fR h n + (if (h 96) n = 3 then 1 else 0)
      split <;> omega
    have b' : rAg h u (fR h n) := ⟨b.1, fun r hr => b.2 r (by omega)⟩
    have a0 : (u 96) (n - 1) = (h 96) (n - 1) := (a (n - 1) (by omega)).1
    rcases q with ⟨q1, ⟨c1, c2, c3, c4, c5, c6⟩, q3⟩ | ⟨q1, q2, ⟨d1, d2, d3, d4, d5, d6⟩, q4⟩
    · refine Or.inl ⟨by rw [a1]; exact q1, ?_, by rw [a3, a4, a5]; exact ih a' b' (fun j hj => k j (by omega)) q3⟩
      unfold bdK
      rw [a1, a2, a3, a4, a5, a6, a0, hw]
      refine ⟨c1, c2, c3, c4, c5.imp id (Or.imp (fun y => ⟨y.1, y.2.1, y.2.2.1, hca y.2.2.2⟩) id), fun j h1 h2 => ?_⟩
      obtain ⟨k1, k2⟩ := k j h2
      rw [k1, k2]
      exact c6 j h1 h2
    · refine Or.inr ⟨by rw [a1]; exact q1, q2, ?_, ih a' b' k q4⟩
      have t5 := fun j => (gC_frameType g j).2
      obtain ⟨e1, e2⟩ := pot_ext a b (fun z => ft_row g q0 z) (t5 n)
      have e34 : pot u (n - 1) = pot h (n - 1) ∧ rpot u (n - 1) = rpot h (n - 1) := by
        cases n with
        | zero => exact absurd rfl d1
        | succ m => exact pot_ext a' b' (fun z => ft_row g q4 z) (t5 m)
      unfold nbK
      rw [e1, e2, e34.1, e34.2, a1, a6, a7, a8, fR_ext a']
      refine ⟨d1, d2, fun z => ?_, fun z => ⟨(d4 z).1, hca (d4 z).2⟩, d5, d6⟩
      obtain ⟨d7, d8⟩ := d3 z
      have r0 := (gC_frameRow g n).1
      rw [(b'.2 ((h 102) n).toNat (by omega)).2]
      exact ⟨d7, d8⟩
/-- rows -/
def rwI (h : ja_H) : Prop := ∀ r : Nat, (r : Int) < (h 0 172) → ((h 115) r < (h 0 88) ∧ (0 < (h 116) r → caN h) ∧ ((h 52) ((h 115) r).toNat = 1 → caN h)) ∧ ∀ l : Nat, (l : Int) < (h 123) r → (h 124) (24 * r + l) < (h 0 44)
theorem rwI_RW {h : ja_H} (q : rwI h) : RW h := fun r hr => ⟨(q r hr).1.1, (q r hr).1.2.1⟩
theorem rwI_e {h u : ja_H} (q : rwI h) (e1 : (u 0 172) ≤ (h 0 172)) (e2 : (u 0 88) = (h 0 88)) (e3 : (u 0 44) = (h 0 44)) (e4 : (u 52) = (h 52)) (f1 : ∀ r : Nat, (r : Int) < (u 0 172) → (u 115) r = (h 115) r ∧ (u 116) r = (h 116) r ∧ (u 123) r = (h 123) r) (f2 : (u 124) = (h 124)) (hca : caN h → caN u) : rwI u := fun r hr => by
  obtain ⟨⟨a1, a2, a3⟩, a4⟩ := q r (by omega)
  obtain ⟨b1, b2, b3⟩ := f1 r hr
  rw [b1, b2, b3, e2, e3, e4, f2]
  exact ⟨⟨a1, fun z => hca (a2 z), fun z => hca (a3 z)⟩, a4⟩
/-- what is to be gone on with -/
def pnd (h : ja_H) : Prop := ((h 0 190) < (h 0 172) ∧ (h 0 191) ≤ (h 123) ((h 0 190)).toNat) ∧ rwX h ((h 0 190)).toNat - (h 0 191) ≤ pot h ((h 0 150) - 1).toNat ∧ rwY h ((h 0 190)).toNat ≤ rpot h ((h 0 150) - 1).toNat
/-- how far the pile is from what the word says -/
def tw (h : ja_H) (w : Int) : Prop := (0 ≤ w ∧ w ≤ 1) ∧ ((h 0 186) = 0 → w = 0) ∧ ((h 0 186) = 2 ∨ ((h 0 186) = 1 ∧ (h 0 187) = 0) → w = 1)
def RC (h : ja_H) (ht st rg : Nat → Int) (w : Int) : Prop := (1 ≤ (h 0 150) ∧ ft h ht st rg ((h 0 150)).toNat (h 0 149) (h 0 168) (h 0 165) w) ∧ (fB h ((h 0 150)).toNat = (h 0 144) + 1 ∧ (h 0 144) ≤ 40) ∧ (h 0 172) = fR h ((h 0 150)).toNat ∧ rwI h ∧ (h 0 132) + fT h st ((h 0 150)).toNat ≤ (h 0 130)
def RI (h : ja_H) (ht st rg : Nat → Int) : Prop := (∃ w, tw h w ∧ RC h ht st rg w) ∧ ((h 0 186) = 2 → pnd h)
/-- what a run's invariant says in numbers -/
theorem rc_num {h : ja_H} {ht st rg : Nat → Int} {w : Int} (g : mo_G mo_zr h) (c : CI h ht st rg) (hw : 0 ≤ w) (q : RC h ht st rg w) : (h 0 150) + pot h ((h 0 150) - 1).toNat ≤ 52 * ((h 0 144) + 1) ∧ (h 0 172) + rpot h ((h 0 150) - 1).toNat ≤ 2 * ((h 0 144) + 1) ∧ (h 0 149) ≤ 120 * ((h 0 144) + 1) ∧ (h 0 168) ≤ 16 * ((h 0 144) + 1) ∧ (h 0 165) = 10 * ((h 0 144) + 1) := by
  obtain ⟨⟨q1, q2⟩, ⟨q3, q4⟩, q5, -⟩ := q
  have e : ((h 0 150)).toNat = ((h 0 150) - 1).toNat + 1 := by omega
  obtain ⟨b1, b2, b3⟩ := ft_hei c.1 hw q2
  rw [e] at q2
  obtain ⟨a1, a2⟩ := ft_num g q2
  rw [← e] at a1 a2
  omega
theorem ri_num {h : ja_H} {ht st rg : Nat → Int} (g : mo_G mo_zr h) (c : CI h ht st rg) (q : RI h ht st rg) : (h 0 150) + pot h ((h 0 150) - 1).toNat ≤ 52 * ((h 0 144) + 1) ∧ (h 0 172) + rpot h ((h 0 150) - 1).toNat ≤ 2 * ((h 0 144) + 1) ∧ (h 0 149) ≤ 120 * ((h 0 144) + 1) ∧ (h 0 168) ≤ 16 * ((h 0 144) + 1) ∧ (h 0 165) = 10 * ((h 0 144) + 1) := by
  obtain ⟨⟨w, t, q⟩, -⟩ := q
  exact rc_num g c t.1.1 q
