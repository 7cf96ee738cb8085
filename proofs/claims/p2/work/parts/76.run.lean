/-! the reference: the measure of a run, the body on top -/
def eeL (l : Int) : Nat := 190010 + 10 * (25 - l).toNat
/-- the digit of a frame -/
def fD (h : ja_H) (st rg : Nat → Int) (n : Nat) : Nat :=
  if (h 96) n ≤ 2 then 2 + (20000 * st ((h 97) n).toNat + 10000 * (rg ((h 97) n).toNat / 8)).toNat + (if (h 74) ((h 97) n).toNat = 25 then 0 else (5001 - (h 97) n).toNat)
  else if (h 96) n = 4 then eeL ((h 103) n) - (if (h 104) n = 1 then 2 else if (h 104) n = 2 then 3 else if (h 104) n = 3 then 4 else 5) else 3
def pD (h : ja_H) : Nat := if (h 0 186) = 1 then 1 else if (h 0 186) = 2 then eeL (h 0 191) else 0
def rX (h : ja_H) (st rg : Nat → Int) (n : Nat) : Nat := if (n : Int) < (h 0 150) then fD h st rg n else if (n : Int) = (h 0 150) then pD h else 0
def rV (h : ja_H) (st rg : Nat → Int) : Nat := lxM (rX h st rg) 200400 3001
/-- a body's frame that is typed -/
def bdT (h : ja_H) (st rg : Nat → Int) (n : Nat) : Prop := (h 96) n ≤ 2 → (0 ≤ (h 97) n ∧ (h 97) n < (h 0 113))
theorem fD_b {h : ja_H} {ht st rg : Nat → Int} (g : mo_G mo_zr h) (c : ∀ w : Nat, (w : Int) < (h 0 113) → pf h ht st rg (h 0 113) w) {n : Nat} (t : bdT h st rg n) : 2 ≤ fD h st rg n ∧ fD h st rg n ≤ 190270 := by
  have gl := gC_frameLevel g n
  unfold fD
  by_cases z : (h 96) n ≤ 2
  · rw [if_pos z]
    have t' := t z
    have P := c ((h 97) n).toNat (by omega)
    have p2 := P.2.2.1
    have p3 := P.2.2.2.1
    clear P
    split <;> omega
  · rw [if_neg z]
    unfold eeL
    (repeat' split) <;> omega
theorem pD_b {h : ja_H} (g : mo_G mo_zr h) : pD h ≤ 190270 := by
  have gl := gF_restLevel g
  unfold pD eeL
  (repeat' split) <;> omega
theorem ft_bdT {h : ja_H} {ht st rg : Nat → Int} : ∀ {n : Nat} {p t l w : Int}, ft h ht st rg n p t l w → ∀ j : Nat, j < n → bdT h st rg j
  | 0, _, _, _, _, _, j, hj => absurd hj (by omega)
  | n + 1, _, _, _, _, q, j, hj => by
    rcases q with ⟨q1, q2, q3⟩ | ⟨q1, -, -, q3⟩
    · by_cases e : j = n
      · subst e; exact fun _ => q2.1
      · exact ft_bdT q3 j (by omega)
    · by_cases e : j = n
      · subst e; exact fun z => absurd z (by omega)
      · exact ft_bdT q3 j (by omega)
theorem rX_b {h : ja_H} {ht st rg : Nat → Int} (g : mo_G mo_zr h) (c : CI h ht st rg) (q : RI h ht st rg) (n : Nat) : rX h st rg n < 200400 := by
  unfold rX
  by_cases z : (n : Int) < (h 0 150)
  · rw [if_pos z]
    obtain ⟨⟨w, -, q⟩, -⟩ := q
    have := fD_b g c.1 (ft_bdT q.1.2 n (by omega))
    omega
  · rw [if_neg z]
    have := pD_b g
    split <;> omega
def RVC : Nat := 200400 ^ 3001
theorem rV_b {h : ja_H} {ht st rg : Nat → Int} (g : mo_G mo_zr h) (c : CI h ht st rg) (q : RI h ht st rg) : rV h st rg < RVC := lx_max (rX_b g c q) 3001
/-- the measure of the loop: what is left of the budget, then this -/
def rM (b : Int) (h : ja_H) (st rg : Nat → Int) : Nat := b.toNat * RVC + rV h st rg
theorem rM_dec {b : Int} {h u : ja_H} {st rg : Nat → Int} (q : rV u st rg < rV h st rg) : rM b u st rg < rM b h st rg := Nat.add_lt_add_left q _
theorem rM_step {b : Int} {h u : ja_H} {st rg : Nat → Int} (hb : 1 ≤ b) (q : rV u st rg < RVC) : rM (b - 1) u st rg < rM b h st rg := by
  have e : b.toNat = (b - 1).toNat + 1 := by omega
  unfold rM
  rw [e, Nat.succ_mul]
  omega
/-- the measure falls where the first digit that differs falls -/
theorem rV_lt {h u : ja_H} {ht st rg : Nat → Int} (gu : mo_G mo_zr u) (cu : CI u ht st rg) (qu : RI u ht st rg) {k : Nat} (hk : k ≤ 3000) (e : ∀ j : Nat, j < k → rX u st rg j = rX h st rg j) (l : rX u st rg k < rX h st rg k) : rV u st rg < rV h st rg := lx_lt (rX_b gu cu qu) e l 3001 (by omega)
/-- the body on top -/
theorem ri_top {h : ja_H} {ht st rg : Nat → Int} (q : RI h ht st rg) (hu : (h 0 186) = 0) : (h 96) ((h 0 150) - 1).toNat ≤ 2 ∧ bdK h ht st rg ((h 0 150) - 1).toNat (h 0 149) (h 0 168) (h 0 165) 0 ∧ ft h ht st rg ((h 0 150) - 1).toNat ((h 99) ((h 0 150) - 1).toNat) ((h 100) ((h 0 150) - 1).toNat) ((h 101) ((h 0 150) - 1).toNat) 1 := by
  obtain ⟨⟨w, t, ⟨q1, q2⟩, -⟩, -⟩ := q
  have e : ((h 0 150)).toNat = ((h 0 150) - 1).toNat + 1 := by omega
  rw [e, t.2.1 hu] at q2
  rcases q2 with q2 | ⟨-, z, -⟩
  · exact q2
  · exact absurd z (by decide)
/-- what a word leaves alone -/
def FRW : Nat → Nat → Bool := mo_X [149, 168, 186, 187, 188, 189, 132, 130, 190, 191] [97, 94, 95, 112, 113, 110, 111, 92, 93, 85, 86, 128, 129]
/-- the body on top has gone on -/
theorem rc_top {h : ja_H} {ht st rg : Nat → Int} {w : Int} (q : RC h ht st rg w) (t : (h 96) ((h 0 150) - 1).toNat ≤ 2) : bdK h ht st rg ((h 0 150) - 1).toNat (h 0 149) (h 0 168) (h 0 165) w ∧ ft h ht st rg ((h 0 150) - 1).toNat ((h 99) ((h 0 150) - 1).toNat) ((h 100) ((h 0 150) - 1).toNat) ((h 101) ((h 0 150) - 1).toNat) 1 := by
  obtain ⟨⟨q1, q2⟩, -⟩ := q
  have e : ((h 0 150)).toNat = ((h 0 150) - 1).toNat + 1 := by omega
  rw [e] at q2
  rcases q2 with q2 | ⟨q2, -⟩
  · exact q2.2
  · omega
theorem rc_wordT {h u : ja_H} {ht st rg : Nat → Int} {pc w w0 : Int} (g : mo_G mo_zr h) (q : RC h ht st rg w0) (t1 : (h 96) ((h 0 150) - 1).toNat ≤ 2) (ag : mo_ag FRW h u) (N : ∀ j : Nat, j ≠ ((h 0 150) - 1).toNat → (u 97) j = (h 97) j) (E : (u 97) ((h 0 150) - 1).toNat = pc) (hpc : 0 ≤ pc ∧ pc < (h 0 113)) (hp : (u 0 149) = (h 99) ((h 0 150) - 1).toNat + ht pc.toNat - w)
    (hr : 0 ≤ rg pc.toNat ∧ rg pc.toNat % 8 = rg ((h 97) ((h 0 150) - 1).toNat).toNat % 8) (hT : (u 0 168) = (h 100) ((h 0 150) - 1).toNat + rg pc.toNat / 8) (lowT : ∀ k : Nat, (k : Int) < (h 100) ((h 0 150) - 1).toNat → (u 113) k = (h 113) k ∧ (u 112) k = (h 112) k)
    (newT : ∀ k : Nat, (h 100) ((h 0 150) - 1).toNat ≤ k → (k : Int) < (u 0 168) → (u 113) k = (h 99) ((h 0 150) - 1).toNat ∧ (0 ≤ (u 112) k ∧ (u 112) k < (h 0 113)) ∧ ht ((u 112) k).toNat = 1 ∧ st ((u 112) k).toNat = 0 ∧ rg ((u 112) k).toNat = rg pc.toNat % 8 + 8 * (k - (h 100) ((h 0 150) - 1).toNat))
    (hO : (u 0 132) + st pc.toNat + (h 0 130) ≤ (h 0 132) + st ((h 97) ((h 0 150) - 1).toNat).toNat + (u 0 130)) : RC u ht st rg w := by
  obtain ⟨⟨b1, b2, b3, b4, b5, b6⟩, t3⟩ := rc_top q t1
  obtain ⟨⟨q1, q2⟩, ⟨q3, q4⟩, q5, q6, q7⟩ := q
  have n1 : (u 0 150) = (h 0 150) := ag _ _ rfl
  have n2 : (u 0 165) = (h 0 165) := ag _ _ rfl
  have n3 : (u 0 113) = (h 0 113) := ag _ _ rfl
  have n4 : (u 0 144) = (h 0 144) := ag _ _ rfl
  have n5 : (u 0 172) = (h 0 172) := ag _ _ rfl
  have n6 : (u 0 88) = (h 0 88) := ag _ _ rfl
  have n7 : (u 0 44) = (h 0 44) := ag _ _ rfl
  have f1 : (u 96) = (h 96) := funext fun j => ag _ _ rfl
  have f3 : (u 99) = (h 99) := funext fun j => ag _ _ rfl
  have f4 : (u 100) = (h 100) := funext fun j => ag _ _ rfl
  have f5 : (u 101) = (h 101) := funext fun j => ag _ _ rfl
  have f6 : (u 107) = (h 107) := funext fun j => ag _ _ rfl
  have f7 : (u 102) = (h 102) := funext fun j => ag _ _ rfl
  have f8 : (u 103) = (h 103) := funext fun j => ag _ _ rfl
  have k1 : (u 52) = (h 52) := funext fun j => ag _ _ rfl
  have k2 : (u 115) = (h 115) := funext fun j => ag _ _ rfl
  have k3 : (u 123) = (h 123) := funext fun j => ag _ _ rfl
  have k4 : (u 124) = (h 124) := funext fun j => ag _ _ rfl
  have e : ((h 0 150)).toNat = ((h 0 150) - 1).toNat + 1 := by omega
  have fa : fAg h u ((h 0 150) - 1).toNat := fun j hj => ⟨by rw [f1], N j (by omega), by rw [f3], by rw [f4], by rw [f5], by rw [f6], by rw [f7], by rw [f8]⟩
  have hca : caN h → caN u := caN_e (ag _ _ rfl)
  have low := ft_ext g n3 hca fa ⟨k1, fun r _ => ⟨by rw [k2], by rw [k3]⟩⟩ lowT t3
  have eB : ∀ n, fB u n = fB h n := fun n => by
    induction n with
    | zero => rfl
    | succ n ih => show fB u n + isB u n = fB h n + isB h n; unfold isB; rw [ih, f1]
  have eR : ∀ n, fR u n = fR h n := fun n => by
    induction n with
    | zero => rfl
    | succ n ih => show fR u n + (if (u 96) n = 3 then 1 else 0) = fR h n + (if (h 96) n = 3 then 1 else 0); rw [ih, f1]
  unfold RC
  rw [n1, e]
  refine ⟨⟨q1, Or.inl ⟨by rw [f1]; exact t1, ?_, by rw [f3, f4, f5]; exact low⟩⟩, ⟨by rw [eB, n4, ← e]; exact q3, by rw [n4]; exact q4⟩, by rw [n5, eR, ← e]; exact q5, ?_, ?_⟩
  · unfold bdK
    rw [E, n3, f3, f4, f5, f1, f6, n2]
    refine ⟨hpc, hp, ⟨hr.1, hT⟩, b4, ?_, newT⟩
    rw [hr.2]; exact b5.imp id (Or.imp (fun y => ⟨y.1, y.2.1, y.2.2.1, hca y.2.2.2⟩) id)
  · exact rwI_e q6 (by omega) n6 n7 k1 (fun r _ => ⟨by rw [k2], ag _ _ rfl, by rw [k3]⟩) k4 hca
  · have s1 : fT u st (((h 0 150) - 1).toNat + 1) = fT u st ((h 0 150) - 1).toNat + (if (u 96) ((h 0 150) - 1).toNat ≤ 2 then st ((u 97) ((h 0 150) - 1).toNat).toNat else 0) := rfl
    have s2 : fT h st (((h 0 150) - 1).toNat + 1) = fT h st ((h 0 150) - 1).toNat + (if (h 96) ((h 0 150) - 1).toNat ≤ 2 then st ((h 97) ((h 0 150) - 1).toNat).toNat else 0) := rfl
    rw [e, s2, if_pos t1] at q7
    rw [s1, fT_ext fa, f1, if_pos t1, E]
    omega
theorem rc_word {h u : ja_H} {ht st rg : Nat → Int} {pc w : Int} (g : mo_G mo_zr h) (q : RI h ht st rg) (hu : (h 0 186) = 0) (ag : mo_ag FRW h u) (N : ∀ j : Nat, j ≠ ((h 0 150) - 1).toNat → (u 97) j = (h 97) j) (E : (u 97) ((h 0 150) - 1).toNat = pc) (hpc : 0 ≤ pc ∧ pc < (h 0 113)) (hp : (u 0 149) = (h 99) ((h 0 150) - 1).toNat + ht pc.toNat - w)
    (hr : 0 ≤ rg pc.toNat ∧ rg pc.toNat % 8 = rg ((h 97) ((h 0 150) - 1).toNat).toNat % 8) (hT : (u 0 168) = (h 100) ((h 0 150) - 1).toNat + rg pc.toNat / 8) (lowT : ∀ k : Nat, (k : Int) < (h 100) ((h 0 150) - 1).toNat → (u 113) k = (h 113) k ∧ (u 112) k = (h 112) k)
    (newT : ∀ k : Nat, (h 100) ((h 0 150) - 1).toNat ≤ k → (k : Int) < (u 0 168) → (u 113) k = (h 99) ((h 0 150) - 1).toNat ∧ (0 ≤ (u 112) k ∧ (u 112) k < (h 0 113)) ∧ ht ((u 112) k).toNat = 1 ∧ st ((u 112) k).toNat = 0 ∧ rg ((u 112) k).toNat = rg pc.toNat % 8 + 8 * (k - (h 100) ((h 0 150) - 1).toNat))
    (hO : (u 0 132) + st pc.toNat + (h 0 130) ≤ (h 0 132) + st ((h 97) ((h 0 150) - 1).toNat).toNat + (u 0 130)) : RC u ht st rg w := by
  have t1 := (ri_top q hu).1
  obtain ⟨⟨w1, -, qc⟩, -⟩ := q
  exact rc_wordT g qc t1 ag N E hpc hp hr hT lowT newT hO
theorem ri_word {h u : ja_H} {ht st rg : Nat → Int} {pc w : Int} (g : mo_G mo_zr h) (q : RI h ht st rg) (hu : (h 0 186) = 0) (ag : mo_ag FRW h u) (hu2 : (u 0 186) = 0 ∨ (u 0 186) = 1) (hw : tw u w) (N : ∀ j : Nat, j ≠ ((h 0 150) - 1).toNat → (u 97) j = (h 97) j) (E : (u 97) ((h 0 150) - 1).toNat = pc) (hpc : 0 ≤ pc ∧ pc < (h 0 113)) (hp : (u 0 149) = (h 99) ((h 0 150) - 1).toNat + ht pc.toNat - w)
    (hr : 0 ≤ rg pc.toNat ∧ rg pc.toNat % 8 = rg ((h 97) ((h 0 150) - 1).toNat).toNat % 8) (hT : (u 0 168) = (h 100) ((h 0 150) - 1).toNat + rg pc.toNat / 8) (lowT : ∀ k : Nat, (k : Int) < (h 100) ((h 0 150) - 1).toNat → (u 113) k = (h 113) k ∧ (u 112) k = (h 112) k)
    (newT : ∀ k : Nat, (h 100) ((h 0 150) - 1).toNat ≤ k → (k : Int) < (u 0 168) → (u 113) k = (h 99) ((h 0 150) - 1).toNat ∧ (0 ≤ (u 112) k ∧ (u 112) k < (h 0 113)) ∧ ht ((u 112) k).toNat = 1 ∧ st ((u 112) k).toNat = 0 ∧ rg ((u 112) k).toNat = rg pc.toNat % 8 + 8 * (k - (h 100) ((h 0 150) - 1).toNat))
    (hO : (u 0 132) + st pc.toNat + (h 0 130) ≤ (h 0 132) + st ((h 97) ((h 0 150) - 1).toNat).toNat + (u 0 130)) : RI u ht st rg :=
  ⟨⟨w, hw, rc_word g q hu ag N E hpc hp hr hT lowT newT hO⟩, fun z => by omega⟩
