/-! the reference: fields, nodes, the order (written by a program) -/
/-! the reference: fields are laid, nodes, the order -/
def cntP (p : Nat → Bool) : Nat → Nat
  | 0 => 0
  | n + 1 => (if p n = true then 1 else 0) + cntP p n
theorem cntP_n {p : Nat → Bool} : ∀ n : Nat, cntP p n ≤ n
  | 0 => Nat.le_refl _
  | n + 1 => by
    have := cntP_n (p := p) n
    show (if p n = true then 1 else 0) + cntP p n ≤ n + 1
    split <;> omega
theorem cntP_le {p q : Nat → Bool} : ∀ n : Nat, (∀ j : Nat, j < n → p j = true → q j = true) → cntP p n ≤ cntP q n
  | 0, _ => Nat.le_refl _
  | n + 1, e => by
    have := cntP_le n (fun j hj => e j (by omega))
    show (if p n = true then 1 else 0) + cntP p n ≤ (if q n = true then 1 else 0) + cntP q n
    have z := e n (by omega)
    by_cases a : p n = true
    · rw [if_pos a, if_pos (z a)]; omega
    · rw [if_neg a]; split <;> omega
theorem cntP_lt {p q : Nat → Bool} {x : Nat} (h1 : p x = false) (h2 : q x = true) : ∀ n : Nat, (∀ j : Nat, j < n → p j = true → q j = true) → x < n → cntP p n < cntP q n
  | 0, _, h => absurd h (by omega)
  | n + 1, e, h => by
    have le := cntP_le (p := p) (q := q) n (fun j hj => e j (by omega))
    show (if p n = true then 1 else 0) + cntP p n < (if q n = true then 1 else 0) + cntP q n
    by_cases z : x = n
    · subst z
      rw [if_pos h2, if_neg (by rw [h1]; decide)]; omega
    · have lt := cntP_lt h1 h2 n (fun j hj => e j (by omega)) (by omega)
      have zz := e n (by omega)
      by_cases a : p n = true
      · rw [if_pos a, if_pos (zz a)]; omega
      · rw [if_neg a]; split <;> omega
theorem cntP_set {p : Nat → Bool} {x : Nat} (h1 : p x = false) : ∀ n : Nat, x < n → cntP (fun j => if j = x then true else p j) n = cntP p n + 1
  | 0, h => absurd h (by omega)
  | n + 1, h => by
    show (if (if n = x then true else p n) = true then 1 else 0) + cntP (fun j => if j = x then true else p j) n = (if p n = true then 1 else 0) + cntP p n + 1
    by_cases z : n = x
    · subst z
      have e : cntP (fun j => if j = n then true else p j) n = cntP p n := Nat.le_antisymm (cntP_le n (fun j hj a => by have a2 : (if j = n then true else p j) = true := a; rw [if_neg (by omega)] at a2; exact a2)) (cntP_le n (fun j hj a => by show (if j = n then true else p j) = true; rw [if_neg (by omega)]; exact a))
      rw [if_pos rfl, if_pos rfl, if_neg (by rw [h1]; decide), e]; omega
    · rw [if_neg z, cntP_set h1 n (by omega)]; omega
theorem cntP_all {p : Nat → Bool} : ∀ n : Nat, (∀ j : Nat, j < n → p j = true) → cntP p n = n
  | 0, _ => rfl
  | n + 1, e => by
    show (if p n = true then 1 else 0) + cntP p n = n + 1
    rw [if_pos (e n (by omega)), cntP_all n (fun j hj => e j (by omega))]; omega
theorem cntI_mono {f : Nat → Int} {v : Int} {i : Nat} : ∀ n : Nat, i ≤ n → cntI f v i ≤ cntI f v n
  | 0, h => by have e : i = 0 := by omega
               rw [e]; exact Nat.le_refl _
  | n + 1, h => by
    by_cases e : i = n + 1
    · rw [e]; exact Nat.le_refl _
    · have := cntI_mono (f := f) (v := v) n (show i ≤ n by omega)
      show cntI f v i ≤ (if f n = v then 1 else 0) + cntI f v n
      omega
/-- ranks below the number of classes -/
theorem rk_low {f : Nat → Int} {n : Int} {rk : Nat → Nat} (q : rk_P f n rk) (h0 : 0 ≤ n) : ∃ rk2 : Nat → Nat, rk_P f n rk2 ∧ ∀ x : Nat, (x : Int) < n → (rk2 x : Int) < n := by
  refine ⟨fun x => cntP (fun y => decide (rk y < rk x)) n.toNat, fun c hc => ?_, fun x hx => ?_⟩
  · obtain ⟨q1, q2⟩ := q c hc
    refine ⟨q1, fun z => ?_⟩
    have lt := q2 z
    exact cntP_lt (x := (f c).toNat) (by simp) (by simpa using lt) n.toNat (fun j hj a => by simp at a ⊢; omega) (by omega)
  · have a := cntP_lt (p := fun y => decide (rk y < rk x)) (q := fun _ => true) (x := x) (by simp) rfl n.toNat (fun _ _ _ => rfl) (by omega)
    have b := cntP_n (p := fun _ => true) n.toNat
    dsimp only
    omega
def rkO (rk : Nat → Nat) (x : Int) : Int := if x < 0 then 0 else (rk x.toNat : Int) + 1
theorem rkO_0 {rk : Nat → Nat} {x : Int} : 0 ≤ rkO rk x := by unfold rkO; split <;> omega
theorem rkO_s {f : Nat → Int} {n : Int} {rk : Nat → Nat} {x : Int} (q : rk_P f n rk) (h0 : ¬ x < 0) (h1 : x < n) : rkO rk (f x.toNat) < rkO rk x := by
  have := (q x.toNat (by omega)).2
  unfold rkO
  rw [if_neg h0]
  split <;> omega
theorem rkO_c {n : Int} {rk : Nat → Nat} {x : Int} (b : ∀ x : Nat, (x : Int) < n → (rk x : Int) < n) (h0 : 0 ≤ x) (h1 : x < n) : rkO rk x ≤ n := by
  have := b x.toNat (by omega)
  unfold rkO
  rw [if_neg (by omega)]
  omega
def FLY : Nat → Nat → Bool := mo_X [] [83, 82]
/-- the walk to the top -/
def wkD (f : Nat → Int) (c x d : Int) : Prop := upn f d.toNat c = x ∧ ∀ j : Nat, (j : Int) < d → 0 ≤ upn f j c
theorem wkD_0 {f : Nat → Int} {c : Int} : wkD f c c 0 := ⟨rfl, fun j hj => by omega⟩
theorem wkD_s {f : Nat → Int} {c x d : Int} (hd : 0 ≤ d) (h0 : ¬ x < 0) (q : wkD f c x d) : wkD f c (f x.toNat) (d + 1) := by
  obtain ⟨q1, q2⟩ := q
  have e : (d + 1).toNat = d.toNat + 1 := by omega
  refine ⟨by rw [e, upn_s, q1], fun j hj => ?_⟩
  by_cases z : j = d.toNat
  · rw [z, q1]; omega
  · exact q2 j (by omega)
theorem upn_lt {f : Nat → Int} {n c : Int} {rk : Nat → Nat} (q : rk_P f n rk) (hc : c < n) : ∀ k : Nat, (∀ j : Nat, j < k → 0 ≤ upn f j c) → upn f k c < n
  | 0, _ => hc
  | k + 1, h => by
    rw [upn_s]
    have a := upn_lt q hc k (fun j hj => h j (by omega))
    have b := h k (by omega)
    exact (q _ (by omega)).1
theorem wkD_at {f : Nat → Int} {n c x d i y : Int} {rk : Nat → Nat} (q : rk_P f n rk) (hc : c < n) (w : wkD f c x d) (h0 : 0 ≤ i) (h1 : i < d) (e : y = upn f i.toNat c) : 0 ≤ y ∧ y < n ∧ f y.toNat = upn f (i + 1).toNat c := by
  have e2 : (i + 1).toNat = i.toNat + 1 := by omega
  rw [e2, upn_s, ← e]
  exact ⟨by rw [e]; exact w.2 _ (by omega), by rw [e]; exact upn_lt q hc _ (fun j hj => w.2 j (by omega)), rfl⟩
def FLN : Nat → Nat → Bool := mo_X [] [68, 59, 63]
/-- names of classes in nodes: as they were told, as they are laid -/
def lnX (h : ja_H) (a : Int) : Prop := (0 ≤ a ∧ a ≤ 6) ∨ (1000 ≤ a ∧ a ≤ 1900 ∧ 0 ≤ clF h ((h 5) (a - 1000).toNat))
def lnY (a : Int) : Prop := (0 ≤ a ∧ a ≤ 6) ∨ (100 ≤ a ∧ a ≤ 111)
def lnR (h : ja_H) (n : Nat) : Prop := ((h 58) n = 7 ∨ (h 58) n = 8 → lnX h ((h 59) n)) ∧ ((h 58) n = 9 → ∀ k : Nat, (k : Int) < (h 62) n → (h 63) (7 * n + k) = -1 ∨ lnX h ((h 63) (7 * n + k)))
def lnF (h u : ja_H) (n : Nat) : Prop := ((h 58) n = 7 ∨ (h 58) n = 8 → lnY ((u 59) n)) ∧ ((h 58) n = 9 → ∀ k : Nat, (k : Int) < (h 62) n → (u 63) (7 * n + k) = -1 ∨ lnY ((u 63) (7 * n + k))) ∧ (¬ ((h 58) n = 7 ∨ (h 58) n = 8) → (u 59) n = (h 59) n) ∧ ((h 58) n ≠ 9 → ∀ k : Nat, k < 7 → (u 63) (7 * n + k) = (h 63) (7 * n + k))
def lnO (h u : ja_H) (n : Nat) : Prop := (u 59) n = (h 59) n ∧ ∀ k : Nat, k < 7 → (u 63) (7 * n + k) = (h 63) (7 * n + k)
def lnI (h u : ja_H) (n : Int) : Prop := mo_ag FLN h u ∧ (∀ j : Nat, (j : Int) < n → lnF h u j) ∧ ∀ j : Nat, n ≤ j → lnO h u j
/-- node n is under way: its own A may have been laid, its first k args -/
def lnW (h u : ja_H) (n : Int) (k : Int) : Prop := mo_ag FLN h u ∧ (∀ j : Nat, (j : Int) < n → lnF h u j) ∧ (∀ j : Nat, n < j → lnO h u j) ∧
  (((h 58) n.toNat = 7 ∨ (h 58) n.toNat = 8 → lnY ((u 59) n.toNat)) ∧ (¬ ((h 58) n.toNat = 7 ∨ (h 58) n.toNat = 8) → (u 59) n.toNat = (h 59) n.toNat)) ∧
  ∀ i : Nat, i < 7 → ((i : Int) < k → (u 63) (7 * n.toNat + i) = -1 ∨ lnY ((u 63) (7 * n.toNat + i))) ∧ (k ≤ i → (u 63) (7 * n.toNat + i) = (h 63) (7 * n.toNat + i))
theorem lnI_types {h u u2 : ja_H} {n : Int} (q : lnI h u n) (ag : mo_ag (mo_X [] [68]) u u2) : lnI h u2 n := by
  obtain ⟨q1, q2, q3⟩ := q
  have f1 : (u2 59) = (u 59) := funext fun j => ag _ _ rfl
  have f2 : (u2 63) = (u 63) := funext fun j => ag _ _ rfl
  refine ⟨ag_trans q1 (ag_sub (X_X (by decide) (by decide)) ag), fun j hj => ?_, fun j hj => ?_⟩
  · unfold lnF; rw [f1, f2]; exact q2 j hj
  · unfold lnO; rw [f1, f2]; exact q3 j hj
/-- A of the node has been laid (or stays) -/
theorem lnW_A {h u u2 : ja_H} {n : Int} (h0 : 0 ≤ n) (q : lnI h u n) (ag : mo_ag (mo_X [] [59]) u u2) (e : ∀ j : Nat, j ≠ n.toNat → (u2 59) j = (u 59) j) (e1 : (h 58) n.toNat = 7 ∨ (h 58) n.toNat = 8 → lnY ((u2 59) n.toNat)) (e2 : ¬ ((h 58) n.toNat = 7 ∨ (h 58) n.toNat = 8) → (u2 59) n.toNat = (u 59) n.toNat) : lnW h u2 n 0 := by
  obtain ⟨q1, q2, q3⟩ := q
  have f2 : (u2 63) = (u 63) := funext fun j => ag _ _ rfl
  have qn := q3 n.toNat (by omega)
  refine ⟨ag_trans q1 (ag_sub (X_X (by decide) (by decide)) ag), fun j hj => ?_, fun j hj => ?_, ⟨e1, fun z => (e2 z).trans qn.1⟩, fun i hi => ⟨fun z => by omega, fun _ => by rw [f2]; exact qn.2 i hi⟩⟩
  · unfold lnF; rw [f2, e j (by omega)]; exact q2 j hj
  · unfold lnO; rw [f2, e j (by omega)]; exact q3 j (by omega)
theorem lnW_s {h u : ja_H} {n k x : Int} (h0 : 0 ≤ n) (hk : 0 ≤ k ∧ k < 7) (q : lnW h u n k) (hx : x = -1 ∨ lnY x) : lnW h (ja_up u 63 (7 * n + k).toNat x) n (k + 1) := by
  obtain ⟨q1, q2, q3, q4, q5⟩ := q
  refine ⟨ag_up rfl q1, fun j hj => ?_, fun j hj => ?_, q4, fun i hi => ⟨fun z => ?_, fun z => ?_⟩⟩
  · obtain ⟨a1, a2, a3, a4⟩ := q2 j hj
    have gm : ∀ i : Nat, i < 7 → (ja_up u 63 (7 * n + k).toNat x) 63 (7 * j + i) = (u 63) (7 * j + i) := fun i hi => mo_upJ (by omega)
    refine ⟨a1, fun y i hi => ?_, a3, fun y i hi => (gm i hi).trans (a4 y i hi)⟩
    by_cases w : i < 7
    · rw [gm i w]; exact a2 y i hi
    · by_cases w2 : 7 * j + i = (7 * n + k).toNat
      · rw [w2, mo_upS]; exact hx
      · rw [mo_upJ w2]; exact a2 y i hi
  · obtain ⟨a1, a2⟩ := q3 j hj
    exact ⟨a1, fun i hi => (mo_upJ (by omega)).trans (a2 i hi)⟩
  · by_cases w2 : 7 * n.toNat + i = (7 * n + k).toNat
    · rw [w2, mo_upS]; exact hx
    · rw [mo_upJ w2]; exact (q5 i hi).1 (by omega)
  · rw [mo_upJ (by omega)]; exact (q5 i hi).2 (by omega)
theorem lnW_end {h u : ja_H} {n k : Int} (g : mo_G mo_zr h) (h0 : 0 ≤ n) (q : lnW h u n k) (hk : ((h 58) n.toNat = 9 ∧ (h 62) n.toNat ≤ k) ∨ ((h 58) n.toNat ≠ 9 ∧ k = 0)) : lnI h u (n + 1) := by
  obtain ⟨q1, q2, q3, q4, q5⟩ := q
  have gm := gC_nodeMany g n.toNat
  refine ⟨q1, fun j hj => ?_, fun j hj => q3 j (by omega)⟩
  by_cases e : j = n.toNat
  · subst e
    refine ⟨q4.1, fun y i hi => (q5 i (by omega)).1 (by omega), q4.2, fun y i hi => (q5 i hi).2 (by omega)⟩
  · exact q2 j (by omega)
theorem clF_ag {h u : ja_H} (ag : mo_ag (mo_F [22] [10, 5]) h u) (v : Int) : clF u v = clF h v := by
  have e1 : (u 0 22) = (h 0 22) := ag _ _ rfl
  have f1 : (u 10) = (h 10) := funext fun j => ag _ _ rfl
  have f2 : (u 5) = (h 5) := funext fun j => ag _ _ rfl
  have f3 : nmC u = nmC h := by funext c; unfold nmC; rw [f1, f2]
  unfold clF; rw [e1, f3]
theorem asF_ag {h u : ja_H} (ag : mo_ag (mo_F [26] [13, 5]) h u) (v : Int) : asF u v = asF h v := by
  have e1 : (u 0 26) = (h 0 26) := ag _ _ rfl
  have f1 : (u 13) = (h 13) := funext fun j => ag _ _ rfl
  have f2 : (u 5) = (h 5) := funext fun j => ag _ _ rfl
  have f3 : nmA u = nmA h := by funext c; unfold nmA; rw [f1, f2]
  unfold asF; rw [e1, f3]
/-- the order: which advice stands in it by now -/
def FLO : Nat → Nat → Bool := mo_X [] [81]
def loI (h u : ja_H) (x : Int) (P : Nat → Prop) : Prop := mo_ag FLO h u ∧ (∀ j : Nat, (j : Int) < x → (u 81) j < (h 0 44)) ∧ ∃ m : Nat → Bool, x = (cntP m ((h 0 44)).toNat : Int) ∧ ∀ a : Nat, (a : Int) < (h 0 44) → (m a = true ↔ P a)
theorem loI_iff {h u : ja_H} {x : Int} {P P' : Nat → Prop} (q : loI h u x P) (e : ∀ a : Nat, (a : Int) < (h 0 44) → (P a ↔ P' a)) : loI h u x P' := by
  obtain ⟨q1, q2, m, q3, q4⟩ := q
  exact ⟨q1, q2, m, q3, fun a ha => (q4 a ha).trans (e a ha)⟩
theorem loI_0 {h u : ja_H} {P : Nat → Prop} (ag : mo_ag FLO h u) (e : ∀ a : Nat, (a : Int) < (h 0 44) → ¬ P a) : loI h u 0 P := by
  refine ⟨ag, fun j hj => by omega, fun _ => false, ?_, fun a ha => ⟨fun z => (by cases z), fun z => absurd z (e a ha)⟩⟩
  have : ∀ n : Nat, cntP (fun _ => false) n = 0 := by
    intro n
    induction n with
    | zero => rfl
    | succ n ih => show (if false = true then 1 else 0) + cntP (fun _ => false) n = 0; rw [ih]; rfl
  rw [this]; rfl
theorem loI_room {h u : ja_H} {x a : Int} {P : Nat → Prop} (q : loI h u x P) (ha : 0 ≤ a ∧ a < (h 0 44)) (hP : ¬ P a.toNat) : x < (h 0 44) := by
  obtain ⟨q1, q2, m, q3, q4⟩ := q
  have e : m a.toNat = false := by
    cases hm : m a.toNat with
    | false => rfl
    | true => exact absurd ((q4 _ (by omega)).mp hm) hP
  have lt := cntP_lt (p := m) (q := fun _ => true) e rfl ((h 0 44)).toNat (fun _ _ _ => rfl) (by omega)
  have le := cntP_n (p := fun _ => true) ((h 0 44)).toNat
  omega
theorem loI_put {h u : ja_H} {x a : Int} {P P' : Nat → Prop} (q : loI h u x P) (ha : 0 ≤ a ∧ a < (h 0 44)) (hP : ¬ P a.toNat) (e : ∀ b : Nat, (b : Int) < (h 0 44) → (P' b ↔ (P b ∨ b = a.toNat))) : loI h (ja_up u 81 x.toNat a) (x + 1) P' := by
  have hr := loI_room q ha hP
  obtain ⟨q1, q2, m, q3, q4⟩ := q
  have em : m a.toNat = false := by
    cases hm : m a.toNat with
    | false => rfl
    | true => exact absurd ((q4 _ (by omega)).mp hm) hP
  refine ⟨ag_up rfl q1, fun j hj => ?_, fun j => if j = a.toNat then true else m j, ?_, fun b hb => ?_⟩
  · by_cases z : j = x.toNat
    · rw [z, mo_upS]; exact ha.2
    · rw [mo_upJ z]; exact q2 j (by omega)
  · rw [cntP_set em _ (by omega)]; omega
  · dsimp only
    by_cases z : b = a.toNat
    · rw [if_pos z]; exact ⟨fun _ => (e b hb).mpr (Or.inr z), fun _ => rfl⟩
    · rw [if_neg z]
      exact ⟨fun y => (e b hb).mpr (Or.inl ((q4 b hb).mp y)), fun y => (q4 b hb).mpr (((e b hb).mp y).resolve_right z)⟩
def loA (h : ja_H) (a : Nat) : Int := (h 29) a
def lo1 (h : ja_H) (k : Int) (a : Nat) : Prop := ∃ i : Nat, (i : Int) < k ∧ asF h (odN h i) = loA h a
def lo2 (h : ja_H) (k b : Int) (a : Nat) : Prop := lo1 h k a ∨ ((a : Int) < b ∧ asF h (odN h k.toNat) = loA h a)
def lo3 (h : ja_H) (s : Int) (a : Nat) : Prop := lo1 h (h 0 64) a ∨ loA h a < s
def lo4 (h : ja_H) (s b : Int) (a : Nat) : Prop := lo3 h s a ∨ ((a : Int) < b ∧ loA h a = s)
def loS (h : ja_H) (s k : Int) : Prop := ∃ i : Nat, (i : Int) < k ∧ asF h (odN h i) = s
theorem lo_new {h : ja_H} {k b : Int} (g : mo_G mo_zr h) (hk : 0 ≤ k ∧ k < (h 0 64)) (hb : 0 ≤ b) (d : odD h (h 0 64)) (e : loA h b.toNat = asF h (odN h k.toNat)) : ¬ lo2 h k b b.toNat := by
  have ga := (gC_adviceAspect g b.toNat).1
  have ga2 : 0 ≤ asF h (odN h k.toNat) := by rw [← e]; exact ga
  rintro (⟨i, z1, z2⟩ | ⟨z1, -⟩)
  · rw [e] at z2
    have a1 := (fnd_range (f := nmA h) (v := odN h i) ((h 0 26)).toNat).2.2 (show 0 ≤ asF h (odN h i) by rw [z2]; exact ga2)
    have a2 := (fnd_range (f := nmA h) (v := odN h k.toNat) ((h 0 26)).toNat).2.2 ga2
    have a3 : nmA h (asF h (odN h i)).toNat = odN h i := a1
    have a4 : nmA h (asF h (odN h k.toNat)).toNat = odN h k.toNat := a2
    rw [z2] at a3
    exact d i k.toNat (by omega) (by omega) (a3.symm.trans a4)
  · omega
theorem lnX_no {h u : ja_H} {a : Int} (ag : mo_ag FLN h u) (q : lnX h a) (h1 : ¬ a < 1000) (z : clF u ((u 5) (a - 1000).toNat) = -1) : False := by
  have ew : (u 5) = (h 5) := funext fun j => ag _ _ rfl
  rw [clF_ag (ag_sub (X_sub (by decide) (by decide)) ag), ew] at z
  rcases q with q | ⟨-, -, q⟩ <;> omega
theorem lnX_n {h : ja_H} {a : Int} (q : lnX h a) : (0 ≤ a ∧ a ≤ 6) ∨ (1000 ≤ a ∧ a ≤ 1900) := q.imp id (fun z => ⟨z.1, z.2.1⟩)
theorem lnW_get {h u : ja_H} {n k : Int} (g : mo_G mo_zr h) (h0 : 0 ≤ n) (q : lnW h u n k) (r : lnR h n.toNat) (h9 : (h 58) n.toNat = 9) (hk : 0 ≤ k ∧ k < (h 62) n.toNat) : (u 63) (7 * n + k).toNat = -1 ∨ lnX h ((u 63) (7 * n + k).toNat) := by
  have gm := gC_nodeMany g n.toNat
  have e : (7 * n + k).toNat = 7 * n.toNat + k.toNat := by omega
  obtain ⟨-, -, -, -, q5⟩ := q
  rw [e, (q5 k.toNat (by omega)).2 (by omega)]
  exact r.2 h9 k.toNat (by omega)
theorem lnI_A {h u : ja_H} {n : Int} (h0 : 0 ≤ n) (q : lnI h u n) (r : lnR h n.toNat) (h78 : (h 58) n.toNat = 7 ∨ (h 58) n.toNat = 8) : lnX h ((u 59) n.toNat) := by
  rw [(q.2.2 n.toNat (by omega)).1]; exact r.1 h78
theorem lo_eq {h u : ja_H} (ag : mo_ag FLO h u) (n : Nat) : asF u ((u 5) ((u 43) n).toNat) = asF h (odN h n) := by
  have e1 : (u 5) = (h 5) := funext fun j => ag _ _ rfl
  have e2 : (u 43) = (h 43) := funext fun j => ag _ _ rfl
  rw [asF_ag (ag_sub (X_sub (by decide) (by decide)) ag), e1, e2]; rfl
theorem lo2_no {h : ja_H} {k b : Int} (hb : 0 ≤ b) (c : ¬ loA h b.toNat = asF h (odN h k.toNat)) (a : Nat) : lo2 h k b a ↔ lo2 h k (b + 1) a := by
  constructor
  · rintro (z | ⟨z1, z2⟩)
    · exact Or.inl z
    · exact Or.inr ⟨by omega, z2⟩
  · rintro (z | ⟨z1, z2⟩)
    · exact Or.inl z
    · by_cases e : a = b.toNat
      · rw [e] at z2; exact absurd z2.symm c
      · exact Or.inr ⟨by omega, z2⟩
theorem lo2_yes {h : ja_H} {k b : Int} (hb : 0 ≤ b) (c : loA h b.toNat = asF h (odN h k.toNat)) (a : Nat) : lo2 h k (b + 1) a ↔ (lo2 h k b a ∨ a = b.toNat) := by
  constructor
  · rintro (z | ⟨z1, z2⟩)
    · exact Or.inl (Or.inl z)
    · by_cases e : a = b.toNat
      · exact Or.inr e
      · exact Or.inl (Or.inr ⟨by omega, z2⟩)
  · rintro ((z | ⟨z1, z2⟩) | z)
    · exact Or.inl z
    · exact Or.inr ⟨by omega, z2⟩
    · exact Or.inr ⟨by omega, by rw [z]; exact c.symm⟩
theorem lo2_0 {h : ja_H} {k : Int} (a : Nat) : lo1 h k a ↔ lo2 h k 0 a := ⟨fun z => Or.inl z, fun z => z.resolve_right (fun y => by omega)⟩
theorem lo2_end {h : ja_H} {k b : Int} (hk : 0 ≤ k) (hb : (h 0 44) ≤ b) (a : Nat) (ha : (a : Int) < (h 0 44)) : lo2 h k b a ↔ lo1 h (k + 1) a := by
  constructor
  · rintro (⟨i, z1, z2⟩ | ⟨z1, z2⟩)
    · exact ⟨i, by omega, z2⟩
    · exact ⟨k.toNat, by omega, z2⟩
  · rintro ⟨i, z1, z2⟩
    by_cases e : i = k.toNat
    · rw [e] at z2; exact Or.inr ⟨by omega, z2⟩
    · exact Or.inl ⟨i, by omega, z2⟩
theorem lo3_0 {h : ja_H} {k : Int} (g : mo_G mo_zr h) (e : k = (h 0 64)) (a : Nat) : lo1 h k a ↔ lo3 h 0 a := by
  have ga := (gC_adviceAspect g a).1
  have ga2 : 0 ≤ loA h a := ga
  rw [e]
  exact ⟨fun z => Or.inl z, fun z => z.resolve_right (fun y => by omega)⟩
theorem lo4_0 {h : ja_H} {s : Int} (a : Nat) : lo3 h s a ↔ lo4 h s 0 a := ⟨fun z => Or.inl z, fun z => z.resolve_right (fun y => by omega)⟩
theorem lo4_no {h : ja_H} {s b : Int} (hb : 0 ≤ b) (c : ¬ loA h b.toNat = s) (a : Nat) : lo4 h s b a ↔ lo4 h s (b + 1) a := by
  constructor
  · rintro (z | ⟨z1, z2⟩)
    · exact Or.inl z
    · exact Or.inr ⟨by omega, z2⟩
  · rintro (z | ⟨z1, z2⟩)
    · exact Or.inl z
    · by_cases e : a = b.toNat
      · rw [e] at z2; exact absurd z2 c
      · exact Or.inr ⟨by omega, z2⟩
theorem lo4_yes {h : ja_H} {s b : Int} (hb : 0 ≤ b) (c : loA h b.toNat = s) (a : Nat) : lo4 h s (b + 1) a ↔ (lo4 h s b a ∨ a = b.toNat) := by
  constructor
  · rintro (z | ⟨z1, z2⟩)
    · exact Or.inl (Or.inl z)
    · by_cases e : a = b.toNat
      · exact Or.inr e
      · exact Or.inl (Or.inr ⟨by omega, z2⟩)
  · rintro ((z | ⟨z1, z2⟩) | z)
    · exact Or.inl z
    · exact Or.inr ⟨by omega, z2⟩
    · exact Or.inr ⟨by omega, by rw [z]; exact c⟩
theorem lo4_new {h : ja_H} {s b : Int} (hb : 0 ≤ b) (ns : ¬ loS h s (h 0 64)) (c : loA h b.toNat = s) : ¬ lo4 h s b b.toNat := by
  rintro ((⟨i, z1, z2⟩ | z) | ⟨z1, -⟩)
  · exact ns ⟨i, z1, z2.trans c⟩
  · omega
  · omega
theorem lo4_end {h : ja_H} {s b : Int} (hb : (h 0 44) ≤ b) (a : Nat) (ha : (a : Int) < (h 0 44)) : lo4 h s b a ↔ lo3 h (s + 1) a := by
  constructor
  · rintro ((z | z) | ⟨z1, z2⟩)
    · exact Or.inl z
    · exact Or.inr (by omega)
    · exact Or.inr (by omega)
  · rintro (z | z)
    · exact Or.inl (Or.inl z)
    · by_cases e : loA h a = s
      · exact Or.inr ⟨by omega, e⟩
      · exact Or.inl (Or.inr (by omega))
theorem lo4_st {h : ja_H} {s : Int} (st : loS h s (h 0 64)) (a : Nat) : lo4 h s 0 a ↔ lo3 h (s + 1) a := by
  constructor
  · rintro ((z | z) | ⟨z1, z2⟩)
    · exact Or.inl z
    · exact Or.inr (by omega)
    · omega
  · rintro (z | z)
    · exact Or.inl (Or.inl z)
    · by_cases e : loA h a = s
      · obtain ⟨i, y1, y2⟩ := st
        exact Or.inl (Or.inl ⟨i, y1, y2.trans e.symm⟩)
      · exact Or.inl (Or.inr (by omega))
theorem loS_0 {h : ja_H} {s : Int} : ¬ loS h s 0 := fun ⟨i, z, _⟩ => by omega
theorem loS_up {h : ja_H} {s k : Int} (q : loS h s k) : loS h s (k + 1) := by
  obtain ⟨i, z1, z2⟩ := q
  exact ⟨i, by omega, z2⟩
theorem loS_yes {h : ja_H} {s k : Int} (hk : 0 ≤ k) (c : asF h (odN h k.toNat) = s) : loS h s (k + 1) := ⟨k.toNat, by omega, c⟩
theorem loS_no {h : ja_H} {s k : Int} (q : ¬ loS h s k) (c : ¬ asF h (odN h k.toNat) = s) : ¬ loS h s (k + 1) := by
  rintro ⟨i, z1, z2⟩
  by_cases e : (i : Int) < k
  · exact q ⟨i, e, z2⟩
  · have e2 : i = k.toNat := by omega
    rw [e2] at z2; exact c z2
theorem lo_end {h u : ja_H} {x s : Int} (q : loI h u x (lo3 h s)) (g : mo_G mo_zr h) (hs : (h 0 26) ≤ s) (ha : ∀ a : Nat, (a : Int) < (h 0 44) → (h 29) a < (h 0 26)) : mo_ag FLO h u ∧ ∀ j : Nat, (j : Int) < (h 0 44) → (u 81) j < (h 0 44) := by
  obtain ⟨q1, q2, m, q3, q4⟩ := q
  have ga := (gF_advices g).1
  have e := cntP_all (p := m) ((h 0 44)).toNat (fun j hj => (q4 j (by omega)).mpr (Or.inr (by have := ha j (by omega); show (h 29) j < s; omega)))
  exact ⟨q1, fun j hj => q2 j (by omega)⟩
theorem dlayFields_0 : decode cX12_layFields 0 = .ok (.iconst 0, 1) := by decide +kernel
theorem dlayFields_1 : decode cX12_layFields 1 = .ok (.istore_n 1, 1) := by decide +kernel
theorem dlayFields_2 : decode cX12_layFields 2 = .ok (.iload_n 1, 1) := by decide +kernel
theorem dlayFields_3 : decode cX12_layFields 3 = .ok (.aload_n 0, 1) := by decide +kernel
theorem dlayFields_4 : decode cX12_layFields 4 = .ok (.getfield 647, 3) := by decide +kernel
theorem dlayFields_7 : decode cX12_layFields 7 = .ok (.if_icmp .ge 142, 3) := by decide +kernel
theorem dlayFields_10 : decode cX12_layFields 10 = .ok (.iconst 0, 1) := by decide +kernel
theorem dlayFields_11 : decode cX12_layFields 11 = .ok (.istore_n 2, 1) := by decide +kernel
theorem dlayFields_12 : decode cX12_layFields 12 = .ok (.iconst 0, 1) := by decide +kernel
theorem dlayFields_13 : decode cX12_layFields 13 = .ok (.istore_n 3, 1) := by decide +kernel
theorem dlayFields_14 : decode cX12_layFields 14 = .ok (.iload_n 1, 1) := by decide +kernel
theorem dlayFields_15 : decode cX12_layFields 15 = .ok (.istore 4, 2) := by decide +kernel
theorem dlayFields_17 : decode cX12_layFields 17 = .ok (.iload 4, 2) := by decide +kernel
theorem dlayFields_19 : decode cX12_layFields 19 = .ok (.ifCond .lt 18, 3) := by decide +kernel
theorem dlayFields_22 : decode cX12_layFields 22 = .ok (.iinc 3 1, 3) := by decide +kernel
theorem dlayFields_25 : decode cX12_layFields 25 = .ok (.aload_n 0, 1) := by decide +kernel
theorem dlayFields_26 : decode cX12_layFields 26 = .ok (.getfield 43, 3) := by decide +kernel
theorem dlayFields_29 : decode cX12_layFields 29 = .ok (.iload 4, 2) := by decide +kernel
theorem dlayFields_31 : decode cX12_layFields 31 = .ok (.iaload, 1) := by decide +kernel
theorem dlayFields_32 : decode cX12_layFields 32 = .ok (.istore 4, 2) := by decide +kernel
theorem dlayFields_34 : decode cX12_layFields 34 = .ok (.goto (-17), 3) := by decide +kernel
theorem dlayFields_37 : decode cX12_layFields 37 = .ok (.iload_n 3, 1) := by decide +kernel
theorem dlayFields_38 : decode cX12_layFields 38 = .ok (.iconst 1, 1) := by decide +kernel
theorem dlayFields_39 : decode cX12_layFields 39 = .ok (.isub, 1) := by decide +kernel
theorem dlayFields_40 : decode cX12_layFields 40 = .ok (.istore 4, 2) := by decide +kernel
theorem dlayFields_42 : decode cX12_layFields 42 = .ok (.iload 4, 2) := by decide +kernel
theorem dlayFields_44 : decode cX12_layFields 44 = .ok (.ifCond .lt 92, 3) := by decide +kernel
theorem dlayFields_47 : decode cX12_layFields 47 = .ok (.iload_n 1, 1) := by decide +kernel
theorem dlayFields_48 : decode cX12_layFields 48 = .ok (.istore 5, 2) := by decide +kernel
theorem dlayFields_50 : decode cX12_layFields 50 = .ok (.iconst 0, 1) := by decide +kernel
theorem dlayFields_51 : decode cX12_layFields 51 = .ok (.istore 6, 2) := by decide +kernel
theorem dlayFields_53 : decode cX12_layFields 53 = .ok (.iload 6, 2) := by decide +kernel
theorem dlayFields_55 : decode cX12_layFields 55 = .ok (.iload 4, 2) := by decide +kernel
theorem dlayFields_57 : decode cX12_layFields 57 = .ok (.if_icmp .ge 18, 3) := by decide +kernel
theorem dlayFields_60 : decode cX12_layFields 60 = .ok (.aload_n 0, 1) := by decide +kernel
theorem dlayFields_61 : decode cX12_layFields 61 = .ok (.getfield 43, 3) := by decide +kernel
theorem dlayFields_64 : decode cX12_layFields 64 = .ok (.iload 5, 2) := by decide +kernel
theorem dlayFields_66 : decode cX12_layFields 66 = .ok (.iaload, 1) := by decide +kernel
theorem dlayFields_67 : decode cX12_layFields 67 = .ok (.istore 5, 2) := by decide +kernel
theorem dlayFields_69 : decode cX12_layFields 69 = .ok (.iinc 6 1, 3) := by decide +kernel
theorem dlayFields_72 : decode cX12_layFields 72 = .ok (.goto (-19), 3) := by decide +kernel
theorem dlayFields_75 : decode cX12_layFields 75 = .ok (.iconst 0, 1) := by decide +kernel
theorem dlayFields_76 : decode cX12_layFields 76 = .ok (.istore 6, 2) := by decide +kernel
theorem dlayFields_78 : decode cX12_layFields 78 = .ok (.iload 6, 2) := by decide +kernel
theorem dlayFields_80 : decode cX12_layFields 80 = .ok (.aload_n 0, 1) := by decide +kernel
theorem dlayFields_81 : decode cX12_layFields 81 = .ok (.getfield 653, 3) := by decide +kernel
theorem dlayFields_84 : decode cX12_layFields 84 = .ok (.if_icmp .ge 46, 3) := by decide +kernel
theorem dlayFields_87 : decode cX12_layFields 87 = .ok (.aload_n 0, 1) := by decide +kernel
theorem dlayFields_88 : decode cX12_layFields 88 = .ok (.getfield 62, 3) := by decide +kernel
theorem dlayFields_91 : decode cX12_layFields 91 = .ok (.iload 6, 2) := by decide +kernel
theorem dlayFields_93 : decode cX12_layFields 93 = .ok (.iaload, 1) := by decide +kernel
theorem dlayFields_94 : decode cX12_layFields 94 = .ok (.aload_n 0, 1) := by decide +kernel
theorem dlayFields_95 : decode cX12_layFields 95 = .ok (.aload_n 0, 1) := by decide +kernel
theorem dlayFields_96 : decode cX12_layFields 96 = .ok (.getfield 37, 3) := by decide +kernel
theorem dlayFields_99 : decode cX12_layFields 99 = .ok (.iload 5, 2) := by decide +kernel
theorem dlayFields_101 : decode cX12_layFields 101 = .ok (.iaload, 1) := by decide +kernel
theorem dlayFields_102 : decode cX12_layFields 102 = .ok (.invokevirtual 716, 3) := by decide +kernel
theorem dlayFields_105 : decode cX12_layFields 105 = .ok (.if_icmp .ne 19, 3) := by decide +kernel
theorem dlayFields_108 : decode cX12_layFields 108 = .ok (.aload_n 0, 1) := by decide +kernel
theorem dlayFields_109 : decode cX12_layFields 109 = .ok (.getfield 258, 3) := by decide +kernel
theorem dlayFields_112 : decode cX12_layFields 112 = .ok (.bipush 120, 2) := by decide +kernel
theorem dlayFields_114 : decode cX12_layFields 114 = .ok (.iload_n 1, 1) := by decide +kernel
theorem dlayFields_115 : decode cX12_layFields 115 = .ok (.imul, 1) := by decide +kernel
theorem dlayFields_116 : decode cX12_layFields 116 = .ok (.iload_n 2, 1) := by decide +kernel
theorem dlayFields_117 : decode cX12_layFields 117 = .ok (.iadd, 1) := by decide +kernel
theorem dlayFields_118 : decode cX12_layFields 118 = .ok (.iload 6, 2) := by decide +kernel
theorem dlayFields_120 : decode cX12_layFields 120 = .ok (.iastore, 1) := by decide +kernel
theorem dlayFields_121 : decode cX12_layFields 121 = .ok (.iinc 2 1, 3) := by decide +kernel
theorem dlayFields_124 : decode cX12_layFields 124 = .ok (.iinc 6 1, 3) := by decide +kernel
theorem dlayFields_127 : decode cX12_layFields 127 = .ok (.goto (-49), 3) := by decide +kernel
theorem dlayFields_130 : decode cX12_layFields 130 = .ok (.iinc 4 (-1), 3) := by decide +kernel
theorem dlayFields_133 : decode cX12_layFields 133 = .ok (.goto (-91), 3) := by decide +kernel
theorem dlayFields_136 : decode cX12_layFields 136 = .ok (.aload_n 0, 1) := by decide +kernel
theorem dlayFields_137 : decode cX12_layFields 137 = .ok (.getfield 255, 3) := by decide +kernel
theorem dlayFields_140 : decode cX12_layFields 140 = .ok (.iload_n 1, 1) := by decide +kernel
theorem dlayFields_141 : decode cX12_layFields 141 = .ok (.iload_n 2, 1) := by decide +kernel
theorem dlayFields_142 : decode cX12_layFields 142 = .ok (.iastore, 1) := by decide +kernel
theorem dlayFields_143 : decode cX12_layFields 143 = .ok (.iinc 1 1, 3) := by decide +kernel
theorem dlayFields_146 : decode cX12_layFields 146 = .ok (.goto (-144), 3) := by decide +kernel
theorem dlayFields_149 : decode cX12_layFields 149 = .ok (.return_, 1) := by decide +kernel
section
variable {l : Launch} {D : va_G} {cA : Nat → ClassId} {ad : Nat → Nat}
theorem s_layFields {rk : Nat → Nat} {h : ja_H} {Q : Option ja_V → ja_H → Prop} (g : mo_G mo_zr h) (p1 : rk_P (h 12) (h 0 22) rk) (p2 : ∀ x : Nat, (x : Int) < (h 0 22) → (rk x : Int) < (h 0 22)) (p3 : it_F h) (k1 : ∀ (h' : ja_H), (mo_ag FLY h h') → mo_G mo_zr h' → Q none h') : mM_layFields l D cA ad  h Q := by
  show mJ l D cA ad 2 cX12_layFields 7 none 0 [(0, (2, ((0 : Nat) : Int)))] [] h Q
  have kn_classes := gF_classes g
  have kn_fields := gF_fields g
  have CUT : ∀ n : Nat, (∀ (x1 : Int) (u : ja_H), mo_G mo_zr u → (-2147483648 ≤ x1 ∧ x1 ≤ 2147483647) → (mo_ag FLY h u ∧ 0 ≤ x1 ∧ x1 ≤ (h 0 22)) → (((10000000 : Int) * ((13 : Int) - x1)).toNat) = n → mJ l D cA ad 2 cX12_layFields 7 none 2 [(0, (2, ((0 : Nat) : Int))), (1, (0, x1))] [] u Q) ∧ (∀ (x1 x2 x3 x4 : Int) (u : ja_H), mo_G mo_zr u → (-2147483648 ≤ x1 ∧ x1 ≤ 2147483647) → (-2147483648 ≤ x2 ∧ x2 ≤ 2147483647) → (-2147483648 ≤ x3 ∧ x3 ≤ 2147483647) → (-2147483648 ≤ x4 ∧ x4 ≤ 2147483647) → (mo_ag FLY h u ∧ 0 ≤ x1 ∧ x1 < (h 0 22) ∧ x2 = 0 ∧ 0 ≤ x3 ∧ x4 < (h 0 22) ∧ -1 ≤ x4 ∧ wkD (u 12) x1 x4 x3 ∧ x3 + rkO rk x4 ≤ 12) → (((10000000 : Int) * ((13 : Int) - x1) - 1000000 + rkO rk x4).toNat) = n → mJ l D cA ad 2 cX12_layFields 7 none 17 [(0, (2, ((0 : Nat) : Int))), (1, (0, x1)), (2, (0, x2)), (3, (0, x3)), (4, (0, x4))] [] u Q) ∧ (∀ (Dp x1 x2 x4 : Int) (u : ja_H), mo_G mo_zr u → (-2147483648 ≤ Dp ∧ Dp ≤ 2147483647) → (-2147483648 ≤ x1 ∧ x1 ≤ 2147483647) → (-2147483648 ≤ x2 ∧ x2 ≤ 2147483647) → (-2147483648 ≤ x4 ∧ x4 ≤ 2147483647) → (mo_ag FLY h u ∧ 0 ≤ x1 ∧ x1 < (h 0 22) ∧ 0 ≤ Dp ∧ Dp ≤ 12 ∧ -1 ≤ x4 ∧ x4 < Dp ∧ 0 ≤ x2 ∧ x2 ≤ 10 * (Dp - 1 - x4) ∧ ∃ y, wkD (u 12) x1 y Dp) → (((10000000 : Int) * ((13 : Int) - x1) - 2000000 + 2000 * (x4 + 1)).toNat) = n → mJ l D cA ad 2 cX12_layFields 7 none 42 [(0, (2, ((0 : Nat) : Int))), (1, (0, x1)), (2, (0, x2)), (4, (0, x4))] [] u Q) ∧ (∀ (Dp x1 x2 x4 x5 x6 : Int) (u : ja_H), mo_G mo_zr u → (-2147483648 ≤ Dp ∧ Dp ≤ 2147483647) → (-2147483648 ≤ x1 ∧ x1 ≤ 2147483647) → (-2147483648 ≤ x2 ∧ x2 ≤ 2147483647) → (-2147483648 ≤ x4 ∧ x4 ≤ 2147483647) → (-2147483648 ≤ x5 ∧ x5 ≤ 2147483647) → (-2147483648 ≤ x6 ∧ x6 ≤ 2147483647) → (mo_ag FLY h u ∧ 0 ≤ x1 ∧ x1 < (h 0 22) ∧ 0 ≤ Dp ∧ Dp ≤ 12 ∧ 0 ≤ x4 ∧ x4 < Dp ∧ 0 ≤ x2 ∧ x2 ≤ 10 * (Dp - 1 - x4) ∧ 0 ≤ x6 ∧ x6 ≤ x4 ∧ x5 = upn (u 12) (x6).toNat x1 ∧ ∃ y, wkD (u 12) x1 y Dp) → (((10000000 : Int) * ((13 : Int) - x1) - 2000000 + 2000 * (x4 + 1) - 100 - x6).toNat) = n → mJ l D cA ad 2 cX12_layFields 7 none 53 [(0, (2, ((0 : Nat) : Int))), (1, (0, x1)), (2, (0, x2)), (4, (0, x4)), (5, (0, x5)), (6, (0, x6))] [] u Q) ∧ (∀ (Dp Nb x1 x2 x4 x5 x6 : Int) (u : ja_H), mo_G mo_zr u → (-2147483648 ≤ Dp ∧ Dp ≤ 2147483647) → (-2147483648 ≤ Nb ∧ Nb ≤ 2147483647) → (-2147483648 ≤ x1 ∧ x1 ≤ 2147483647) → (-2147483648 ≤ x2 ∧ x2 ≤ 2147483647) → (-2147483648 ≤ x4 ∧ x4 ≤ 2147483647) → (-2147483648 ≤ x5 ∧ x5 ≤ 2147483647) → (-2147483648 ≤ x6 ∧ x6 ≤ 2147483647) → (mo_ag FLY h u ∧ 0 ≤ x1 ∧ x1 < (h 0 22) ∧ 0 ≤ Dp ∧ Dp ≤ 12 ∧ 0 ≤ x4 ∧ x4 < Dp ∧ 0 ≤ Nb ∧ Nb ≤ 10 * (Dp - 1 - x4) ∧ 0 ≤ x6 ∧ x6 ≤ (h 0 31) ∧ (0 ≤ x5 ∧ x5 < (h 0 22)) ∧ (0 ≤ x2 ∧ x2 ≤ Nb + (cntI (u 18) (u 5 (u 10 (x5).toNat).toNat) (x6).toNat : Int)) ∧ ∃ y, wkD (u 12) x1 y Dp) → (((10000000 : Int) * ((13 : Int) - x1) - 2000000 + 2000 * (x4 + 1) - 200 - x6).toNat) = n → mJ l D cA ad 2 cX12_layFields 7 none 78 [(0, (2, ((0 : Nat) : Int))), (1, (0, x1)), (2, (0, x2)), (4, (0, x4)), (5, (0, x5)), (6, (0, x6))] [] u Q) := by
    intro n
    induction n using Nat.strongRecOn with
    | _ n ih =>
      refine ⟨?_, ?_, ?_, ?_, ?_⟩
      · intro x1 u gu qx1 iv hm
        subst hm
        have ku_classes := gF_classes gu
        have ku_fields := gF_fields gu
        obtain ⟨ag, iv⟩ := iv
        have e_classes : (u 0 22) = (h 0 22) := ag 0 22 rfl
        have e_fields : (u 0 31) = (h 0 31) := ag 0 31 rfl
        have eab : u 12 = h 12 := funext fun j => ag 12 j rfl
        have hrk : rk_P (u 12) (h 0 22) rk := (by rw [eab]; exact p1)
        refine ja_iload_n dlayFields_2 rfl rfl ?_
        refine ja_aload_n dlayFields_3 rfl rfl ?_
        refine fg_classes (v := u 0 22) rfl dlayFields_4 ?_
        have f1 := gF_classes gu
        refine ja_icmp_ge 149 dlayFields_7 rfl ⟨by omega, by omega⟩ ⟨by omega, by omega⟩ (fun c7 => ?_) (fun c7 => ?_)
        · refine ja_return dlayFields_149 rfl ?_
          exact k1 u (ag) gu
        · refine ja_iconst dlayFields_10 ?_
          refine ja_istore_n dlayFields_11 rfl (by decide) (L2 := [(2, (0, 0)), (0, (2, ((0 : Nat) : Int))), (1, (0, x1))]) rfl ?_
          refine ja_iconst dlayFields_12 ?_
          refine ja_istore_n dlayFields_13 rfl (by decide) (L2 := [(3, (0, 0)), (2, (0, 0)), (0, (2, ((0 : Nat) : Int))), (1, (0, x1))]) rfl ?_
          refine ja_iload_n dlayFields_14 rfl rfl ?_
          refine ja_istore dlayFields_15 (by decide) (L2 := [(4, (0, x1)), (3, (0, 0)), (2, (0, 0)), (0, (2, ((0 : Nat) : Int))), (1, (0, x1))]) rfl ?_
          exact ja_wk (fun q hq => by simp only [List.mem_cons, List.not_mem_nil, or_false] at hq; rcases hq with rfl | rfl | rfl | rfl | rfl <;> rfl) ((ih (((10000000 : Int) * ((13 : Int) - x1) - 1000000 + rkO rk x1).toNat) ((by have := rkO_c p2 (show 0 ≤ x1 by omega) (show x1 < (h 0 22) by omega); omega))).2.1 x1 0 0 x1 u gu ⟨by omega, by omega⟩ ⟨by decide, by decide⟩ ⟨by decide, by decide⟩ ⟨by omega, by omega⟩ (⟨(ag_trans ag (by (repeat (first | exact ag_refl | refine ag_up rfl ?_)))), by omega, by omega, by omega, by omega, by omega, by omega, wkD_0, (by have := rkO_c p2 (show 0 ≤ x1 by omega) (show x1 < (h 0 22) by omega); omega)⟩) rfl)
      · intro x1 x2 x3 x4 u gu qx1 qx2 qx3 qx4 iv hm
        subst hm
        have ku_classes := gF_classes gu
        have ku_fields := gF_fields gu
        obtain ⟨ag, iv⟩ := iv
        have e_classes : (u 0 22) = (h 0 22) := ag 0 22 rfl
        have e_fields : (u 0 31) = (h 0 31) := ag 0 31 rfl
        have eab : u 12 = h 12 := funext fun j => ag 12 j rfl
        have hrk : rk_P (u 12) (h 0 22) rk := (by rw [eab]; exact p1)
        have kab := gC_classAbove gu (x4).toNat
        have kr := rkO_0 (rk := rk) (x := x4)
        refine ja_iload dlayFields_17 rfl ?_
        refine ja_if_lt 37 dlayFields_19 rfl ⟨by omega, by omega⟩ (fun c19 => ?_) (fun c19 => ?_)
        · refine ja_iload_n dlayFields_37 rfl rfl ?_
          refine ja_iconst dlayFields_38 ?_
          refine ja_isub dlayFields_39 ?_
          refine ja_istore dlayFields_40 (by decide) (L2 := [(4, (0, (x3 - 1))), (0, (2, ((0 : Nat) : Int))), (1, (0, x1)), (2, (0, x2)), (3, (0, x3))]) rfl ?_
          exact ja_wk (fun q hq => by simp only [List.mem_cons, List.not_mem_nil, or_false] at hq; rcases hq with rfl | rfl | rfl | rfl <;> rfl) ((ih (((10000000 : Int) * ((13 : Int) - x1) - 2000000 + 2000 * ((x3 - 1) + 1)).toNat) (by omega)).2.2.1 x3 x1 x2 (x3 - 1) u gu ⟨by omega, by omega⟩ ⟨by omega, by omega⟩ ⟨by omega, by omega⟩ ⟨by omega, by omega⟩ (⟨ag, by omega, by omega, by omega, by omega, by omega, by omega, by omega, by omega, ⟨_, iv.2.2.2.2.2.2.1⟩⟩) rfl)
        · refine ja_iinc dlayFields_22 rfl (by decide) (L2 := [(3, (0, (x3 + 1))), (0, (2, ((0 : Nat) : Int))), (1, (0, x1)), (2, (0, x2)), (4, (0, x4))]) rfl ?_
          refine ja_aload_n dlayFields_25 rfl rfl ?_
          refine fa_classAbove dlayFields_26 ?_
          refine ja_iload dlayFields_29 rfl ?_
          refine il_classAbove (v := u 12 (x4).toNat) rfl ⟨by omega, by omega⟩ dlayFields_31 ?_
          have f2 := gC_classAbove gu (x4).toNat
          refine ja_istore dlayFields_32 (by decide) (L2 := [(4, (0, (u 12 (x4).toNat))), (3, (0, (x3 + 1))), (0, (2, ((0 : Nat) : Int))), (1, (0, x1)), (2, (0, x2))]) rfl ?_
          refine ja_goto 17 dlayFields_34 rfl ?_
          exact ja_wk (fun q hq => by simp only [List.mem_cons, List.not_mem_nil, or_false] at hq; rcases hq with rfl | rfl | rfl | rfl | rfl <;> rfl) ((ih (((10000000 : Int) * ((13 : Int) - x1) - 1000000 + rkO rk (u 12 (x4).toNat)).toNat) ((by have := rkO_s hrk (show ¬ x4 < 0 by omega) (show x4 < (h 0 22) by omega); omega))).2.1 x1 x2 (x3 + 1) (u 12 (x4).toNat) u gu ⟨by omega, by omega⟩ ⟨by omega, by omega⟩ ⟨by omega, by omega⟩ ⟨by omega, by omega⟩ (⟨(ag_trans ag (by (repeat (first | exact ag_refl | refine ag_up rfl ?_)))), by omega, by omega, by omega, by omega, (by have := (hrk (x4).toNat (by omega)).1; omega), by omega, wkD_s (by omega) (by omega) iv.2.2.2.2.2.2.1, (by have := rkO_s hrk (show ¬ x4 < 0 by omega) (show x4 < (h 0 22) by omega); omega)⟩) rfl)
      · intro Dp x1 x2 x4 u gu qDp qx1 qx2 qx4 iv hm
        subst hm
        have ku_classes := gF_classes gu
        have ku_fields := gF_fields gu
        obtain ⟨ag, iv⟩ := iv
        have e_classes : (u 0 22) = (h 0 22) := ag 0 22 rfl
        have e_fields : (u 0 31) = (h 0 31) := ag 0 31 rfl
        have eab : u 12 = h 12 := funext fun j => ag 12 j rfl
        have hrk : rk_P (u 12) (h 0 22) rk := (by rw [eab]; exact p1)
        obtain ⟨i1, i2, i3, i4, i5, i6, i7, i8, wy, hw⟩ := iv
        refine ja_iload dlayFields_42 rfl ?_
        refine ja_if_lt 136 dlayFields_44 rfl ⟨by omega, by omega⟩ (fun c44 => ?_) (fun c44 => ?_)
        · refine ja_aload_n dlayFields_136 rfl rfl ?_
          refine fa_layoutMany dlayFields_137 ?_
          refine ja_iload_n dlayFields_140 rfl rfl ?_
          refine ja_iload_n dlayFields_141 rfl rfl ?_
          have g3 := gW_layoutMany gu (x1).toNat (x := x2) ⟨by omega, by omega⟩
          refine is_layoutMany ⟨by omega, by omega⟩ dlayFields_142 ?_
          refine ja_iinc dlayFields_143 rfl (by decide) (L2 := [(1, (0, (x1 + 1))), (0, (2, ((0 : Nat) : Int))), (2, (0, x2)), (4, (0, x4))]) rfl ?_
          refine ja_goto 2 dlayFields_146 rfl ?_
          exact ja_wk (fun q hq => by simp only [List.mem_cons, List.not_mem_nil, or_false] at hq; rcases hq with rfl | rfl <;> rfl) ((ih (((10000000 : Int) * ((13 : Int) - (x1 + 1))).toNat) (by omega)).1 (x1 + 1) (ja_up u 82 ((x1).toNat) x2) g3 ⟨by omega, by omega⟩ (⟨(ag_trans ag (by (repeat (first | exact ag_refl | refine ag_up rfl ?_)))), by omega⟩) rfl)
        · refine ja_iload_n dlayFields_47 rfl rfl ?_
          refine ja_istore dlayFields_48 (by decide) (L2 := [(5, (0, x1)), (0, (2, ((0 : Nat) : Int))), (1, (0, x1)), (2, (0, x2)), (4, (0, x4))]) rfl ?_
          refine ja_iconst dlayFields_50 ?_
          refine ja_istore dlayFields_51 (by decide) (L2 := [(6, (0, 0)), (5, (0, x1)), (0, (2, ((0 : Nat) : Int))), (1, (0, x1)), (2, (0, x2)), (4, (0, x4))]) rfl ?_
          exact ja_wk (fun q hq => by simp only [List.mem_cons, List.not_mem_nil, or_false] at hq; rcases hq with rfl | rfl | rfl | rfl | rfl | rfl <;> rfl) ((ih (((10000000 : Int) * ((13 : Int) - x1) - 2000000 + 2000 * (x4 + 1) - 100 - 0).toNat) (by omega)).2.2.2.1 Dp x1 x2 x4 x1 0 u gu ⟨by omega, by omega⟩ ⟨by omega, by omega⟩ ⟨by omega, by omega⟩ ⟨by omega, by omega⟩ ⟨by omega, by omega⟩ ⟨by decide, by decide⟩ (⟨ag, by omega, by omega, by omega, by omega, by omega, by omega, by omega, by omega, by omega, by omega, rfl, ⟨wy, hw⟩⟩) rfl)
      · intro Dp x1 x2 x4 x5 x6 u gu qDp qx1 qx2 qx4 qx5 qx6 iv hm
        subst hm
        have ku_classes := gF_classes gu
        have ku_fields := gF_fields gu
        obtain ⟨ag, iv⟩ := iv
        have e_classes : (u 0 22) = (h 0 22) := ag 0 22 rfl
        have e_fields : (u 0 31) = (h 0 31) := ag 0 31 rfl
        have eab : u 12 = h 12 := funext fun j => ag 12 j rfl
        have hrk : rk_P (u 12) (h 0 22) rk := (by rw [eab]; exact p1)
        obtain ⟨i1, i2, i3, i4, i5, i6, i7, i8, i9, i10, i11, wy, hw⟩ := iv
        obtain ⟨w1, w2, w3⟩ := wkD_at hrk (show x1 < (h 0 22) by omega) hw i9 (show x6 < Dp by omega) i11
        refine ja_iload dlayFields_53 rfl ?_
        refine ja_iload dlayFields_55 rfl ?_
        refine ja_icmp_ge 75 dlayFields_57 rfl ⟨by omega, by omega⟩ ⟨by omega, by omega⟩ (fun c57 => ?_) (fun c57 => ?_)
        · refine ja_iconst dlayFields_75 ?_
          refine ja_istore dlayFields_76 (by decide) (L2 := [(6, (0, 0)), (0, (2, ((0 : Nat) : Int))), (1, (0, x1)), (2, (0, x2)), (4, (0, x4)), (5, (0, x5))]) rfl ?_
          exact ja_wk (fun q hq => by simp only [List.mem_cons, List.not_mem_nil, or_false] at hq; rcases hq with rfl | rfl | rfl | rfl | rfl | rfl <;> rfl) ((ih (((10000000 : Int) * ((13 : Int) - x1) - 2000000 + 2000 * (x4 + 1) - 200 - 0).toNat) (by omega)).2.2.2.2 Dp x2 x1 x2 x4 x5 0 u gu ⟨by omega, by omega⟩ ⟨by omega, by omega⟩ ⟨by omega, by omega⟩ ⟨by omega, by omega⟩ ⟨by omega, by omega⟩ ⟨by omega, by omega⟩ ⟨by decide, by decide⟩ (⟨ag, by omega, by omega, by omega, by omega, by omega, by omega, by omega, by omega, by omega, by omega, ⟨w1, w2⟩, ⟨by omega, (by show x2 ≤ x2 + ((0 : Nat) : Int); omega)⟩, ⟨wy, hw⟩⟩) rfl)
        · refine ja_aload_n dlayFields_60 rfl rfl ?_
          refine fa_classAbove dlayFields_61 ?_
          refine ja_iload dlayFields_64 rfl ?_
          refine il_classAbove (v := u 12 (x5).toNat) rfl ⟨by omega, by omega⟩ dlayFields_66 ?_
          have f4 := gC_classAbove gu (x5).toNat
          refine ja_istore dlayFields_67 (by decide) (L2 := [(5, (0, (u 12 (x5).toNat))), (0, (2, ((0 : Nat) : Int))), (1, (0, x1)), (2, (0, x2)), (4, (0, x4)), (6, (0, x6))]) rfl ?_
          refine ja_iinc dlayFields_69 rfl (by decide) (L2 := [(6, (0, (x6 + 1))), (5, (0, (u 12 (x5).toNat))), (0, (2, ((0 : Nat) : Int))), (1, (0, x1)), (2, (0, x2)), (4, (0, x4))]) rfl ?_
          refine ja_goto 53 dlayFields_72 rfl ?_
          exact ja_wk (fun q hq => by simp only [List.mem_cons, List.not_mem_nil, or_false] at hq; rcases hq with rfl | rfl | rfl | rfl | rfl | rfl <;> rfl) ((ih (((10000000 : Int) * ((13 : Int) - x1) - 2000000 + 2000 * (x4 + 1) - 100 - (x6 + 1)).toNat) (by omega)).2.2.2.1 Dp x1 x2 x4 (u 12 (x5).toNat) (x6 + 1) u gu ⟨by omega, by omega⟩ ⟨by omega, by omega⟩ ⟨by omega, by omega⟩ ⟨by omega, by omega⟩ ⟨by omega, by omega⟩ ⟨by omega, by omega⟩ (⟨ag, by omega, by omega, by omega, by omega, by omega, by omega, by omega, by omega, by omega, by omega, w3, ⟨wy, hw⟩⟩) rfl)
      · intro Dp Nb x1 x2 x4 x5 x6 u gu qDp qNb qx1 qx2 qx4 qx5 qx6 iv hm
        subst hm
        have ku_classes := gF_classes gu
        have ku_fields := gF_fields gu
        obtain ⟨ag, iv⟩ := iv
        have e_classes : (u 0 22) = (h 0 22) := ag 0 22 rfl
        have e_fields : (u 0 31) = (h 0 31) := ag 0 31 rfl
        have eab : u 12 = h 12 := funext fun j => ag 12 j rfl
        have hrk : rk_P (u 12) (h 0 22) rk := (by rw [eab]; exact p1)
        obtain ⟨i1, i2, i3, i4, i5, i6, i7, i8, i9, i10, i11, i12, wy, hw⟩ := iv
        have efo : (u 18) = (h 18) := funext fun j => ag 18 j rfl
        have hF := p3 (u 5 (u 10 (x5).toNat).toNat)
        have hM := cntI_mono (f := (u 18)) (v := (u 5 (u 10 (x5).toNat).toNat)) (i := (x6).toNat) ((h 0 31)).toNat (by omega)
        rw [← efo] at hF
        refine ja_iload dlayFields_78 rfl ?_
        refine ja_aload_n dlayFields_80 rfl rfl ?_
        refine fg_fields (v := u 0 31) rfl dlayFields_81 ?_
        have f5 := gF_fields gu
        refine ja_icmp_ge 130 dlayFields_84 rfl ⟨by omega, by omega⟩ ⟨by omega, by omega⟩ (fun c84 => ?_) (fun c84 => ?_)
        · refine ja_iinc dlayFields_130 rfl (by decide) (L2 := [(4, (0, (x4 + (-1)))), (0, (2, ((0 : Nat) : Int))), (1, (0, x1)), (2, (0, x2)), (5, (0, x5)), (6, (0, x6))]) rfl ?_
          refine ja_goto 42 dlayFields_133 rfl ?_
          exact ja_wk (fun q hq => by simp only [List.mem_cons, List.not_mem_nil, or_false] at hq; rcases hq with rfl | rfl | rfl | rfl <;> rfl) ((ih (((10000000 : Int) * ((13 : Int) - x1) - 2000000 + 2000 * ((x4 + (-1)) + 1)).toNat) (by omega)).2.2.1 Dp x1 x2 (x4 + (-1)) u gu ⟨by omega, by omega⟩ ⟨by omega, by omega⟩ ⟨by omega, by omega⟩ ⟨by omega, by omega⟩ (⟨ag, by omega, by omega, by omega, by omega, by omega, by omega, by omega, by omega, ⟨wy, hw⟩⟩) rfl)
        · refine ja_aload_n dlayFields_87 rfl rfl ?_
          refine fa_fieldOf dlayFields_88 ?_
          refine ja_iload dlayFields_91 rfl ?_
          refine il_fieldOf (v := u 18 (x6).toNat) rfl ⟨by omega, by omega⟩ dlayFields_93 ?_
          have f6 := gC_fieldOf gu (x6).toNat
          refine ja_aload_n dlayFields_94 rfl rfl ?_
          refine ja_aload_n dlayFields_95 rfl rfl ?_
          refine fa_className dlayFields_96 ?_
          refine ja_iload dlayFields_99 rfl ?_
          refine il_className (v := u 10 (x5).toNat) rfl ⟨by omega, by omega⟩ dlayFields_101 ?_
          have f7 := gC_className gu (x5).toNat
          refine t_id (by decide) (show (1 : Nat) ≤ 8 by decide) dlayFields_102 gu ⟨by omega, by omega⟩ (show 0 ≤ (u 10 (x5).toNat) ∧ (u 10 (x5).toNat) ≤ 900 by omega) ?_
          intro k102_0
          refine ja_icmp_ne 124 dlayFields_105 rfl ⟨by omega, by omega⟩ ⟨by omega, by omega⟩ (fun c105 => ?_) (fun c105 => ?_)
          · refine ja_iinc dlayFields_124 rfl (by decide) (L2 := [(6, (0, (x6 + 1))), (0, (2, ((0 : Nat) : Int))), (1, (0, x1)), (2, (0, x2)), (4, (0, x4)), (5, (0, x5))]) rfl ?_
            refine ja_goto 78 dlayFields_127 rfl ?_
            exact ja_wk (fun q hq => by simp only [List.mem_cons, List.not_mem_nil, or_false] at hq; rcases hq with rfl | rfl | rfl | rfl | rfl | rfl <;> rfl) ((ih (((10000000 : Int) * ((13 : Int) - x1) - 2000000 + 2000 * (x4 + 1) - 200 - (x6 + 1)).toNat) (by omega)).2.2.2.2 Dp Nb x1 x2 x4 x5 (x6 + 1) u gu ⟨by omega, by omega⟩ ⟨by omega, by omega⟩ ⟨by omega, by omega⟩ ⟨by omega, by omega⟩ ⟨by omega, by omega⟩ ⟨by omega, by omega⟩ ⟨by omega, by omega⟩ (⟨(ag_trans ag (by (repeat (first | exact ag_refl | refine ag_up rfl ?_)))), by omega, by omega, by omega, by omega, by omega, by omega, by omega, by omega, by omega, by omega, i11, (show 0 ≤ x2 ∧ x2 ≤ Nb + (cntI (u 18) (u 5 (u 10 (x5).toNat).toNat) ((x6 + 1)).toNat : Int) from ⟨by omega, (by have := cnt_no (f := (u 18)) (v := (u 5 (u 10 (x5).toNat).toNat)) (i := x6) i9 rfl c105; omega)⟩), ⟨wy, hw⟩⟩) rfl)
          · refine ja_aload_n dlayFields_108 rfl rfl ?_
            refine fa_layoutField dlayFields_109 ?_
            refine ja_bipush 120 dlayFields_112 rfl ?_
            refine ja_iload_n dlayFields_114 rfl rfl ?_
            refine ja_imul dlayFields_115 ?_
            refine ja_iload_n dlayFields_116 rfl rfl ?_
            refine ja_iadd dlayFields_117 ?_
            refine ja_iload dlayFields_118 rfl ?_
            have g8 := gW_layoutField gu ((120 * x1) + x2).toNat (x := x6) ⟨by omega, by omega⟩
            refine is_layoutField ⟨by omega, by omega⟩ dlayFields_120 ?_
            refine ja_iinc dlayFields_121 rfl (by decide) (L2 := [(2, (0, (x2 + 1))), (0, (2, ((0 : Nat) : Int))), (1, (0, x1)), (4, (0, x4)), (5, (0, x5)), (6, (0, x6))]) rfl ?_
            refine ja_iinc dlayFields_124 rfl (by decide) (L2 := [(6, (0, (x6 + 1))), (2, (0, (x2 + 1))), (0, (2, ((0 : Nat) : Int))), (1, (0, x1)), (4, (0, x4)), (5, (0, x5))]) rfl ?_
            refine ja_goto 78 dlayFields_127 rfl ?_
            exact ja_wk (fun q hq => by simp only [List.mem_cons, List.not_mem_nil, or_false] at hq; rcases hq with rfl | rfl | rfl | rfl | rfl | rfl <;> rfl) ((ih (((10000000 : Int) * ((13 : Int) - x1) - 2000000 + 2000 * (x4 + 1) - 200 - (x6 + 1)).toNat) (by omega)).2.2.2.2 Dp Nb x1 (x2 + 1) x4 x5 (x6 + 1) (ja_up u 83 (((120 * x1) + x2).toNat) x6) g8 ⟨by omega, by omega⟩ ⟨by omega, by omega⟩ ⟨by omega, by omega⟩ ⟨by omega, by omega⟩ ⟨by omega, by omega⟩ ⟨by omega, by omega⟩ ⟨by omega, by omega⟩ (⟨(ag_trans ag (by (repeat (first | exact ag_refl | refine ag_up rfl ?_)))), by omega, by omega, by omega, by omega, by omega, by omega, by omega, by omega, by omega, by omega, i11, (show 0 ≤ (x2 + 1) ∧ (x2 + 1) ≤ Nb + (cntI (u 18) (u 5 (u 10 (x5).toNat).toNat) ((x6 + 1)).toNat : Int) from ⟨by omega, (by have := cnt_yes (f := (u 18)) (v := (u 5 (u 10 (x5).toNat).toNat)) (i := x6) i9 rfl c105; omega)⟩), ⟨wy, hw⟩⟩) rfl)
  refine ja_iconst dlayFields_0 ?_
  refine ja_istore_n dlayFields_1 rfl (by decide) (L2 := [(1, (0, 0)), (0, (2, ((0 : Nat) : Int)))]) rfl ?_
  exact ja_wk (fun q hq => by simp only [List.mem_cons, List.not_mem_nil, or_false] at hq; rcases hq with rfl | rfl <;> rfl) ((CUT _).1 0 h g ⟨by decide, by decide⟩ (⟨ag_refl, by omega⟩) rfl)
theorem t_layFields {rk : Nat → Nat} {d nL pc : Nat} {cc : ByteArray} {rt : Option FieldType} {L : List (Nat × ja_V)} {S : List ja_V} {h : ja_H} {Q : Option ja_V → ja_H → Prop} (hdd : 2 < d) (hwd : ja_wd S ≤ 8) (hd : decode cc pc = .ok (.invokevirtual 927, 3)) (g : mo_G mo_zr h) (p1 : rk_P (h 12) (h 0 22) rk) (p2 : ∀ x : Nat, (x : Int) < (h 0 22) → (rk x : Int) < (h 0 22)) (p3 : it_F h) (k1 : ∀ (h' : ja_H), (mo_ag FLY h h') → mo_G mo_zr h' → mJ l D cA ad d cc nL rt (pc + 3) L S h' Q) : mJ l D cA ad d cc nL rt pc L ((2, ((0 : Nat) : Int)) :: S) h Q :=
  mc_layFields hdd hwd hd (s_layFields g p1 p2 p3 k1)
end
theorem dlayNodes_0 : decode cX12_layNodes 0 = .ok (.iconst 0, 1) := by decide +kernel
theorem dlayNodes_1 : decode cX12_layNodes 1 = .ok (.istore_n 1, 1) := by decide +kernel
theorem dlayNodes_2 : decode cX12_layNodes 2 = .ok (.iload_n 1, 1) := by decide +kernel
theorem dlayNodes_3 : decode cX12_layNodes 3 = .ok (.aload_n 0, 1) := by decide +kernel
theorem dlayNodes_4 : decode cX12_layNodes 4 = .ok (.getfield 686, 3) := by decide +kernel
theorem dlayNodes_7 : decode cX12_layNodes 7 = .ok (.if_icmp .ge 259, 3) := by decide +kernel
theorem dlayNodes_10 : decode cX12_layNodes 10 = .ok (.aload_n 0, 1) := by decide +kernel
theorem dlayNodes_11 : decode cX12_layNodes 11 = .ok (.getfield 182, 3) := by decide +kernel
theorem dlayNodes_14 : decode cX12_layNodes 14 = .ok (.iload_n 1, 1) := by decide +kernel
theorem dlayNodes_15 : decode cX12_layNodes 15 = .ok (.iaload, 1) := by decide +kernel
theorem dlayNodes_16 : decode cX12_layNodes 16 = .ok (.istore_n 2, 1) := by decide +kernel
theorem dlayNodes_17 : decode cX12_layNodes 17 = .ok (.aload_n 0, 1) := by decide +kernel
theorem dlayNodes_18 : decode cX12_layNodes 18 = .ok (.getfield 212, 3) := by decide +kernel
theorem dlayNodes_21 : decode cX12_layNodes 21 = .ok (.iload_n 1, 1) := by decide +kernel
theorem dlayNodes_22 : decode cX12_layNodes 22 = .ok (.iconst 0, 1) := by decide +kernel
theorem dlayNodes_23 : decode cX12_layNodes 23 = .ok (.iastore, 1) := by decide +kernel
theorem dlayNodes_24 : decode cX12_layNodes 24 = .ok (.iload_n 2, 1) := by decide +kernel
theorem dlayNodes_25 : decode cX12_layNodes 25 = .ok (.iconst 2, 1) := by decide +kernel
theorem dlayNodes_26 : decode cX12_layNodes 26 = .ok (.if_icmp .eq 23, 3) := by decide +kernel
theorem dlayNodes_29 : decode cX12_layNodes 29 = .ok (.iload_n 2, 1) := by decide +kernel
theorem dlayNodes_30 : decode cX12_layNodes 30 = .ok (.bipush 6, 2) := by decide +kernel
theorem dlayNodes_32 : decode cX12_layNodes 32 = .ok (.if_icmp .eq 17, 3) := by decide +kernel
theorem dlayNodes_35 : decode cX12_layNodes 35 = .ok (.iload_n 2, 1) := by decide +kernel
theorem dlayNodes_36 : decode cX12_layNodes 36 = .ok (.iconst 4, 1) := by decide +kernel
theorem dlayNodes_37 : decode cX12_layNodes 37 = .ok (.if_icmp .gt 16, 3) := by decide +kernel
theorem dlayNodes_40 : decode cX12_layNodes 40 = .ok (.aload_n 0, 1) := by decide +kernel
theorem dlayNodes_41 : decode cX12_layNodes 41 = .ok (.getfield 185, 3) := by decide +kernel
theorem dlayNodes_44 : decode cX12_layNodes 44 = .ok (.iload_n 1, 1) := by decide +kernel
theorem dlayNodes_45 : decode cX12_layNodes 45 = .ok (.iaload, 1) := by decide +kernel
theorem dlayNodes_46 : decode cX12_layNodes 46 = .ok (.ifCond .lt 7, 3) := by decide +kernel
theorem dlayNodes_49 : decode cX12_layNodes 49 = .ok (.iconst 1, 1) := by decide +kernel
theorem dlayNodes_50 : decode cX12_layNodes 50 = .ok (.goto 4, 3) := by decide +kernel
theorem dlayNodes_53 : decode cX12_layNodes 53 = .ok (.iconst 0, 1) := by decide +kernel
theorem dlayNodes_54 : decode cX12_layNodes 54 = .ok (.istore_n 3, 1) := by decide +kernel
theorem dlayNodes_55 : decode cX12_layNodes 55 = .ok (.iconst 0, 1) := by decide +kernel
theorem dlayNodes_56 : decode cX12_layNodes 56 = .ok (.istore 4, 2) := by decide +kernel
theorem dlayNodes_58 : decode cX12_layNodes 58 = .ok (.iload 4, 2) := by decide +kernel
theorem dlayNodes_60 : decode cX12_layNodes 60 = .ok (.aload_n 0, 1) := by decide +kernel
theorem dlayNodes_61 : decode cX12_layNodes 61 = .ok (.getfield 647, 3) := by decide +kernel
theorem dlayNodes_64 : decode cX12_layNodes 64 = .ok (.if_icmp .ge 54, 3) := by decide +kernel
theorem dlayNodes_67 : decode cX12_layNodes 67 = .ok (.iload_n 3, 1) := by decide +kernel
theorem dlayNodes_68 : decode cX12_layNodes 68 = .ok (.ifCond .eq 50, 3) := by decide +kernel
theorem dlayNodes_71 : decode cX12_layNodes 71 = .ok (.iload_n 2, 1) := by decide +kernel
theorem dlayNodes_72 : decode cX12_layNodes 72 = .ok (.iconst 5, 1) := by decide +kernel
theorem dlayNodes_73 : decode cX12_layNodes 73 = .ok (.if_icmp .eq 45, 3) := by decide +kernel
theorem dlayNodes_76 : decode cX12_layNodes 76 = .ok (.aload_n 0, 1) := by decide +kernel
theorem dlayNodes_77 : decode cX12_layNodes 77 = .ok (.getfield 212, 3) := by decide +kernel
theorem dlayNodes_80 : decode cX12_layNodes 80 = .ok (.iload_n 1, 1) := by decide +kernel
theorem dlayNodes_81 : decode cX12_layNodes 81 = .ok (.aload_n 0, 1) := by decide +kernel
theorem dlayNodes_82 : decode cX12_layNodes 82 = .ok (.iload_n 1, 1) := by decide +kernel
theorem dlayNodes_83 : decode cX12_layNodes 83 = .ok (.iload 4, 2) := by decide +kernel
theorem dlayNodes_85 : decode cX12_layNodes 85 = .ok (.invokevirtual 945, 3) := by decide +kernel
theorem dlayNodes_88 : decode cX12_layNodes 88 = .ok (.ifCond .eq 17, 3) := by decide +kernel
theorem dlayNodes_91 : decode cX12_layNodes 91 = .ok (.aload_n 0, 1) := by decide +kernel
theorem dlayNodes_92 : decode cX12_layNodes 92 = .ok (.getfield 212, 3) := by decide +kernel
theorem dlayNodes_95 : decode cX12_layNodes 95 = .ok (.iload_n 1, 1) := by decide +kernel
theorem dlayNodes_96 : decode cX12_layNodes 96 = .ok (.iaload, 1) := by decide +kernel
theorem dlayNodes_97 : decode cX12_layNodes 97 = .ok (.iconst 1, 1) := by decide +kernel
theorem dlayNodes_98 : decode cX12_layNodes 98 = .ok (.iload 4, 2) := by decide +kernel
theorem dlayNodes_100 : decode cX12_layNodes 100 = .ok (.ishl, 1) := by decide +kernel
theorem dlayNodes_101 : decode cX12_layNodes 101 = .ok (.ior, 1) := by decide +kernel
theorem dlayNodes_102 : decode cX12_layNodes 102 = .ok (.goto 9, 3) := by decide +kernel
theorem dlayNodes_105 : decode cX12_layNodes 105 = .ok (.aload_n 0, 1) := by decide +kernel
theorem dlayNodes_106 : decode cX12_layNodes 106 = .ok (.getfield 212, 3) := by decide +kernel
theorem dlayNodes_109 : decode cX12_layNodes 109 = .ok (.iload_n 1, 1) := by decide +kernel
theorem dlayNodes_110 : decode cX12_layNodes 110 = .ok (.iaload, 1) := by decide +kernel
theorem dlayNodes_111 : decode cX12_layNodes 111 = .ok (.iastore, 1) := by decide +kernel
theorem dlayNodes_112 : decode cX12_layNodes 112 = .ok (.iinc 4 1, 3) := by decide +kernel
theorem dlayNodes_115 : decode cX12_layNodes 115 = .ok (.goto (-57), 3) := by decide +kernel
theorem dlayNodes_118 : decode cX12_layNodes 118 = .ok (.iload_n 2, 1) := by decide +kernel
theorem dlayNodes_119 : decode cX12_layNodes 119 = .ok (.bipush 7, 2) := by decide +kernel
theorem dlayNodes_121 : decode cX12_layNodes 121 = .ok (.if_icmp .eq 9, 3) := by decide +kernel
theorem dlayNodes_124 : decode cX12_layNodes 124 = .ok (.iload_n 2, 1) := by decide +kernel
theorem dlayNodes_125 : decode cX12_layNodes 125 = .ok (.bipush 8, 2) := by decide +kernel
theorem dlayNodes_127 : decode cX12_layNodes 127 = .ok (.if_icmp .ne 51, 3) := by decide +kernel
theorem dlayNodes_130 : decode cX12_layNodes 130 = .ok (.aload_n 0, 1) := by decide +kernel
theorem dlayNodes_131 : decode cX12_layNodes 131 = .ok (.getfield 185, 3) := by decide +kernel
theorem dlayNodes_134 : decode cX12_layNodes 134 = .ok (.iload_n 1, 1) := by decide +kernel
theorem dlayNodes_135 : decode cX12_layNodes 135 = .ok (.aload_n 0, 1) := by decide +kernel
theorem dlayNodes_136 : decode cX12_layNodes 136 = .ok (.getfield 185, 3) := by decide +kernel
theorem dlayNodes_139 : decode cX12_layNodes 139 = .ok (.iload_n 1, 1) := by decide +kernel
theorem dlayNodes_140 : decode cX12_layNodes 140 = .ok (.iaload, 1) := by decide +kernel
theorem dlayNodes_141 : decode cX12_layNodes 141 = .ok (.sipush 1000, 3) := by decide +kernel
theorem dlayNodes_144 : decode cX12_layNodes 144 = .ok (.if_icmp .lt 27, 3) := by decide +kernel
theorem dlayNodes_147 : decode cX12_layNodes 147 = .ok (.bipush 100, 2) := by decide +kernel
theorem dlayNodes_149 : decode cX12_layNodes 149 = .ok (.aload_n 0, 1) := by decide +kernel
theorem dlayNodes_150 : decode cX12_layNodes 150 = .ok (.aload_n 0, 1) := by decide +kernel
theorem dlayNodes_151 : decode cX12_layNodes 151 = .ok (.aload_n 0, 1) := by decide +kernel
theorem dlayNodes_152 : decode cX12_layNodes 152 = .ok (.getfield 185, 3) := by decide +kernel
theorem dlayNodes_155 : decode cX12_layNodes 155 = .ok (.iload_n 1, 1) := by decide +kernel
theorem dlayNodes_156 : decode cX12_layNodes 156 = .ok (.iaload, 1) := by decide +kernel
theorem dlayNodes_157 : decode cX12_layNodes 157 = .ok (.sipush 1000, 3) := by decide +kernel
theorem dlayNodes_160 : decode cX12_layNodes 160 = .ok (.isub, 1) := by decide +kernel
theorem dlayNodes_161 : decode cX12_layNodes 161 = .ok (.invokevirtual 716, 3) := by decide +kernel
theorem dlayNodes_164 : decode cX12_layNodes 164 = .ok (.invokevirtual 903, 3) := by decide +kernel
theorem dlayNodes_167 : decode cX12_layNodes 167 = .ok (.iadd, 1) := by decide +kernel
theorem dlayNodes_168 : decode cX12_layNodes 168 = .ok (.goto 9, 3) := by decide +kernel
theorem dlayNodes_171 : decode cX12_layNodes 171 = .ok (.aload_n 0, 1) := by decide +kernel
theorem dlayNodes_172 : decode cX12_layNodes 172 = .ok (.getfield 185, 3) := by decide +kernel
theorem dlayNodes_175 : decode cX12_layNodes 175 = .ok (.iload_n 1, 1) := by decide +kernel
theorem dlayNodes_176 : decode cX12_layNodes 176 = .ok (.iaload, 1) := by decide +kernel
theorem dlayNodes_177 : decode cX12_layNodes 177 = .ok (.iastore, 1) := by decide +kernel
theorem dlayNodes_178 : decode cX12_layNodes 178 = .ok (.iconst 0, 1) := by decide +kernel
theorem dlayNodes_179 : decode cX12_layNodes 179 = .ok (.istore 4, 2) := by decide +kernel
theorem dlayNodes_181 : decode cX12_layNodes 181 = .ok (.iload_n 2, 1) := by decide +kernel
theorem dlayNodes_182 : decode cX12_layNodes 182 = .ok (.bipush 9, 2) := by decide +kernel
theorem dlayNodes_184 : decode cX12_layNodes 184 = .ok (.if_icmp .ne 76, 3) := by decide +kernel
theorem dlayNodes_187 : decode cX12_layNodes 187 = .ok (.iload 4, 2) := by decide +kernel
theorem dlayNodes_189 : decode cX12_layNodes 189 = .ok (.aload_n 0, 1) := by decide +kernel
theorem dlayNodes_190 : decode cX12_layNodes 190 = .ok (.getfield 194, 3) := by decide +kernel
theorem dlayNodes_193 : decode cX12_layNodes 193 = .ok (.iload_n 1, 1) := by decide +kernel
theorem dlayNodes_194 : decode cX12_layNodes 194 = .ok (.iaload, 1) := by decide +kernel
theorem dlayNodes_195 : decode cX12_layNodes 195 = .ok (.if_icmp .ge 65, 3) := by decide +kernel
theorem dlayNodes_198 : decode cX12_layNodes 198 = .ok (.aload_n 0, 1) := by decide +kernel
theorem dlayNodes_199 : decode cX12_layNodes 199 = .ok (.getfield 197, 3) := by decide +kernel
theorem dlayNodes_202 : decode cX12_layNodes 202 = .ok (.bipush 7, 2) := by decide +kernel
theorem dlayNodes_204 : decode cX12_layNodes 204 = .ok (.iload_n 1, 1) := by decide +kernel
theorem dlayNodes_205 : decode cX12_layNodes 205 = .ok (.imul, 1) := by decide +kernel
theorem dlayNodes_206 : decode cX12_layNodes 206 = .ok (.iload 4, 2) := by decide +kernel
theorem dlayNodes_208 : decode cX12_layNodes 208 = .ok (.iadd, 1) := by decide +kernel
theorem dlayNodes_209 : decode cX12_layNodes 209 = .ok (.iaload, 1) := by decide +kernel
theorem dlayNodes_210 : decode cX12_layNodes 210 = .ok (.istore 5, 2) := by decide +kernel
theorem dlayNodes_212 : decode cX12_layNodes 212 = .ok (.aload_n 0, 1) := by decide +kernel
theorem dlayNodes_213 : decode cX12_layNodes 213 = .ok (.getfield 197, 3) := by decide +kernel
theorem dlayNodes_216 : decode cX12_layNodes 216 = .ok (.bipush 7, 2) := by decide +kernel
theorem dlayNodes_218 : decode cX12_layNodes 218 = .ok (.iload_n 1, 1) := by decide +kernel
theorem dlayNodes_219 : decode cX12_layNodes 219 = .ok (.imul, 1) := by decide +kernel
theorem dlayNodes_220 : decode cX12_layNodes 220 = .ok (.iload 4, 2) := by decide +kernel
theorem dlayNodes_222 : decode cX12_layNodes 222 = .ok (.iadd, 1) := by decide +kernel
theorem dlayNodes_223 : decode cX12_layNodes 223 = .ok (.iload 5, 2) := by decide +kernel
theorem dlayNodes_225 : decode cX12_layNodes 225 = .ok (.sipush 1000, 3) := by decide +kernel
theorem dlayNodes_228 : decode cX12_layNodes 228 = .ok (.if_icmp .lt 23, 3) := by decide +kernel
theorem dlayNodes_231 : decode cX12_layNodes 231 = .ok (.bipush 100, 2) := by decide +kernel
theorem dlayNodes_233 : decode cX12_layNodes 233 = .ok (.aload_n 0, 1) := by decide +kernel
theorem dlayNodes_234 : decode cX12_layNodes 234 = .ok (.aload_n 0, 1) := by decide +kernel
theorem dlayNodes_235 : decode cX12_layNodes 235 = .ok (.iload 5, 2) := by decide +kernel
theorem dlayNodes_237 : decode cX12_layNodes 237 = .ok (.sipush 1000, 3) := by decide +kernel
theorem dlayNodes_240 : decode cX12_layNodes 240 = .ok (.isub, 1) := by decide +kernel
theorem dlayNodes_241 : decode cX12_layNodes 241 = .ok (.invokevirtual 716, 3) := by decide +kernel
theorem dlayNodes_244 : decode cX12_layNodes 244 = .ok (.invokevirtual 903, 3) := by decide +kernel
theorem dlayNodes_247 : decode cX12_layNodes 247 = .ok (.iadd, 1) := by decide +kernel
theorem dlayNodes_248 : decode cX12_layNodes 248 = .ok (.goto 5, 3) := by decide +kernel
theorem dlayNodes_251 : decode cX12_layNodes 251 = .ok (.iload 5, 2) := by decide +kernel
theorem dlayNodes_253 : decode cX12_layNodes 253 = .ok (.iastore, 1) := by decide +kernel
theorem dlayNodes_254 : decode cX12_layNodes 254 = .ok (.iinc 4 1, 3) := by decide +kernel
theorem dlayNodes_257 : decode cX12_layNodes 257 = .ok (.goto (-76), 3) := by decide +kernel
theorem dlayNodes_260 : decode cX12_layNodes 260 = .ok (.iinc 1 1, 3) := by decide +kernel
theorem dlayNodes_263 : decode cX12_layNodes 263 = .ok (.goto (-261), 3) := by decide +kernel
theorem dlayNodes_266 : decode cX12_layNodes 266 = .ok (.return_, 1) := by decide +kernel
section
variable {l : Launch} {D : va_G} {cA : Nat → ClassId} {ad : Nat → Nat}
theorem s_layNodes {rk : Nat → Nat} {h : ja_H} {Q : Option ja_V → ja_H → Prop} (g : mo_G mo_zr h) (p1 : rk_P (h 12) (h 0 22) rk) (p2 : ∀ n : Nat, (n : Int) < (h 0 95) → lnR h n) (k1 : ∀ (h' : ja_H), (lnI h h' (h 0 95)) → mo_G mo_zr h' → Q none h') : mM_layNodes l D cA ad  h Q := by
  show mJ l D cA ad 5 cX12_layNodes 6 none 0 [(0, (2, ((0 : Nat) : Int)))] [] h Q
  have kn_classes := gF_classes g
  have kn_nodes := gF_nodes g
  have CUT : ∀ n : Nat, (∀ (x1 : Int) (u : ja_H), mo_G mo_zr u → (-2147483648 ≤ x1 ∧ x1 ≤ 2147483647) → (0 ≤ x1 ∧ x1 ≤ (h 0 95) ∧ lnI h u x1) → (((1000 : Int) * ((1000 : Int) - x1)).toNat) = n → mJ l D cA ad 5 cX12_layNodes 6 none 2 [(0, (2, ((0 : Nat) : Int))), (1, (0, x1))] [] u Q) ∧ (∀ (x1 x2 x3 x4 : Int) (u : ja_H), mo_G mo_zr u → (-2147483648 ≤ x1 ∧ x1 ≤ 2147483647) → (-2147483648 ≤ x2 ∧ x2 ≤ 2147483647) → (-2147483648 ≤ x3 ∧ x3 ≤ 2147483647) → (-2147483648 ≤ x4 ∧ x4 ≤ 2147483647) → (0 ≤ x1 ∧ x1 < (h 0 95) ∧ x2 = (h 58 (x1).toNat) ∧ 0 ≤ x3 ∧ x3 ≤ 1 ∧ 0 ≤ x4 ∧ x4 ≤ (h 0 22) ∧ lnI h u x1) → (((1000 : Int) * ((1000 : Int) - x1) - 100 - x4).toNat) = n → mJ l D cA ad 5 cX12_layNodes 6 none 58 [(0, (2, ((0 : Nat) : Int))), (1, (0, x1)), (2, (0, x2)), (3, (0, x3)), (4, (0, x4))] [] u Q) ∧ (∀ (x1 x2 : Int) (u : ja_H), mo_G mo_zr u → (-2147483648 ≤ x1 ∧ x1 ≤ 2147483647) → (-2147483648 ≤ x2 ∧ x2 ≤ 2147483647) → (0 ≤ x1 ∧ x1 < (h 0 95) ∧ x2 = (h 58 (x1).toNat) ∧ lnI h u x1) → (((1000 : Int) * ((1000 : Int) - x1) - 200).toNat) = n → mJ l D cA ad 5 cX12_layNodes 6 none 118 [(0, (2, ((0 : Nat) : Int))), (1, (0, x1)), (2, (0, x2))] [] u Q) ∧ (∀ (x1 x2 x4 : Int) (u : ja_H), mo_G mo_zr u → (-2147483648 ≤ x1 ∧ x1 ≤ 2147483647) → (-2147483648 ≤ x2 ∧ x2 ≤ 2147483647) → (-2147483648 ≤ x4 ∧ x4 ≤ 2147483647) → (0 ≤ x1 ∧ x1 < (h 0 95) ∧ x2 = (h 58 (x1).toNat) ∧ 0 ≤ x4 ∧ ((x2 = 9 ∧ x4 ≤ (h 62 (x1).toNat)) ∨ (x2 ≠ 9 ∧ x4 = 0)) ∧ lnW h u x1 x4) → (((1000 : Int) * ((1000 : Int) - x1) - 300 - x4).toNat) = n → mJ l D cA ad 5 cX12_layNodes 6 none 181 [(0, (2, ((0 : Nat) : Int))), (1, (0, x1)), (2, (0, x2)), (4, (0, x4))] [] u Q) := by
    intro n
    induction n using Nat.strongRecOn with
    | _ n ih =>
      refine ⟨?_, ?_, ?_, ?_⟩
      · intro x1 u gu qx1 iv hm
        subst hm
        have ku_classes := gF_classes gu
        have ku_nodes := gF_nodes gu
        obtain ⟨j0, j1, iv⟩ := iv
        have ag := iv.1
        have e_classes : (u 0 22) = (h 0 22) := ag 0 22 rfl
        have e_nodes : (u 0 95) = (h 0 95) := ag 0 95 rfl
        have ekd : u 58 = h 58 := funext fun j => ag 58 j rfl
        have emn : u 62 = h 62 := funext fun j => ag 62 j rfl
        refine ja_iload_n dlayNodes_2 rfl rfl ?_
        refine ja_aload_n dlayNodes_3 rfl rfl ?_
        refine fg_nodes (v := u 0 95) rfl dlayNodes_4 ?_
        have f1 := gF_nodes gu
        refine ja_icmp_ge 266 dlayNodes_7 rfl ⟨by omega, by omega⟩ ⟨by omega, by omega⟩ (fun c7 => ?_) (fun c7 => ?_)
        · refine ja_return dlayNodes_266 rfl ?_
          exact k1 u ((by have e : x1 = (h 0 95) := (by omega); subst e; exact iv)) gu
        · refine ja_aload_n dlayNodes_10 rfl rfl ?_
          refine fa_nodeKind dlayNodes_11 ?_
          refine ja_iload_n dlayNodes_14 rfl rfl ?_
          refine il_nodeKind (v := u 58 (x1).toNat) rfl ⟨by omega, by omega⟩ dlayNodes_15 ?_
          have f2 := gC_nodeKind gu (x1).toNat
          refine ja_istore_n dlayNodes_16 rfl (by decide) (L2 := [(2, (0, (u 58 (x1).toNat))), (0, (2, ((0 : Nat) : Int))), (1, (0, x1))]) rfl ?_
          refine ja_aload_n dlayNodes_17 rfl rfl ?_
          refine fa_nodeTypes dlayNodes_18 ?_
          refine ja_iload_n dlayNodes_21 rfl rfl ?_
          refine ja_iconst dlayNodes_22 ?_
          have g3 := gW_nodeTypes gu (x1).toNat (x := 0) ⟨by decide, by decide⟩
          refine is_nodeTypes ⟨by omega, by omega⟩ dlayNodes_23 ?_
          refine ja_iload_n dlayNodes_24 rfl rfl ?_
          refine ja_iconst dlayNodes_25 ?_
          refine ja_icmp_eq 49 dlayNodes_26 rfl ⟨by omega, by omega⟩ ⟨by decide, by decide⟩ (fun c26 => ?_) (fun c26 => ?_)
          · refine ja_iconst dlayNodes_49 ?_
            refine ja_goto 54 dlayNodes_50 rfl ?_
            refine ja_istore_n dlayNodes_54 rfl (by decide) (L2 := [(3, (0, 1)), (2, (0, (u 58 (x1).toNat))), (0, (2, ((0 : Nat) : Int))), (1, (0, x1))]) rfl ?_
            refine ja_iconst dlayNodes_55 ?_
            refine ja_istore dlayNodes_56 (by decide) (L2 := [(4, (0, 0)), (3, (0, 1)), (2, (0, (u 58 (x1).toNat))), (0, (2, ((0 : Nat) : Int))), (1, (0, x1))]) rfl ?_
            exact ja_wk (fun q hq => by simp only [List.mem_cons, List.not_mem_nil, or_false] at hq; rcases hq with rfl | rfl | rfl | rfl | rfl <;> rfl) ((ih (((1000 : Int) * ((1000 : Int) - x1) - 100 - 0).toNat) (by omega)).2.1 x1 (u 58 (x1).toNat) 1 0 (ja_up u 68 ((x1).toNat) 0) g3 ⟨by omega, by omega⟩ ⟨by omega, by omega⟩ ⟨by decide, by decide⟩ ⟨by decide, by decide⟩ (⟨by omega, by omega, (by rw [ekd]), by omega, by omega, by omega, by omega, (lnI_types iv (by (repeat (first | exact ag_refl | refine ag_up rfl ?_))))⟩) rfl)
          · refine ja_iload_n dlayNodes_29 rfl rfl ?_
            refine ja_bipush 6 dlayNodes_30 rfl ?_
            refine ja_icmp_eq 49 dlayNodes_32 rfl ⟨by omega, by omega⟩ ⟨by decide, by decide⟩ (fun c32 => ?_) (fun c32 => ?_)
            · refine ja_iconst dlayNodes_49 ?_
              refine ja_goto 54 dlayNodes_50 rfl ?_
              refine ja_istore_n dlayNodes_54 rfl (by decide) (L2 := [(3, (0, 1)), (2, (0, (u 58 (x1).toNat))), (0, (2, ((0 : Nat) : Int))), (1, (0, x1))]) rfl ?_
              refine ja_iconst dlayNodes_55 ?_
              refine ja_istore dlayNodes_56 (by decide) (L2 := [(4, (0, 0)), (3, (0, 1)), (2, (0, (u 58 (x1).toNat))), (0, (2, ((0 : Nat) : Int))), (1, (0, x1))]) rfl ?_
              exact ja_wk (fun q hq => by simp only [List.mem_cons, List.not_mem_nil, or_false] at hq; rcases hq with rfl | rfl | rfl | rfl | rfl <;> rfl) ((ih (((1000 : Int) * ((1000 : Int) - x1) - 100 - 0).toNat) (by omega)).2.1 x1 (u 58 (x1).toNat) 1 0 (ja_up u 68 ((x1).toNat) 0) g3 ⟨by omega, by omega⟩ ⟨by omega, by omega⟩ ⟨by decide, by decide⟩ ⟨by decide, by decide⟩ (⟨by omega, by omega, (by rw [ekd]), by omega, by omega, by omega, by omega, (lnI_types iv (by (repeat (first | exact ag_refl | refine ag_up rfl ?_))))⟩) rfl)
            · refine ja_iload_n dlayNodes_35 rfl rfl ?_
              refine ja_iconst dlayNodes_36 ?_
              refine ja_icmp_gt 53 dlayNodes_37 rfl ⟨by omega, by omega⟩ ⟨by decide, by decide⟩ (fun c37 => ?_) (fun c37 => ?_)
              · refine ja_iconst dlayNodes_53 ?_
                refine ja_istore_n dlayNodes_54 rfl (by decide) (L2 := [(3, (0, 0)), (2, (0, (u 58 (x1).toNat))), (0, (2, ((0 : Nat) : Int))), (1, (0, x1))]) rfl ?_
                refine ja_iconst dlayNodes_55 ?_
                refine ja_istore dlayNodes_56 (by decide) (L2 := [(4, (0, 0)), (3, (0, 0)), (2, (0, (u 58 (x1).toNat))), (0, (2, ((0 : Nat) : Int))), (1, (0, x1))]) rfl ?_
                exact ja_wk (fun q hq => by simp only [List.mem_cons, List.not_mem_nil, or_false] at hq; rcases hq with rfl | rfl | rfl | rfl | rfl <;> rfl) ((ih (((1000 : Int) * ((1000 : Int) - x1) - 100 - 0).toNat) (by omega)).2.1 x1 (u 58 (x1).toNat) 0 0 (ja_up u 68 ((x1).toNat) 0) g3 ⟨by omega, by omega⟩ ⟨by omega, by omega⟩ ⟨by decide, by decide⟩ ⟨by decide, by decide⟩ (⟨by omega, by omega, (by rw [ekd]), by omega, by omega, by omega, by omega, (lnI_types iv (by (repeat (first | exact ag_refl | refine ag_up rfl ?_))))⟩) rfl)
              · refine ja_aload_n dlayNodes_40 rfl rfl ?_
                refine fa_nodeA dlayNodes_41 ?_
                refine ja_iload_n dlayNodes_44 rfl rfl ?_
                refine il_nodeA (v := u 59 (x1).toNat) rfl ⟨by omega, by omega⟩ dlayNodes_45 ?_
                have f4 := gC_nodeA gu (x1).toNat
                refine ja_if_lt 53 dlayNodes_46 rfl ⟨by omega, by omega⟩ (fun c46 => ?_) (fun c46 => ?_)
                · refine ja_iconst dlayNodes_53 ?_
                  refine ja_istore_n dlayNodes_54 rfl (by decide) (L2 := [(3, (0, 0)), (2, (0, (u 58 (x1).toNat))), (0, (2, ((0 : Nat) : Int))), (1, (0, x1))]) rfl ?_
                  refine ja_iconst dlayNodes_55 ?_
                  refine ja_istore dlayNodes_56 (by decide) (L2 := [(4, (0, 0)), (3, (0, 0)), (2, (0, (u 58 (x1).toNat))), (0, (2, ((0 : Nat) : Int))), (1, (0, x1))]) rfl ?_
                  exact ja_wk (fun q hq => by simp only [List.mem_cons, List.not_mem_nil, or_false] at hq; rcases hq with rfl | rfl | rfl | rfl | rfl <;> rfl) ((ih (((1000 : Int) * ((1000 : Int) - x1) - 100 - 0).toNat) (by omega)).2.1 x1 (u 58 (x1).toNat) 0 0 (ja_up u 68 ((x1).toNat) 0) g3 ⟨by omega, by omega⟩ ⟨by omega, by omega⟩ ⟨by decide, by decide⟩ ⟨by decide, by decide⟩ (⟨by omega, by omega, (by rw [ekd]), by omega, by omega, by omega, by omega, (lnI_types iv (by (repeat (first | exact ag_refl | refine ag_up rfl ?_))))⟩) rfl)
                · refine ja_iconst dlayNodes_49 ?_
                  refine ja_goto 54 dlayNodes_50 rfl ?_
                  refine ja_istore_n dlayNodes_54 rfl (by decide) (L2 := [(3, (0, 1)), (2, (0, (u 58 (x1).toNat))), (0, (2, ((0 : Nat) : Int))), (1, (0, x1))]) rfl ?_
                  refine ja_iconst dlayNodes_55 ?_
                  refine ja_istore dlayNodes_56 (by decide) (L2 := [(4, (0, 0)), (3, (0, 1)), (2, (0, (u 58 (x1).toNat))), (0, (2, ((0 : Nat) : Int))), (1, (0, x1))]) rfl ?_
                  exact ja_wk (fun q hq => by simp only [List.mem_cons, List.not_mem_nil, or_false] at hq; rcases hq with rfl | rfl | rfl | rfl | rfl <;> rfl) ((ih (((1000 : Int) * ((1000 : Int) - x1) - 100 - 0).toNat) (by omega)).2.1 x1 (u 58 (x1).toNat) 1 0 (ja_up u 68 ((x1).toNat) 0) g3 ⟨by omega, by omega⟩ ⟨by omega, by omega⟩ ⟨by decide, by decide⟩ ⟨by decide, by decide⟩ (⟨by omega, by omega, (by rw [ekd]), by omega, by omega, by omega, by omega, (lnI_types iv (by (repeat (first | exact ag_refl | refine ag_up rfl ?_))))⟩) rfl)
      · intro x1 x2 x3 x4 u gu qx1 qx2 qx3 qx4 iv hm
        subst hm
        have ku_classes := gF_classes gu
        have ku_nodes := gF_nodes gu
        obtain ⟨j0, j1, j2, j3, j4, j5, j6, iv⟩ := iv
        have ag := iv.1
        have e_classes : (u 0 22) = (h 0 22) := ag 0 22 rfl
        have e_nodes : (u 0 95) = (h 0 95) := ag 0 95 rfl
        have ekd : u 58 = h 58 := funext fun j => ag 58 j rfl
        have emn : u 62 = h 62 := funext fun j => ag 62 j rfl
        have hrk : rk_P (u 12) (h 0 22) rk := (by have eab : u 12 = h 12 := (funext fun j => ag 12 j rfl); rw [eab]; exact p1)
        refine ja_iload dlayNodes_58 rfl ?_
        refine ja_aload_n dlayNodes_60 rfl rfl ?_
        refine fg_classes (v := u 0 22) rfl dlayNodes_61 ?_
        have f5 := gF_classes gu
        refine ja_icmp_ge 118 dlayNodes_64 rfl ⟨by omega, by omega⟩ ⟨by omega, by omega⟩ (fun c64 => ?_) (fun c64 => ?_)
        · exact ja_wk (fun q hq => by simp only [List.mem_cons, List.not_mem_nil, or_false] at hq; rcases hq with rfl | rfl | rfl <;> rfl) ((ih (((1000 : Int) * ((1000 : Int) - x1) - 200).toNat) (by omega)).2.2.1 x1 x2 u gu ⟨by omega, by omega⟩ ⟨by omega, by omega⟩ (⟨by omega, by omega, j2, iv⟩) rfl)
        · refine ja_iload_n dlayNodes_67 rfl rfl ?_
          refine ja_if_eq 118 dlayNodes_68 rfl ⟨by omega, by omega⟩ (fun c68 => ?_) (fun c68 => ?_)
          · exact ja_wk (fun q hq => by simp only [List.mem_cons, List.not_mem_nil, or_false] at hq; rcases hq with rfl | rfl | rfl <;> rfl) ((ih (((1000 : Int) * ((1000 : Int) - x1) - 200).toNat) (by omega)).2.2.1 x1 x2 u gu ⟨by omega, by omega⟩ ⟨by omega, by omega⟩ (⟨by omega, by omega, j2, iv⟩) rfl)
          · refine ja_iload_n dlayNodes_71 rfl rfl ?_
            refine ja_iconst dlayNodes_72 ?_
            refine ja_icmp_eq 118 dlayNodes_73 rfl ⟨by omega, by omega⟩ ⟨by decide, by decide⟩ (fun c73 => ?_) (fun c73 => ?_)
            · exact ja_wk (fun q hq => by simp only [List.mem_cons, List.not_mem_nil, or_false] at hq; rcases hq with rfl | rfl | rfl <;> rfl) ((ih (((1000 : Int) * ((1000 : Int) - x1) - 200).toNat) (by omega)).2.2.1 x1 x2 u gu ⟨by omega, by omega⟩ ⟨by omega, by omega⟩ (⟨by omega, by omega, j2, iv⟩) rfl)
            · refine ja_aload_n dlayNodes_76 rfl rfl ?_
              refine fa_nodeTypes dlayNodes_77 ?_
              refine ja_iload_n dlayNodes_80 rfl rfl ?_
              refine ja_aload_n dlayNodes_81 rfl rfl ?_
              refine ja_iload_n dlayNodes_82 rfl rfl ?_
              refine ja_iload dlayNodes_83 rfl ?_
              refine t_typeMatches (by decide) (show (2 : Nat) ≤ 8 by decide) dlayNodes_85 gu ⟨by omega, by omega⟩ ⟨by omega, by omega⟩ (show 0 ≤ x1 ∧ x1 ≤ 899 by omega) (show 0 ≤ x4 ∧ x4 < (u 0 22) by omega) ((rk_cast e_classes hrk)) ?_
              intro w6 k85_0
              refine ja_if_eq 105 dlayNodes_88 rfl ⟨by omega, by omega⟩ (fun c88 => ?_) (fun c88 => ?_)
              · refine ja_aload_n dlayNodes_105 rfl rfl ?_
                refine fa_nodeTypes dlayNodes_106 ?_
                refine ja_iload_n dlayNodes_109 rfl rfl ?_
                refine il_nodeTypes (v := u 68 (x1).toNat) rfl ⟨by omega, by omega⟩ dlayNodes_110 ?_
                have f7 := gC_nodeTypes gu (x1).toNat
                have g8 := gW_nodeTypes gu (x1).toNat (x := u 68 (x1).toNat) ⟨by omega, by omega⟩
                refine is_nodeTypes ⟨by omega, by omega⟩ dlayNodes_111 ?_
                refine ja_iinc dlayNodes_112 rfl (by decide) (L2 := [(4, (0, (x4 + 1))), (0, (2, ((0 : Nat) : Int))), (1, (0, x1)), (2, (0, x2)), (3, (0, x3))]) rfl ?_
                refine ja_goto 58 dlayNodes_115 rfl ?_
                exact ja_wk (fun q hq => by simp only [List.mem_cons, List.not_mem_nil, or_false] at hq; rcases hq with rfl | rfl | rfl | rfl | rfl <;> rfl) ((ih (((1000 : Int) * ((1000 : Int) - x1) - 100 - (x4 + 1)).toNat) (by omega)).2.1 x1 x2 x3 (x4 + 1) (ja_up u 68 ((x1).toNat) (u 68 (x1).toNat)) g8 ⟨by omega, by omega⟩ ⟨by omega, by omega⟩ ⟨by omega, by omega⟩ ⟨by omega, by omega⟩ (⟨by omega, by omega, by omega, by omega, by omega, by omega, by omega, (lnI_types iv (by (repeat (first | exact ag_refl | refine ag_up rfl ?_))))⟩) rfl)
              · refine ja_aload_n dlayNodes_91 rfl rfl ?_
                refine fa_nodeTypes dlayNodes_92 ?_
                refine ja_iload_n dlayNodes_95 rfl rfl ?_
                refine il_nodeTypes (v := u 68 (x1).toNat) rfl ⟨by omega, by omega⟩ dlayNodes_96 ?_
                have f9 := gC_nodeTypes gu (x1).toNat
                refine ja_iconst dlayNodes_97 ?_
                refine ja_iload dlayNodes_98 rfl ?_
                refine mo_hishl dlayNodes_100 (fun v10 rv10 => ?_)
                refine mo_hior dlayNodes_101 (fun v11 rv11 => ?_)
                refine ja_goto 111 dlayNodes_102 rfl ?_
                have g12 := gW_nodeTypes gu (x1).toNat (x := v11) ⟨by omega, by omega⟩
                refine is_nodeTypes ⟨by omega, by omega⟩ dlayNodes_111 ?_
                refine ja_iinc dlayNodes_112 rfl (by decide) (L2 := [(4, (0, (x4 + 1))), (0, (2, ((0 : Nat) : Int))), (1, (0, x1)), (2, (0, x2)), (3, (0, x3))]) rfl ?_
                refine ja_goto 58 dlayNodes_115 rfl ?_
                exact ja_wk (fun q hq => by simp only [List.mem_cons, List.not_mem_nil, or_false] at hq; rcases hq with rfl | rfl | rfl | rfl | rfl <;> rfl) ((ih (((1000 : Int) * ((1000 : Int) - x1) - 100 - (x4 + 1)).toNat) (by omega)).2.1 x1 x2 x3 (x4 + 1) (ja_up u 68 ((x1).toNat) v11) g12 ⟨by omega, by omega⟩ ⟨by omega, by omega⟩ ⟨by omega, by omega⟩ ⟨by omega, by omega⟩ (⟨by omega, by omega, by omega, by omega, by omega, by omega, by omega, (lnI_types iv (by (repeat (first | exact ag_refl | refine ag_up rfl ?_))))⟩) rfl)
      · intro x1 x2 u gu qx1 qx2 iv hm
        subst hm
        have ku_classes := gF_classes gu
        have ku_nodes := gF_nodes gu
        obtain ⟨j0, j1, j2, iv⟩ := iv
        have ag := iv.1
        have e_classes : (u 0 22) = (h 0 22) := ag 0 22 rfl
        have e_nodes : (u 0 95) = (h 0 95) := ag 0 95 rfl
        have ekd : u 58 = h 58 := funext fun j => ag 58 j rfl
        have emn : u 62 = h 62 := funext fun j => ag 62 j rfl
        have hR := p2 (x1).toNat (by omega)
        have kmm := gC_nodeMany g (x1).toNat
        have ekx := congrFun ekd (x1).toNat
        refine ja_iload_n dlayNodes_118 rfl rfl ?_
        refine ja_bipush 7 dlayNodes_119 rfl ?_
        refine ja_icmp_eq 130 dlayNodes_121 rfl ⟨by omega, by omega⟩ ⟨by decide, by decide⟩ (fun c121 => ?_) (fun c121 => ?_)
        · have hX := lnI_A (by omega) iv hR (by omega)
          have hXn := lnX_n hX
          refine ja_aload_n dlayNodes_130 rfl rfl ?_
          refine fa_nodeA dlayNodes_131 ?_
          refine ja_iload_n dlayNodes_134 rfl rfl ?_
          refine ja_aload_n dlayNodes_135 rfl rfl ?_
          refine fa_nodeA dlayNodes_136 ?_
          refine ja_iload_n dlayNodes_139 rfl rfl ?_
          refine il_nodeA (v := u 59 (x1).toNat) rfl ⟨by omega, by omega⟩ dlayNodes_140 ?_
          have f13 := gC_nodeA gu (x1).toNat
          refine ja_sipush 1000 dlayNodes_141 rfl ?_
          refine ja_icmp_lt 171 dlayNodes_144 rfl ⟨by omega, by omega⟩ ⟨by decide, by decide⟩ (fun c144 => ?_) (fun c144 => ?_)
          · refine ja_aload_n dlayNodes_171 rfl rfl ?_
            refine fa_nodeA dlayNodes_172 ?_
            refine ja_iload_n dlayNodes_175 rfl rfl ?_
            refine il_nodeA (v := u 59 (x1).toNat) rfl ⟨by omega, by omega⟩ dlayNodes_176 ?_
            have g14 := gW_nodeA gu (x1).toNat (x := u 59 (x1).toNat) ⟨by omega, by omega⟩
            refine is_nodeA ⟨by omega, by omega⟩ dlayNodes_177 ?_
            refine ja_iconst dlayNodes_178 ?_
            refine ja_istore dlayNodes_179 (by decide) (L2 := [(4, (0, 0)), (0, (2, ((0 : Nat) : Int))), (1, (0, x1)), (2, (0, x2))]) rfl ?_
            exact ja_wk (fun q hq => by simp only [List.mem_cons, List.not_mem_nil, or_false] at hq; rcases hq with rfl | rfl | rfl | rfl <;> rfl) ((ih (((1000 : Int) * ((1000 : Int) - x1) - 300 - 0).toNat) (by omega)).2.2.2 x1 x2 0 (ja_up u 59 ((x1).toNat) (u 59 (x1).toNat)) g14 ⟨by omega, by omega⟩ ⟨by omega, by omega⟩ ⟨by decide, by decide⟩ (⟨by omega, by omega, j2, by omega, by omega, (lnW_A (by omega) iv (by (repeat (first | exact ag_refl | refine ag_up rfl ?_))) (fun j hj => mo_upJ hj) (fun _ => by rw [mo_upS]; unfold lnY; omega) (fun z => absurd z (by omega)))⟩) rfl)
          · refine ja_bipush 100 dlayNodes_147 rfl ?_
            refine ja_aload_n dlayNodes_149 rfl rfl ?_
            refine ja_aload_n dlayNodes_150 rfl rfl ?_
            refine ja_aload_n dlayNodes_151 rfl rfl ?_
            refine fa_nodeA dlayNodes_152 ?_
            refine ja_iload_n dlayNodes_155 rfl rfl ?_
            refine il_nodeA (v := u 59 (x1).toNat) rfl ⟨by omega, by omega⟩ dlayNodes_156 ?_
            refine ja_sipush 1000 dlayNodes_157 rfl ?_
            refine ja_isub dlayNodes_160 ?_
            refine t_id (by decide) (show (4 : Nat) ≤ 8 by decide) dlayNodes_161 gu ⟨by omega, by omega⟩ (show 0 ≤ ((u 59 (x1).toNat) - 1000) ∧ ((u 59 (x1).toNat) - 1000) ≤ 900 by omega) ?_
            intro k161_0
            refine t_classOf2 (by decide) (show (3 : Nat) ≤ 8 by decide) dlayNodes_164 gu ⟨by omega, by omega⟩ ?_ ?_
            · intro w15 k164_0
              refine ja_iadd dlayNodes_167 ?_
              refine ja_goto 177 dlayNodes_168 rfl ?_
              have g16 := gW_nodeA gu (x1).toNat (x := 100 + w15) ⟨by omega, by omega⟩
              refine is_nodeA ⟨by omega, by omega⟩ dlayNodes_177 ?_
              refine ja_iconst dlayNodes_178 ?_
              refine ja_istore dlayNodes_179 (by decide) (L2 := [(4, (0, 0)), (0, (2, ((0 : Nat) : Int))), (1, (0, x1)), (2, (0, x2))]) rfl ?_
              exact ja_wk (fun q hq => by simp only [List.mem_cons, List.not_mem_nil, or_false] at hq; rcases hq with rfl | rfl | rfl | rfl <;> rfl) ((ih (((1000 : Int) * ((1000 : Int) - x1) - 300 - 0).toNat) (by omega)).2.2.2 x1 x2 0 (ja_up u 59 ((x1).toNat) (100 + w15)) g16 ⟨by omega, by omega⟩ ⟨by omega, by omega⟩ ⟨by decide, by decide⟩ (⟨by omega, by omega, j2, by omega, by omega, (lnW_A (by omega) iv (by (repeat (first | exact ag_refl | refine ag_up rfl ?_))) (fun j hj => mo_upJ hj) (fun _ => by rw [mo_upS]; unfold lnY; omega) (fun z => absurd z (by omega)))⟩) rfl)
            · intro k164_1
              exact (lnX_no ag hX (by omega) k164_1).elim
        · refine ja_iload_n dlayNodes_124 rfl rfl ?_
          refine ja_bipush 8 dlayNodes_125 rfl ?_
          refine ja_icmp_ne 178 dlayNodes_127 rfl ⟨by omega, by omega⟩ ⟨by decide, by decide⟩ (fun c127 => ?_) (fun c127 => ?_)
          · refine ja_iconst dlayNodes_178 ?_
            refine ja_istore dlayNodes_179 (by decide) (L2 := [(4, (0, 0)), (0, (2, ((0 : Nat) : Int))), (1, (0, x1)), (2, (0, x2))]) rfl ?_
            exact ja_wk (fun q hq => by simp only [List.mem_cons, List.not_mem_nil, or_false] at hq; rcases hq with rfl | rfl | rfl | rfl <;> rfl) ((ih (((1000 : Int) * ((1000 : Int) - x1) - 300 - 0).toNat) (by omega)).2.2.2 x1 x2 0 u gu ⟨by omega, by omega⟩ ⟨by omega, by omega⟩ ⟨by decide, by decide⟩ (⟨by omega, by omega, j2, by omega, by omega, (lnW_A (by omega) iv ag_refl (fun _ _ => rfl) (fun z => by exfalso; omega) (fun _ => rfl))⟩) rfl)
          · have hX := lnI_A (by omega) iv hR (by omega)
            have hXn := lnX_n hX
            refine ja_aload_n dlayNodes_130 rfl rfl ?_
            refine fa_nodeA dlayNodes_131 ?_
            refine ja_iload_n dlayNodes_134 rfl rfl ?_
            refine ja_aload_n dlayNodes_135 rfl rfl ?_
            refine fa_nodeA dlayNodes_136 ?_
            refine ja_iload_n dlayNodes_139 rfl rfl ?_
            refine il_nodeA (v := u 59 (x1).toNat) rfl ⟨by omega, by omega⟩ dlayNodes_140 ?_
            have f17 := gC_nodeA gu (x1).toNat
            refine ja_sipush 1000 dlayNodes_141 rfl ?_
            refine ja_icmp_lt 171 dlayNodes_144 rfl ⟨by omega, by omega⟩ ⟨by decide, by decide⟩ (fun c144 => ?_) (fun c144 => ?_)
            · refine ja_aload_n dlayNodes_171 rfl rfl ?_
              refine fa_nodeA dlayNodes_172 ?_
              refine ja_iload_n dlayNodes_175 rfl rfl ?_
              refine il_nodeA (v := u 59 (x1).toNat) rfl ⟨by omega, by omega⟩ dlayNodes_176 ?_
              have g18 := gW_nodeA gu (x1).toNat (x := u 59 (x1).toNat) ⟨by omega, by omega⟩
              refine is_nodeA ⟨by omega, by omega⟩ dlayNodes_177 ?_
              refine ja_iconst dlayNodes_178 ?_
              refine ja_istore dlayNodes_179 (by decide) (L2 := [(4, (0, 0)), (0, (2, ((0 : Nat) : Int))), (1, (0, x1)), (2, (0, x2))]) rfl ?_
              exact ja_wk (fun q hq => by simp only [List.mem_cons, List.not_mem_nil, or_false] at hq; rcases hq with rfl | rfl | rfl | rfl <;> rfl) ((ih (((1000 : Int) * ((1000 : Int) - x1) - 300 - 0).toNat) (by omega)).2.2.2 x1 x2 0 (ja_up u 59 ((x1).toNat) (u 59 (x1).toNat)) g18 ⟨by omega, by omega⟩ ⟨by omega, by omega⟩ ⟨by decide, by decide⟩ (⟨by omega, by omega, j2, by omega, by omega, (lnW_A (by omega) iv (by (repeat (first | exact ag_refl | refine ag_up rfl ?_))) (fun j hj => mo_upJ hj) (fun _ => by rw [mo_upS]; unfold lnY; omega) (fun z => absurd z (by omega)))⟩) rfl)
            · refine ja_bipush 100 dlayNodes_147 rfl ?_
              refine ja_aload_n dlayNodes_149 rfl rfl ?_
              refine ja_aload_n dlayNodes_150 rfl rfl ?_
              refine ja_aload_n dlayNodes_151 rfl rfl ?_
              refine fa_nodeA dlayNodes_152 ?_
              refine ja_iload_n dlayNodes_155 rfl rfl ?_
              refine il_nodeA (v := u 59 (x1).toNat) rfl ⟨by omega, by omega⟩ dlayNodes_156 ?_
              refine ja_sipush 1000 dlayNodes_157 rfl ?_
              refine ja_isub dlayNodes_160 ?_
              refine t_id (by decide) (show (4 : Nat) ≤ 8 by decide) dlayNodes_161 gu ⟨by omega, by omega⟩ (show 0 ≤ ((u 59 (x1).toNat) - 1000) ∧ ((u 59 (x1).toNat) - 1000) ≤ 900 by omega) ?_
              intro k161_0
              refine t_classOf2 (by decide) (show (3 : Nat) ≤ 8 by decide) dlayNodes_164 gu ⟨by omega, by omega⟩ ?_ ?_
              · intro w19 k164_0
                refine ja_iadd dlayNodes_167 ?_
                refine ja_goto 177 dlayNodes_168 rfl ?_
                have g20 := gW_nodeA gu (x1).toNat (x := 100 + w19) ⟨by omega, by omega⟩
                refine is_nodeA ⟨by omega, by omega⟩ dlayNodes_177 ?_
                refine ja_iconst dlayNodes_178 ?_
                refine ja_istore dlayNodes_179 (by decide) (L2 := [(4, (0, 0)), (0, (2, ((0 : Nat) : Int))), (1, (0, x1)), (2, (0, x2))]) rfl ?_
                exact ja_wk (fun q hq => by simp only [List.mem_cons, List.not_mem_nil, or_false] at hq; rcases hq with rfl | rfl | rfl | rfl <;> rfl) ((ih (((1000 : Int) * ((1000 : Int) - x1) - 300 - 0).toNat) (by omega)).2.2.2 x1 x2 0 (ja_up u 59 ((x1).toNat) (100 + w19)) g20 ⟨by omega, by omega⟩ ⟨by omega, by omega⟩ ⟨by decide, by decide⟩ (⟨by omega, by omega, j2, by omega, by omega, (lnW_A (by omega) iv (by (repeat (first | exact ag_refl | refine ag_up rfl ?_))) (fun j hj => mo_upJ hj) (fun _ => by rw [mo_upS]; unfold lnY; omega) (fun z => absurd z (by omega)))⟩) rfl)
              · intro k164_1
                exact (lnX_no ag hX (by omega) k164_1).elim
      · intro x1 x2 x4 u gu qx1 qx2 qx4 iv hm
        subst hm
        have ku_classes := gF_classes gu
        have ku_nodes := gF_nodes gu
        obtain ⟨j0, j1, j2, j3, j4, iv⟩ := iv
        have ag := iv.1
        have e_classes : (u 0 22) = (h 0 22) := ag 0 22 rfl
        have e_nodes : (u 0 95) = (h 0 95) := ag 0 95 rfl
        have ekd : u 58 = h 58 := funext fun j => ag 58 j rfl
        have emn : u 62 = h 62 := funext fun j => ag 62 j rfl
        have hR := p2 (x1).toNat (by omega)
        have kmm := gC_nodeMany g (x1).toNat
        have emx := congrFun emn (x1).toNat
        have ekx := congrFun ekd (x1).toNat
        refine ja_iload_n dlayNodes_181 rfl rfl ?_
        refine ja_bipush 9 dlayNodes_182 rfl ?_
        refine ja_icmp_ne 260 dlayNodes_184 rfl ⟨by omega, by omega⟩ ⟨by decide, by decide⟩ (fun c184 => ?_) (fun c184 => ?_)
        · refine ja_iinc dlayNodes_260 rfl (by decide) (L2 := [(1, (0, (x1 + 1))), (0, (2, ((0 : Nat) : Int))), (2, (0, x2)), (4, (0, x4))]) rfl ?_
          refine ja_goto 2 dlayNodes_263 rfl ?_
          exact ja_wk (fun q hq => by simp only [List.mem_cons, List.not_mem_nil, or_false] at hq; rcases hq with rfl | rfl <;> rfl) ((ih (((1000 : Int) * ((1000 : Int) - (x1 + 1))).toNat) (by omega)).1 (x1 + 1) u gu ⟨by omega, by omega⟩ (⟨by omega, by omega, lnW_end g (by omega) iv (by first | (left; constructor <;> omega) | (right; constructor <;> omega))⟩) rfl)
        · refine ja_iload dlayNodes_187 rfl ?_
          refine ja_aload_n dlayNodes_189 rfl rfl ?_
          refine fa_nodeMany dlayNodes_190 ?_
          refine ja_iload_n dlayNodes_193 rfl rfl ?_
          refine il_nodeMany (v := u 62 (x1).toNat) rfl ⟨by omega, by omega⟩ dlayNodes_194 ?_
          have f21 := gC_nodeMany gu (x1).toNat
          refine ja_icmp_ge 260 dlayNodes_195 rfl ⟨by omega, by omega⟩ ⟨by omega, by omega⟩ (fun c195 => ?_) (fun c195 => ?_)
          · refine ja_iinc dlayNodes_260 rfl (by decide) (L2 := [(1, (0, (x1 + 1))), (0, (2, ((0 : Nat) : Int))), (2, (0, x2)), (4, (0, x4))]) rfl ?_
            refine ja_goto 2 dlayNodes_263 rfl ?_
            exact ja_wk (fun q hq => by simp only [List.mem_cons, List.not_mem_nil, or_false] at hq; rcases hq with rfl | rfl <;> rfl) ((ih (((1000 : Int) * ((1000 : Int) - (x1 + 1))).toNat) (by omega)).1 (x1 + 1) u gu ⟨by omega, by omega⟩ (⟨by omega, by omega, lnW_end g (by omega) iv (by first | (left; constructor <;> omega) | (right; constructor <;> omega))⟩) rfl)
          · have hG := lnW_get g (by omega) iv hR (by omega) (by constructor <;> omega)
            have hGn := hG.imp id lnX_n
            refine ja_aload_n dlayNodes_198 rfl rfl ?_
            refine fa_nodeArg dlayNodes_199 ?_
            refine ja_bipush 7 dlayNodes_202 rfl ?_
            refine ja_iload_n dlayNodes_204 rfl rfl ?_
            refine ja_imul dlayNodes_205 ?_
            refine ja_iload dlayNodes_206 rfl ?_
            refine ja_iadd dlayNodes_208 ?_
            refine il_nodeArg (v := u 63 ((7 * x1) + x4).toNat) rfl ⟨by omega, by omega⟩ dlayNodes_209 ?_
            have f22 := gC_nodeArg gu ((7 * x1) + x4).toNat
            refine ja_istore dlayNodes_210 (by decide) (L2 := [(5, (0, (u 63 ((7 * x1) + x4).toNat))), (0, (2, ((0 : Nat) : Int))), (1, (0, x1)), (2, (0, x2)), (4, (0, x4))]) rfl ?_
            refine ja_aload_n dlayNodes_212 rfl rfl ?_
            refine fa_nodeArg dlayNodes_213 ?_
            refine ja_bipush 7 dlayNodes_216 rfl ?_
            refine ja_iload_n dlayNodes_218 rfl rfl ?_
            refine ja_imul dlayNodes_219 ?_
            refine ja_iload dlayNodes_220 rfl ?_
            refine ja_iadd dlayNodes_222 ?_
            refine ja_iload dlayNodes_223 rfl ?_
            refine ja_sipush 1000 dlayNodes_225 rfl ?_
            refine ja_icmp_lt 251 dlayNodes_228 rfl ⟨by omega, by omega⟩ ⟨by decide, by decide⟩ (fun c228 => ?_) (fun c228 => ?_)
            · refine ja_iload dlayNodes_251 rfl ?_
              have g23 := gW_nodeArg gu ((7 * x1) + x4).toNat (x := u 63 ((7 * x1) + x4).toNat) ⟨by omega, by omega⟩
              refine is_nodeArg ⟨by omega, by omega⟩ dlayNodes_253 ?_
              have hY : (u 63 ((7 * x1) + x4).toNat) = -1 ∨ lnY (u 63 ((7 * x1) + x4).toNat) := (by unfold lnY; omega)
              refine ja_iinc dlayNodes_254 rfl (by decide) (L2 := [(4, (0, (x4 + 1))), (5, (0, (u 63 ((7 * x1) + x4).toNat))), (0, (2, ((0 : Nat) : Int))), (1, (0, x1)), (2, (0, x2))]) rfl ?_
              refine ja_goto 181 dlayNodes_257 rfl ?_
              exact ja_wk (fun q hq => by simp only [List.mem_cons, List.not_mem_nil, or_false] at hq; rcases hq with rfl | rfl | rfl | rfl <;> rfl) ((ih (((1000 : Int) * ((1000 : Int) - x1) - 300 - (x4 + 1)).toNat) (by omega)).2.2.2 x1 x2 (x4 + 1) (ja_up u 63 (((7 * x1) + x4).toNat) (u 63 ((7 * x1) + x4).toNat)) g23 ⟨by omega, by omega⟩ ⟨by omega, by omega⟩ ⟨by omega, by omega⟩ (⟨by omega, by omega, j2, by omega, by omega, (lnW_s (by omega) ⟨by omega, by omega⟩ iv hY)⟩) rfl)
            · refine ja_bipush 100 dlayNodes_231 rfl ?_
              refine ja_aload_n dlayNodes_233 rfl rfl ?_
              refine ja_aload_n dlayNodes_234 rfl rfl ?_
              refine ja_iload dlayNodes_235 rfl ?_
              refine ja_sipush 1000 dlayNodes_237 rfl ?_
              refine ja_isub dlayNodes_240 ?_
              refine t_id (by decide) (show (4 : Nat) ≤ 8 by decide) dlayNodes_241 gu ⟨by omega, by omega⟩ (show 0 ≤ ((u 63 ((7 * x1) + x4).toNat) - 1000) ∧ ((u 63 ((7 * x1) + x4).toNat) - 1000) ≤ 900 by omega) ?_
              intro k241_0
              refine t_classOf2 (by decide) (show (3 : Nat) ≤ 8 by decide) dlayNodes_244 gu ⟨by omega, by omega⟩ ?_ ?_
              · intro w24 k244_0
                refine ja_iadd dlayNodes_247 ?_
                refine ja_goto 253 dlayNodes_248 rfl ?_
                have g25 := gW_nodeArg gu ((7 * x1) + x4).toNat (x := 100 + w24) ⟨by omega, by omega⟩
                refine is_nodeArg ⟨by omega, by omega⟩ dlayNodes_253 ?_
                have hY : (100 + w24) = -1 ∨ lnY (100 + w24) := (by unfold lnY; omega)
                refine ja_iinc dlayNodes_254 rfl (by decide) (L2 := [(4, (0, (x4 + 1))), (5, (0, (u 63 ((7 * x1) + x4).toNat))), (0, (2, ((0 : Nat) : Int))), (1, (0, x1)), (2, (0, x2))]) rfl ?_
                refine ja_goto 181 dlayNodes_257 rfl ?_
                exact ja_wk (fun q hq => by simp only [List.mem_cons, List.not_mem_nil, or_false] at hq; rcases hq with rfl | rfl | rfl | rfl <;> rfl) ((ih (((1000 : Int) * ((1000 : Int) - x1) - 300 - (x4 + 1)).toNat) (by omega)).2.2.2 x1 x2 (x4 + 1) (ja_up u 63 (((7 * x1) + x4).toNat) (100 + w24)) g25 ⟨by omega, by omega⟩ ⟨by omega, by omega⟩ ⟨by omega, by omega⟩ (⟨by omega, by omega, j2, by omega, by omega, (lnW_s (by omega) ⟨by omega, by omega⟩ iv hY)⟩) rfl)
              · intro k244_1
                exact (lnX_no ag (hG.resolve_left (by omega)) (by omega) k244_1).elim
  refine ja_iconst dlayNodes_0 ?_
  refine ja_istore_n dlayNodes_1 rfl (by decide) (L2 := [(1, (0, 0)), (0, (2, ((0 : Nat) : Int)))]) rfl ?_
  exact ja_wk (fun q hq => by simp only [List.mem_cons, List.not_mem_nil, or_false] at hq; rcases hq with rfl | rfl <;> rfl) ((CUT _).1 0 h g ⟨by decide, by decide⟩ (⟨by omega, by omega, ⟨ag_refl, fun j hj => by omega, fun j hj => ⟨rfl, fun _ _ => rfl⟩⟩⟩) rfl)
theorem t_layNodes {rk : Nat → Nat} {d nL pc : Nat} {cc : ByteArray} {rt : Option FieldType} {L : List (Nat × ja_V)} {S : List ja_V} {h : ja_H} {Q : Option ja_V → ja_H → Prop} (hdd : 5 < d) (hwd : ja_wd S ≤ 8) (hd : decode cc pc = .ok (.invokevirtual 930, 3)) (g : mo_G mo_zr h) (p1 : rk_P (h 12) (h 0 22) rk) (p2 : ∀ n : Nat, (n : Int) < (h 0 95) → lnR h n) (k1 : ∀ (h' : ja_H), (lnI h h' (h 0 95)) → mo_G mo_zr h' → mJ l D cA ad d cc nL rt (pc + 3) L S h' Q) : mJ l D cA ad d cc nL rt pc L ((2, ((0 : Nat) : Int)) :: S) h Q :=
  mc_layNodes hdd hwd hd (s_layNodes g p1 p2 k1)
end
theorem dlayOrder_0 : decode cX12_layOrder 0 = .ok (.iconst 0, 1) := by decide +kernel
theorem dlayOrder_1 : decode cX12_layOrder 1 = .ok (.istore_n 1, 1) := by decide +kernel
theorem dlayOrder_2 : decode cX12_layOrder 2 = .ok (.iconst 0, 1) := by decide +kernel
theorem dlayOrder_3 : decode cX12_layOrder 3 = .ok (.istore_n 2, 1) := by decide +kernel
theorem dlayOrder_4 : decode cX12_layOrder 4 = .ok (.iload_n 2, 1) := by decide +kernel
theorem dlayOrder_5 : decode cX12_layOrder 5 = .ok (.aload_n 0, 1) := by decide +kernel
theorem dlayOrder_6 : decode cX12_layOrder 6 = .ok (.getfield 674, 3) := by decide +kernel
theorem dlayOrder_9 : decode cX12_layOrder 9 = .ok (.if_icmp .ge 58, 3) := by decide +kernel
theorem dlayOrder_12 : decode cX12_layOrder 12 = .ok (.iconst 0, 1) := by decide +kernel
theorem dlayOrder_13 : decode cX12_layOrder 13 = .ok (.istore_n 3, 1) := by decide +kernel
theorem dlayOrder_14 : decode cX12_layOrder 14 = .ok (.iload_n 3, 1) := by decide +kernel
theorem dlayOrder_15 : decode cX12_layOrder 15 = .ok (.aload_n 0, 1) := by decide +kernel
theorem dlayOrder_16 : decode cX12_layOrder 16 = .ok (.getfield 662, 3) := by decide +kernel
theorem dlayOrder_19 : decode cX12_layOrder 19 = .ok (.if_icmp .ge 42, 3) := by decide +kernel
theorem dlayOrder_22 : decode cX12_layOrder 22 = .ok (.aload_n 0, 1) := by decide +kernel
theorem dlayOrder_23 : decode cX12_layOrder 23 = .ok (.getfield 95, 3) := by decide +kernel
theorem dlayOrder_26 : decode cX12_layOrder 26 = .ok (.iload_n 3, 1) := by decide +kernel
theorem dlayOrder_27 : decode cX12_layOrder 27 = .ok (.iaload, 1) := by decide +kernel
theorem dlayOrder_28 : decode cX12_layOrder 28 = .ok (.aload_n 0, 1) := by decide +kernel
theorem dlayOrder_29 : decode cX12_layOrder 29 = .ok (.aload_n 0, 1) := by decide +kernel
theorem dlayOrder_30 : decode cX12_layOrder 30 = .ok (.aload_n 0, 1) := by decide +kernel
theorem dlayOrder_31 : decode cX12_layOrder 31 = .ok (.getfield 137, 3) := by decide +kernel
theorem dlayOrder_34 : decode cX12_layOrder 34 = .ok (.iload_n 2, 1) := by decide +kernel
theorem dlayOrder_35 : decode cX12_layOrder 35 = .ok (.iaload, 1) := by decide +kernel
theorem dlayOrder_36 : decode cX12_layOrder 36 = .ok (.invokevirtual 716, 3) := by decide +kernel
theorem dlayOrder_39 : decode cX12_layOrder 39 = .ok (.invokevirtual 906, 3) := by decide +kernel
theorem dlayOrder_42 : decode cX12_layOrder 42 = .ok (.if_icmp .ne 13, 3) := by decide +kernel
theorem dlayOrder_45 : decode cX12_layOrder 45 = .ok (.aload_n 0, 1) := by decide +kernel
theorem dlayOrder_46 : decode cX12_layOrder 46 = .ok (.getfield 252, 3) := by decide +kernel
theorem dlayOrder_49 : decode cX12_layOrder 49 = .ok (.iload_n 1, 1) := by decide +kernel
theorem dlayOrder_50 : decode cX12_layOrder 50 = .ok (.iload_n 3, 1) := by decide +kernel
theorem dlayOrder_51 : decode cX12_layOrder 51 = .ok (.iastore, 1) := by decide +kernel
theorem dlayOrder_52 : decode cX12_layOrder 52 = .ok (.iinc 1 1, 3) := by decide +kernel
theorem dlayOrder_55 : decode cX12_layOrder 55 = .ok (.iinc 3 1, 3) := by decide +kernel
theorem dlayOrder_58 : decode cX12_layOrder 58 = .ok (.goto (-44), 3) := by decide +kernel
theorem dlayOrder_61 : decode cX12_layOrder 61 = .ok (.iinc 2 1, 3) := by decide +kernel
theorem dlayOrder_64 : decode cX12_layOrder 64 = .ok (.goto (-60), 3) := by decide +kernel
theorem dlayOrder_67 : decode cX12_layOrder 67 = .ok (.iconst 0, 1) := by decide +kernel
theorem dlayOrder_68 : decode cX12_layOrder 68 = .ok (.istore_n 2, 1) := by decide +kernel
theorem dlayOrder_69 : decode cX12_layOrder 69 = .ok (.iload_n 2, 1) := by decide +kernel
theorem dlayOrder_70 : decode cX12_layOrder 70 = .ok (.aload_n 0, 1) := by decide +kernel
theorem dlayOrder_71 : decode cX12_layOrder 71 = .ok (.getfield 650, 3) := by decide +kernel
theorem dlayOrder_74 : decode cX12_layOrder 74 = .ok (.if_icmp .ge 102, 3) := by decide +kernel
theorem dlayOrder_77 : decode cX12_layOrder 77 = .ok (.iconst 0, 1) := by decide +kernel
theorem dlayOrder_78 : decode cX12_layOrder 78 = .ok (.istore_n 3, 1) := by decide +kernel
theorem dlayOrder_79 : decode cX12_layOrder 79 = .ok (.iconst 0, 1) := by decide +kernel
theorem dlayOrder_80 : decode cX12_layOrder 80 = .ok (.istore 4, 2) := by decide +kernel
theorem dlayOrder_82 : decode cX12_layOrder 82 = .ok (.iload 4, 2) := by decide +kernel
theorem dlayOrder_84 : decode cX12_layOrder 84 = .ok (.aload_n 0, 1) := by decide +kernel
theorem dlayOrder_85 : decode cX12_layOrder 85 = .ok (.getfield 674, 3) := by decide +kernel
theorem dlayOrder_88 : decode cX12_layOrder 88 = .ok (.if_icmp .ge 38, 3) := by decide +kernel
theorem dlayOrder_91 : decode cX12_layOrder 91 = .ok (.iload_n 3, 1) := by decide +kernel
theorem dlayOrder_92 : decode cX12_layOrder 92 = .ok (.ifCond .ne 22, 3) := by decide +kernel
theorem dlayOrder_95 : decode cX12_layOrder 95 = .ok (.aload_n 0, 1) := by decide +kernel
theorem dlayOrder_96 : decode cX12_layOrder 96 = .ok (.aload_n 0, 1) := by decide +kernel
theorem dlayOrder_97 : decode cX12_layOrder 97 = .ok (.aload_n 0, 1) := by decide +kernel
theorem dlayOrder_98 : decode cX12_layOrder 98 = .ok (.getfield 137, 3) := by decide +kernel
theorem dlayOrder_101 : decode cX12_layOrder 101 = .ok (.iload 4, 2) := by decide +kernel
theorem dlayOrder_103 : decode cX12_layOrder 103 = .ok (.iaload, 1) := by decide +kernel
theorem dlayOrder_104 : decode cX12_layOrder 104 = .ok (.invokevirtual 716, 3) := by decide +kernel
theorem dlayOrder_107 : decode cX12_layOrder 107 = .ok (.invokevirtual 906, 3) := by decide +kernel
theorem dlayOrder_110 : decode cX12_layOrder 110 = .ok (.iload_n 2, 1) := by decide +kernel
theorem dlayOrder_111 : decode cX12_layOrder 111 = .ok (.if_icmp .ne 7, 3) := by decide +kernel
theorem dlayOrder_114 : decode cX12_layOrder 114 = .ok (.iconst 1, 1) := by decide +kernel
theorem dlayOrder_115 : decode cX12_layOrder 115 = .ok (.goto 4, 3) := by decide +kernel
theorem dlayOrder_118 : decode cX12_layOrder 118 = .ok (.iconst 0, 1) := by decide +kernel
theorem dlayOrder_119 : decode cX12_layOrder 119 = .ok (.istore_n 3, 1) := by decide +kernel
theorem dlayOrder_120 : decode cX12_layOrder 120 = .ok (.iinc 4 1, 3) := by decide +kernel
theorem dlayOrder_123 : decode cX12_layOrder 123 = .ok (.goto (-41), 3) := by decide +kernel
theorem dlayOrder_126 : decode cX12_layOrder 126 = .ok (.iconst 0, 1) := by decide +kernel
theorem dlayOrder_127 : decode cX12_layOrder 127 = .ok (.istore 4, 2) := by decide +kernel
theorem dlayOrder_129 : decode cX12_layOrder 129 = .ok (.iload 4, 2) := by decide +kernel
theorem dlayOrder_131 : decode cX12_layOrder 131 = .ok (.aload_n 0, 1) := by decide +kernel
theorem dlayOrder_132 : decode cX12_layOrder 132 = .ok (.getfield 662, 3) := by decide +kernel
theorem dlayOrder_135 : decode cX12_layOrder 135 = .ok (.if_icmp .ge 35, 3) := by decide +kernel
theorem dlayOrder_138 : decode cX12_layOrder 138 = .ok (.iload_n 3, 1) := by decide +kernel
theorem dlayOrder_139 : decode cX12_layOrder 139 = .ok (.ifCond .ne 31, 3) := by decide +kernel
theorem dlayOrder_142 : decode cX12_layOrder 142 = .ok (.aload_n 0, 1) := by decide +kernel
theorem dlayOrder_143 : decode cX12_layOrder 143 = .ok (.getfield 95, 3) := by decide +kernel
theorem dlayOrder_146 : decode cX12_layOrder 146 = .ok (.iload 4, 2) := by decide +kernel
theorem dlayOrder_148 : decode cX12_layOrder 148 = .ok (.iaload, 1) := by decide +kernel
theorem dlayOrder_149 : decode cX12_layOrder 149 = .ok (.iload_n 2, 1) := by decide +kernel
theorem dlayOrder_150 : decode cX12_layOrder 150 = .ok (.if_icmp .ne 14, 3) := by decide +kernel
theorem dlayOrder_153 : decode cX12_layOrder 153 = .ok (.aload_n 0, 1) := by decide +kernel
theorem dlayOrder_154 : decode cX12_layOrder 154 = .ok (.getfield 252, 3) := by decide +kernel
theorem dlayOrder_157 : decode cX12_layOrder 157 = .ok (.iload_n 1, 1) := by decide +kernel
theorem dlayOrder_158 : decode cX12_layOrder 158 = .ok (.iload 4, 2) := by decide +kernel
theorem dlayOrder_160 : decode cX12_layOrder 160 = .ok (.iastore, 1) := by decide +kernel
theorem dlayOrder_161 : decode cX12_layOrder 161 = .ok (.iinc 1 1, 3) := by decide +kernel
theorem dlayOrder_164 : decode cX12_layOrder 164 = .ok (.iinc 4 1, 3) := by decide +kernel
theorem dlayOrder_167 : decode cX12_layOrder 167 = .ok (.goto (-38), 3) := by decide +kernel
theorem dlayOrder_170 : decode cX12_layOrder 170 = .ok (.iinc 2 1, 3) := by decide +kernel
theorem dlayOrder_173 : decode cX12_layOrder 173 = .ok (.goto (-104), 3) := by decide +kernel
theorem dlayOrder_176 : decode cX12_layOrder 176 = .ok (.return_, 1) := by decide +kernel
section
variable {l : Launch} {D : va_G} {cA : Nat → ClassId} {ad : Nat → Nat}
theorem s_layOrder {h : ja_H} {Q : Option ja_V → ja_H → Prop} (g : mo_G mo_zr h) (p1 : odD h (h 0 64)) (p2 : ∀ a : Nat, (a : Int) < (h 0 44) → (h 29 (a : Int).toNat) < (h 0 26)) (k1 : ∀ (h' : ja_H), (mo_ag FLO h h' ∧ ∀ j : Nat, (j : Int) < (h 0 44) → (h' 81 (j : Int).toNat) < (h 0 44)) → mo_G mo_zr h' → Q none h') : mM_layOrder l D cA ad  h Q := by
  show mJ l D cA ad 3 cX12_layOrder 5 none 0 [(0, (2, ((0 : Nat) : Int)))] [] h Q
  have kn_orders := gF_orders g
  have kn_advices := gF_advices g
  have kn_aspects := gF_aspects g
  have CUT : ∀ n : Nat, (∀ (x1 x2 : Int) (u : ja_H), mo_G mo_zr u → (-2147483648 ≤ x1 ∧ x1 ≤ 2147483647) → (-2147483648 ≤ x2 ∧ x2 ≤ 2147483647) → (0 ≤ x1 ∧ 0 ≤ x2 ∧ x2 ≤ (h 0 64) ∧ loI h u x1 (lo1 h x2)) → (((10000000 : Int) + 1000 * ((1000 : Int) - x2)).toNat) = n → mJ l D cA ad 3 cX12_layOrder 5 none 4 [(0, (2, ((0 : Nat) : Int))), (1, (0, x1)), (2, (0, x2))] [] u Q) ∧ (∀ (x1 x2 x3 : Int) (u : ja_H), mo_G mo_zr u → (-2147483648 ≤ x1 ∧ x1 ≤ 2147483647) → (-2147483648 ≤ x2 ∧ x2 ≤ 2147483647) → (-2147483648 ≤ x3 ∧ x3 ≤ 2147483647) → (0 ≤ x1 ∧ 0 ≤ x2 ∧ x2 < (h 0 64) ∧ 0 ≤ x3 ∧ x3 ≤ (h 0 44) ∧ loI h u x1 (lo2 h x2 x3)) → (((10000000 : Int) + 1000 * ((1000 : Int) - x2) - 1 - x3).toNat) = n → mJ l D cA ad 3 cX12_layOrder 5 none 14 [(0, (2, ((0 : Nat) : Int))), (1, (0, x1)), (2, (0, x2)), (3, (0, x3))] [] u Q) ∧ (∀ (x1 x2 : Int) (u : ja_H), mo_G mo_zr u → (-2147483648 ≤ x1 ∧ x1 ≤ 2147483647) → (-2147483648 ≤ x2 ∧ x2 ≤ 2147483647) → (0 ≤ x1 ∧ 0 ≤ x2 ∧ x2 ≤ (h 0 26) ∧ loI h u x1 (lo3 h x2)) → (((10000 : Int) * ((20 : Int) - x2)).toNat) = n → mJ l D cA ad 3 cX12_layOrder 5 none 69 [(0, (2, ((0 : Nat) : Int))), (1, (0, x1)), (2, (0, x2))] [] u Q) ∧ (∀ (x1 x2 x3 x4 : Int) (u : ja_H), mo_G mo_zr u → (-2147483648 ≤ x1 ∧ x1 ≤ 2147483647) → (-2147483648 ≤ x2 ∧ x2 ≤ 2147483647) → (-2147483648 ≤ x3 ∧ x3 ≤ 2147483647) → (-2147483648 ≤ x4 ∧ x4 ≤ 2147483647) → (0 ≤ x1 ∧ 0 ≤ x2 ∧ x2 < (h 0 26) ∧ 0 ≤ x4 ∧ x4 ≤ (h 0 64) ∧ ((x3 = 1 ∧ loS h x2 x4) ∨ (x3 = 0 ∧ ¬ loS h x2 x4)) ∧ loI h u x1 (lo3 h x2)) → (((10000 : Int) * ((20 : Int) - x2) - 1 - x4).toNat) = n → mJ l D cA ad 3 cX12_layOrder 5 none 82 [(0, (2, ((0 : Nat) : Int))), (1, (0, x1)), (2, (0, x2)), (3, (0, x3)), (4, (0, x4))] [] u Q) ∧ (∀ (x1 x2 x3 x4 : Int) (u : ja_H), mo_G mo_zr u → (-2147483648 ≤ x1 ∧ x1 ≤ 2147483647) → (-2147483648 ≤ x2 ∧ x2 ≤ 2147483647) → (-2147483648 ≤ x3 ∧ x3 ≤ 2147483647) → (-2147483648 ≤ x4 ∧ x4 ≤ 2147483647) → (0 ≤ x1 ∧ 0 ≤ x2 ∧ x2 < (h 0 26) ∧ 0 ≤ x4 ∧ x4 ≤ (h 0 44) ∧ ((x3 = 1 ∧ x4 = 0 ∧ loS h x2 (h 0 64)) ∨ (x3 = 0 ∧ ¬ loS h x2 (h 0 64))) ∧ loI h u x1 (lo4 h x2 x4)) → (((10000 : Int) * ((20 : Int) - x2) - 2000 - x4).toNat) = n → mJ l D cA ad 3 cX12_layOrder 5 none 129 [(0, (2, ((0 : Nat) : Int))), (1, (0, x1)), (2, (0, x2)), (3, (0, x3)), (4, (0, x4))] [] u Q) := by
    intro n
    induction n using Nat.strongRecOn with
    | _ n ih =>
      refine ⟨?_, ?_, ?_, ?_, ?_⟩
      · intro x1 x2 u gu qx1 qx2 iv hm
        subst hm
        have ku_orders := gF_orders gu
        have ku_advices := gF_advices gu
        have ku_aspects := gF_aspects gu
        obtain ⟨j0, j1, j2, iv⟩ := iv
        have ag := iv.1
        have e_orders : (u 0 64) = (h 0 64) := ag 0 64 rfl
        have e_advices : (u 0 44) = (h 0 44) := ag 0 44 rfl
        have e_aspects : (u 0 26) = (h 0 26) := ag 0 26 rfl
        have eaa : u 29 = h 29 := funext fun j => ag 29 j rfl
        refine ja_iload_n dlayOrder_4 rfl rfl ?_
        refine ja_aload_n dlayOrder_5 rfl rfl ?_
        refine fg_orders (v := u 0 64) rfl dlayOrder_6 ?_
        have f1 := gF_orders gu
        refine ja_icmp_ge 67 dlayOrder_9 rfl ⟨by omega, by omega⟩ ⟨by omega, by omega⟩ (fun c9 => ?_) (fun c9 => ?_)
        · refine ja_iconst dlayOrder_67 ?_
          refine ja_istore_n dlayOrder_68 rfl (by decide) (L2 := [(2, (0, 0)), (0, (2, ((0 : Nat) : Int))), (1, (0, x1))]) rfl ?_
          exact ja_wk (fun q hq => by simp only [List.mem_cons, List.not_mem_nil, or_false] at hq; rcases hq with rfl | rfl | rfl <;> rfl) ((ih (((10000 : Int) * ((20 : Int) - 0)).toNat) (by omega)).2.2.1 x1 0 u gu ⟨by omega, by omega⟩ ⟨by decide, by decide⟩ (⟨by omega, by omega, by omega, loI_iff iv (fun a _ => lo3_0 g (by omega) a)⟩) rfl)
        · refine ja_iconst dlayOrder_12 ?_
          refine ja_istore_n dlayOrder_13 rfl (by decide) (L2 := [(3, (0, 0)), (0, (2, ((0 : Nat) : Int))), (1, (0, x1)), (2, (0, x2))]) rfl ?_
          exact ja_wk (fun q hq => by simp only [List.mem_cons, List.not_mem_nil, or_false] at hq; rcases hq with rfl | rfl | rfl | rfl <;> rfl) ((ih (((10000000 : Int) + 1000 * ((1000 : Int) - x2) - 1 - 0).toNat) (by omega)).2.1 x1 x2 0 u gu ⟨by omega, by omega⟩ ⟨by omega, by omega⟩ ⟨by decide, by decide⟩ (⟨by omega, by omega, by omega, by omega, by omega, loI_iff iv (fun a _ => lo2_0 a)⟩) rfl)
      · intro x1 x2 x3 u gu qx1 qx2 qx3 iv hm
        subst hm
        have ku_orders := gF_orders gu
        have ku_advices := gF_advices gu
        have ku_aspects := gF_aspects gu
        obtain ⟨j0, j1, j2, j3, j4, iv⟩ := iv
        have ag := iv.1
        have e_orders : (u 0 64) = (h 0 64) := ag 0 64 rfl
        have e_advices : (u 0 44) = (h 0 44) := ag 0 44 rfl
        have e_aspects : (u 0 26) = (h 0 26) := ag 0 26 rfl
        have eaa : u 29 = h 29 := funext fun j => ag 29 j rfl
        have kaa := gC_adviceAspect gu (x3).toNat
        refine ja_iload_n dlayOrder_14 rfl rfl ?_
        refine ja_aload_n dlayOrder_15 rfl rfl ?_
        refine fg_advices (v := u 0 44) rfl dlayOrder_16 ?_
        have f2 := gF_advices gu
        refine ja_icmp_ge 61 dlayOrder_19 rfl ⟨by omega, by omega⟩ ⟨by omega, by omega⟩ (fun c19 => ?_) (fun c19 => ?_)
        · refine ja_iinc dlayOrder_61 rfl (by decide) (L2 := [(2, (0, (x2 + 1))), (0, (2, ((0 : Nat) : Int))), (1, (0, x1)), (3, (0, x3))]) rfl ?_
          refine ja_goto 4 dlayOrder_64 rfl ?_
          exact ja_wk (fun q hq => by simp only [List.mem_cons, List.not_mem_nil, or_false] at hq; rcases hq with rfl | rfl | rfl <;> rfl) ((ih (((10000000 : Int) + 1000 * ((1000 : Int) - (x2 + 1))).toNat) (by omega)).1 x1 (x2 + 1) u gu ⟨by omega, by omega⟩ ⟨by omega, by omega⟩ (⟨by omega, by omega, by omega, loI_iff iv (fun a ha => lo2_end (by omega) (by omega) a ha)⟩) rfl)
        · refine ja_aload_n dlayOrder_22 rfl rfl ?_
          refine fa_adviceAspect dlayOrder_23 ?_
          refine ja_iload_n dlayOrder_26 rfl rfl ?_
          refine il_adviceAspect (v := u 29 (x3).toNat) rfl ⟨by omega, by omega⟩ dlayOrder_27 ?_
          have f3 := gC_adviceAspect gu (x3).toNat
          refine ja_aload_n dlayOrder_28 rfl rfl ?_
          refine ja_aload_n dlayOrder_29 rfl rfl ?_
          refine ja_aload_n dlayOrder_30 rfl rfl ?_
          refine fa_orderName dlayOrder_31 ?_
          refine ja_iload_n dlayOrder_34 rfl rfl ?_
          refine il_orderName (v := u 43 (x2).toNat) rfl ⟨by omega, by omega⟩ dlayOrder_35 ?_
          have f4 := gC_orderName gu (x2).toNat
          refine t_id (by decide) (show (2 : Nat) ≤ 8 by decide) dlayOrder_36 gu ⟨by omega, by omega⟩ (show 0 ≤ (u 43 (x2).toNat) ∧ (u 43 (x2).toNat) ≤ 900 by omega) ?_
          intro k36_0
          refine t_aspectOf2 (by decide) (show (1 : Nat) ≤ 8 by decide) dlayOrder_39 gu ⟨by omega, by omega⟩ ?_ ?_
          · intro w5 k39_0
            refine ja_icmp_ne 55 dlayOrder_42 rfl ⟨by omega, by omega⟩ ⟨by omega, by omega⟩ (fun c42 => ?_) (fun c42 => ?_)
            · refine ja_iinc dlayOrder_55 rfl (by decide) (L2 := [(3, (0, (x3 + 1))), (0, (2, ((0 : Nat) : Int))), (1, (0, x1)), (2, (0, x2))]) rfl ?_
              refine ja_goto 14 dlayOrder_58 rfl ?_
              exact ja_wk (fun q hq => by simp only [List.mem_cons, List.not_mem_nil, or_false] at hq; rcases hq with rfl | rfl | rfl | rfl <;> rfl) ((ih (((10000000 : Int) + 1000 * ((1000 : Int) - x2) - 1 - (x3 + 1)).toNat) (by omega)).2.1 x1 x2 (x3 + 1) u gu ⟨by omega, by omega⟩ ⟨by omega, by omega⟩ ⟨by omega, by omega⟩ (⟨by omega, by omega, by omega, by omega, by omega, loI_iff iv (fun a _ => lo2_no (by omega) (fun z => c42 (by have z2 : (h 29 (x3).toNat) = asF h (odN h (x2).toNat) := z; rw [← lo_eq ag, ← k39_0.2.2, ← eaa] at z2; exact z2)) a)⟩) rfl)
            · have hroom := loI_room iv ⟨by omega, by omega⟩ (lo_new g ⟨by omega, by omega⟩ (by omega) p1 (show loA h (x3).toNat = asF h (odN h (x2).toNat) from by rw [← lo_eq ag, ← k39_0.2.2, ← c42]; exact (congrFun eaa _).symm))
              refine ja_aload_n dlayOrder_45 rfl rfl ?_
              refine fa_ordered dlayOrder_46 ?_
              refine ja_iload_n dlayOrder_49 rfl rfl ?_
              refine ja_iload_n dlayOrder_50 rfl rfl ?_
              have g6 := gW_ordered gu (x1).toNat (x := x3) ⟨by omega, by omega⟩
              refine is_ordered ⟨by omega, by omega⟩ dlayOrder_51 ?_
              refine ja_iinc dlayOrder_52 rfl (by decide) (L2 := [(1, (0, (x1 + 1))), (0, (2, ((0 : Nat) : Int))), (2, (0, x2)), (3, (0, x3))]) rfl ?_
              refine ja_iinc dlayOrder_55 rfl (by decide) (L2 := [(3, (0, (x3 + 1))), (1, (0, (x1 + 1))), (0, (2, ((0 : Nat) : Int))), (2, (0, x2))]) rfl ?_
              refine ja_goto 14 dlayOrder_58 rfl ?_
              exact ja_wk (fun q hq => by simp only [List.mem_cons, List.not_mem_nil, or_false] at hq; rcases hq with rfl | rfl | rfl | rfl <;> rfl) ((ih (((10000000 : Int) + 1000 * ((1000 : Int) - x2) - 1 - (x3 + 1)).toNat) (by omega)).2.1 (x1 + 1) x2 (x3 + 1) (ja_up u 81 ((x1).toNat) x3) g6 ⟨by omega, by omega⟩ ⟨by omega, by omega⟩ ⟨by omega, by omega⟩ (⟨by omega, by omega, by omega, by omega, by omega, (by have hE := (show loA h (x3).toNat = asF h (odN h (x2).toNat) from by rw [← lo_eq ag, ← k39_0.2.2, ← c42]; exact (congrFun eaa _).symm); exact loI_put iv ⟨by omega, by omega⟩ (lo_new g ⟨by omega, by omega⟩ (by omega) p1 hE) (fun b _ => lo2_yes (by omega) hE b))⟩) rfl)
          · intro k39_1
            refine ja_icmp_ne 55 dlayOrder_42 rfl ⟨by omega, by omega⟩ ⟨by decide, by decide⟩ (fun c42 => ?_) (fun c42 => ?_)
            · refine ja_iinc dlayOrder_55 rfl (by decide) (L2 := [(3, (0, (x3 + 1))), (0, (2, ((0 : Nat) : Int))), (1, (0, x1)), (2, (0, x2))]) rfl ?_
              refine ja_goto 14 dlayOrder_58 rfl ?_
              exact ja_wk (fun q hq => by simp only [List.mem_cons, List.not_mem_nil, or_false] at hq; rcases hq with rfl | rfl | rfl | rfl <;> rfl) ((ih (((10000000 : Int) + 1000 * ((1000 : Int) - x2) - 1 - (x3 + 1)).toNat) (by omega)).2.1 x1 x2 (x3 + 1) u gu ⟨by omega, by omega⟩ ⟨by omega, by omega⟩ ⟨by omega, by omega⟩ (⟨by omega, by omega, by omega, by omega, by omega, loI_iff iv (fun a _ => lo2_no (by omega) (fun z => c42 (by have z2 : (h 29 (x3).toNat) = asF h (odN h (x2).toNat) := z; rw [← lo_eq ag, ← eaa] at z2; exact z2.trans k39_1)) a)⟩) rfl)
            · exfalso; omega
      · intro x1 x2 u gu qx1 qx2 iv hm
        subst hm
        have ku_orders := gF_orders gu
        have ku_advices := gF_advices gu
        have ku_aspects := gF_aspects gu
        obtain ⟨j0, j1, j2, iv⟩ := iv
        have ag := iv.1
        have e_orders : (u 0 64) = (h 0 64) := ag 0 64 rfl
        have e_advices : (u 0 44) = (h 0 44) := ag 0 44 rfl
        have e_aspects : (u 0 26) = (h 0 26) := ag 0 26 rfl
        have eaa : u 29 = h 29 := funext fun j => ag 29 j rfl
        refine ja_iload_n dlayOrder_69 rfl rfl ?_
        refine ja_aload_n dlayOrder_70 rfl rfl ?_
        refine fg_aspects (v := u 0 26) rfl dlayOrder_71 ?_
        have f7 := gF_aspects gu
        refine ja_icmp_ge 176 dlayOrder_74 rfl ⟨by omega, by omega⟩ ⟨by omega, by omega⟩ (fun c74 => ?_) (fun c74 => ?_)
        · refine ja_return dlayOrder_176 rfl ?_
          exact k1 u ((lo_end iv g (by omega) p2)) gu
        · refine ja_iconst dlayOrder_77 ?_
          refine ja_istore_n dlayOrder_78 rfl (by decide) (L2 := [(3, (0, 0)), (0, (2, ((0 : Nat) : Int))), (1, (0, x1)), (2, (0, x2))]) rfl ?_
          refine ja_iconst dlayOrder_79 ?_
          refine ja_istore dlayOrder_80 (by decide) (L2 := [(4, (0, 0)), (3, (0, 0)), (0, (2, ((0 : Nat) : Int))), (1, (0, x1)), (2, (0, x2))]) rfl ?_
          exact ja_wk (fun q hq => by simp only [List.mem_cons, List.not_mem_nil, or_false] at hq; rcases hq with rfl | rfl | rfl | rfl | rfl <;> rfl) ((ih (((10000 : Int) * ((20 : Int) - x2) - 1 - 0).toNat) (by omega)).2.2.2.1 x1 x2 0 0 u gu ⟨by omega, by omega⟩ ⟨by omega, by omega⟩ ⟨by decide, by decide⟩ ⟨by decide, by decide⟩ (⟨by omega, by omega, by omega, by omega, by omega, Or.inr ⟨rfl, loS_0⟩, loI_iff iv (fun a _ => Iff.rfl)⟩) rfl)
      · intro x1 x2 x3 x4 u gu qx1 qx2 qx3 qx4 iv hm
        subst hm
        have ku_orders := gF_orders gu
        have ku_advices := gF_advices gu
        have ku_aspects := gF_aspects gu
        obtain ⟨j0, j1, j2, j3, j4, j5, iv⟩ := iv
        have ag := iv.1
        have e_orders : (u 0 64) = (h 0 64) := ag 0 64 rfl
        have e_advices : (u 0 44) = (h 0 44) := ag 0 44 rfl
        have e_aspects : (u 0 26) = (h 0 26) := ag 0 26 rfl
        have eaa : u 29 = h 29 := funext fun j => ag 29 j rfl
        refine ja_iload dlayOrder_82 rfl ?_
        refine ja_aload_n dlayOrder_84 rfl rfl ?_
        refine fg_orders (v := u 0 64) rfl dlayOrder_85 ?_
        have f8 := gF_orders gu
        refine ja_icmp_ge 126 dlayOrder_88 rfl ⟨by omega, by omega⟩ ⟨by omega, by omega⟩ (fun c88 => ?_) (fun c88 => ?_)
        · refine ja_iconst dlayOrder_126 ?_
          refine ja_istore dlayOrder_127 (by decide) (L2 := [(4, (0, 0)), (0, (2, ((0 : Nat) : Int))), (1, (0, x1)), (2, (0, x2)), (3, (0, x3))]) rfl ?_
          exact ja_wk (fun q hq => by simp only [List.mem_cons, List.not_mem_nil, or_false] at hq; rcases hq with rfl | rfl | rfl | rfl | rfl <;> rfl) ((ih (((10000 : Int) * ((20 : Int) - x2) - 2000 - 0).toNat) (by omega)).2.2.2.2 x1 x2 x3 0 u gu ⟨by omega, by omega⟩ ⟨by omega, by omega⟩ ⟨by omega, by omega⟩ ⟨by decide, by decide⟩ (⟨by omega, by omega, by omega, by omega, by omega, (by have e : x4 = (h 0 64) := (by omega); subst e; exact j5.imp (fun z => ⟨z.1, rfl, z.2⟩) (fun z => z)), loI_iff iv (fun a _ => lo4_0 a)⟩) rfl)
        · refine ja_iload_n dlayOrder_91 rfl rfl ?_
          refine ja_if_ne 114 dlayOrder_92 rfl ⟨by omega, by omega⟩ (fun c92 => ?_) (fun c92 => ?_)
          · refine ja_iconst dlayOrder_114 ?_
            refine ja_goto 119 dlayOrder_115 rfl ?_
            refine ja_istore_n dlayOrder_119 rfl (by decide) (L2 := [(3, (0, 1)), (0, (2, ((0 : Nat) : Int))), (1, (0, x1)), (2, (0, x2)), (4, (0, x4))]) rfl ?_
            refine ja_iinc dlayOrder_120 rfl (by decide) (L2 := [(4, (0, (x4 + 1))), (3, (0, 1)), (0, (2, ((0 : Nat) : Int))), (1, (0, x1)), (2, (0, x2))]) rfl ?_
            refine ja_goto 82 dlayOrder_123 rfl ?_
            exact ja_wk (fun q hq => by simp only [List.mem_cons, List.not_mem_nil, or_false] at hq; rcases hq with rfl | rfl | rfl | rfl | rfl <;> rfl) ((ih (((10000 : Int) * ((20 : Int) - x2) - 1 - (x4 + 1)).toNat) (by omega)).2.2.2.1 x1 x2 1 (x4 + 1) u gu ⟨by omega, by omega⟩ ⟨by omega, by omega⟩ ⟨by decide, by decide⟩ ⟨by omega, by omega⟩ (⟨by omega, by omega, by omega, by omega, by omega, (j5.elim (fun z => Or.inl ⟨rfl, loS_up z.2⟩) (fun z => by exfalso; omega)), iv⟩) rfl)
          · refine ja_aload_n dlayOrder_95 rfl rfl ?_
            refine ja_aload_n dlayOrder_96 rfl rfl ?_
            refine ja_aload_n dlayOrder_97 rfl rfl ?_
            refine fa_orderName dlayOrder_98 ?_
            refine ja_iload dlayOrder_101 rfl ?_
            refine il_orderName (v := u 43 (x4).toNat) rfl ⟨by omega, by omega⟩ dlayOrder_103 ?_
            have f9 := gC_orderName gu (x4).toNat
            refine t_id (by decide) (show (1 : Nat) ≤ 8 by decide) dlayOrder_104 gu ⟨by omega, by omega⟩ (show 0 ≤ (u 43 (x4).toNat) ∧ (u 43 (x4).toNat) ≤ 900 by omega) ?_
            intro k104_0
            refine t_aspectOf2 (by decide) (show (0 : Nat) ≤ 8 by decide) dlayOrder_107 gu ⟨by omega, by omega⟩ ?_ ?_
            · intro w10 k107_0
              refine ja_iload_n dlayOrder_110 rfl rfl ?_
              refine ja_icmp_ne 118 dlayOrder_111 rfl ⟨by omega, by omega⟩ ⟨by omega, by omega⟩ (fun c111 => ?_) (fun c111 => ?_)
              · refine ja_iconst dlayOrder_118 ?_
                refine ja_istore_n dlayOrder_119 rfl (by decide) (L2 := [(3, (0, 0)), (0, (2, ((0 : Nat) : Int))), (1, (0, x1)), (2, (0, x2)), (4, (0, x4))]) rfl ?_
                refine ja_iinc dlayOrder_120 rfl (by decide) (L2 := [(4, (0, (x4 + 1))), (3, (0, 0)), (0, (2, ((0 : Nat) : Int))), (1, (0, x1)), (2, (0, x2))]) rfl ?_
                refine ja_goto 82 dlayOrder_123 rfl ?_
                exact ja_wk (fun q hq => by simp only [List.mem_cons, List.not_mem_nil, or_false] at hq; rcases hq with rfl | rfl | rfl | rfl | rfl <;> rfl) ((ih (((10000 : Int) * ((20 : Int) - x2) - 1 - (x4 + 1)).toNat) (by omega)).2.2.2.1 x1 x2 0 (x4 + 1) u gu ⟨by omega, by omega⟩ ⟨by omega, by omega⟩ ⟨by decide, by decide⟩ ⟨by omega, by omega⟩ (⟨by omega, by omega, by omega, by omega, by omega, (j5.elim (fun z => by exfalso; omega) (fun z => Or.inr ⟨rfl, loS_no z.2 (fun y => c111 (by rw [← lo_eq ag, ← k107_0.2.2] at y; exact y))⟩)), iv⟩) rfl)
              · refine ja_iconst dlayOrder_114 ?_
                refine ja_goto 119 dlayOrder_115 rfl ?_
                refine ja_istore_n dlayOrder_119 rfl (by decide) (L2 := [(3, (0, 1)), (0, (2, ((0 : Nat) : Int))), (1, (0, x1)), (2, (0, x2)), (4, (0, x4))]) rfl ?_
                refine ja_iinc dlayOrder_120 rfl (by decide) (L2 := [(4, (0, (x4 + 1))), (3, (0, 1)), (0, (2, ((0 : Nat) : Int))), (1, (0, x1)), (2, (0, x2))]) rfl ?_
                refine ja_goto 82 dlayOrder_123 rfl ?_
                exact ja_wk (fun q hq => by simp only [List.mem_cons, List.not_mem_nil, or_false] at hq; rcases hq with rfl | rfl | rfl | rfl | rfl <;> rfl) ((ih (((10000 : Int) * ((20 : Int) - x2) - 1 - (x4 + 1)).toNat) (by omega)).2.2.2.1 x1 x2 1 (x4 + 1) u gu ⟨by omega, by omega⟩ ⟨by omega, by omega⟩ ⟨by decide, by decide⟩ ⟨by omega, by omega⟩ (⟨by omega, by omega, by omega, by omega, by omega, (Or.inl ⟨rfl, loS_yes (by omega) (by rw [← lo_eq ag, ← k107_0.2.2]; exact c111)⟩), iv⟩) rfl)
            · intro k107_1
              refine ja_iload_n dlayOrder_110 rfl rfl ?_
              refine ja_icmp_ne 118 dlayOrder_111 rfl ⟨by decide, by decide⟩ ⟨by omega, by omega⟩ (fun c111 => ?_) (fun c111 => ?_)
              · refine ja_iconst dlayOrder_118 ?_
                refine ja_istore_n dlayOrder_119 rfl (by decide) (L2 := [(3, (0, 0)), (0, (2, ((0 : Nat) : Int))), (1, (0, x1)), (2, (0, x2)), (4, (0, x4))]) rfl ?_
                refine ja_iinc dlayOrder_120 rfl (by decide) (L2 := [(4, (0, (x4 + 1))), (3, (0, 0)), (0, (2, ((0 : Nat) : Int))), (1, (0, x1)), (2, (0, x2))]) rfl ?_
                refine ja_goto 82 dlayOrder_123 rfl ?_
                exact ja_wk (fun q hq => by simp only [List.mem_cons, List.not_mem_nil, or_false] at hq; rcases hq with rfl | rfl | rfl | rfl | rfl <;> rfl) ((ih (((10000 : Int) * ((20 : Int) - x2) - 1 - (x4 + 1)).toNat) (by omega)).2.2.2.1 x1 x2 0 (x4 + 1) u gu ⟨by omega, by omega⟩ ⟨by omega, by omega⟩ ⟨by decide, by decide⟩ ⟨by omega, by omega⟩ (⟨by omega, by omega, by omega, by omega, by omega, (j5.elim (fun z => by exfalso; omega) (fun z => Or.inr ⟨rfl, loS_no z.2 (fun y => by rw [← lo_eq ag, k107_1] at y; omega)⟩)), iv⟩) rfl)
              · refine ja_iconst dlayOrder_114 ?_
                refine ja_goto 119 dlayOrder_115 rfl ?_
                refine ja_istore_n dlayOrder_119 rfl (by decide) (L2 := [(3, (0, 1)), (0, (2, ((0 : Nat) : Int))), (1, (0, x1)), (2, (0, x2)), (4, (0, x4))]) rfl ?_
                refine ja_iinc dlayOrder_120 rfl (by decide) (L2 := [(4, (0, (x4 + 1))), (3, (0, 1)), (0, (2, ((0 : Nat) : Int))), (1, (0, x1)), (2, (0, x2))]) rfl ?_
                refine ja_goto 82 dlayOrder_123 rfl ?_
                exact ja_wk (fun q hq => by simp only [List.mem_cons, List.not_mem_nil, or_false] at hq; rcases hq with rfl | rfl | rfl | rfl | rfl <;> rfl) ((ih (((10000 : Int) * ((20 : Int) - x2) - 1 - (x4 + 1)).toNat) (by omega)).2.2.2.1 x1 x2 1 (x4 + 1) u gu ⟨by omega, by omega⟩ ⟨by omega, by omega⟩ ⟨by decide, by decide⟩ ⟨by omega, by omega⟩ (⟨by omega, by omega, by omega, by omega, by omega, (by exfalso; omega), iv⟩) rfl)
      · intro x1 x2 x3 x4 u gu qx1 qx2 qx3 qx4 iv hm
        subst hm
        have ku_orders := gF_orders gu
        have ku_advices := gF_advices gu
        have ku_aspects := gF_aspects gu
        obtain ⟨j0, j1, j2, j3, j4, j5, iv⟩ := iv
        have ag := iv.1
        have e_orders : (u 0 64) = (h 0 64) := ag 0 64 rfl
        have e_advices : (u 0 44) = (h 0 44) := ag 0 44 rfl
        have e_aspects : (u 0 26) = (h 0 26) := ag 0 26 rfl
        have eaa : u 29 = h 29 := funext fun j => ag 29 j rfl
        refine ja_iload dlayOrder_129 rfl ?_
        refine ja_aload_n dlayOrder_131 rfl rfl ?_
        refine fg_advices (v := u 0 44) rfl dlayOrder_132 ?_
        have f11 := gF_advices gu
        refine ja_icmp_ge 170 dlayOrder_135 rfl ⟨by omega, by omega⟩ ⟨by omega, by omega⟩ (fun c135 => ?_) (fun c135 => ?_)
        · refine ja_iinc dlayOrder_170 rfl (by decide) (L2 := [(2, (0, (x2 + 1))), (0, (2, ((0 : Nat) : Int))), (1, (0, x1)), (3, (0, x3)), (4, (0, x4))]) rfl ?_
          refine ja_goto 69 dlayOrder_173 rfl ?_
          exact ja_wk (fun q hq => by simp only [List.mem_cons, List.not_mem_nil, or_false] at hq; rcases hq with rfl | rfl | rfl <;> rfl) ((ih (((10000 : Int) * ((20 : Int) - (x2 + 1))).toNat) (by omega)).2.2.1 x1 (x2 + 1) u gu ⟨by omega, by omega⟩ ⟨by omega, by omega⟩ (⟨by omega, by omega, by omega, (j5.elim (fun z => by obtain ⟨-, z2, z3⟩ := z; subst z2; exact loI_iff iv (fun a _ => lo4_st z3 a)) (fun z => loI_iff iv (fun a ha => lo4_end (by omega) a ha)))⟩) rfl)
        · refine ja_iload_n dlayOrder_138 rfl rfl ?_
          refine ja_if_ne 170 dlayOrder_139 rfl ⟨by omega, by omega⟩ (fun c139 => ?_) (fun c139 => ?_)
          · refine ja_iinc dlayOrder_170 rfl (by decide) (L2 := [(2, (0, (x2 + 1))), (0, (2, ((0 : Nat) : Int))), (1, (0, x1)), (3, (0, x3)), (4, (0, x4))]) rfl ?_
            refine ja_goto 69 dlayOrder_173 rfl ?_
            exact ja_wk (fun q hq => by simp only [List.mem_cons, List.not_mem_nil, or_false] at hq; rcases hq with rfl | rfl | rfl <;> rfl) ((ih (((10000 : Int) * ((20 : Int) - (x2 + 1))).toNat) (by omega)).2.2.1 x1 (x2 + 1) u gu ⟨by omega, by omega⟩ ⟨by omega, by omega⟩ (⟨by omega, by omega, by omega, (j5.elim (fun z => by obtain ⟨-, z2, z3⟩ := z; subst z2; exact loI_iff iv (fun a _ => lo4_st z3 a)) (fun z => by exfalso; omega))⟩) rfl)
          · refine ja_aload_n dlayOrder_142 rfl rfl ?_
            refine fa_adviceAspect dlayOrder_143 ?_
            refine ja_iload dlayOrder_146 rfl ?_
            refine il_adviceAspect (v := u 29 (x4).toNat) rfl ⟨by omega, by omega⟩ dlayOrder_148 ?_
            have f12 := gC_adviceAspect gu (x4).toNat
            refine ja_iload_n dlayOrder_149 rfl rfl ?_
            refine ja_icmp_ne 164 dlayOrder_150 rfl ⟨by omega, by omega⟩ ⟨by omega, by omega⟩ (fun c150 => ?_) (fun c150 => ?_)
            · refine ja_iinc dlayOrder_164 rfl (by decide) (L2 := [(4, (0, (x4 + 1))), (0, (2, ((0 : Nat) : Int))), (1, (0, x1)), (2, (0, x2)), (3, (0, x3))]) rfl ?_
              refine ja_goto 129 dlayOrder_167 rfl ?_
              exact ja_wk (fun q hq => by simp only [List.mem_cons, List.not_mem_nil, or_false] at hq; rcases hq with rfl | rfl | rfl | rfl | rfl <;> rfl) ((ih (((10000 : Int) * ((20 : Int) - x2) - 2000 - (x4 + 1)).toNat) (by omega)).2.2.2.2 x1 x2 x3 (x4 + 1) u gu ⟨by omega, by omega⟩ ⟨by omega, by omega⟩ ⟨by omega, by omega⟩ ⟨by omega, by omega⟩ (⟨by omega, by omega, by omega, by omega, by omega, (j5.elim (fun z => by exfalso; omega) (fun z => Or.inr z)), loI_iff iv (fun a _ => lo4_no (by omega) (fun z => c150 ((congrFun eaa _).trans z)) a)⟩) rfl)
            · have hroom := loI_room iv ⟨by omega, by omega⟩ (lo4_new (by omega) (j5.elim (fun z => by exfalso; omega) (fun z => z.2)) (show loA h (x4).toNat = x2 from by rw [← c150]; exact (congrFun eaa _).symm))
              refine ja_aload_n dlayOrder_153 rfl rfl ?_
              refine fa_ordered dlayOrder_154 ?_
              refine ja_iload_n dlayOrder_157 rfl rfl ?_
              refine ja_iload dlayOrder_158 rfl ?_
              have g13 := gW_ordered gu (x1).toNat (x := x4) ⟨by omega, by omega⟩
              refine is_ordered ⟨by omega, by omega⟩ dlayOrder_160 ?_
              refine ja_iinc dlayOrder_161 rfl (by decide) (L2 := [(1, (0, (x1 + 1))), (0, (2, ((0 : Nat) : Int))), (2, (0, x2)), (3, (0, x3)), (4, (0, x4))]) rfl ?_
              refine ja_iinc dlayOrder_164 rfl (by decide) (L2 := [(4, (0, (x4 + 1))), (1, (0, (x1 + 1))), (0, (2, ((0 : Nat) : Int))), (2, (0, x2)), (3, (0, x3))]) rfl ?_
              refine ja_goto 129 dlayOrder_167 rfl ?_
              exact ja_wk (fun q hq => by simp only [List.mem_cons, List.not_mem_nil, or_false] at hq; rcases hq with rfl | rfl | rfl | rfl | rfl <;> rfl) ((ih (((10000 : Int) * ((20 : Int) - x2) - 2000 - (x4 + 1)).toNat) (by omega)).2.2.2.2 (x1 + 1) x2 x3 (x4 + 1) (ja_up u 81 ((x1).toNat) x4) g13 ⟨by omega, by omega⟩ ⟨by omega, by omega⟩ ⟨by omega, by omega⟩ ⟨by omega, by omega⟩ (⟨by omega, by omega, by omega, by omega, by omega, (j5.elim (fun z => by exfalso; omega) (fun z => Or.inr z)), (by have hE : loA h (x4).toNat = x2 := (by rw [← c150]; exact (congrFun eaa _).symm); exact loI_put iv ⟨by omega, by omega⟩ (lo4_new (by omega) (j5.elim (fun z => by exfalso; omega) (fun z => z.2)) hE) (fun b _ => lo4_yes (by omega) hE b))⟩) rfl)
  refine ja_iconst dlayOrder_0 ?_
  refine ja_istore_n dlayOrder_1 rfl (by decide) (L2 := [(1, (0, 0)), (0, (2, ((0 : Nat) : Int)))]) rfl ?_
  refine ja_iconst dlayOrder_2 ?_
  refine ja_istore_n dlayOrder_3 rfl (by decide) (L2 := [(2, (0, 0)), (1, (0, 0)), (0, (2, ((0 : Nat) : Int)))]) rfl ?_
  exact ja_wk (fun q hq => by simp only [List.mem_cons, List.not_mem_nil, or_false] at hq; rcases hq with rfl | rfl | rfl <;> rfl) ((CUT _).1 0 0 h g ⟨by decide, by decide⟩ ⟨by decide, by decide⟩ (⟨by omega, by omega, by omega, loI_0 ag_refl (fun a _ => fun ⟨i, y, _⟩ => by omega)⟩) rfl)
theorem t_layOrder {d nL pc : Nat} {cc : ByteArray} {rt : Option FieldType} {L : List (Nat × ja_V)} {S : List ja_V} {h : ja_H} {Q : Option ja_V → ja_H → Prop} (hdd : 3 < d) (hwd : ja_wd S ≤ 8) (hd : decode cc pc = .ok (.invokevirtual 933, 3)) (g : mo_G mo_zr h) (p1 : odD h (h 0 64)) (p2 : ∀ a : Nat, (a : Int) < (h 0 44) → (h 29 (a : Int).toNat) < (h 0 26)) (k1 : ∀ (h' : ja_H), (mo_ag FLO h h' ∧ ∀ j : Nat, (j : Int) < (h 0 44) → (h' 81 (j : Int).toNat) < (h 0 44)) → mo_G mo_zr h' → mJ l D cA ad d cc nL rt (pc + 3) L S h' Q) : mJ l D cA ad d cc nL rt pc L ((2, ((0 : Nat) : Int)) :: S) h Q :=
  mc_layOrder hdd hwd hd (s_layOrder g p1 p2 k1)
end
