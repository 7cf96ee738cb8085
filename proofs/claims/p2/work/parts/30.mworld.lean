/-! the reference: its world, ranges, tables (written by a program) -/
def mo_cells : List ((Nat × Nat) × List Nat) := [((12, 209), [3, 0, 4, 5, 6, 7, 0, 0, 0, 0, 0, 0, 0, 8, 9, 10, 11, 0, 0, 0, 0, 0, 0, 12, 13, 14, 0, 15, 16, 17, 18, 0, 19, 20, 0, 21, 22, 23, 24, 25, 26, 0, 27, 28, 0, 29, 30, 31, 32, 33, 34, 35, 0, 36, 37, 38, 39, 0, 40, 41, 42, 0, 43, 44, 0, 45, 0, 0, 0, 46, 47, 48, 0, 49, 0, 0, 0, 0, 50, 0, 51, 52, 0, 53, 0, 0, 0, 0, 0, 54, 55, 56, 57, 58, 59, 0, 60, 61, 62, 63, 64, 65, 66, 67, 68, 69, 70, 71, 72, 0, 73, 74, 75, 0, 76, 77, 78, 79, 0, 0, 80, 81, 82, 83, 84, 85, 86, 0, 0, 0, 0, 0, 0, 87, 88, 0, 89, 90, 0, 91, 92, 93, 94, 95, 0, 0, 0, 96, 97, 0, 0, 98, 99, 100, 101, 102, 103, 104, 105, 106, 107, 108, 109, 110, 111, 0, 112, 113, 0, 114, 115, 116, 0, 117, 118, 119, 120, 121, 122, 123, 124, 125, 126, 127, 128, 129, 0, 0, 0, 0, 0, 0, 130, 131, 132, 133, 0, 0, 134, 135, 136, 137, 0, 0, 138, 139, 0, 0, 0]),
  ((100, 5016), []),
  ((100, 903), []),
  ((100, 903), []),
  ((100, 903), []),
  ((100, 903), []),
  ((100, 2000), []),
  ((100, 2000), []),
  ((100, 2000), []),
  ((100, 2000), []),
  ((100, 13), []),
  ((100, 13), []),
  ((100, 13), []),
  ((100, 9), []),
  ((102, 9), []),
  ((100, 9), []),
  ((100, 90), []),
  ((100, 900), []),
  ((100, 900), []),
  ((100, 61), []),
  ((100, 61), []),
  ((100, 61), []),
  ((100, 61), []),
  ((100, 61), []),
  ((100, 61), []),
  ((100, 900), []),
  ((100, 900), []),
  ((100, 25), []),
  ((100, 25), []),
  ((100, 25), []),
  ((100, 25), []),
  ((100, 25), []),
  ((100, 25), []),
  ((100, 25), []),
  ((100, 25), []),
  ((100, 25), []),
  ((100, 25), []),
  ((100, 25), []),
  ((100, 13), []),
  ((102, 13), []),
  ((100, 13), []),
  ((100, 300), []),
  ((100, 300), []),
  ((100, 900), []),
  ((100, 900), []),
  ((100, 900), []),
  ((100, 900), []),
  ((100, 900), []),
  ((100, 16), []),
  ((100, 16), []),
  ((100, 16), []),
  ((100, 8), []),
  ((100, 400), []),
  ((100, 400), []),
  ((100, 400), []),
  ((100, 400), []),
  ((100, 400), []),
  ((100, 400), []),
  ((100, 900), []),
  ((100, 900), []),
  ((100, 900), []),
  ((100, 900), []),
  ((100, 900), []),
  ((100, 6300), []),
  ((100, 900), []),
  ((100, 900), []),
  ((102, 900), []),
  ((102, 900), []),
  ((100, 900), []),
  ((100, 900), []),
  ((100, 400), []),
  ((100, 360000), []),
  ((100, 360000), []),
  ((102, 900), []),
  ((100, 5000), []),
  ((100, 5000), []),
  ((100, 5000), []),
  ((100, 5000), []),
  ((100, 4800), []),
  ((100, 4800), []),
  ((100, 4800), []),
  ((100, 25), []),
  ((100, 13), []),
  ((100, 1600), []),
  ((100, 13), []),
  ((100, 300), []),
  ((100, 300), []),
  ((100, 300), []),
  ((100, 300), []),
  ((100, 201), []),
  ((100, 24200), []),
  ((100, 24200), []),
  ((100, 16200), []),
  ((100, 16200), []),
  ((100, 6000), []),
  ((100, 6000), []),
  ((100, 3000), []),
  ((100, 3000), []),
  ((100, 3000), []),
  ((100, 3000), []),
  ((100, 3000), []),
  ((100, 3000), []),
  ((100, 3000), []),
  ((100, 3000), []),
  ((100, 3000), []),
  ((100, 3000), []),
  ((100, 3000), []),
  ((100, 3000), []),
  ((100, 18000), []),
  ((100, 18000), []),
  ((100, 500), []),
  ((100, 500), []),
  ((100, 800), []),
  ((100, 800), []),
  ((100, 800), []),
  ((100, 120), []),
  ((100, 120), []),
  ((100, 120), []),
  ((100, 120), []),
  ((100, 120), []),
  ((100, 720), []),
  ((100, 720), []),
  ((100, 120), []),
  ((100, 120), []),
  ((100, 2880), []),
  ((100, 2880), []),
  ((100, 20160), []),
  ((100, 20160), []),
  ((100, 6), []),
  ((100, 6), []),
  ((100, 14), []),
  ((100, 14), []),
  ((100, 1000), []),
  ((100, 1000), []),
  ((100, 1000), []),
  ((100, 1000), []),
  ((100, 64), []),
  ((100, 64), [])]
def mo_sp : ja_S := fun k => ((mo_cells.getD k ((100, 0), [])).1, fun j => ((mo_cells.getD k ((100, 0), [])).2).getD j 0)
def mo_K : Nat := 138
def mo_fl : List (Int × Int) := [(0, 0), (0, 5000), (0, 0), (0, 0), (0, 0), (0, 0), (0, 901), (0, 900), (0, 8), ((-2147483648), 2147483647), ((-2147483648), 2147483647), (0, 8), ((-2147483648), 2147483647), (0, 0), (0, 0), (0, 0), (0, 0), (0, 2000), (0, 16), ((-2147483648), 2147483647), (0, 399), (0, 6), (0, 12), (0, 0), (0, 0), (0, 0), (0, 8), (0, 0), (0, 0), (0, 0), (0, 0), (0, 900), (0, 0), (0, 0), (0, 60), (0, 0), (0, 0), (0, 0), (0, 0), (0, 0), (0, 0), (0, 900), (0, 0), (0, 0), (0, 24), (0, 0), (0, 0), (0, 0), (0, 0), (0, 0), (0, 0), (0, 0), (0, 24), (0, 0), (0, 0), (0, 0), (0, 0), (0, 12), (0, 0), (0, 0), (0, 0), (0, 300), (0, 0), (0, 0), (0, 900), (0, 0), ((-2147483648), 2147483647), ((-1), 5000), (0, 900), (0, 0), (0, 0), (0, 0), (0, 900), (0, 0), (0, 3), (0, 60), (0, 7), (0, 16), (0, 0), (0, 16), (0, 0), (0, 0), (0, 7), (0, 0), ((-2147483648), 2147483647), (0, 1), (0, 1), ((-2147483648), 2147483647), (0, 400), (0, 0), (0, 0), (0, 0), (0, 0), (0, 0), (0, 0), (0, 900), (0, 0), (0, 0), (0, 0), (0, 0), (0, 0), (0, 0), (0, 0), (0, 0), (0, 0), (0, 0), (0, 0), (0, 0), (0, 0), (0, 400), (0, 0), (0, 0), (0, 0), (0, 5000), (0, 0), (0, 0), (0, 0), (0, 0), (0, 1), (0, 4800), (0, 0), (0, 0), (0, 0), (0, 0), (0, 0), (0, 0), (0, 0), (0, 1), (0, 1), (0, 2), ((-2147483648), 2147483647), ((-2147483648), 2147483647), (0, 2147483647), (0, 0), (0, 0), (0, 2147483647), (0, 0), (0, 0), (0, 200), (0, 0), (0, 0), (0, 0), (0, 0), (0, 0), ((-2147483648), 2147483647), (0, 2), ((-2147483648), 2147483647), (0, 0), (0, 0), (0, 6000), (0, 3000), (0, 0), (0, 0), (0, 0), (0, 0), (0, 0), (0, 0), (0, 0), (0, 0), (0, 0), (0, 0), (0, 0), (0, 0), (0, 0), (0, 0), (0, 500), (0, 0), (0, 0), (0, 800), (0, 0), (0, 0), (0, 0), (0, 120), (0, 0), (0, 0), (0, 0), (0, 0), (0, 0), (0, 0), (0, 0), (0, 0), (0, 0), (0, 0), (0, 0), (0, 0), (0, 0), (0, 2), (0, 1), (0, 2), ((-2147483648), 2147483647), (0, 119), (0, 24), (0, 0), (0, 0), (0, 0), (0, 0), (0, 200), (0, 7), (0, 0), (0, 0), (0, 0), (0, 0), (0, 1000), (0, 1), (0, 0), (0, 0), (0, 64), (0, 1), (0, 2)]
def mo_cr : List (Int × Int) := [(0, 0), (0, 255), (0, 7), (0, 5001), (0, 5001), ((-2147483648), 2147483647), (0, 38), ((-2147483648), 2147483647), ((-2147483648), 2147483647), ((-2147483648), 2147483647), (0, 900), ((-1), 900), ((-1), 11), (0, 900), (0, 1), (0, 10), ((-2147483648), 2147483647), (0, 900), ((-2147483648), 2147483647), (0, 900), ((-2147483648), 2147483647), ((-1), 11), (0, 6), (0, 5000), ((-1), 399), (0, 900), ((-2147483648), 2147483647), (0, 2), (0, 2), (0, 7), (0, 7), (0, 899), (0, 5000), (0, 900), (0, 900), (0, 7), (0, 6), (0, 899), (0, 899), (0, 1), (0, 900), (0, 900), (0, 900), (0, 900), (0, 900), (0, 1), (0, 7), (0, 899), ((-2147483648), 2147483647), ((-2147483648), 2147483647), (0, 15), (0, 900), (0, 5), (0, 900), ((-1), 900), (0, 6), (0, 2), (0, 60), (0, 15), ((-2147483648), 2147483647), ((-2147483648), 2147483647), (0, 900), (0, 6), ((-2147483648), 2147483647), (0, 7), ((-2147483648), 2147483647), (0, 1), (0, 1), ((-2147483648), 2147483647), ((-2147483648), 2147483647), (0, 899), (0, 2), ((-2147483648), 2147483647), (0, 1), (0, 26), ((-2147483648), 2147483647), ((-2147483648), 2147483647), ((-2147483648), 2147483647), (0, 11), (0, 399), (0, 2), (0, 24), (0, 160), (0, 899), ((-2147483648), 2147483647), (0, 2), ((-2147483648), 2147483647), (0, 24), (0, 399), (0, 11), (0, 2), ((-2147483648), 2147483647), (0, 2), ((-2147483648), 2147483647), (0, 2), ((-2147483648), 2147483647), (0, 5), (0, 5000), (0, 200), (0, 6000), (0, 800), (0, 500), (0, 119), (0, 23), (0, 4), (0, 1), (0, 2), ((-2147483648), 2147483647), (0, 2), ((-2147483648), 2147483647), (0, 2), ((-2147483648), 2147483647), (0, 5000), (0, 6000), ((-2147483648), 2147483647), (0, 399), (0, 200), (0, 2), ((-2147483648), 2147483647), (0, 6), (0, 2), ((-2147483648), 2147483647), ((-2147483648), 2147483647), (0, 24), (0, 24), (0, 200), (0, 2), ((-2147483648), 2147483647), (0, 2), ((-2147483648), 2147483647), (0, 2), ((-2147483648), 2147483647), (0, 899), (0, 3), (0, 119), ((-1), 120), (0, 2), ((-2147483648), 2147483647)]
def mo_V0 : List Nat := [188, 189]
def mo_V1 : List Nat := [90, 91, 92, 93, 94, 95, 106, 107, 108, 109, 110, 111, 120, 121, 126, 127, 128, 129, 130, 131, 136, 137, 117, 118, 89, 12]
def mo_r (k j : Nat) : Int × Int := match k with
  | 0 => mo_fl.getD j (-2147483648, 2147483647)
  | k + 1 => mo_cr.getD (k + 1) (-2147483648, 2147483647)
def mo_V (k j : Nat) : Bool := if k = 0 then mo_V0.contains j else mo_V1.contains k
/-- what the fields and the elements may be: ranges, or (of the values) what they are -/
def Zc : Type := { r : Nat → Nat → Int × Int // (∀ k j, (mo_r k j).1 ≤ (r k j).1 ∧ (r k j).2 ≤ (mo_r k j).2) ∧ ∀ k j, mo_V k j = false → r k j = mo_r k j }
def mo_zr : Zc := ⟨mo_r, fun _ _ => ⟨Int.le_refl _, Int.le_refl _⟩, fun _ _ _ => rfl⟩
def mo_G (Zz : Zc) (h : ja_H) : Prop := ∀ k j, (Zz.1 k j).1 ≤ h k j ∧ h k j ≤ (Zz.1 k j).2
theorem mo_gR {Zz : Zc} {h : ja_H} (g : mo_G Zz h) (k j : Nat) : (mo_r k j).1 ≤ h k j ∧ h k j ≤ (mo_r k j).2 :=
  ⟨Int.le_trans (Zz.2.1 k j).1 (g k j).1, Int.le_trans (g k j).2 (Zz.2.1 k j).2⟩
theorem mo_gU {Zz : Zc} {h : ja_H} (g : mo_G Zz h) (k j : Nat) {x : Int} (e : mo_V k j = false) (hx : (mo_r k j).1 ≤ x ∧ x ≤ (mo_r k j).2) : mo_G Zz (ja_up h k j x) := by
  intro k' j'
  unfold ja_up
  split
  · next q => obtain ⟨rfl, rfl⟩ := q; rw [Zz.2.2 _ _ e]; exact hx
  · exact g k' j'
theorem mo_gV {h : ja_H} (g : mo_G mo_zr h) (k j : Nat) {x : Int} (hx : (mo_r k j).1 ≤ x ∧ x ≤ (mo_r k j).2) : mo_G mo_zr (ja_up h k j x) := by
  intro k' j'
  unfold ja_up
  split
  · next e => obtain ⟨rfl, rfl⟩ := e; exact hx
  · exact g k' j'
/-- the values as they are -/
def mo_zf (Zz : Zc) {u : ja_H} (g : mo_G Zz u) : Zc := ⟨fun k j => if mo_V k j = true then (u k j, u k j) else mo_r k j, fun k j => by
    dsimp only
    split
    · exact mo_gR g k j
    · exact ⟨Int.le_refl _, Int.le_refl _⟩, fun k j e => by dsimp only; rw [if_neg (by rw [e]; decide)]⟩
theorem mo_zf_G {Zz : Zc} {u : ja_H} (g : mo_G Zz u) : mo_G (mo_zf Zz g) u := fun k j => by
  unfold mo_zf
  dsimp only
  split
  · exact ⟨Int.le_refl _, Int.le_refl _⟩
  · exact mo_gR g k j
theorem mo_zf_e {Zz : Zc} {u v : ja_H} {g : mo_G Zz u} (q : mo_G (mo_zf Zz g) v) (k j : Nat) (e : mo_V k j = true) : v k j = u k j := by
  have := q k j
  unfold mo_zf at this
  dsimp only at this
  rw [if_pos e] at this
  exact Int.le_antisymm this.2 this.1
theorem mo_zr_G {Zz : Zc} {h : ja_H} (g : mo_G Zz h) : mo_G mo_zr h := fun k j => mo_gR g k j
theorem mo_upS {h : ja_H} {k j : Nat} {x : Int} : ja_up h k j x k j = x := by simp [ja_up]
theorem mo_upN {h : ja_H} {k j k' j' : Nat} {x : Int} (e : ¬ (k' = k ∧ j' = j)) : ja_up h k j x k' j' = h k' j' := by
  unfold ja_up; rw [if_neg e]
theorem mo_upK {h : ja_H} {k j k' j' : Nat} {x : Int} (e : k' ≠ k) : ja_up h k j x k' j' = h k' j' := mo_upN (fun q => e q.1)
theorem mo_upJ {h : ja_H} {k j k' j' : Nat} {x : Int} (e : j' ≠ j) : ja_up h k j x k' j' = h k' j' := mo_upN (fun q => e q.2)
theorem mo_fin {Q : Option ja_V → ja_H → Prop} {e v : Int} {H H' : ja_H} (he : e = v) (hh : H = H') (k : Q (some (0, v)) H') : Q (some (0, e)) H := by
  subst he; subst hh; exact k
theorem gC_text {Zz : Zc} {h : ja_H} (g : mo_G Zz h) (j : Nat) : 0 ≤ h 1 j ∧ h 1 j ≤ 255 := mo_gR g 1 j
theorem gW_text {Zz : Zc} {h : ja_H} (g : mo_G Zz h) (j : Nat) {x : Int} (hx : 0 ≤ x ∧ x ≤ 255) : mo_G Zz (ja_up h 1 j x) := mo_gU g 1 j rfl hx
theorem gF_size {Zz : Zc} {h : ja_H} (g : mo_G Zz h) : 0 ≤ h 0 1 ∧ h 0 1 ≤ 5000 := mo_gR g 0 1
theorem gP_size {Zz : Zc} {h : ja_H} (g : mo_G Zz h) {x : Int} (hx : 0 ≤ x ∧ x ≤ 5000) : mo_G Zz (ja_up h 0 1 x) := mo_gU g 0 1 rfl hx
theorem gC_kinds {Zz : Zc} {h : ja_H} (g : mo_G Zz h) (j : Nat) : 0 ≤ h 2 j ∧ h 2 j ≤ 7 := mo_gR g 2 j
theorem gW_kinds {Zz : Zc} {h : ja_H} (g : mo_G Zz h) (j : Nat) {x : Int} (hx : 0 ≤ x ∧ x ≤ 7) : mo_G Zz (ja_up h 2 j x) := mo_gU g 2 j rfl hx
theorem gC_places {Zz : Zc} {h : ja_H} (g : mo_G Zz h) (j : Nat) : 0 ≤ h 3 j ∧ h 3 j ≤ 5001 := mo_gR g 3 j
theorem gW_places {Zz : Zc} {h : ja_H} (g : mo_G Zz h) (j : Nat) {x : Int} (hx : 0 ≤ x ∧ x ≤ 5001) : mo_G Zz (ja_up h 3 j x) := mo_gU g 3 j rfl hx
theorem gC_ends {Zz : Zc} {h : ja_H} (g : mo_G Zz h) (j : Nat) : 0 ≤ h 4 j ∧ h 4 j ≤ 5001 := mo_gR g 4 j
theorem gW_ends {Zz : Zc} {h : ja_H} (g : mo_G Zz h) (j : Nat) {x : Int} (hx : 0 ≤ x ∧ x ≤ 5001) : mo_G Zz (ja_up h 4 j x) := mo_gU g 4 j rfl hx
theorem gC_worths {Zz : Zc} {h : ja_H} (g : mo_G Zz h) (j : Nat) : (-2147483648) ≤ h 5 j ∧ h 5 j ≤ 2147483647 := mo_gR g 5 j
theorem gW_worths {Zz : Zc} {h : ja_H} (g : mo_G Zz h) (j : Nat) {x : Int} (hx : (-2147483648) ≤ x ∧ x ≤ 2147483647) : mo_G Zz (ja_up h 5 j x) := mo_gU g 5 j rfl hx
theorem gF_tokens {Zz : Zc} {h : ja_H} (g : mo_G Zz h) : 0 ≤ h 0 6 ∧ h 0 6 ≤ 901 := mo_gR g 0 6
theorem gP_tokens {Zz : Zc} {h : ja_H} (g : mo_G Zz h) {x : Int} (hx : 0 ≤ x ∧ x ≤ 901) : mo_G Zz (ja_up h 0 6 x) := mo_gU g 0 6 rfl hx
theorem gF_at {Zz : Zc} {h : ja_H} (g : mo_G Zz h) : 0 ≤ h 0 7 ∧ h 0 7 ≤ 900 := mo_gR g 0 7
theorem gP_at {Zz : Zc} {h : ja_H} (g : mo_G Zz h) {x : Int} (hx : 0 ≤ x ∧ x ≤ 900) : mo_G Zz (ja_up h 0 7 x) := mo_gU g 0 7 rfl hx
theorem gF_bad {Zz : Zc} {h : ja_H} (g : mo_G Zz h) : 0 ≤ h 0 8 ∧ h 0 8 ≤ 8 := mo_gR g 0 8
theorem gP_bad {Zz : Zc} {h : ja_H} (g : mo_G Zz h) {x : Int} (hx : 0 ≤ x ∧ x ≤ 8) : mo_G Zz (ja_up h 0 8 x) := mo_gU g 0 8 rfl hx
theorem gF_badAt {Zz : Zc} {h : ja_H} (g : mo_G Zz h) : (-2147483648) ≤ h 0 9 ∧ h 0 9 ≤ 2147483647 := mo_gR g 0 9
theorem gP_badAt {Zz : Zc} {h : ja_H} (g : mo_G Zz h) {x : Int} (hx : (-2147483648) ≤ x ∧ x ≤ 2147483647) : mo_G Zz (ja_up h 0 9 x) := mo_gU g 0 9 rfl hx
theorem gF_badLine {Zz : Zc} {h : ja_H} (g : mo_G Zz h) : (-2147483648) ≤ h 0 10 ∧ h 0 10 ≤ 2147483647 := mo_gR g 0 10
theorem gP_badLine {Zz : Zc} {h : ja_H} (g : mo_G Zz h) {x : Int} (hx : (-2147483648) ≤ x ∧ x ≤ 2147483647) : mo_G Zz (ja_up h 0 10 x) := mo_gU g 0 10 rfl hx
theorem gF_false1 {Zz : Zc} {h : ja_H} (g : mo_G Zz h) : 0 ≤ h 0 11 ∧ h 0 11 ≤ 8 := mo_gR g 0 11
theorem gP_false1 {Zz : Zc} {h : ja_H} (g : mo_G Zz h) {x : Int} (hx : 0 ≤ x ∧ x ≤ 8) : mo_G Zz (ja_up h 0 11 x) := mo_gU g 0 11 rfl hx
theorem gF_falseAt {Zz : Zc} {h : ja_H} (g : mo_G Zz h) : (-2147483648) ≤ h 0 12 ∧ h 0 12 ≤ 2147483647 := mo_gR g 0 12
theorem gP_falseAt {Zz : Zc} {h : ja_H} (g : mo_G Zz h) {x : Int} (hx : (-2147483648) ≤ x ∧ x ≤ 2147483647) : mo_G Zz (ja_up h 0 12 x) := mo_gU g 0 12 rfl hx
theorem gC_wAct {Zz : Zc} {h : ja_H} (g : mo_G Zz h) (j : Nat) : 0 ≤ h 6 j ∧ h 6 j ≤ 38 := mo_gR g 6 j
theorem gW_wAct {Zz : Zc} {h : ja_H} (g : mo_G Zz h) (j : Nat) {x : Int} (hx : 0 ≤ x ∧ x ≤ 38) : mo_G Zz (ja_up h 6 j x) := mo_gU g 6 j rfl hx
theorem gC_wA {Zz : Zc} {h : ja_H} (g : mo_G Zz h) (j : Nat) : (-2147483648) ≤ h 7 j ∧ h 7 j ≤ 2147483647 := mo_gR g 7 j
theorem gW_wA {Zz : Zc} {h : ja_H} (g : mo_G Zz h) (j : Nat) {x : Int} (hx : (-2147483648) ≤ x ∧ x ≤ 2147483647) : mo_G Zz (ja_up h 7 j x) := mo_gU g 7 j rfl hx
theorem gC_wB {Zz : Zc} {h : ja_H} (g : mo_G Zz h) (j : Nat) : (-2147483648) ≤ h 8 j ∧ h 8 j ≤ 2147483647 := mo_gR g 8 j
theorem gW_wB {Zz : Zc} {h : ja_H} (g : mo_G Zz h) (j : Nat) {x : Int} (hx : (-2147483648) ≤ x ∧ x ≤ 2147483647) : mo_G Zz (ja_up h 8 j x) := mo_gU g 8 j rfl hx
theorem gC_wC {Zz : Zc} {h : ja_H} (g : mo_G Zz h) (j : Nat) : (-2147483648) ≤ h 9 j ∧ h 9 j ≤ 2147483647 := mo_gR g 9 j
theorem gW_wC {Zz : Zc} {h : ja_H} (g : mo_G Zz h) (j : Nat) {x : Int} (hx : (-2147483648) ≤ x ∧ x ≤ 2147483647) : mo_G Zz (ja_up h 9 j x) := mo_gU g 9 j rfl hx
theorem gF_wTop {Zz : Zc} {h : ja_H} (g : mo_G Zz h) : 0 ≤ h 0 17 ∧ h 0 17 ≤ 2000 := mo_gR g 0 17
theorem gP_wTop {Zz : Zc} {h : ja_H} (g : mo_G Zz h) {x : Int} (hx : 0 ≤ x ∧ x ≤ 2000) : mo_G Zz (ja_up h 0 17 x) := mo_gU g 0 17 rfl hx
theorem gF_nest {Zz : Zc} {h : ja_H} (g : mo_G Zz h) : 0 ≤ h 0 18 ∧ h 0 18 ≤ 16 := mo_gR g 0 18
theorem gP_nest {Zz : Zc} {h : ja_H} (g : mo_G Zz h) {x : Int} (hx : 0 ≤ x ∧ x ≤ 16) : mo_G Zz (ja_up h 0 18 x) := mo_gU g 0 18 rfl hx
theorem gF_form {Zz : Zc} {h : ja_H} (g : mo_G Zz h) : (-2147483648) ≤ h 0 19 ∧ h 0 19 ≤ 2147483647 := mo_gR g 0 19
theorem gP_form {Zz : Zc} {h : ja_H} (g : mo_G Zz h) {x : Int} (hx : (-2147483648) ≤ x ∧ x ≤ 2147483647) : mo_G Zz (ja_up h 0 19 x) := mo_gU g 0 19 rfl hx
theorem gF_formA {Zz : Zc} {h : ja_H} (g : mo_G Zz h) : 0 ≤ h 0 20 ∧ h 0 20 ≤ 399 := mo_gR g 0 20
theorem gP_formA {Zz : Zc} {h : ja_H} (g : mo_G Zz h) {x : Int} (hx : 0 ≤ x ∧ x ≤ 399) : mo_G Zz (ja_up h 0 20 x) := mo_gU g 0 20 rfl hx
theorem gF_given {Zz : Zc} {h : ja_H} (g : mo_G Zz h) : 0 ≤ h 0 21 ∧ h 0 21 ≤ 6 := mo_gR g 0 21
theorem gP_given {Zz : Zc} {h : ja_H} (g : mo_G Zz h) {x : Int} (hx : 0 ≤ x ∧ x ≤ 6) : mo_G Zz (ja_up h 0 21 x) := mo_gU g 0 21 rfl hx
theorem gF_classes {Zz : Zc} {h : ja_H} (g : mo_G Zz h) : 0 ≤ h 0 22 ∧ h 0 22 ≤ 12 := mo_gR g 0 22
theorem gP_classes {Zz : Zc} {h : ja_H} (g : mo_G Zz h) {x : Int} (hx : 0 ≤ x ∧ x ≤ 12) : mo_G Zz (ja_up h 0 22 x) := mo_gU g 0 22 rfl hx
theorem gC_className {Zz : Zc} {h : ja_H} (g : mo_G Zz h) (j : Nat) : 0 ≤ h 10 j ∧ h 10 j ≤ 900 := mo_gR g 10 j
theorem gW_className {Zz : Zc} {h : ja_H} (g : mo_G Zz h) (j : Nat) {x : Int} (hx : 0 ≤ x ∧ x ≤ 900) : mo_G Zz (ja_up h 10 j x) := mo_gU g 10 j rfl hx
theorem gC_classUnder {Zz : Zc} {h : ja_H} (g : mo_G Zz h) (j : Nat) : (-1) ≤ h 11 j ∧ h 11 j ≤ 900 := mo_gR g 11 j
theorem gW_classUnder {Zz : Zc} {h : ja_H} (g : mo_G Zz h) (j : Nat) {x : Int} (hx : (-1) ≤ x ∧ x ≤ 900) : mo_G Zz (ja_up h 11 j x) := mo_gU g 11 j rfl hx
theorem gC_classAbove {Zz : Zc} {h : ja_H} (g : mo_G Zz h) (j : Nat) : (-1) ≤ h 12 j ∧ h 12 j ≤ 11 := mo_gR g 12 j
theorem gW_classAbove {h : ja_H} (g : mo_G mo_zr h) (j : Nat) {x : Int} (hx : (-1) ≤ x ∧ x ≤ 11) : mo_G mo_zr (ja_up h 12 j x) := mo_gV g 12 j hx
theorem gF_aspects {Zz : Zc} {h : ja_H} (g : mo_G Zz h) : 0 ≤ h 0 26 ∧ h 0 26 ≤ 8 := mo_gR g 0 26
theorem gP_aspects {Zz : Zc} {h : ja_H} (g : mo_G Zz h) {x : Int} (hx : 0 ≤ x ∧ x ≤ 8) : mo_G Zz (ja_up h 0 26 x) := mo_gU g 0 26 rfl hx
theorem gC_aspectName {Zz : Zc} {h : ja_H} (g : mo_G Zz h) (j : Nat) : 0 ≤ h 13 j ∧ h 13 j ≤ 900 := mo_gR g 13 j
theorem gW_aspectName {Zz : Zc} {h : ja_H} (g : mo_G Zz h) (j : Nat) {x : Int} (hx : 0 ≤ x ∧ x ≤ 900) : mo_G Zz (ja_up h 13 j x) := mo_gU g 13 j rfl hx
theorem gC_aspectEach {Zz : Zc} {h : ja_H} (g : mo_G Zz h) (j : Nat) : 0 ≤ h 14 j ∧ h 14 j ≤ 1 := mo_gR g 14 j
theorem gW_aspectEach {Zz : Zc} {h : ja_H} (g : mo_G Zz h) (j : Nat) {x : Int} (hx : 0 ≤ x ∧ x ≤ 1) : mo_G Zz (ja_up h 14 j x) := mo_gU g 14 j rfl hx
theorem gC_aspectFields {Zz : Zc} {h : ja_H} (g : mo_G Zz h) (j : Nat) : 0 ≤ h 15 j ∧ h 15 j ≤ 10 := mo_gR g 15 j
theorem gW_aspectFields {Zz : Zc} {h : ja_H} (g : mo_G Zz h) (j : Nat) {x : Int} (hx : 0 ≤ x ∧ x ≤ 10) : mo_G Zz (ja_up h 15 j x) := mo_gU g 15 j rfl hx
theorem gC_aspectField {Zz : Zc} {h : ja_H} (g : mo_G Zz h) (j : Nat) : (-2147483648) ≤ h 16 j ∧ h 16 j ≤ 2147483647 := mo_gR g 16 j
theorem gW_aspectField {Zz : Zc} {h : ja_H} (g : mo_G Zz h) (j : Nat) {x : Int} (hx : (-2147483648) ≤ x ∧ x ≤ 2147483647) : mo_G Zz (ja_up h 16 j x) := mo_gU g 16 j rfl hx
theorem gF_fields {Zz : Zc} {h : ja_H} (g : mo_G Zz h) : 0 ≤ h 0 31 ∧ h 0 31 ≤ 900 := mo_gR g 0 31
theorem gP_fields {Zz : Zc} {h : ja_H} (g : mo_G Zz h) {x : Int} (hx : 0 ≤ x ∧ x ≤ 900) : mo_G Zz (ja_up h 0 31 x) := mo_gU g 0 31 rfl hx
theorem gC_fieldName {Zz : Zc} {h : ja_H} (g : mo_G Zz h) (j : Nat) : 0 ≤ h 17 j ∧ h 17 j ≤ 900 := mo_gR g 17 j
theorem gW_fieldName {Zz : Zc} {h : ja_H} (g : mo_G Zz h) (j : Nat) {x : Int} (hx : 0 ≤ x ∧ x ≤ 900) : mo_G Zz (ja_up h 17 j x) := mo_gU g 17 j rfl hx
theorem gC_fieldOf {Zz : Zc} {h : ja_H} (g : mo_G Zz h) (j : Nat) : (-2147483648) ≤ h 18 j ∧ h 18 j ≤ 2147483647 := mo_gR g 18 j
theorem gW_fieldOf {Zz : Zc} {h : ja_H} (g : mo_G Zz h) (j : Nat) {x : Int} (hx : (-2147483648) ≤ x ∧ x ≤ 2147483647) : mo_G Zz (ja_up h 18 j x) := mo_gU g 18 j rfl hx
theorem gF_methods {Zz : Zc} {h : ja_H} (g : mo_G Zz h) : 0 ≤ h 0 34 ∧ h 0 34 ≤ 60 := mo_gR g 0 34
theorem gP_methods {Zz : Zc} {h : ja_H} (g : mo_G Zz h) {x : Int} (hx : 0 ≤ x ∧ x ≤ 60) : mo_G Zz (ja_up h 0 34 x) := mo_gU g 0 34 rfl hx
theorem gC_methodName {Zz : Zc} {h : ja_H} (g : mo_G Zz h) (j : Nat) : 0 ≤ h 19 j ∧ h 19 j ≤ 900 := mo_gR g 19 j
theorem gW_methodName {Zz : Zc} {h : ja_H} (g : mo_G Zz h) (j : Nat) {x : Int} (hx : 0 ≤ x ∧ x ≤ 900) : mo_G Zz (ja_up h 19 j x) := mo_gU g 19 j rfl hx
theorem gC_methodOf {Zz : Zc} {h : ja_H} (g : mo_G Zz h) (j : Nat) : (-2147483648) ≤ h 20 j ∧ h 20 j ≤ 2147483647 := mo_gR g 20 j
theorem gW_methodOf {Zz : Zc} {h : ja_H} (g : mo_G Zz h) (j : Nat) {x : Int} (hx : (-2147483648) ≤ x ∧ x ≤ 2147483647) : mo_G Zz (ja_up h 20 j x) := mo_gU g 20 j rfl hx
theorem gC_methodClass {Zz : Zc} {h : ja_H} (g : mo_G Zz h) (j : Nat) : (-1) ≤ h 21 j ∧ h 21 j ≤ 11 := mo_gR g 21 j
theorem gW_methodClass {Zz : Zc} {h : ja_H} (g : mo_G Zz h) (j : Nat) {x : Int} (hx : (-1) ≤ x ∧ x ≤ 11) : mo_G Zz (ja_up h 21 j x) := mo_gU g 21 j rfl hx
theorem gC_methodParams {Zz : Zc} {h : ja_H} (g : mo_G Zz h) (j : Nat) : 0 ≤ h 22 j ∧ h 22 j ≤ 6 := mo_gR g 22 j
theorem gW_methodParams {Zz : Zc} {h : ja_H} (g : mo_G Zz h) (j : Nat) {x : Int} (hx : 0 ≤ x ∧ x ≤ 6) : mo_G Zz (ja_up h 22 j x) := mo_gU g 22 j rfl hx
theorem gC_methodStart {Zz : Zc} {h : ja_H} (g : mo_G Zz h) (j : Nat) : 0 ≤ h 23 j ∧ h 23 j ≤ 5000 := mo_gR g 23 j
theorem gW_methodStart {Zz : Zc} {h : ja_H} (g : mo_G Zz h) (j : Nat) {x : Int} (hx : 0 ≤ x ∧ x ≤ 5000) : mo_G Zz (ja_up h 23 j x) := mo_gU g 23 j rfl hx
theorem gC_methodPoint {Zz : Zc} {h : ja_H} (g : mo_G Zz h) (j : Nat) : (-1) ≤ h 24 j ∧ h 24 j ≤ 399 := mo_gR g 24 j
theorem gW_methodPoint {Zz : Zc} {h : ja_H} (g : mo_G Zz h) (j : Nat) {x : Int} (hx : (-1) ≤ x ∧ x ≤ 399) : mo_G Zz (ja_up h 24 j x) := mo_gU g 24 j rfl hx
theorem gF_members {Zz : Zc} {h : ja_H} (g : mo_G Zz h) : 0 ≤ h 0 41 ∧ h 0 41 ≤ 900 := mo_gR g 0 41
theorem gP_members {Zz : Zc} {h : ja_H} (g : mo_G Zz h) {x : Int} (hx : 0 ≤ x ∧ x ≤ 900) : mo_G Zz (ja_up h 0 41 x) := mo_gU g 0 41 rfl hx
theorem gC_memberName {Zz : Zc} {h : ja_H} (g : mo_G Zz h) (j : Nat) : 0 ≤ h 25 j ∧ h 25 j ≤ 900 := mo_gR g 25 j
theorem gW_memberName {Zz : Zc} {h : ja_H} (g : mo_G Zz h) (j : Nat) {x : Int} (hx : 0 ≤ x ∧ x ≤ 900) : mo_G Zz (ja_up h 25 j x) := mo_gU g 25 j rfl hx
theorem gC_memberOf {Zz : Zc} {h : ja_H} (g : mo_G Zz h) (j : Nat) : (-2147483648) ≤ h 26 j ∧ h 26 j ≤ 2147483647 := mo_gR g 26 j
theorem gW_memberOf {Zz : Zc} {h : ja_H} (g : mo_G Zz h) (j : Nat) {x : Int} (hx : (-2147483648) ≤ x ∧ x ≤ 2147483647) : mo_G Zz (ja_up h 26 j x) := mo_gU g 26 j rfl hx
theorem gF_advices {Zz : Zc} {h : ja_H} (g : mo_G Zz h) : 0 ≤ h 0 44 ∧ h 0 44 ≤ 24 := mo_gR g 0 44
theorem gP_advices {Zz : Zc} {h : ja_H} (g : mo_G Zz h) {x : Int} (hx : 0 ≤ x ∧ x ≤ 24) : mo_G Zz (ja_up h 0 44 x) := mo_gU g 0 44 rfl hx
theorem gC_adviceKind {Zz : Zc} {h : ja_H} (g : mo_G Zz h) (j : Nat) : 0 ≤ h 27 j ∧ h 27 j ≤ 2 := mo_gR g 27 j
theorem gW_adviceKind {Zz : Zc} {h : ja_H} (g : mo_G Zz h) (j : Nat) {x : Int} (hx : 0 ≤ x ∧ x ≤ 2) : mo_G Zz (ja_up h 27 j x) := mo_gU g 27 j rfl hx
theorem gC_adviceGive {Zz : Zc} {h : ja_H} (g : mo_G Zz h) (j : Nat) : 0 ≤ h 28 j ∧ h 28 j ≤ 2 := mo_gR g 28 j
theorem gW_adviceGive {Zz : Zc} {h : ja_H} (g : mo_G Zz h) (j : Nat) {x : Int} (hx : 0 ≤ x ∧ x ≤ 2) : mo_G Zz (ja_up h 28 j x) := mo_gU g 28 j rfl hx
theorem gC_adviceAspect {Zz : Zc} {h : ja_H} (g : mo_G Zz h) (j : Nat) : 0 ≤ h 29 j ∧ h 29 j ≤ 7 := mo_gR g 29 j
theorem gW_adviceAspect {Zz : Zc} {h : ja_H} (g : mo_G Zz h) (j : Nat) {x : Int} (hx : 0 ≤ x ∧ x ≤ 7) : mo_G Zz (ja_up h 29 j x) := mo_gU g 29 j rfl hx
theorem gC_adviceParams {Zz : Zc} {h : ja_H} (g : mo_G Zz h) (j : Nat) : 0 ≤ h 30 j ∧ h 30 j ≤ 7 := mo_gR g 30 j
theorem gW_adviceParams {Zz : Zc} {h : ja_H} (g : mo_G Zz h) (j : Nat) {x : Int} (hx : 0 ≤ x ∧ x ≤ 7) : mo_G Zz (ja_up h 30 j x) := mo_gU g 30 j rfl hx
theorem gC_adviceRoot {Zz : Zc} {h : ja_H} (g : mo_G Zz h) (j : Nat) : 0 ≤ h 31 j ∧ h 31 j ≤ 899 := mo_gR g 31 j
theorem gW_adviceRoot {Zz : Zc} {h : ja_H} (g : mo_G Zz h) (j : Nat) {x : Int} (hx : 0 ≤ x ∧ x ≤ 899) : mo_G Zz (ja_up h 31 j x) := mo_gU g 31 j rfl hx
theorem gC_adviceStart {Zz : Zc} {h : ja_H} (g : mo_G Zz h) (j : Nat) : 0 ≤ h 32 j ∧ h 32 j ≤ 5000 := mo_gR g 32 j
theorem gW_adviceStart {Zz : Zc} {h : ja_H} (g : mo_G Zz h) (j : Nat) {x : Int} (hx : 0 ≤ x ∧ x ≤ 5000) : mo_G Zz (ja_up h 32 j x) := mo_gU g 32 j rfl hx
theorem gC_adviceToken {Zz : Zc} {h : ja_H} (g : mo_G Zz h) (j : Nat) : 0 ≤ h 33 j ∧ h 33 j ≤ 900 := mo_gR g 33 j
theorem gW_adviceToken {Zz : Zc} {h : ja_H} (g : mo_G Zz h) (j : Nat) {x : Int} (hx : 0 ≤ x ∧ x ≤ 900) : mo_G Zz (ja_up h 33 j x) := mo_gU g 33 j rfl hx
theorem gF_picks {Zz : Zc} {h : ja_H} (g : mo_G Zz h) : 0 ≤ h 0 52 ∧ h 0 52 ≤ 24 := mo_gR g 0 52
theorem gP_picks {Zz : Zc} {h : ja_H} (g : mo_G Zz h) {x : Int} (hx : 0 ≤ x ∧ x ≤ 24) : mo_G Zz (ja_up h 0 52 x) := mo_gU g 0 52 rfl hx
theorem gC_pickName {Zz : Zc} {h : ja_H} (g : mo_G Zz h) (j : Nat) : 0 ≤ h 34 j ∧ h 34 j ≤ 900 := mo_gR g 34 j
theorem gW_pickName {Zz : Zc} {h : ja_H} (g : mo_G Zz h) (j : Nat) {x : Int} (hx : 0 ≤ x ∧ x ≤ 900) : mo_G Zz (ja_up h 34 j x) := mo_gU g 34 j rfl hx
theorem gC_pickAspect {Zz : Zc} {h : ja_H} (g : mo_G Zz h) (j : Nat) : 0 ≤ h 35 j ∧ h 35 j ≤ 7 := mo_gR g 35 j
theorem gW_pickAspect {Zz : Zc} {h : ja_H} (g : mo_G Zz h) (j : Nat) {x : Int} (hx : 0 ≤ x ∧ x ≤ 7) : mo_G Zz (ja_up h 35 j x) := mo_gU g 35 j rfl hx
theorem gC_pickParams {Zz : Zc} {h : ja_H} (g : mo_G Zz h) (j : Nat) : 0 ≤ h 36 j ∧ h 36 j ≤ 6 := mo_gR g 36 j
theorem gW_pickParams {Zz : Zc} {h : ja_H} (g : mo_G Zz h) (j : Nat) {x : Int} (hx : 0 ≤ x ∧ x ≤ 6) : mo_G Zz (ja_up h 36 j x) := mo_gU g 36 j rfl hx
theorem gC_pickRoot {Zz : Zc} {h : ja_H} (g : mo_G Zz h) (j : Nat) : 0 ≤ h 37 j ∧ h 37 j ≤ 899 := mo_gR g 37 j
theorem gW_pickRoot {Zz : Zc} {h : ja_H} (g : mo_G Zz h) (j : Nat) {x : Int} (hx : 0 ≤ x ∧ x ≤ 899) : mo_G Zz (ja_up h 37 j x) := mo_gU g 37 j rfl hx
theorem gF_bars {Zz : Zc} {h : ja_H} (g : mo_G Zz h) : 0 ≤ h 0 57 ∧ h 0 57 ≤ 12 := mo_gR g 0 57
theorem gP_bars {Zz : Zc} {h : ja_H} (g : mo_G Zz h) {x : Int} (hx : 0 ≤ x ∧ x ≤ 12) : mo_G Zz (ja_up h 0 57 x) := mo_gU g 0 57 rfl hx
theorem gC_barRoot {Zz : Zc} {h : ja_H} (g : mo_G Zz h) (j : Nat) : 0 ≤ h 38 j ∧ h 38 j ≤ 899 := mo_gR g 38 j
theorem gW_barRoot {Zz : Zc} {h : ja_H} (g : mo_G Zz h) (j : Nat) {x : Int} (hx : 0 ≤ x ∧ x ≤ 899) : mo_G Zz (ja_up h 38 j x) := mo_gU g 38 j rfl hx
theorem gC_barWarns {Zz : Zc} {h : ja_H} (g : mo_G Zz h) (j : Nat) : 0 ≤ h 39 j ∧ h 39 j ≤ 1 := mo_gR g 39 j
theorem gW_barWarns {Zz : Zc} {h : ja_H} (g : mo_G Zz h) (j : Nat) {x : Int} (hx : 0 ≤ x ∧ x ≤ 1) : mo_G Zz (ja_up h 39 j x) := mo_gU g 39 j rfl hx
theorem gC_barToken {Zz : Zc} {h : ja_H} (g : mo_G Zz h) (j : Nat) : 0 ≤ h 40 j ∧ h 40 j ≤ 900 := mo_gR g 40 j
theorem gW_barToken {Zz : Zc} {h : ja_H} (g : mo_G Zz h) (j : Nat) {x : Int} (hx : 0 ≤ x ∧ x ≤ 900) : mo_G Zz (ja_up h 40 j x) := mo_gU g 40 j rfl hx
theorem gF_unders {Zz : Zc} {h : ja_H} (g : mo_G Zz h) : 0 ≤ h 0 61 ∧ h 0 61 ≤ 300 := mo_gR g 0 61
theorem gP_unders {Zz : Zc} {h : ja_H} (g : mo_G Zz h) {x : Int} (hx : 0 ≤ x ∧ x ≤ 300) : mo_G Zz (ja_up h 0 61 x) := mo_gU g 0 61 rfl hx
theorem gC_underOf {Zz : Zc} {h : ja_H} (g : mo_G Zz h) (j : Nat) : 0 ≤ h 41 j ∧ h 41 j ≤ 900 := mo_gR g 41 j
theorem gW_underOf {Zz : Zc} {h : ja_H} (g : mo_G Zz h) (j : Nat) {x : Int} (hx : 0 ≤ x ∧ x ≤ 900) : mo_G Zz (ja_up h 41 j x) := mo_gU g 41 j rfl hx
theorem gC_underName {Zz : Zc} {h : ja_H} (g : mo_G Zz h) (j : Nat) : 0 ≤ h 42 j ∧ h 42 j ≤ 900 := mo_gR g 42 j
theorem gW_underName {Zz : Zc} {h : ja_H} (g : mo_G Zz h) (j : Nat) {x : Int} (hx : 0 ≤ x ∧ x ≤ 900) : mo_G Zz (ja_up h 42 j x) := mo_gU g 42 j rfl hx
theorem gF_orders {Zz : Zc} {h : ja_H} (g : mo_G Zz h) : 0 ≤ h 0 64 ∧ h 0 64 ≤ 900 := mo_gR g 0 64
theorem gP_orders {Zz : Zc} {h : ja_H} (g : mo_G Zz h) {x : Int} (hx : 0 ≤ x ∧ x ≤ 900) : mo_G Zz (ja_up h 0 64 x) := mo_gU g 0 64 rfl hx
theorem gC_orderName {Zz : Zc} {h : ja_H} (g : mo_G Zz h) (j : Nat) : 0 ≤ h 43 j ∧ h 43 j ≤ 900 := mo_gR g 43 j
theorem gW_orderName {Zz : Zc} {h : ja_H} (g : mo_G Zz h) (j : Nat) {x : Int} (hx : 0 ≤ x ∧ x ≤ 900) : mo_G Zz (ja_up h 43 j x) := mo_gU g 43 j rfl hx
theorem gF_mains {Zz : Zc} {h : ja_H} (g : mo_G Zz h) : (-2147483648) ≤ h 0 66 ∧ h 0 66 ≤ 2147483647 := mo_gR g 0 66
theorem gP_mains {Zz : Zc} {h : ja_H} (g : mo_G Zz h) {x : Int} (hx : (-2147483648) ≤ x ∧ x ≤ 2147483647) : mo_G Zz (ja_up h 0 66 x) := mo_gU g 0 66 rfl hx
theorem gF_mainStart {Zz : Zc} {h : ja_H} (g : mo_G Zz h) : (-1) ≤ h 0 67 ∧ h 0 67 ≤ 5000 := mo_gR g 0 67
theorem gP_mainStart {Zz : Zc} {h : ja_H} (g : mo_G Zz h) {x : Int} (hx : (-1) ≤ x ∧ x ≤ 5000) : mo_G Zz (ja_up h 0 67 x) := mo_gU g 0 67 rfl hx
theorem gF_wants {Zz : Zc} {h : ja_H} (g : mo_G Zz h) : 0 ≤ h 0 68 ∧ h 0 68 ≤ 900 := mo_gR g 0 68
theorem gP_wants {Zz : Zc} {h : ja_H} (g : mo_G Zz h) {x : Int} (hx : 0 ≤ x ∧ x ≤ 900) : mo_G Zz (ja_up h 0 68 x) := mo_gU g 0 68 rfl hx
theorem gC_wantToken {Zz : Zc} {h : ja_H} (g : mo_G Zz h) (j : Nat) : 0 ≤ h 44 j ∧ h 44 j ≤ 900 := mo_gR g 44 j
theorem gW_wantToken {Zz : Zc} {h : ja_H} (g : mo_G Zz h) (j : Nat) {x : Int} (hx : 0 ≤ x ∧ x ≤ 900) : mo_G Zz (ja_up h 44 j x) := mo_gU g 44 j rfl hx
theorem gC_wantSort {Zz : Zc} {h : ja_H} (g : mo_G Zz h) (j : Nat) : 0 ≤ h 45 j ∧ h 45 j ≤ 1 := mo_gR g 45 j
theorem gW_wantSort {Zz : Zc} {h : ja_H} (g : mo_G Zz h) (j : Nat) {x : Int} (hx : 0 ≤ x ∧ x ≤ 1) : mo_G Zz (ja_up h 45 j x) := mo_gU g 45 j rfl hx
theorem gC_wantOf {Zz : Zc} {h : ja_H} (g : mo_G Zz h) (j : Nat) : 0 ≤ h 46 j ∧ h 46 j ≤ 7 := mo_gR g 46 j
theorem gW_wantOf {Zz : Zc} {h : ja_H} (g : mo_G Zz h) (j : Nat) {x : Int} (hx : 0 ≤ x ∧ x ≤ 7) : mo_G Zz (ja_up h 46 j x) := mo_gU g 46 j rfl hx
theorem gF_uses {Zz : Zc} {h : ja_H} (g : mo_G Zz h) : 0 ≤ h 0 72 ∧ h 0 72 ≤ 900 := mo_gR g 0 72
theorem gP_uses {Zz : Zc} {h : ja_H} (g : mo_G Zz h) {x : Int} (hx : 0 ≤ x ∧ x ≤ 900) : mo_G Zz (ja_up h 0 72 x) := mo_gU g 0 72 rfl hx
theorem gC_useNode {Zz : Zc} {h : ja_H} (g : mo_G Zz h) (j : Nat) : 0 ≤ h 47 j ∧ h 47 j ≤ 899 := mo_gR g 47 j
theorem gW_useNode {Zz : Zc} {h : ja_H} (g : mo_G Zz h) (j : Nat) {x : Int} (hx : 0 ≤ x ∧ x ≤ 899) : mo_G Zz (ja_up h 47 j x) := mo_gU g 47 j rfl hx
theorem gF_body {Zz : Zc} {h : ja_H} (g : mo_G Zz h) : 0 ≤ h 0 74 ∧ h 0 74 ≤ 3 := mo_gR g 0 74
theorem gP_body {Zz : Zc} {h : ja_H} (g : mo_G Zz h) {x : Int} (hx : 0 ≤ x ∧ x ≤ 3) : mo_G Zz (ja_up h 0 74 x) := mo_gU g 0 74 rfl hx
theorem gF_bodyNumber {Zz : Zc} {h : ja_H} (g : mo_G Zz h) : 0 ≤ h 0 75 ∧ h 0 75 ≤ 60 := mo_gR g 0 75
theorem gP_bodyNumber {Zz : Zc} {h : ja_H} (g : mo_G Zz h) {x : Int} (hx : 0 ≤ x ∧ x ≤ 60) : mo_G Zz (ja_up h 0 75 x) := mo_gU g 0 75 rfl hx
theorem gF_inAspect {Zz : Zc} {h : ja_H} (g : mo_G Zz h) : 0 ≤ h 0 76 ∧ h 0 76 ≤ 7 := mo_gR g 0 76
theorem gP_inAspect {Zz : Zc} {h : ja_H} (g : mo_G Zz h) {x : Int} (hx : 0 ≤ x ∧ x ≤ 7) : mo_G Zz (ja_up h 0 76 x) := mo_gU g 0 76 rfl hx
theorem gF_locals {Zz : Zc} {h : ja_H} (g : mo_G Zz h) : 0 ≤ h 0 77 ∧ h 0 77 ≤ 16 := mo_gR g 0 77
theorem gP_locals {Zz : Zc} {h : ja_H} (g : mo_G Zz h) {x : Int} (hx : 0 ≤ x ∧ x ≤ 16) : mo_G Zz (ja_up h 0 77 x) := mo_gU g 0 77 rfl hx
theorem gC_localName {Zz : Zc} {h : ja_H} (g : mo_G Zz h) (j : Nat) : (-2147483648) ≤ h 48 j ∧ h 48 j ≤ 2147483647 := mo_gR g 48 j
theorem gW_localName {Zz : Zc} {h : ja_H} (g : mo_G Zz h) (j : Nat) {x : Int} (hx : (-2147483648) ≤ x ∧ x ≤ 2147483647) : mo_G Zz (ja_up h 48 j x) := mo_gU g 48 j rfl hx
theorem gF_known {Zz : Zc} {h : ja_H} (g : mo_G Zz h) : 0 ≤ h 0 79 ∧ h 0 79 ≤ 16 := mo_gR g 0 79
theorem gP_known {Zz : Zc} {h : ja_H} (g : mo_G Zz h) {x : Int} (hx : 0 ≤ x ∧ x ≤ 16) : mo_G Zz (ja_up h 0 79 x) := mo_gU g 0 79 rfl hx
theorem gC_knownName {Zz : Zc} {h : ja_H} (g : mo_G Zz h) (j : Nat) : (-2147483648) ≤ h 49 j ∧ h 49 j ≤ 2147483647 := mo_gR g 49 j
theorem gW_knownName {Zz : Zc} {h : ja_H} (g : mo_G Zz h) (j : Nat) {x : Int} (hx : (-2147483648) ≤ x ∧ x ≤ 2147483647) : mo_G Zz (ja_up h 49 j x) := mo_gU g 49 j rfl hx
theorem gC_knownSlot {Zz : Zc} {h : ja_H} (g : mo_G Zz h) (j : Nat) : 0 ≤ h 50 j ∧ h 50 j ≤ 15 := mo_gR g 50 j
theorem gW_knownSlot {Zz : Zc} {h : ja_H} (g : mo_G Zz h) (j : Nat) {x : Int} (hx : 0 ≤ x ∧ x ≤ 15) : mo_G Zz (ja_up h 50 j x) := mo_gU g 50 j rfl hx
theorem gF_params {Zz : Zc} {h : ja_H} (g : mo_G Zz h) : 0 ≤ h 0 82 ∧ h 0 82 ≤ 7 := mo_gR g 0 82
theorem gP_params {Zz : Zc} {h : ja_H} (g : mo_G Zz h) {x : Int} (hx : 0 ≤ x ∧ x ≤ 7) : mo_G Zz (ja_up h 0 82 x) := mo_gU g 0 82 rfl hx
theorem gC_paramName {Zz : Zc} {h : ja_H} (g : mo_G Zz h) (j : Nat) : 0 ≤ h 51 j ∧ h 51 j ≤ 900 := mo_gR g 51 j
theorem gW_paramName {Zz : Zc} {h : ja_H} (g : mo_G Zz h) (j : Nat) {x : Int} (hx : 0 ≤ x ∧ x ≤ 900) : mo_G Zz (ja_up h 51 j x) := mo_gU g 51 j rfl hx
theorem gF_quiet {Zz : Zc} {h : ja_H} (g : mo_G Zz h) : (-2147483648) ≤ h 0 84 ∧ h 0 84 ≤ 2147483647 := mo_gR g 0 84
theorem gP_quiet {Zz : Zc} {h : ja_H} (g : mo_G Zz h) {x : Int} (hx : (-2147483648) ≤ x ∧ x ≤ 2147483647) : mo_G Zz (ja_up h 0 84 x) := mo_gU g 0 84 rfl hx
theorem gF_inPick {Zz : Zc} {h : ja_H} (g : mo_G Zz h) : 0 ≤ h 0 85 ∧ h 0 85 ≤ 1 := mo_gR g 0 85
theorem gP_inPick {Zz : Zc} {h : ja_H} (g : mo_G Zz h) {x : Int} (hx : 0 ≤ x ∧ x ≤ 1) : mo_G Zz (ja_up h 0 85 x) := mo_gU g 0 85 rfl hx
theorem gF_inIf {Zz : Zc} {h : ja_H} (g : mo_G Zz h) : 0 ≤ h 0 86 ∧ h 0 86 ≤ 1 := mo_gR g 0 86
theorem gP_inIf {Zz : Zc} {h : ja_H} (g : mo_G Zz h) {x : Int} (hx : 0 ≤ x ∧ x ≤ 1) : mo_G Zz (ja_up h 0 86 x) := mo_gU g 0 86 rfl hx
theorem gF_inFlow {Zz : Zc} {h : ja_H} (g : mo_G Zz h) : (-2147483648) ≤ h 0 87 ∧ h 0 87 ≤ 2147483647 := mo_gR g 0 87
theorem gP_inFlow {Zz : Zc} {h : ja_H} (g : mo_G Zz h) {x : Int} (hx : (-2147483648) ≤ x ∧ x ≤ 2147483647) : mo_G Zz (ja_up h 0 87 x) := mo_gU g 0 87 rfl hx
theorem gF_points {Zz : Zc} {h : ja_H} (g : mo_G Zz h) : 0 ≤ h 0 88 ∧ h 0 88 ≤ 400 := mo_gR g 0 88
theorem gP_points {Zz : Zc} {h : ja_H} (g : mo_G Zz h) {x : Int} (hx : 0 ≤ x ∧ x ≤ 400) : mo_G Zz (ja_up h 0 88 x) := mo_gU g 0 88 rfl hx
theorem gC_pointKind {Zz : Zc} {h : ja_H} (g : mo_G Zz h) (j : Nat) : 0 ≤ h 52 j ∧ h 52 j ≤ 5 := mo_gR g 52 j
theorem gW_pointKind {Zz : Zc} {h : ja_H} (g : mo_G Zz h) (j : Nat) {x : Int} (hx : 0 ≤ x ∧ x ≤ 5) : mo_G Zz (ja_up h 52 j x) := mo_gU g 52 j rfl hx
theorem gC_pointToken {Zz : Zc} {h : ja_H} (g : mo_G Zz h) (j : Nat) : 0 ≤ h 53 j ∧ h 53 j ≤ 900 := mo_gR g 53 j
theorem gW_pointToken {Zz : Zc} {h : ja_H} (g : mo_G Zz h) (j : Nat) {x : Int} (hx : 0 ≤ x ∧ x ≤ 900) : mo_G Zz (ja_up h 53 j x) := mo_gU g 53 j rfl hx
theorem gC_pointName {Zz : Zc} {h : ja_H} (g : mo_G Zz h) (j : Nat) : (-1) ≤ h 54 j ∧ h 54 j ≤ 900 := mo_gR g 54 j
theorem gW_pointName {Zz : Zc} {h : ja_H} (g : mo_G Zz h) (j : Nat) {x : Int} (hx : (-1) ≤ x ∧ x ≤ 900) : mo_G Zz (ja_up h 54 j x) := mo_gU g 54 j rfl hx
theorem gC_pointArgs {Zz : Zc} {h : ja_H} (g : mo_G Zz h) (j : Nat) : 0 ≤ h 55 j ∧ h 55 j ≤ 6 := mo_gR g 55 j
theorem gW_pointArgs {Zz : Zc} {h : ja_H} (g : mo_G Zz h) (j : Nat) {x : Int} (hx : 0 ≤ x ∧ x ≤ 6) : mo_G Zz (ja_up h 55 j x) := mo_gU g 55 j rfl hx
theorem gC_pointStands {Zz : Zc} {h : ja_H} (g : mo_G Zz h) (j : Nat) : 0 ≤ h 56 j ∧ h 56 j ≤ 2 := mo_gR g 56 j
theorem gW_pointStands {Zz : Zc} {h : ja_H} (g : mo_G Zz h) (j : Nat) {x : Int} (hx : 0 ≤ x ∧ x ≤ 2) : mo_G Zz (ja_up h 56 j x) := mo_gU g 56 j rfl hx
theorem gC_pointWhich {Zz : Zc} {h : ja_H} (g : mo_G Zz h) (j : Nat) : 0 ≤ h 57 j ∧ h 57 j ≤ 60 := mo_gR g 57 j
theorem gW_pointWhich {Zz : Zc} {h : ja_H} (g : mo_G Zz h) (j : Nat) {x : Int} (hx : 0 ≤ x ∧ x ≤ 60) : mo_G Zz (ja_up h 57 j x) := mo_gU g 57 j rfl hx
theorem gF_nodes {Zz : Zc} {h : ja_H} (g : mo_G Zz h) : 0 ≤ h 0 95 ∧ h 0 95 ≤ 900 := mo_gR g 0 95
theorem gP_nodes {Zz : Zc} {h : ja_H} (g : mo_G Zz h) {x : Int} (hx : 0 ≤ x ∧ x ≤ 900) : mo_G Zz (ja_up h 0 95 x) := mo_gU g 0 95 rfl hx
theorem gC_nodeKind {Zz : Zc} {h : ja_H} (g : mo_G Zz h) (j : Nat) : 0 ≤ h 58 j ∧ h 58 j ≤ 15 := mo_gR g 58 j
theorem gW_nodeKind {Zz : Zc} {h : ja_H} (g : mo_G Zz h) (j : Nat) {x : Int} (hx : 0 ≤ x ∧ x ≤ 15) : mo_G Zz (ja_up h 58 j x) := mo_gU g 58 j rfl hx
theorem gC_nodeA {Zz : Zc} {h : ja_H} (g : mo_G Zz h) (j : Nat) : (-2147483648) ≤ h 59 j ∧ h 59 j ≤ 2147483647 := mo_gR g 59 j
theorem gW_nodeA {Zz : Zc} {h : ja_H} (g : mo_G Zz h) (j : Nat) {x : Int} (hx : (-2147483648) ≤ x ∧ x ≤ 2147483647) : mo_G Zz (ja_up h 59 j x) := mo_gU g 59 j rfl hx
theorem gC_nodeB {Zz : Zc} {h : ja_H} (g : mo_G Zz h) (j : Nat) : (-2147483648) ≤ h 60 j ∧ h 60 j ≤ 2147483647 := mo_gR g 60 j
theorem gW_nodeB {Zz : Zc} {h : ja_H} (g : mo_G Zz h) (j : Nat) {x : Int} (hx : (-2147483648) ≤ x ∧ x ≤ 2147483647) : mo_G Zz (ja_up h 60 j x) := mo_gU g 60 j rfl hx
theorem gC_nodeToken {Zz : Zc} {h : ja_H} (g : mo_G Zz h) (j : Nat) : 0 ≤ h 61 j ∧ h 61 j ≤ 900 := mo_gR g 61 j
theorem gW_nodeToken {Zz : Zc} {h : ja_H} (g : mo_G Zz h) (j : Nat) {x : Int} (hx : 0 ≤ x ∧ x ≤ 900) : mo_G Zz (ja_up h 61 j x) := mo_gU g 61 j rfl hx
theorem gC_nodeMany {Zz : Zc} {h : ja_H} (g : mo_G Zz h) (j : Nat) : 0 ≤ h 62 j ∧ h 62 j ≤ 6 := mo_gR g 62 j
theorem gW_nodeMany {Zz : Zc} {h : ja_H} (g : mo_G Zz h) (j : Nat) {x : Int} (hx : 0 ≤ x ∧ x ≤ 6) : mo_G Zz (ja_up h 62 j x) := mo_gU g 62 j rfl hx
theorem gC_nodeArg {Zz : Zc} {h : ja_H} (g : mo_G Zz h) (j : Nat) : (-2147483648) ≤ h 63 j ∧ h 63 j ≤ 2147483647 := mo_gR g 63 j
theorem gW_nodeArg {Zz : Zc} {h : ja_H} (g : mo_G Zz h) (j : Nat) {x : Int} (hx : (-2147483648) ≤ x ∧ x ≤ 2147483647) : mo_G Zz (ja_up h 63 j x) := mo_gU g 63 j rfl hx
theorem gC_nodeAspect {Zz : Zc} {h : ja_H} (g : mo_G Zz h) (j : Nat) : 0 ≤ h 64 j ∧ h 64 j ≤ 7 := mo_gR g 64 j
theorem gW_nodeAspect {Zz : Zc} {h : ja_H} (g : mo_G Zz h) (j : Nat) {x : Int} (hx : 0 ≤ x ∧ x ≤ 7) : mo_G Zz (ja_up h 64 j x) := mo_gU g 64 j rfl hx
theorem gC_nodeBinds {Zz : Zc} {h : ja_H} (g : mo_G Zz h) (j : Nat) : (-2147483648) ≤ h 65 j ∧ h 65 j ≤ 2147483647 := mo_gR g 65 j
theorem gW_nodeBinds {Zz : Zc} {h : ja_H} (g : mo_G Zz h) (j : Nat) {x : Int} (hx : (-2147483648) ≤ x ∧ x ≤ 2147483647) : mo_G Zz (ja_up h 65 j x) := mo_gU g 65 j rfl hx
theorem gC_nodeTwice {Zz : Zc} {h : ja_H} (g : mo_G Zz h) (j : Nat) : 0 ≤ h 66 j ∧ h 66 j ≤ 1 := mo_gR g 66 j
theorem gW_nodeTwice {Zz : Zc} {h : ja_H} (g : mo_G Zz h) (j : Nat) {x : Int} (hx : 0 ≤ x ∧ x ≤ 1) : mo_G Zz (ja_up h 66 j x) := mo_gU g 66 j rfl hx
theorem gC_nodeInPick {Zz : Zc} {h : ja_H} (g : mo_G Zz h) (j : Nat) : 0 ≤ h 67 j ∧ h 67 j ≤ 1 := mo_gR g 67 j
theorem gW_nodeInPick {Zz : Zc} {h : ja_H} (g : mo_G Zz h) (j : Nat) {x : Int} (hx : 0 ≤ x ∧ x ≤ 1) : mo_G Zz (ja_up h 67 j x) := mo_gU g 67 j rfl hx
theorem gC_nodeTypes {Zz : Zc} {h : ja_H} (g : mo_G Zz h) (j : Nat) : (-2147483648) ≤ h 68 j ∧ h 68 j ≤ 2147483647 := mo_gR g 68 j
theorem gW_nodeTypes {Zz : Zc} {h : ja_H} (g : mo_G Zz h) (j : Nat) {x : Int} (hx : (-2147483648) ≤ x ∧ x ≤ 2147483647) : mo_G Zz (ja_up h 68 j x) := mo_gU g 68 j rfl hx
theorem gC_nodeMethod {Zz : Zc} {h : ja_H} (g : mo_G Zz h) (j : Nat) : (-2147483648) ≤ h 69 j ∧ h 69 j ≤ 2147483647 := mo_gR g 69 j
theorem gW_nodeMethod {Zz : Zc} {h : ja_H} (g : mo_G Zz h) (j : Nat) {x : Int} (hx : (-2147483648) ≤ x ∧ x ≤ 2147483647) : mo_G Zz (ja_up h 69 j x) := mo_gU g 69 j rfl hx
theorem gC_treePile {Zz : Zc} {h : ja_H} (g : mo_G Zz h) (j : Nat) : 0 ≤ h 70 j ∧ h 70 j ≤ 899 := mo_gR g 70 j
theorem gW_treePile {Zz : Zc} {h : ja_H} (g : mo_G Zz h) (j : Nat) {x : Int} (hx : 0 ≤ x ∧ x ≤ 899) : mo_G Zz (ja_up h 70 j x) := mo_gU g 70 j rfl hx
theorem gF_treeTop {Zz : Zc} {h : ja_H} (g : mo_G Zz h) : 0 ≤ h 0 109 ∧ h 0 109 ≤ 400 := mo_gR g 0 109
theorem gP_treeTop {Zz : Zc} {h : ja_H} (g : mo_G Zz h) {x : Int} (hx : 0 ≤ x ∧ x ≤ 400) : mo_G Zz (ja_up h 0 109 x) := mo_gU g 0 109 rfl hx
theorem gC_ahead {Zz : Zc} {h : ja_H} (g : mo_G Zz h) (j : Nat) : 0 ≤ h 71 j ∧ h 71 j ≤ 2 := mo_gR g 71 j
theorem gW_ahead {Zz : Zc} {h : ja_H} (g : mo_G Zz h) (j : Nat) {x : Int} (hx : 0 ≤ x ∧ x ≤ 2) : mo_G Zz (ja_up h 71 j x) := mo_gU g 71 j rfl hx
theorem gC_left {Zz : Zc} {h : ja_H} (g : mo_G Zz h) (j : Nat) : (-2147483648) ≤ h 72 j ∧ h 72 j ≤ 2147483647 := mo_gR g 72 j
theorem gW_left {Zz : Zc} {h : ja_H} (g : mo_G Zz h) (j : Nat) {x : Int} (hx : (-2147483648) ≤ x ∧ x ≤ 2147483647) : mo_G Zz (ja_up h 72 j x) := mo_gU g 72 j rfl hx
theorem gC_never {Zz : Zc} {h : ja_H} (g : mo_G Zz h) (j : Nat) : 0 ≤ h 73 j ∧ h 73 j ≤ 1 := mo_gR g 73 j
theorem gW_never {Zz : Zc} {h : ja_H} (g : mo_G Zz h) (j : Nat) {x : Int} (hx : 0 ≤ x ∧ x ≤ 1) : mo_G Zz (ja_up h 73 j x) := mo_gU g 73 j rfl hx
theorem gF_words {Zz : Zc} {h : ja_H} (g : mo_G Zz h) : 0 ≤ h 0 113 ∧ h 0 113 ≤ 5000 := mo_gR g 0 113
theorem gP_words {Zz : Zc} {h : ja_H} (g : mo_G Zz h) {x : Int} (hx : 0 ≤ x ∧ x ≤ 5000) : mo_G Zz (ja_up h 0 113 x) := mo_gU g 0 113 rfl hx
theorem gC_op {Zz : Zc} {h : ja_H} (g : mo_G Zz h) (j : Nat) : 0 ≤ h 74 j ∧ h 74 j ≤ 26 := mo_gR g 74 j
theorem gW_op {Zz : Zc} {h : ja_H} (g : mo_G Zz h) (j : Nat) {x : Int} (hx : 0 ≤ x ∧ x ≤ 26) : mo_G Zz (ja_up h 74 j x) := mo_gU g 74 j rfl hx
theorem gC_opA {Zz : Zc} {h : ja_H} (g : mo_G Zz h) (j : Nat) : (-2147483648) ≤ h 75 j ∧ h 75 j ≤ 2147483647 := mo_gR g 75 j
theorem gW_opA {Zz : Zc} {h : ja_H} (g : mo_G Zz h) (j : Nat) {x : Int} (hx : (-2147483648) ≤ x ∧ x ≤ 2147483647) : mo_G Zz (ja_up h 75 j x) := mo_gU g 75 j rfl hx
theorem gC_opB {Zz : Zc} {h : ja_H} (g : mo_G Zz h) (j : Nat) : (-2147483648) ≤ h 76 j ∧ h 76 j ≤ 2147483647 := mo_gR g 76 j
theorem gW_opB {Zz : Zc} {h : ja_H} (g : mo_G Zz h) (j : Nat) {x : Int} (hx : (-2147483648) ≤ x ∧ x ≤ 2147483647) : mo_G Zz (ja_up h 76 j x) := mo_gU g 76 j rfl hx
theorem gC_opC {Zz : Zc} {h : ja_H} (g : mo_G Zz h) (j : Nat) : (-2147483648) ≤ h 77 j ∧ h 77 j ≤ 2147483647 := mo_gR g 77 j
theorem gW_opC {Zz : Zc} {h : ja_H} (g : mo_G Zz h) (j : Nat) {x : Int} (hx : (-2147483648) ≤ x ∧ x ≤ 2147483647) : mo_G Zz (ja_up h 77 j x) := mo_gU g 77 j rfl hx
theorem gF_compiled {Zz : Zc} {h : ja_H} (g : mo_G Zz h) : 0 ≤ h 0 118 ∧ h 0 118 ≤ 1 := mo_gR g 0 118
theorem gP_compiled {Zz : Zc} {h : ja_H} (g : mo_G Zz h) {x : Int} (hx : 0 ≤ x ∧ x ≤ 1) : mo_G Zz (ja_up h 0 118 x) := mo_gU g 0 118 rfl hx
theorem gF_findings {Zz : Zc} {h : ja_H} (g : mo_G Zz h) : 0 ≤ h 0 119 ∧ h 0 119 ≤ 4800 := mo_gR g 0 119
theorem gP_findings {Zz : Zc} {h : ja_H} (g : mo_G Zz h) {x : Int} (hx : 0 ≤ x ∧ x ≤ 4800) : mo_G Zz (ja_up h 0 119 x) := mo_gU g 0 119 rfl hx
theorem gC_findBar {Zz : Zc} {h : ja_H} (g : mo_G Zz h) (j : Nat) : 0 ≤ h 78 j ∧ h 78 j ≤ 11 := mo_gR g 78 j
theorem gW_findBar {Zz : Zc} {h : ja_H} (g : mo_G Zz h) (j : Nat) {x : Int} (hx : 0 ≤ x ∧ x ≤ 11) : mo_G Zz (ja_up h 78 j x) := mo_gU g 78 j rfl hx
theorem gC_findPoint {Zz : Zc} {h : ja_H} (g : mo_G Zz h) (j : Nat) : 0 ≤ h 79 j ∧ h 79 j ≤ 399 := mo_gR g 79 j
theorem gW_findPoint {Zz : Zc} {h : ja_H} (g : mo_G Zz h) (j : Nat) {x : Int} (hx : 0 ≤ x ∧ x ≤ 399) : mo_G Zz (ja_up h 79 j x) := mo_gU g 79 j rfl hx
theorem gC_findKnown {Zz : Zc} {h : ja_H} (g : mo_G Zz h) (j : Nat) : 0 ≤ h 80 j ∧ h 80 j ≤ 2 := mo_gR g 80 j
theorem gW_findKnown {Zz : Zc} {h : ja_H} (g : mo_G Zz h) (j : Nat) {x : Int} (hx : 0 ≤ x ∧ x ≤ 2) : mo_G Zz (ja_up h 80 j x) := mo_gU g 80 j rfl hx
theorem gC_ordered {Zz : Zc} {h : ja_H} (g : mo_G Zz h) (j : Nat) : 0 ≤ h 81 j ∧ h 81 j ≤ 24 := mo_gR g 81 j
theorem gW_ordered {Zz : Zc} {h : ja_H} (g : mo_G Zz h) (j : Nat) {x : Int} (hx : 0 ≤ x ∧ x ≤ 24) : mo_G Zz (ja_up h 81 j x) := mo_gU g 81 j rfl hx
theorem gC_layoutMany {Zz : Zc} {h : ja_H} (g : mo_G Zz h) (j : Nat) : 0 ≤ h 82 j ∧ h 82 j ≤ 160 := mo_gR g 82 j
theorem gW_layoutMany {Zz : Zc} {h : ja_H} (g : mo_G Zz h) (j : Nat) {x : Int} (hx : 0 ≤ x ∧ x ≤ 160) : mo_G Zz (ja_up h 82 j x) := mo_gU g 82 j rfl hx
theorem gC_layoutField {Zz : Zc} {h : ja_H} (g : mo_G Zz h) (j : Nat) : 0 ≤ h 83 j ∧ h 83 j ≤ 899 := mo_gR g 83 j
theorem gW_layoutField {Zz : Zc} {h : ja_H} (g : mo_G Zz h) (j : Nat) {x : Int} (hx : 0 ≤ x ∧ x ≤ 899) : mo_G Zz (ja_up h 83 j x) := mo_gU g 83 j rfl hx
theorem gC_below {Zz : Zc} {h : ja_H} (g : mo_G Zz h) (j : Nat) : (-2147483648) ≤ h 84 j ∧ h 84 j ≤ 2147483647 := mo_gR g 84 j
theorem gW_below {Zz : Zc} {h : ja_H} (g : mo_G Zz h) (j : Nat) {x : Int} (hx : (-2147483648) ≤ x ∧ x ≤ 2147483647) : mo_G Zz (ja_up h 84 j x) := mo_gU g 84 j rfl hx
theorem gF_started {Zz : Zc} {h : ja_H} (g : mo_G Zz h) : 0 ≤ h 0 127 ∧ h 0 127 ≤ 1 := mo_gR g 0 127
theorem gP_started {Zz : Zc} {h : ja_H} (g : mo_G Zz h) {x : Int} (hx : 0 ≤ x ∧ x ≤ 1) : mo_G Zz (ja_up h 0 127 x) := mo_gU g 0 127 rfl hx
theorem gF_woven {Zz : Zc} {h : ja_H} (g : mo_G Zz h) : 0 ≤ h 0 128 ∧ h 0 128 ≤ 1 := mo_gR g 0 128
theorem gP_woven {Zz : Zc} {h : ja_H} (g : mo_G Zz h) {x : Int} (hx : 0 ≤ x ∧ x ≤ 1) : mo_G Zz (ja_up h 0 128 x) := mo_gU g 0 128 rfl hx
theorem gF_state {Zz : Zc} {h : ja_H} (g : mo_G Zz h) : 0 ≤ h 0 129 ∧ h 0 129 ≤ 2 := mo_gR g 0 129
theorem gP_state {Zz : Zc} {h : ja_H} (g : mo_G Zz h) {x : Int} (hx : 0 ≤ x ∧ x ≤ 2) : mo_G Zz (ja_up h 0 129 x) := mo_gU g 0 129 rfl hx
theorem gF_steps {Zz : Zc} {h : ja_H} (g : mo_G Zz h) : (-2147483648) ≤ h 0 130 ∧ h 0 130 ≤ 2147483647 := mo_gR g 0 130
theorem gP_steps {Zz : Zc} {h : ja_H} (g : mo_G Zz h) {x : Int} (hx : (-2147483648) ≤ x ∧ x ≤ 2147483647) : mo_G Zz (ja_up h 0 130 x) := mo_gU g 0 130 rfl hx
theorem gF_tests {Zz : Zc} {h : ja_H} (g : mo_G Zz h) : (-2147483648) ≤ h 0 131 ∧ h 0 131 ≤ 2147483647 := mo_gR g 0 131
theorem gP_tests {Zz : Zc} {h : ja_H} (g : mo_G Zz h) {x : Int} (hx : (-2147483648) ≤ x ∧ x ≤ 2147483647) : mo_G Zz (ja_up h 0 131 x) := mo_gU g 0 131 rfl hx
theorem gF_outputs {Zz : Zc} {h : ja_H} (g : mo_G Zz h) : 0 ≤ h 0 132 ∧ h 0 132 ≤ 2147483647 := mo_gR g 0 132
theorem gP_outputs {Zz : Zc} {h : ja_H} (g : mo_G Zz h) {x : Int} (hx : 0 ≤ x ∧ x ≤ 2147483647) : mo_G Zz (ja_up h 0 132 x) := mo_gU g 0 132 rfl hx
theorem gC_outputKind {Zz : Zc} {h : ja_H} (g : mo_G Zz h) (j : Nat) : 0 ≤ h 85 j ∧ h 85 j ≤ 2 := mo_gR g 85 j
theorem gW_outputKind {Zz : Zc} {h : ja_H} (g : mo_G Zz h) (j : Nat) {x : Int} (hx : 0 ≤ x ∧ x ≤ 2) : mo_G Zz (ja_up h 85 j x) := mo_gU g 85 j rfl hx
theorem gC_outputValue {Zz : Zc} {h : ja_H} (g : mo_G Zz h) (j : Nat) : (-2147483648) ≤ h 86 j ∧ h 86 j ≤ 2147483647 := mo_gR g 86 j
theorem gW_outputValue {Zz : Zc} {h : ja_H} (g : mo_G Zz h) (j : Nat) {x : Int} (hx : (-2147483648) ≤ x ∧ x ≤ 2147483647) : mo_G Zz (ja_up h 86 j x) := mo_gU g 86 j rfl hx
theorem gF_rows {Zz : Zc} {h : ja_H} (g : mo_G Zz h) : 0 ≤ h 0 135 ∧ h 0 135 ≤ 2147483647 := mo_gR g 0 135
theorem gP_rows {Zz : Zc} {h : ja_H} (g : mo_G Zz h) {x : Int} (hx : 0 ≤ x ∧ x ≤ 2147483647) : mo_G Zz (ja_up h 0 135 x) := mo_gU g 0 135 rfl hx
theorem gC_rowAdvice {Zz : Zc} {h : ja_H} (g : mo_G Zz h) (j : Nat) : 0 ≤ h 87 j ∧ h 87 j ≤ 24 := mo_gR g 87 j
theorem gW_rowAdvice {Zz : Zc} {h : ja_H} (g : mo_G Zz h) (j : Nat) {x : Int} (hx : 0 ≤ x ∧ x ≤ 24) : mo_G Zz (ja_up h 87 j x) := mo_gU g 87 j rfl hx
theorem gC_rowPoint {Zz : Zc} {h : ja_H} (g : mo_G Zz h) (j : Nat) : 0 ≤ h 88 j ∧ h 88 j ≤ 399 := mo_gR g 88 j
theorem gW_rowPoint {Zz : Zc} {h : ja_H} (g : mo_G Zz h) (j : Nat) {x : Int} (hx : 0 ≤ x ∧ x ≤ 399) : mo_G Zz (ja_up h 88 j x) := mo_gU g 88 j rfl hx
theorem gF_objects {Zz : Zc} {h : ja_H} (g : mo_G Zz h) : 0 ≤ h 0 138 ∧ h 0 138 ≤ 200 := mo_gR g 0 138
theorem gP_objects {Zz : Zc} {h : ja_H} (g : mo_G Zz h) {x : Int} (hx : 0 ≤ x ∧ x ≤ 200) : mo_G Zz (ja_up h 0 138 x) := mo_gU g 0 138 rfl hx
theorem gC_objectClass {Zz : Zc} {h : ja_H} (g : mo_G Zz h) (j : Nat) : 0 ≤ h 89 j ∧ h 89 j ≤ 11 := mo_gR g 89 j
theorem gW_objectClass {h : ja_H} (g : mo_G mo_zr h) (j : Nat) {x : Int} (hx : 0 ≤ x ∧ x ≤ 11) : mo_G mo_zr (ja_up h 89 j x) := mo_gV g 89 j hx
theorem gC_fieldKind {Zz : Zc} {h : ja_H} (g : mo_G Zz h) (j : Nat) : 0 ≤ h 90 j ∧ h 90 j ≤ 2 := mo_gR g 90 j
theorem gW_fieldKind {h : ja_H} (g : mo_G mo_zr h) (j : Nat) {x : Int} (hx : 0 ≤ x ∧ x ≤ 2) : mo_G mo_zr (ja_up h 90 j x) := mo_gV g 90 j hx
theorem gC_fieldValue {Zz : Zc} {h : ja_H} (g : mo_G Zz h) (j : Nat) : (-2147483648) ≤ h 91 j ∧ h 91 j ≤ 2147483647 := mo_gR g 91 j
theorem gW_fieldValue {h : ja_H} (g : mo_G mo_zr h) (j : Nat) {x : Int} (hx : (-2147483648) ≤ x ∧ x ≤ 2147483647) : mo_G mo_zr (ja_up h 91 j x) := mo_gV g 91 j hx
theorem gC_heldKind {Zz : Zc} {h : ja_H} (g : mo_G Zz h) (j : Nat) : 0 ≤ h 92 j ∧ h 92 j ≤ 2 := mo_gR g 92 j
theorem gW_heldKind {h : ja_H} (g : mo_G mo_zr h) (j : Nat) {x : Int} (hx : 0 ≤ x ∧ x ≤ 2) : mo_G mo_zr (ja_up h 92 j x) := mo_gV g 92 j hx
theorem gC_heldValue {Zz : Zc} {h : ja_H} (g : mo_G Zz h) (j : Nat) : (-2147483648) ≤ h 93 j ∧ h 93 j ≤ 2147483647 := mo_gR g 93 j
theorem gW_heldValue {h : ja_H} (g : mo_G mo_zr h) (j : Nat) {x : Int} (hx : (-2147483648) ≤ x ∧ x ≤ 2147483647) : mo_G mo_zr (ja_up h 93 j x) := mo_gV g 93 j hx
theorem gF_bodies {Zz : Zc} {h : ja_H} (g : mo_G Zz h) : (-2147483648) ≤ h 0 144 ∧ h 0 144 ≤ 2147483647 := mo_gR g 0 144
theorem gP_bodies {Zz : Zc} {h : ja_H} (g : mo_G Zz h) {x : Int} (hx : (-2147483648) ≤ x ∧ x ≤ 2147483647) : mo_G Zz (ja_up h 0 144 x) := mo_gU g 0 144 rfl hx
theorem gF_failureKind {Zz : Zc} {h : ja_H} (g : mo_G Zz h) : 0 ≤ h 0 145 ∧ h 0 145 ≤ 2 := mo_gR g 0 145
theorem gP_failureKind {Zz : Zc} {h : ja_H} (g : mo_G Zz h) {x : Int} (hx : 0 ≤ x ∧ x ≤ 2) : mo_G Zz (ja_up h 0 145 x) := mo_gU g 0 145 rfl hx
theorem gF_failureValue {Zz : Zc} {h : ja_H} (g : mo_G Zz h) : (-2147483648) ≤ h 0 146 ∧ h 0 146 ≤ 2147483647 := mo_gR g 0 146
theorem gP_failureValue {Zz : Zc} {h : ja_H} (g : mo_G Zz h) {x : Int} (hx : (-2147483648) ≤ x ∧ x ≤ 2147483647) : mo_G Zz (ja_up h 0 146 x) := mo_gU g 0 146 rfl hx
theorem gC_pileKind {Zz : Zc} {h : ja_H} (g : mo_G Zz h) (j : Nat) : 0 ≤ h 94 j ∧ h 94 j ≤ 2 := mo_gR g 94 j
theorem gW_pileKind {h : ja_H} (g : mo_G mo_zr h) (j : Nat) {x : Int} (hx : 0 ≤ x ∧ x ≤ 2) : mo_G mo_zr (ja_up h 94 j x) := mo_gV g 94 j hx
theorem gC_pileValue {Zz : Zc} {h : ja_H} (g : mo_G Zz h) (j : Nat) : (-2147483648) ≤ h 95 j ∧ h 95 j ≤ 2147483647 := mo_gR g 95 j
theorem gW_pileValue {h : ja_H} (g : mo_G mo_zr h) (j : Nat) {x : Int} (hx : (-2147483648) ≤ x ∧ x ≤ 2147483647) : mo_G mo_zr (ja_up h 95 j x) := mo_gV g 95 j hx
theorem gF_pile {Zz : Zc} {h : ja_H} (g : mo_G Zz h) : 0 ≤ h 0 149 ∧ h 0 149 ≤ 6000 := mo_gR g 0 149
theorem gP_pile {Zz : Zc} {h : ja_H} (g : mo_G Zz h) {x : Int} (hx : 0 ≤ x ∧ x ≤ 6000) : mo_G Zz (ja_up h 0 149 x) := mo_gU g 0 149 rfl hx
theorem gF_frames {Zz : Zc} {h : ja_H} (g : mo_G Zz h) : 0 ≤ h 0 150 ∧ h 0 150 ≤ 3000 := mo_gR g 0 150
theorem gP_frames {Zz : Zc} {h : ja_H} (g : mo_G Zz h) {x : Int} (hx : 0 ≤ x ∧ x ≤ 3000) : mo_G Zz (ja_up h 0 150 x) := mo_gU g 0 150 rfl hx
theorem gC_frameType {Zz : Zc} {h : ja_H} (g : mo_G Zz h) (j : Nat) : 0 ≤ h 96 j ∧ h 96 j ≤ 5 := mo_gR g 96 j
theorem gW_frameType {Zz : Zc} {h : ja_H} (g : mo_G Zz h) (j : Nat) {x : Int} (hx : 0 ≤ x ∧ x ≤ 5) : mo_G Zz (ja_up h 96 j x) := mo_gU g 96 j rfl hx
theorem gC_framePc {Zz : Zc} {h : ja_H} (g : mo_G Zz h) (j : Nat) : 0 ≤ h 97 j ∧ h 97 j ≤ 5000 := mo_gR g 97 j
theorem gW_framePc {Zz : Zc} {h : ja_H} (g : mo_G Zz h) (j : Nat) {x : Int} (hx : 0 ≤ x ∧ x ≤ 5000) : mo_G Zz (ja_up h 97 j x) := mo_gU g 97 j rfl hx
theorem gC_frameSelf {Zz : Zc} {h : ja_H} (g : mo_G Zz h) (j : Nat) : 0 ≤ h 98 j ∧ h 98 j ≤ 200 := mo_gR g 98 j
theorem gW_frameSelf {Zz : Zc} {h : ja_H} (g : mo_G Zz h) (j : Nat) {x : Int} (hx : 0 ≤ x ∧ x ≤ 200) : mo_G Zz (ja_up h 98 j x) := mo_gU g 98 j rfl hx
theorem gC_frameBase {Zz : Zc} {h : ja_H} (g : mo_G Zz h) (j : Nat) : 0 ≤ h 99 j ∧ h 99 j ≤ 6000 := mo_gR g 99 j
theorem gW_frameBase {Zz : Zc} {h : ja_H} (g : mo_G Zz h) (j : Nat) {x : Int} (hx : 0 ≤ x ∧ x ≤ 6000) : mo_G Zz (ja_up h 99 j x) := mo_gU g 99 j rfl hx
theorem gC_frameTries {Zz : Zc} {h : ja_H} (g : mo_G Zz h) (j : Nat) : 0 ≤ h 100 j ∧ h 100 j ≤ 800 := mo_gR g 100 j
theorem gW_frameTries {Zz : Zc} {h : ja_H} (g : mo_G Zz h) (j : Nat) {x : Int} (hx : 0 ≤ x ∧ x ≤ 800) : mo_G Zz (ja_up h 100 j x) := mo_gU g 100 j rfl hx
theorem gC_frameLocals {Zz : Zc} {h : ja_H} (g : mo_G Zz h) (j : Nat) : 0 ≤ h 101 j ∧ h 101 j ≤ 500 := mo_gR g 101 j
theorem gW_frameLocals {Zz : Zc} {h : ja_H} (g : mo_G Zz h) (j : Nat) {x : Int} (hx : 0 ≤ x ∧ x ≤ 500) : mo_G Zz (ja_up h 101 j x) := mo_gU g 101 j rfl hx
theorem gC_frameRow {Zz : Zc} {h : ja_H} (g : mo_G Zz h) (j : Nat) : 0 ≤ h 102 j ∧ h 102 j ≤ 119 := mo_gR g 102 j
theorem gW_frameRow {Zz : Zc} {h : ja_H} (g : mo_G Zz h) (j : Nat) {x : Int} (hx : 0 ≤ x ∧ x ≤ 119) : mo_G Zz (ja_up h 102 j x) := mo_gU g 102 j rfl hx
theorem gC_frameLevel {Zz : Zc} {h : ja_H} (g : mo_G Zz h) (j : Nat) : 0 ≤ h 103 j ∧ h 103 j ≤ 23 := mo_gR g 103 j
theorem gW_frameLevel {Zz : Zc} {h : ja_H} (g : mo_G Zz h) (j : Nat) {x : Int} (hx : 0 ≤ x ∧ x ≤ 23) : mo_G Zz (ja_up h 103 j x) := mo_gU g 103 j rfl hx
theorem gC_frameStage {Zz : Zc} {h : ja_H} (g : mo_G Zz h) (j : Nat) : 0 ≤ h 104 j ∧ h 104 j ≤ 4 := mo_gR g 104 j
theorem gW_frameStage {Zz : Zc} {h : ja_H} (g : mo_G Zz h) (j : Nat) {x : Int} (hx : 0 ≤ x ∧ x ≤ 4) : mo_G Zz (ja_up h 104 j x) := mo_gU g 104 j rfl hx
theorem gC_frameFails {Zz : Zc} {h : ja_H} (g : mo_G Zz h) (j : Nat) : 0 ≤ h 105 j ∧ h 105 j ≤ 1 := mo_gR g 105 j
theorem gW_frameFails {Zz : Zc} {h : ja_H} (g : mo_G Zz h) (j : Nat) {x : Int} (hx : 0 ≤ x ∧ x ≤ 1) : mo_G Zz (ja_up h 105 j x) := mo_gU g 105 j rfl hx
theorem gC_frameKind {Zz : Zc} {h : ja_H} (g : mo_G Zz h) (j : Nat) : 0 ≤ h 106 j ∧ h 106 j ≤ 2 := mo_gR g 106 j
theorem gW_frameKind {h : ja_H} (g : mo_G mo_zr h) (j : Nat) {x : Int} (hx : 0 ≤ x ∧ x ≤ 2) : mo_G mo_zr (ja_up h 106 j x) := mo_gV g 106 j hx
theorem gC_frameValue {Zz : Zc} {h : ja_H} (g : mo_G Zz h) (j : Nat) : (-2147483648) ≤ h 107 j ∧ h 107 j ≤ 2147483647 := mo_gR g 107 j
theorem gW_frameValue {h : ja_H} (g : mo_G mo_zr h) (j : Nat) {x : Int} (hx : (-2147483648) ≤ x ∧ x ≤ 2147483647) : mo_G mo_zr (ja_up h 107 j x) := mo_gV g 107 j hx
theorem gC_frameArgKind {Zz : Zc} {h : ja_H} (g : mo_G Zz h) (j : Nat) : 0 ≤ h 108 j ∧ h 108 j ≤ 2 := mo_gR g 108 j
theorem gW_frameArgKind {h : ja_H} (g : mo_G mo_zr h) (j : Nat) {x : Int} (hx : 0 ≤ x ∧ x ≤ 2) : mo_G mo_zr (ja_up h 108 j x) := mo_gV g 108 j hx
theorem gC_frameArgValue {Zz : Zc} {h : ja_H} (g : mo_G Zz h) (j : Nat) : (-2147483648) ≤ h 109 j ∧ h 109 j ≤ 2147483647 := mo_gR g 109 j
theorem gW_frameArgValue {h : ja_H} (g : mo_G mo_zr h) (j : Nat) {x : Int} (hx : (-2147483648) ≤ x ∧ x ≤ 2147483647) : mo_G mo_zr (ja_up h 109 j x) := mo_gV g 109 j hx
theorem gF_localTop {Zz : Zc} {h : ja_H} (g : mo_G Zz h) : 0 ≤ h 0 165 ∧ h 0 165 ≤ 500 := mo_gR g 0 165
theorem gP_localTop {Zz : Zc} {h : ja_H} (g : mo_G Zz h) {x : Int} (hx : 0 ≤ x ∧ x ≤ 500) : mo_G Zz (ja_up h 0 165 x) := mo_gU g 0 165 rfl hx
theorem gC_localKind {Zz : Zc} {h : ja_H} (g : mo_G Zz h) (j : Nat) : 0 ≤ h 110 j ∧ h 110 j ≤ 2 := mo_gR g 110 j
theorem gW_localKind {h : ja_H} (g : mo_G mo_zr h) (j : Nat) {x : Int} (hx : 0 ≤ x ∧ x ≤ 2) : mo_G mo_zr (ja_up h 110 j x) := mo_gV g 110 j hx
theorem gC_localValue {Zz : Zc} {h : ja_H} (g : mo_G Zz h) (j : Nat) : (-2147483648) ≤ h 111 j ∧ h 111 j ≤ 2147483647 := mo_gR g 111 j
theorem gW_localValue {h : ja_H} (g : mo_G mo_zr h) (j : Nat) {x : Int} (hx : (-2147483648) ≤ x ∧ x ≤ 2147483647) : mo_G mo_zr (ja_up h 111 j x) := mo_gV g 111 j hx
theorem gF_tries {Zz : Zc} {h : ja_H} (g : mo_G Zz h) : 0 ≤ h 0 168 ∧ h 0 168 ≤ 800 := mo_gR g 0 168
theorem gP_tries {Zz : Zc} {h : ja_H} (g : mo_G Zz h) {x : Int} (hx : 0 ≤ x ∧ x ≤ 800) : mo_G Zz (ja_up h 0 168 x) := mo_gU g 0 168 rfl hx
theorem gC_tryPc {Zz : Zc} {h : ja_H} (g : mo_G Zz h) (j : Nat) : 0 ≤ h 112 j ∧ h 112 j ≤ 5000 := mo_gR g 112 j
theorem gW_tryPc {Zz : Zc} {h : ja_H} (g : mo_G Zz h) (j : Nat) {x : Int} (hx : 0 ≤ x ∧ x ≤ 5000) : mo_G Zz (ja_up h 112 j x) := mo_gU g 112 j rfl hx
theorem gC_tryPile {Zz : Zc} {h : ja_H} (g : mo_G Zz h) (j : Nat) : 0 ≤ h 113 j ∧ h 113 j ≤ 6000 := mo_gR g 113 j
theorem gW_tryPile {Zz : Zc} {h : ja_H} (g : mo_G Zz h) (j : Nat) {x : Int} (hx : 0 ≤ x ∧ x ≤ 6000) : mo_G Zz (ja_up h 113 j x) := mo_gU g 113 j rfl hx
theorem gC_tryFrame {Zz : Zc} {h : ja_H} (g : mo_G Zz h) (j : Nat) : (-2147483648) ≤ h 114 j ∧ h 114 j ≤ 2147483647 := mo_gR g 114 j
theorem gW_tryFrame {Zz : Zc} {h : ja_H} (g : mo_G Zz h) (j : Nat) {x : Int} (hx : (-2147483648) ≤ x ∧ x ≤ 2147483647) : mo_G Zz (ja_up h 114 j x) := mo_gU g 114 j rfl hx
theorem gF_reached {Zz : Zc} {h : ja_H} (g : mo_G Zz h) : 0 ≤ h 0 172 ∧ h 0 172 ≤ 120 := mo_gR g 0 172
theorem gP_reached {Zz : Zc} {h : ja_H} (g : mo_G Zz h) {x : Int} (hx : 0 ≤ x ∧ x ≤ 120) : mo_G Zz (ja_up h 0 172 x) := mo_gU g 0 172 rfl hx
theorem gC_reachPoint {Zz : Zc} {h : ja_H} (g : mo_G Zz h) (j : Nat) : 0 ≤ h 115 j ∧ h 115 j ≤ 399 := mo_gR g 115 j
theorem gW_reachPoint {Zz : Zc} {h : ja_H} (g : mo_G Zz h) (j : Nat) {x : Int} (hx : 0 ≤ x ∧ x ≤ 399) : mo_G Zz (ja_up h 115 j x) := mo_gU g 115 j rfl hx
theorem gC_reachSelf {Zz : Zc} {h : ja_H} (g : mo_G Zz h) (j : Nat) : 0 ≤ h 116 j ∧ h 116 j ≤ 200 := mo_gR g 116 j
theorem gW_reachSelf {Zz : Zc} {h : ja_H} (g : mo_G Zz h) (j : Nat) {x : Int} (hx : 0 ≤ x ∧ x ≤ 200) : mo_G Zz (ja_up h 116 j x) := mo_gU g 116 j rfl hx
theorem gC_reachTargetKind {Zz : Zc} {h : ja_H} (g : mo_G Zz h) (j : Nat) : 0 ≤ h 117 j ∧ h 117 j ≤ 2 := mo_gR g 117 j
theorem gW_reachTargetKind {h : ja_H} (g : mo_G mo_zr h) (j : Nat) {x : Int} (hx : 0 ≤ x ∧ x ≤ 2) : mo_G mo_zr (ja_up h 117 j x) := mo_gV g 117 j hx
theorem gC_reachTarget {Zz : Zc} {h : ja_H} (g : mo_G Zz h) (j : Nat) : (-2147483648) ≤ h 118 j ∧ h 118 j ≤ 2147483647 := mo_gR g 118 j
theorem gW_reachTarget {h : ja_H} (g : mo_G mo_zr h) (j : Nat) {x : Int} (hx : (-2147483648) ≤ x ∧ x ≤ 2147483647) : mo_G mo_zr (ja_up h 118 j x) := mo_gV g 118 j hx
theorem gC_reachMany {Zz : Zc} {h : ja_H} (g : mo_G Zz h) (j : Nat) : 0 ≤ h 119 j ∧ h 119 j ≤ 6 := mo_gR g 119 j
theorem gW_reachMany {Zz : Zc} {h : ja_H} (g : mo_G Zz h) (j : Nat) {x : Int} (hx : 0 ≤ x ∧ x ≤ 6) : mo_G Zz (ja_up h 119 j x) := mo_gU g 119 j rfl hx
theorem gC_reachKind {Zz : Zc} {h : ja_H} (g : mo_G Zz h) (j : Nat) : 0 ≤ h 120 j ∧ h 120 j ≤ 2 := mo_gR g 120 j
theorem gW_reachKind {h : ja_H} (g : mo_G mo_zr h) (j : Nat) {x : Int} (hx : 0 ≤ x ∧ x ≤ 2) : mo_G mo_zr (ja_up h 120 j x) := mo_gV g 120 j hx
theorem gC_reachValue {Zz : Zc} {h : ja_H} (g : mo_G Zz h) (j : Nat) : (-2147483648) ≤ h 121 j ∧ h 121 j ≤ 2147483647 := mo_gR g 121 j
theorem gW_reachValue {h : ja_H} (g : mo_G mo_zr h) (j : Nat) {x : Int} (hx : (-2147483648) ≤ x ∧ x ≤ 2147483647) : mo_G mo_zr (ja_up h 121 j x) := mo_gV g 121 j hx
theorem gC_reachName {Zz : Zc} {h : ja_H} (g : mo_G Zz h) (j : Nat) : (-2147483648) ≤ h 122 j ∧ h 122 j ≤ 2147483647 := mo_gR g 122 j
theorem gW_reachName {Zz : Zc} {h : ja_H} (g : mo_G Zz h) (j : Nat) {x : Int} (hx : (-2147483648) ≤ x ∧ x ≤ 2147483647) : mo_G Zz (ja_up h 122 j x) := mo_gU g 122 j rfl hx
theorem gC_heldMany {Zz : Zc} {h : ja_H} (g : mo_G Zz h) (j : Nat) : 0 ≤ h 123 j ∧ h 123 j ≤ 24 := mo_gR g 123 j
theorem gW_heldMany {Zz : Zc} {h : ja_H} (g : mo_G Zz h) (j : Nat) {x : Int} (hx : 0 ≤ x ∧ x ≤ 24) : mo_G Zz (ja_up h 123 j x) := mo_gU g 123 j rfl hx
theorem gC_heldAdvice {Zz : Zc} {h : ja_H} (g : mo_G Zz h) (j : Nat) : 0 ≤ h 124 j ∧ h 124 j ≤ 24 := mo_gR g 124 j
theorem gW_heldAdvice {Zz : Zc} {h : ja_H} (g : mo_G Zz h) (j : Nat) {x : Int} (hx : 0 ≤ x ∧ x ≤ 24) : mo_G Zz (ja_up h 124 j x) := mo_gU g 124 j rfl hx
theorem gC_heldFor {Zz : Zc} {h : ja_H} (g : mo_G Zz h) (j : Nat) : 0 ≤ h 125 j ∧ h 125 j ≤ 200 := mo_gR g 125 j
theorem gW_heldFor {Zz : Zc} {h : ja_H} (g : mo_G Zz h) (j : Nat) {x : Int} (hx : 0 ≤ x ∧ x ≤ 200) : mo_G Zz (ja_up h 125 j x) := mo_gU g 125 j rfl hx
theorem gC_boundKind {Zz : Zc} {h : ja_H} (g : mo_G Zz h) (j : Nat) : 0 ≤ h 126 j ∧ h 126 j ≤ 2 := mo_gR g 126 j
theorem gW_boundKind {h : ja_H} (g : mo_G mo_zr h) (j : Nat) {x : Int} (hx : 0 ≤ x ∧ x ≤ 2) : mo_G mo_zr (ja_up h 126 j x) := mo_gV g 126 j hx
theorem gC_boundValue {Zz : Zc} {h : ja_H} (g : mo_G Zz h) (j : Nat) : (-2147483648) ≤ h 127 j ∧ h 127 j ≤ 2147483647 := mo_gR g 127 j
theorem gW_boundValue {h : ja_H} (g : mo_G mo_zr h) (j : Nat) {x : Int} (hx : (-2147483648) ≤ x ∧ x ≤ 2147483647) : mo_G mo_zr (ja_up h 127 j x) := mo_gV g 127 j hx
theorem gF_under {Zz : Zc} {h : ja_H} (g : mo_G Zz h) : 0 ≤ h 0 186 ∧ h 0 186 ≤ 2 := mo_gR g 0 186
theorem gP_under {Zz : Zc} {h : ja_H} (g : mo_G Zz h) {x : Int} (hx : 0 ≤ x ∧ x ≤ 2) : mo_G Zz (ja_up h 0 186 x) := mo_gU g 0 186 rfl hx
theorem gF_resultFails {Zz : Zc} {h : ja_H} (g : mo_G Zz h) : 0 ≤ h 0 187 ∧ h 0 187 ≤ 1 := mo_gR g 0 187
theorem gP_resultFails {Zz : Zc} {h : ja_H} (g : mo_G Zz h) {x : Int} (hx : 0 ≤ x ∧ x ≤ 1) : mo_G Zz (ja_up h 0 187 x) := mo_gU g 0 187 rfl hx
theorem gF_resultKind {Zz : Zc} {h : ja_H} (g : mo_G Zz h) : 0 ≤ h 0 188 ∧ h 0 188 ≤ 2 := mo_gR g 0 188
theorem gP_resultKind {h : ja_H} (g : mo_G mo_zr h) {x : Int} (hx : 0 ≤ x ∧ x ≤ 2) : mo_G mo_zr (ja_up h 0 188 x) := mo_gV g 0 188 hx
theorem gF_resultValue {Zz : Zc} {h : ja_H} (g : mo_G Zz h) : (-2147483648) ≤ h 0 189 ∧ h 0 189 ≤ 2147483647 := mo_gR g 0 189
theorem gP_resultValue {h : ja_H} (g : mo_G mo_zr h) {x : Int} (hx : (-2147483648) ≤ x ∧ x ≤ 2147483647) : mo_G mo_zr (ja_up h 0 189 x) := mo_gV g 0 189 hx
theorem gF_restRow {Zz : Zc} {h : ja_H} (g : mo_G Zz h) : 0 ≤ h 0 190 ∧ h 0 190 ≤ 119 := mo_gR g 0 190
theorem gP_restRow {Zz : Zc} {h : ja_H} (g : mo_G Zz h) {x : Int} (hx : 0 ≤ x ∧ x ≤ 119) : mo_G Zz (ja_up h 0 190 x) := mo_gU g 0 190 rfl hx
theorem gF_restLevel {Zz : Zc} {h : ja_H} (g : mo_G Zz h) : 0 ≤ h 0 191 ∧ h 0 191 ≤ 24 := mo_gR g 0 191
theorem gP_restLevel {Zz : Zc} {h : ja_H} (g : mo_G Zz h) {x : Int} (hx : 0 ≤ x ∧ x ≤ 24) : mo_G Zz (ja_up h 0 191 x) := mo_gU g 0 191 rfl hx
theorem gC_argKind {Zz : Zc} {h : ja_H} (g : mo_G Zz h) (j : Nat) : 0 ≤ h 128 j ∧ h 128 j ≤ 2 := mo_gR g 128 j
theorem gW_argKind {h : ja_H} (g : mo_G mo_zr h) (j : Nat) {x : Int} (hx : 0 ≤ x ∧ x ≤ 2) : mo_G mo_zr (ja_up h 128 j x) := mo_gV g 128 j hx
theorem gC_argValue {Zz : Zc} {h : ja_H} (g : mo_G Zz h) (j : Nat) : (-2147483648) ≤ h 129 j ∧ h 129 j ≤ 2147483647 := mo_gR g 129 j
theorem gW_argValue {h : ja_H} (g : mo_G mo_zr h) (j : Nat) {x : Int} (hx : (-2147483648) ≤ x ∧ x ≤ 2147483647) : mo_G mo_zr (ja_up h 129 j x) := mo_gV g 129 j hx
theorem gC_bindKind {Zz : Zc} {h : ja_H} (g : mo_G Zz h) (j : Nat) : 0 ≤ h 130 j ∧ h 130 j ≤ 2 := mo_gR g 130 j
theorem gW_bindKind {h : ja_H} (g : mo_G mo_zr h) (j : Nat) {x : Int} (hx : 0 ≤ x ∧ x ≤ 2) : mo_G mo_zr (ja_up h 130 j x) := mo_gV g 130 j hx
theorem gC_bindValue {Zz : Zc} {h : ja_H} (g : mo_G Zz h) (j : Nat) : (-2147483648) ≤ h 131 j ∧ h 131 j ≤ 2147483647 := mo_gR g 131 j
theorem gW_bindValue {h : ja_H} (g : mo_G mo_zr h) (j : Nat) {x : Int} (hx : (-2147483648) ≤ x ∧ x ≤ 2147483647) : mo_G mo_zr (ja_up h 131 j x) := mo_gV g 131 j hx
theorem gF_askedFor {Zz : Zc} {h : ja_H} (g : mo_G Zz h) : 0 ≤ h 0 196 ∧ h 0 196 ≤ 200 := mo_gR g 0 196
theorem gP_askedFor {Zz : Zc} {h : ja_H} (g : mo_G Zz h) {x : Int} (hx : 0 ≤ x ∧ x ≤ 200) : mo_G Zz (ja_up h 0 196 x) := mo_gU g 0 196 rfl hx
theorem gF_askedAspect {Zz : Zc} {h : ja_H} (g : mo_G Zz h) : 0 ≤ h 0 197 ∧ h 0 197 ≤ 7 := mo_gR g 0 197
theorem gP_askedAspect {Zz : Zc} {h : ja_H} (g : mo_G Zz h) {x : Int} (hx : 0 ≤ x ∧ x ≤ 7) : mo_G Zz (ja_up h 0 197 x) := mo_gU g 0 197 rfl hx
theorem gC_evNode {Zz : Zc} {h : ja_H} (g : mo_G Zz h) (j : Nat) : 0 ≤ h 132 j ∧ h 132 j ≤ 899 := mo_gR g 132 j
theorem gW_evNode {Zz : Zc} {h : ja_H} (g : mo_G Zz h) (j : Nat) {x : Int} (hx : 0 ≤ x ∧ x ≤ 899) : mo_G Zz (ja_up h 132 j x) := mo_gU g 132 j rfl hx
theorem gC_evState {Zz : Zc} {h : ja_H} (g : mo_G Zz h) (j : Nat) : 0 ≤ h 133 j ∧ h 133 j ≤ 3 := mo_gR g 133 j
theorem gW_evState {Zz : Zc} {h : ja_H} (g : mo_G Zz h) (j : Nat) {x : Int} (hx : 0 ≤ x ∧ x ≤ 3) : mo_G Zz (ja_up h 133 j x) := mo_gU g 133 j rfl hx
theorem gC_evRow {Zz : Zc} {h : ja_H} (g : mo_G Zz h) (j : Nat) : 0 ≤ h 134 j ∧ h 134 j ≤ 119 := mo_gR g 134 j
theorem gW_evRow {Zz : Zc} {h : ja_H} (g : mo_G Zz h) (j : Nat) {x : Int} (hx : 0 ≤ x ∧ x ≤ 119) : mo_G Zz (ja_up h 134 j x) := mo_gU g 134 j rfl hx
theorem gC_evAt {Zz : Zc} {h : ja_H} (g : mo_G Zz h) (j : Nat) : (-1) ≤ h 135 j ∧ h 135 j ≤ 120 := mo_gR g 135 j
theorem gW_evAt {Zz : Zc} {h : ja_H} (g : mo_G Zz h) (j : Nat) {x : Int} (hx : (-1) ≤ x ∧ x ≤ 120) : mo_G Zz (ja_up h 135 j x) := mo_gU g 135 j rfl hx
theorem gF_ev {Zz : Zc} {h : ja_H} (g : mo_G Zz h) : 0 ≤ h 0 202 ∧ h 0 202 ≤ 1000 := mo_gR g 0 202
theorem gP_ev {Zz : Zc} {h : ja_H} (g : mo_G Zz h) {x : Int} (hx : 0 ≤ x ∧ x ≤ 1000) : mo_G Zz (ja_up h 0 202 x) := mo_gU g 0 202 rfl hx
theorem gF_isSo {Zz : Zc} {h : ja_H} (g : mo_G Zz h) : 0 ≤ h 0 203 ∧ h 0 203 ≤ 1 := mo_gR g 0 203
theorem gP_isSo {Zz : Zc} {h : ja_H} (g : mo_G Zz h) {x : Int} (hx : 0 ≤ x ∧ x ≤ 1) : mo_G Zz (ja_up h 0 203 x) := mo_gU g 0 203 rfl hx
theorem gC_ePileKind {Zz : Zc} {h : ja_H} (g : mo_G Zz h) (j : Nat) : 0 ≤ h 136 j ∧ h 136 j ≤ 2 := mo_gR g 136 j
theorem gW_ePileKind {h : ja_H} (g : mo_G mo_zr h) (j : Nat) {x : Int} (hx : 0 ≤ x ∧ x ≤ 2) : mo_G mo_zr (ja_up h 136 j x) := mo_gV g 136 j hx
theorem gC_ePileValue {Zz : Zc} {h : ja_H} (g : mo_G Zz h) (j : Nat) : (-2147483648) ≤ h 137 j ∧ h 137 j ≤ 2147483647 := mo_gR g 137 j
theorem gW_ePileValue {h : ja_H} (g : mo_G mo_zr h) (j : Nat) {x : Int} (hx : (-2147483648) ≤ x ∧ x ≤ 2147483647) : mo_G mo_zr (ja_up h 137 j x) := mo_gV g 137 j hx
theorem gF_ePile {Zz : Zc} {h : ja_H} (g : mo_G Zz h) : 0 ≤ h 0 206 ∧ h 0 206 ≤ 64 := mo_gR g 0 206
theorem gP_ePile {Zz : Zc} {h : ja_H} (g : mo_G Zz h) {x : Int} (hx : 0 ≤ x ∧ x ≤ 64) : mo_G Zz (ja_up h 0 206 x) := mo_gU g 0 206 rfl hx
theorem gF_eFails {Zz : Zc} {h : ja_H} (g : mo_G Zz h) : 0 ≤ h 0 207 ∧ h 0 207 ≤ 1 := mo_gR g 0 207
theorem gP_eFails {Zz : Zc} {h : ja_H} (g : mo_G Zz h) {x : Int} (hx : 0 ≤ x ∧ x ≤ 1) : mo_G Zz (ja_up h 0 207 x) := mo_gU g 0 207 rfl hx
theorem gF_thrown {Zz : Zc} {h : ja_H} (g : mo_G Zz h) : 0 ≤ h 0 208 ∧ h 0 208 ≤ 2 := mo_gR g 0 208
theorem gP_thrown {Zz : Zc} {h : ja_H} (g : mo_G Zz h) {x : Int} (hx : 0 ≤ x ∧ x ≤ 2) : mo_G Zz (ja_up h 0 208 x) := mo_gU g 0 208 rfl hx
def mo_ml0 : List ck_M := [(yX12_thrown, cX12_thrown, (1, (some .int)), (12, 0, false), (7520, 7518, 7519, 4878)),
  (yX12_feed, cX12_feed, (5, (some .int)), (12, 2, false), (7524, 7522, 7523, 4878)),
  (yX12_wipe, cX12_wipe, (2, (some .int)), (12, 0, false), (7528, 7526, 7527, 4878)),
  (yX12_compile, cX12_compile, (2, (some .int)), (12, 0, false), (7532, 7530, 7531, 4878)),
  (yX12_clearAll, cX12_clearAll, (1, none), (12, 0, false), (7536, 7535, 2318, 4878)),
  (yX12_scan, cX12_scan, (4, none), (12, 0, false), (7540, 7539, 2319, 4878)),
  (yX12_skip, cX12_skip, (5, (some .int)), (12, 1, false), (7544, 7543, 2560, 4878)),
  (yX12_byteAt, cX12_byteAt, (2, (some .int)), (12, 1, false), (7548, 7547, 2561, 4878)),
  (yX12_isLetter, cX12_isLetter, (1, (some .boolean)), (12, 1, true), (7551, 7550, 0, 4878)),
  (yX12_tokenName, cX12_tokenName, (6, none), (12, 1, false), (7555, 7554, 2562, 4878)),
  (yX12_isDigit, cX12_isDigit, (1, (some .boolean)), (12, 1, true), (7558, 7557, 0, 4878)),
  (yX12_wordOf, cX12_wordOf, (3, (some .int)), (12, 1, true), (7562, 7561, 0, 4878))]
def mo_ml1 : List ck_M := [(yX12_firstWords, cX12_firstWords, (2, (some .int)), (12, 1, true), (7565, 7564, 0, 4878)),
  (yX12_lastWords, cX12_lastWords, (2, (some .int)), (12, 1, true), (7590, 7589, 0, 4878)),
  (yX12_nameOf, cX12_nameOf, (6, (some .int)), (12, 2, false), (7616, 7615, 2563, 4878)),
  (yX12_tokenWhole, cX12_tokenWhole, (4, none), (12, 1, false), (7620, 7619, 2564, 4878)),
  (yX12_tokenPattern, cX12_tokenPattern, (5, none), (12, 1, false), (7624, 7623, 2565, 4878)),
  (yX12_partEnd, cX12_partEnd, (3, (some .int)), (12, 1, false), (7628, 7627, 2566, 4878)),
  (yX12_tokenSign, cX12_tokenSign, (5, none), (12, 1, false), (7632, 7631, 2567, 4878)),
  (yX12_item, cX12_item, (3, (some .boolean)), (12, 0, false), (7636, 7635, 2568, 4878)),
  (yX12_isWord, cX12_isWord, (2, (some .boolean)), (12, 1, false), (7640, 7639, 2569, 4878)),
  (yX12_take, cX12_take, (1, (some .boolean)), (12, 0, false), (7644, 7643, 2570, 4878)),
  (yX12_halt, cX12_halt, (2, (some .boolean)), (12, 1, false), (7648, 7647, 2571, 4878)),
  (yX12_classItem, cX12_classItem, (3, (some .boolean)), (12, 0, false), (7652, 7651, 2572, 4878))]
def mo_ml2 : List ck_M := [(yX12_isName, cX12_isName, (1, (some .boolean)), (12, 0, false), (7656, 7655, 2573, 4878)),
  (yX12_name, cX12_name, (1, (some .boolean)), (12, 0, false), (7660, 7659, 2574, 4878)),
  (yX12_wrong, cX12_wrong, (1, (some .boolean)), (12, 0, false), (7680, 7663, 2575, 4878)),
  (yX12_sign, cX12_sign, (2, (some .boolean)), (12, 1, false), (7684, 7683, 2816, 4878)),
  (yX12_isSign, cX12_isSign, (2, (some .boolean)), (12, 1, false), (7688, 7687, 2817, 4878)),
  (yX12_member, cX12_member, (4, (some .boolean)), (12, 1, false), (7692, 7691, 2818, 4878)),
  (yX12_id, cX12_id, (2, (some .int)), (12, 1, false), (7696, 7695, 2819, 4878)),
  (yX12_method, cX12_method, (5, (some .boolean)), (12, 1, false), (7700, 7699, 2820, 4878)),
  (yX12_beginBody, cX12_beginBody, (3, none), (12, 2, false), (7704, 7703, 2821, 4878)),
  (yX12_newPoint, cX12_newPoint, (3, (some .int)), (12, 1, false), (7708, 7707, 2822, 4878)),
  (yX12_paramRow, cX12_paramRow, (3, (some .boolean)), (12, 0, false), (7712, 7711, 2823, 4878)),
  (yX12_param, cX12_param, (3, none), (12, 1, false), (7716, 7715, 2824, 4878))]
def mo_ml3 : List ck_M := [(yX12_judge, cX12_judge, (4, none), (12, 2, false), (7720, 7719, 2825, 4878)),
  (yX12_block, cX12_block, (1, (some .boolean)), (12, 0, false), (7724, 7723, 2826, 4878)),
  (yX12_later, cX12_later, (5, (some .boolean)), (12, 4, false), (7728, 7727, 2827, 4878)),
  (yX12_loop, cX12_loop, (3, (some .boolean)), (12, 0, false), (7732, 7731, 2828, 4878)),
  (yX12_expressionAct, cX12_expressionAct, (5, (some .boolean)), (12, 3, false), (7736, 7735, 2829, 4878)),
  (yX12_expression, cX12_expression, (4, (some .boolean)), (12, 1, false), (7740, 7739, 2830, 4878)),
  (yX12_beginsExpression, cX12_beginsExpression, (2, (some .boolean)), (12, 0, false), (7744, 7743, 2831, 4878)),
  (yX12_enter, cX12_enter, (1, (some .boolean)), (12, 0, false), (7748, 7747, 3072, 4878)),
  (yX12_operators, cX12_operators, (5, (some .boolean)), (12, 1, false), (7752, 7751, 3073, 4878)),
  (yX12_strength, cX12_strength, (1, (some .int)), (12, 0, false), (7756, 7755, 3074, 4878)),
  (yX12_emit, cX12_emit, (4, (some .int)), (12, 3, false), (7760, 7759, 3075, 4878)),
  (yX12_operand, cX12_operand, (4, (some .boolean)), (12, 0, false), (7764, 7763, 3076, 4878))]
def mo_ml4 : List ck_M := [(yX12_load, cX12_load, (5, none), (12, 1, false), (7768, 7767, 3077, 4878)),
  (yX12_want, cX12_want, (4, none), (12, 3, false), (7772, 7771, 3078, 4878)),
  (yX12_tail, cX12_tail, (3, (some .boolean)), (12, 0, false), (7776, 7775, 3079, 4878)),
  (yX12_argument, cX12_argument, (2, (some .boolean)), (12, 1, false), (7780, 7779, 3080, 4878)),
  (yX12_pickAct, cX12_pickAct, (8, (some .boolean)), (12, 2, false), (7784, 7783, 3081, 4878)),
  (yX12_beginsPick, cX12_beginsPick, (3, (some .boolean)), (12, 0, false), (7788, 7787, 3082, 4878)),
  (yX12_single, cX12_single, (5, (some .boolean)), (12, 0, false), (7792, 7791, 3083, 4878)),
  (yX12_use, cX12_use, (5, (some .boolean)), (12, 0, false), (7796, 7795, 3084, 4878)),
  (yX12_node, cX12_node, (6, (some .int)), (12, 4, false), (7800, 7799, 3085, 4878)),
  (yX12_paramOf, cX12_paramOf, (3, (some .int)), (12, 1, false), (7804, 7803, 3086, 4878)),
  (yX12_bind, cX12_bind, (4, none), (12, 3, false), (7808, 7807, 3087, 4878)),
  (yX12_leaf, cX12_leaf, (2, (some .boolean)), (12, 1, false), (7812, 7811, 3328, 4878))]
def mo_ml5 : List ck_M := [(yX12_named, cX12_named, (4, (some .int)), (12, 2, false), (7816, 7815, 3329, 4878)),
  (yX12_args, cX12_args, (4, (some .boolean)), (12, 0, false), (7820, 7819, 3330, 4878)),
  (yX12_pattern, cX12_pattern, (9, (some .boolean)), (12, 1, false), (7824, 7823, 3331, 4878)),
  (yX12_joined, cX12_joined, (6, (some .boolean)), (12, 1, false), (7828, 7827, 3332, 4878)),
  (yX12_stateAct, cX12_stateAct, (5, (some .boolean)), (12, 3, false), (7832, 7831, 3333, 4878)),
  (yX12_beginsState, cX12_beginsState, (1, (some .boolean)), (12, 0, false), (7836, 7835, 3334, 4878)),
  (yX12_state, cX12_state, (3, (some .boolean)), (12, 0, false), (7840, 7839, 3335, 4878)),
  (yX12_simple, cX12_simple, (2, (some .boolean)), (12, 1, false), (7844, 7843, 3336, 4878)),
  (yX12_know, cX12_know, (3, none), (12, 1, false), (7848, 7847, 3337, 4878)),
  (yX12_evaluated, cX12_evaluated, (3, (some .boolean)), (12, 0, false), (7852, 7851, 3338, 4878)),
  (yX12_assigned, cX12_assigned, (3, (some .boolean)), (12, 2, false), (7856, 7855, 3339, 4878)),
  (yX12_otherwise, cX12_otherwise, (5, (some .boolean)), (12, 1, false), (7860, 7859, 3340, 4878))]
def mo_ml6 : List ck_M := [(yX12_tried, cX12_tried, (8, (some .boolean)), (12, 1, false), (7864, 7863, 3341, 4878)),
  (yX12_aspectItem, cX12_aspectItem, (3, (some .boolean)), (12, 0, false), (7868, 7867, 3342, 4878)),
  (yX12_word, cX12_word, (2, (some .boolean)), (12, 1, false), (7872, 7871, 3343, 4878)),
  (yX12_part, cX12_part, (1, (some .boolean)), (12, 0, false), (7876, 7875, 3584, 4878)),
  (yX12_aspectField, cX12_aspectField, (4, (some .boolean)), (12, 0, false), (7880, 7879, 3585, 4878)),
  (yX12_told, cX12_told, (2, (some .boolean)), (12, 0, false), (7884, 7883, 3586, 4878)),
  (yX12_pick, cX12_pick, (3, (some .boolean)), (12, 0, false), (7888, 7887, 3587, 4878)),
  (yX12_pickTree, cX12_pickTree, (1, (some .boolean)), (12, 0, false), (7892, 7891, 3588, 4878)),
  (yX12_advice, cX12_advice, (4, (some .boolean)), (12, 0, false), (7896, 7895, 3589, 4878)),
  (yX12_bar, cX12_bar, (2, (some .boolean)), (12, 0, false), (7900, 7899, 3590, 4878)),
  (yX12_finish, cX12_finish, (4, none), (12, 0, false), (7904, 7903, 3591, 4878)),
  (yX12_twiceTold, cX12_twiceTold, (4, none), (12, 0, false), (7908, 7907, 3592, 4878))]
def mo_ml7 : List ck_M := [(yX12_classOf, cX12_classOf, (3, (some .int)), (12, 1, false), (7912, 7911, 3593, 4878)),
  (yX12_aspectOf, cX12_aspectOf, (3, (some .int)), (12, 1, false), (7916, 7915, 3594, 4878)),
  (yX12_wanted, cX12_wanted, (5, none), (12, 0, false), (7936, 7919, 3595, 4878)),
  (yX12_aspectFieldOf, cX12_aspectFieldOf, (4, (some .int)), (12, 2, false), (7940, 7939, 3596, 4878)),
  (yX12_parents, cX12_parents, (3, none), (12, 0, false), (7944, 7943, 3597, 4878)),
  (yX12_under, cX12_under, (4, none), (12, 2, false), (7948, 7947, 3598, 4878)),
  (yX12_isAbove, cX12_isAbove, (4, (some .boolean)), (12, 2, false), (7952, 7951, 3599, 4878)),
  (yX12_layFields, cX12_layFields, (7, none), (12, 0, false), (7956, 7955, 3840, 4878)),
  (yX12_layNodes, cX12_layNodes, (6, none), (12, 0, false), (7960, 7959, 3841, 4878)),
  (yX12_typeMatches, cX12_typeMatches, (7, (some .boolean)), (12, 2, false), (7964, 7963, 3842, 4878)),
  (yX12_goesName, cX12_goesName, (3, (some .boolean)), (12, 2, false), (7968, 7967, 3843, 4878)),
  (yX12_goes, cX12_goes, (9, (some .boolean)), (12, 4, false), (7972, 7971, 3844, 4878))]
def mo_ml8 : List ck_M := [(yX12_layOrder, cX12_layOrder, (5, none), (12, 0, false), (7976, 7975, 3845, 4878)),
  (yX12_foresee, cX12_foresee, (8, none), (12, 1, false), (7980, 7979, 3846, 4878)),
  (yX12_aheadOf, cX12_aheadOf, (9, (some .int)), (12, 2, false), (7984, 7983, 3847, 4878)),
  (yX12_namedAhead, cX12_namedAhead, (6, (some .int)), (12, 2, false), (7988, 7987, 3848, 4878)),
  (yX12_withinAhead, cX12_withinAhead, (7, (some .int)), (12, 2, false), (7992, 7991, 3849, 4878)),
  (yX12_goesWord, cX12_goesWord, (7, (some .boolean)), (12, 3, false), (7997, 7996, 3850, 4878)),
  (yX12_selfAhead, cX12_selfAhead, (5, (some .int)), (12, 2, false), (8001, 8000, 3851, 4878)),
  (yX12_standsIn, cX12_standsIn, (2, (some .int)), (12, 1, false), (8005, 8004, 3852, 4878)),
  (yX12_argsAhead, cX12_argsAhead, (5, (some .int)), (12, 2, false), (8009, 8008, 3853, 4878)),
  (yX12_lineOf, cX12_lineOf, (4, (some .int)), (12, 1, false), (8013, 8012, 3854, 4878)),
  (yX12_fault, cX12_fault, (2, (some .int)), (12, 1, false), (8017, 8015, 8016, 4878)),
  (yX12_count, cX12_count, (2, (some .int)), (12, 1, false), (8021, 8019, 8020, 4878))]
def mo_ml9 : List ck_M := [(yX12_point, cX12_point, (3, (some .int)), (12, 2, false), (8025, 8023, 8024, 4878)),
  (yX12_meets, cX12_meets, (4, (some .int)), (12, 3, false), (8029, 8027, 8028, 4878)),
  (yX12_finding, cX12_finding, (3, (some .int)), (12, 2, false), (8033, 8031, 8032, 4878)),
  (yX12_ordered, cX12_ordered, (2, (some .int)), (12, 1, false), (8037, 8035, 8036, 4878)),
  (yX12_above, cX12_above, (2, (some .int)), (12, 1, false), (8041, 8039, 8040, 4878)),
  (yX12_begin, cX12_begin, (3, (some .int)), (12, 1, false), (8045, 8043, 8044, 4878)),
  (yX12_pushBody, cX12_pushBody, (6, (some .int)), (12, 3, false), (8049, 8048, 3855, 4878)),
  (yX12_push, cX12_push, (3, (some .int)), (12, 1, false), (8053, 8052, 4096, 4878)),
  (yX12_run, cX12_run, (6, (some .int)), (12, 1, false), (8057, 8055, 8056, 4878)),
  (yX12_rest, cX12_rest, (3, none), (12, 0, false), (8061, 8060, 4097, 4878)),
  (yX12_act, cX12_act, (9, none), (12, 1, false), (8065, 8064, 4098, 4878)),
  (yX12_methodIn, cX12_methodIn, (5, (some .int)), (12, 2, false), (8069, 8068, 4099, 4878))]
def mo_ml10 : List ck_M := [(yX12_fails, cX12_fails, (2, none), (12, 1, false), (8073, 8072, 4100, 4878)),
  (yX12_reach, cX12_reach, (7, none), (12, 4, false), (8077, 8076, 4101, 4878)),
  (yX12_hold, cX12_hold, (7, none), (12, 1, false), (8081, 8080, 4102, 4878)),
  (yX12_isHeld, cX12_isHeld, (4, (some .boolean)), (12, 2, false), (8085, 8084, 4103, 4878)),
  (yX12_ask, cX12_ask, (3, none), (12, 2, false), (8089, 8088, 4104, 4878)),
  (yX12_first, cX12_first, (7, none), (12, 1, false), (8093, 8092, 4105, 4878)),
  (yX12_answer, cX12_answer, (2, none), (12, 1, false), (8097, 8096, 4106, 4878)),
  (yX12_isLeaf, cX12_isLeaf, (7, (some .boolean)), (12, 2, false), (8102, 8101, 4107, 4878)),
  (yX12_meetsName, cX12_meetsName, (6, (some .boolean)), (12, 4, false), (8106, 8105, 4108, 4878)),
  (yX12_isOf, cX12_isOf, (4, (some .boolean)), (12, 3, false), (8110, 8109, 4109, 4878)),
  (yX12_isIf, cX12_isIf, (8, (some .boolean)), (12, 1, false), (8114, 8113, 4110, 4878)),
  (yX12_ePut, cX12_ePut, (3, none), (12, 2, false), (8118, 8117, 4111, 4878))]
def mo_ml11 : List ck_M := [(yX12_heldAt, cX12_heldAt, (4, (some .int)), (12, 3, false), (8122, 8121, 4352, 4878)),
  (yX12_isTrue, cX12_isTrue, (2, (some .boolean)), (12, 2, true), (8125, 8124, 0, 4878)),
  (yX12_asWhole, cX12_asWhole, (1, (some .int)), (12, 1, true), (8128, 8127, 0, 4878)),
  (yX12_ifWord, cX12_ifWord, (7, none), (12, 1, false), (8132, 8131, 4353, 4878)),
  (yX12_both, cX12_both, (3, (some .int)), (12, 3, true), (8135, 8134, 0, 4878)),
  (yX12_next, cX12_next, (6, none), (12, 1, false), (8139, 8138, 4354, 4878)),
  (yX12_undo, cX12_undo, (4, none), (12, 1, false), (8143, 8142, 4355, 4878)),
  (yX12_make, cX12_make, (8, none), (12, 2, false), (8147, 8146, 4356, 4878)),
  (yX12_initIn, cX12_initIn, (4, (some .int)), (12, 1, false), (8151, 8150, 4357, 4878)),
  (yX12_isInit, cX12_isInit, (3, (some .boolean)), (12, 1, false), (8155, 8154, 4358, 4878)),
  (yX12_result, cX12_result, (3, none), (12, 2, false), (8159, 8158, 4359, 4878)),
  (yX12_fieldIn, cX12_fieldIn, (6, (some .int)), (12, 2, false), (8163, 8162, 4360, 4878))]
def mo_ml12 : List ck_M := [(yX12_beginAdvice, cX12_beginAdvice, (7, none), (12, 1, false), (8167, 8166, 4361, 4878)),
  (yX12_deliver, cX12_deliver, (2, none), (12, 0, false), (8171, 8170, 4362, 4878)),
  (yX12_raise, cX12_raise, (3, none), (12, 1, false), (8175, 8174, 4363, 4878)),
  (yX12_put, cX12_put, (3, none), (12, 2, false), (8195, 8194, 4364, 4878)),
  (yX12_leave, cX12_leave, (1, none), (12, 0, false), (8199, 8198, 4365, 4878)),
  (yX12_deliverRest, cX12_deliverRest, (5, none), (12, 1, false), (8203, 8202, 4366, 4878)),
  (yX12_takeArgs, cX12_takeArgs, (3, none), (12, 1, false), (8207, 8206, 4367, 4878)),
  (yX12_execute, cX12_execute, (6, none), (12, 2, false), (8211, 8210, 4608, 4878)),
  (yX12_binary, cX12_binary, (6, none), (12, 1, false), (8215, 8214, 4609, 4878)),
  (yX12_pointWord, cX12_pointWord, (7, none), (12, 2, false), (8219, 8218, 4610, 4878)),
  (yX12_go, cX12_go, (6, none), (12, 2, false), (8223, 8222, 4611, 4878)),
  (yX12_flowWord, cX12_flowWord, (9, none), (12, 2, false), (8227, 8226, 4612, 4878))]
def mo_ml13 : List ck_M := [(yX12_told_, cX12_told_, (2, (some .int)), (12, 1, false), (8231, 8229, 8230, 4878)),
  (yX12_output, cX12_output, (3, (some .int)), (12, 2, false), (8235, 8233, 8234, 4878)),
  (yX12_tell, cX12_tell, (3, (some .int)), (12, 3, true), (8238, 8237, 0, 4878)),
  (yX12_failure, cX12_failure, (2, (some .int)), (12, 1, false), (8242, 8240, 8241, 4878)),
  (yX12_row, cX12_row, (3, (some .int)), (12, 2, false), (8246, 8244, 8245, 4878)),
  (yX12_object, cX12_object, (6, (some .int)), (12, 3, false), (8250, 8248, 8249, 4878)),
  (yX12_held, cX12_held, (7, (some .int)), (12, 4, false), (8254, 8252, 8253, 4878))]
def mo_ml : List ck_M := mo_ml0 ++ (mo_ml1 ++ (mo_ml2 ++ (mo_ml3 ++ (mo_ml4 ++ (mo_ml5 ++ (mo_ml6 ++ (mo_ml7 ++ (mo_ml8 ++ (mo_ml9 ++ (mo_ml10 ++ (mo_ml11 ++ (mo_ml12 ++ (mo_ml13)))))))))))))
def mo_mt (mid : Nat) : ck_M := mo_ml.getD mid (yX12_thrown, cX12_thrown, (1, (some .int)), (12, 0, false), (7520, 7518, 7519, 4878))
theorem mo_mlo0 : mo_ml0.all ck_mchk = true := by decide +kernel
theorem mo_mlo1 : mo_ml1.all ck_mchk = true := by decide +kernel
theorem mo_mlo2 : mo_ml2.all ck_mchk = true := by decide +kernel
theorem mo_mlo3 : mo_ml3.all ck_mchk = true := by decide +kernel
theorem mo_mlo4 : mo_ml4.all ck_mchk = true := by decide +kernel
theorem mo_mlo5 : mo_ml5.all ck_mchk = true := by decide +kernel
theorem mo_mlo6 : mo_ml6.all ck_mchk = true := by decide +kernel
theorem mo_mlo7 : mo_ml7.all ck_mchk = true := by decide +kernel
theorem mo_mlo8 : mo_ml8.all ck_mchk = true := by decide +kernel
theorem mo_mlo9 : mo_ml9.all ck_mchk = true := by decide +kernel
theorem mo_mlo10 : mo_ml10.all ck_mchk = true := by decide +kernel
theorem mo_mlo11 : mo_ml11.all ck_mchk = true := by decide +kernel
theorem mo_mlo12 : mo_ml12.all ck_mchk = true := by decide +kernel
theorem mo_mlo13 : mo_ml13.all ck_mchk = true := by decide +kernel
theorem mo_mlok : mo_ml.all ck_mchk = true := by
  unfold mo_ml
  simp only [List.all_append, mo_mlo0, mo_mlo1, mo_mlo2, mo_mlo3, mo_mlo4, mo_mlo5, mo_mlo6, mo_mlo7, mo_mlo8, mo_mlo9, mo_mlo10, mo_mlo11, mo_mlo12, mo_mlo13, Bool.and_true]
theorem mo_mtok (mid : Nat) : ck_mok (mo_mt mid) := by
  refine ck_mchk_ok (List.all_eq_true.mp mo_mlok _ ?_)
  unfold mo_mt
  by_cases h : mid < mo_ml.length
  · rw [List.getD_eq_getElem?_getD, List.getElem?_eq_getElem h]
    exact List.getElem_mem h
  · rw [List.getD_eq_getElem?_getD, List.getElem?_eq_none (by omega)]
    exact List.mem_of_getElem? (i := 0) rfl
def mo_pl0 : List ck_P := [(7, 0, 12, 0, 6840), (13, 0, 12, 2, 6842), (16, 0, 12, 3, 6843), (19, 0, 12, 4, 6844), (22, 0, 12, 5, 6845), (25, 0, 12, 13, 6853), (28, 0, 12, 14, 6854), (31, 0, 12, 15, 6855), (34, 0, 12, 16, 6856), (37, 0, 12, 23, 6863), (40, 0, 12, 24, 6864), (43, 0, 12, 25, 6865), (46, 0, 12, 27, 6867), (49, 0, 12, 28, 6868), (53, 0, 12, 29, 6869), (56, 0, 12, 30, 6870), (59, 0, 12, 32, 6872), (62, 0, 12, 33, 6873), (65, 0, 12, 35, 6875), (68, 0, 12, 36, 6876), (71, 0, 12, 37, 6877), (74, 0, 12, 38, 6878), (77, 0, 12, 39, 6879), (80, 0, 12, 40, 6880), (83, 0, 12, 42, 6882), (86, 0, 12, 43, 6883), (89, 0, 12, 45, 6885), (92, 0, 12, 46, 6886), (95, 0, 12, 47, 6887), (98, 0, 12, 48, 6888), (101, 0, 12, 49, 6889), (104, 0, 12, 50, 6890), (107, 0, 12, 51, 6891), (110, 0, 12, 53, 6893), (113, 0, 12, 54, 6894), (116, 0, 12, 55, 6895), (119, 0, 12, 56, 6912), (122, 0, 12, 58, 6914), (125, 0, 12, 59, 6915), (128, 0, 12, 60, 6916)]
theorem mo_plo0 : mo_pl0.all (ck_pchk mo_mt 12) = true := by decide +kernel
theorem mo_pw0 {p : ck_P} (i : Nat) (h : mo_pl0[i]? = some p) : ck_pok mo_mt RX12 p := ck_pchk_ok (ci := 12) rfl mo_mtok (List.all_eq_true.mp mo_plo0 _ (List.mem_of_getElem? h))
def mo_pl1 : List ck_P := [(131, 0, 12, 62, 6918), (134, 0, 12, 63, 6919), (137, 0, 12, 65, 6921), (140, 0, 12, 69, 6925), (143, 0, 12, 70, 6926), (146, 0, 12, 71, 6927), (149, 0, 12, 73, 6929), (152, 0, 12, 78, 6934), (155, 0, 12, 80, 6936), (158, 0, 12, 81, 6937), (161, 0, 12, 83, 6939), (164, 0, 12, 89, 6945), (167, 0, 12, 90, 6946), (170, 0, 12, 91, 6947), (173, 0, 12, 92, 6948), (176, 0, 12, 93, 6949), (179, 0, 12, 94, 6950), (182, 0, 12, 96, 6952), (185, 0, 12, 97, 6953), (188, 0, 12, 98, 6954), (191, 0, 12, 99, 6955), (194, 0, 12, 100, 6956), (197, 0, 12, 101, 6957), (200, 0, 12, 102, 6958), (203, 0, 12, 103, 6959), (206, 0, 12, 104, 6960), (209, 0, 12, 105, 6961), (212, 0, 12, 106, 6962), (215, 0, 12, 107, 6963), (218, 0, 12, 108, 6964), (222, 0, 12, 110, 6966), (225, 0, 12, 111, 6967), (228, 0, 12, 112, 6968), (231, 0, 12, 114, 6970), (234, 0, 12, 115, 6971), (237, 0, 12, 116, 6972), (240, 0, 12, 117, 6973), (243, 0, 12, 120, 6976), (246, 0, 12, 121, 6977), (249, 0, 12, 122, 6978)]
theorem mo_plo1 : mo_pl1.all (ck_pchk mo_mt 12) = true := by decide +kernel
theorem mo_pw1 {p : ck_P} (i : Nat) (h : mo_pl1[i]? = some p) : ck_pok mo_mt RX12 p := ck_pchk_ok (ci := 12) rfl mo_mtok (List.all_eq_true.mp mo_plo1 _ (List.mem_of_getElem? h))
def mo_pl2 : List ck_P := [(252, 0, 12, 123, 6979), (255, 0, 12, 124, 6980), (258, 0, 12, 125, 6981), (261, 0, 12, 126, 6982), (264, 0, 12, 133, 6989), (267, 0, 12, 134, 6990), (270, 0, 12, 136, 6992), (273, 0, 12, 137, 6993), (276, 0, 12, 139, 6995), (279, 0, 12, 140, 6996), (282, 0, 12, 141, 6997), (285, 0, 12, 142, 6998), (288, 0, 12, 143, 6999), (291, 0, 12, 147, 7003), (294, 0, 12, 148, 7004), (297, 0, 12, 151, 7007), (300, 0, 12, 152, 7008), (303, 0, 12, 153, 7009), (306, 0, 12, 154, 7010), (309, 0, 12, 155, 7011), (312, 0, 12, 156, 7012), (315, 0, 12, 157, 7013), (318, 0, 12, 158, 7014), (321, 0, 12, 159, 7015), (324, 0, 12, 160, 7016), (327, 0, 12, 161, 7017), (330, 0, 12, 162, 7018), (333, 0, 12, 163, 7019), (336, 0, 12, 164, 7020), (339, 0, 12, 166, 7022), (342, 0, 12, 167, 7023), (345, 0, 12, 169, 7025), (348, 0, 12, 170, 7026), (351, 0, 12, 171, 7027), (354, 0, 12, 173, 7029), (357, 0, 12, 174, 7030), (360, 0, 12, 175, 7031), (363, 0, 12, 176, 7032), (366, 0, 12, 177, 7033), (369, 0, 12, 178, 7034)]
theorem mo_plo2 : mo_pl2.all (ck_pchk mo_mt 12) = true := by decide +kernel
theorem mo_pw2 {p : ck_P} (i : Nat) (h : mo_pl2[i]? = some p) : ck_pok mo_mt RX12 p := ck_pchk_ok (ci := 12) rfl mo_mtok (List.all_eq_true.mp mo_plo2 _ (List.mem_of_getElem? h))
def mo_pl3 : List ck_P := [(372, 0, 12, 179, 7035), (375, 0, 12, 180, 7036), (378, 0, 12, 181, 7037), (381, 0, 12, 182, 7038), (384, 0, 12, 183, 7039), (387, 0, 12, 184, 7040), (390, 0, 12, 185, 7041), (393, 0, 12, 192, 7048), (396, 0, 12, 193, 7049), (399, 0, 12, 194, 7050), (402, 0, 12, 195, 7051), (405, 0, 12, 198, 7054), (408, 0, 12, 199, 7055), (411, 0, 12, 200, 7056), (414, 0, 12, 201, 7057), (417, 0, 12, 204, 7060), (420, 0, 12, 205, 7061), (423, 0, 12, 208, 7064), (427, 0, 12, 1, 6841), (430, 0, 12, 118, 6974), (434, 0, 12, 127, 6983), (437, 2, 7, 0, 7545), (441, 2, 12, 0, 7563), (445, 2, 13, 0, 7588), (536, 0, 12, 6, 6846), (539, 2, 8, 0, 7549), (543, 2, 10, 0, 7556), (548, 2, 11, 0, 7560), (551, 2, 14, 0, 7613), (555, 2, 17, 0, 7625), (558, 2, 6, 0, 7541), (561, 2, 9, 0, 7552), (565, 2, 15, 0, 7617), (568, 2, 16, 0, 7621), (571, 2, 18, 0, 7629), (574, 0, 12, 7, 6847), (577, 0, 12, 8, 6848), (580, 0, 12, 9, 6849), (583, 2, 22, 0, 7645), (586, 2, 28, 0, 7685)]
theorem mo_plo3 : mo_pl3.all (ck_pchk mo_mt 12) = true := by decide +kernel
theorem mo_pw3 {p : ck_P} (i : Nat) (h : mo_pl3[i]? = some p) : ck_pok mo_mt RX12 p := ck_pchk_ok (ci := 12) rfl mo_mtok (List.all_eq_true.mp mo_plo3 _ (List.mem_of_getElem? h))
def mo_pl4 : List ck_P := [(589, 2, 21, 0, 7641), (593, 2, 26, 0, 7661), (596, 2, 20, 0, 7637), (599, 2, 24, 0, 7653), (602, 0, 12, 11, 6851), (605, 0, 12, 12, 6852), (608, 0, 12, 17, 6857), (611, 0, 12, 113, 6969), (614, 0, 12, 18, 6858), (617, 0, 12, 88, 6944), (620, 0, 12, 74, 6930), (623, 0, 12, 75, 6931), (626, 0, 12, 68, 6924), (629, 2, 4, 0, 7533), (632, 2, 5, 0, 7537), (635, 2, 19, 0, 7633), (638, 2, 82, 0, 7901), (641, 2, 105, 0, 8010), (644, 0, 12, 10, 6850), (647, 0, 12, 22, 6862), (650, 0, 12, 26, 6866), (653, 0, 12, 31, 6871), (656, 0, 12, 34, 6874), (659, 0, 12, 41, 6881), (662, 0, 12, 44, 6884), (665, 0, 12, 52, 6892), (668, 0, 12, 57, 6913), (671, 0, 12, 61, 6917), (674, 0, 12, 64, 6920), (677, 0, 12, 66, 6922), (680, 0, 12, 67, 6923), (683, 0, 12, 72, 6928), (686, 0, 12, 95, 6951), (689, 0, 12, 109, 6965), (692, 0, 12, 84, 6940), (695, 0, 12, 85, 6941), (698, 0, 12, 86, 6942), (701, 0, 12, 87, 6943), (704, 0, 12, 82, 6938), (707, 0, 12, 119, 6975)]
theorem mo_plo4 : mo_pl4.all (ck_pchk mo_mt 12) = true := by decide +kernel
theorem mo_pw4 {p : ck_P} (i : Nat) (h : mo_pl4[i]? = some p) : ck_pok mo_mt RX12 p := ck_pchk_ok (ci := 12) rfl mo_mtok (List.all_eq_true.mp mo_plo4 _ (List.mem_of_getElem? h))
def mo_pl5 : List ck_P := [(710, 0, 12, 77, 6933), (713, 0, 12, 79, 6935), (716, 2, 30, 0, 7693), (719, 2, 36, 0, 7717), (723, 2, 23, 0, 7649), (726, 2, 32, 0, 7701), (729, 2, 37, 0, 7721), (732, 2, 46, 0, 7757), (736, 2, 73, 0, 7865), (739, 2, 25, 0, 7657), (742, 2, 27, 0, 7681), (745, 2, 29, 0, 7689), (748, 2, 31, 0, 7697), (751, 2, 33, 0, 7705), (754, 2, 34, 0, 7709), (757, 2, 35, 0, 7713), (760, 0, 12, 76, 6932), (763, 2, 74, 0, 7869), (766, 2, 75, 0, 7873), (769, 2, 76, 0, 7877), (771, 2, 77, 0, 7881), (774, 2, 78, 0, 7885), (777, 2, 80, 0, 7893), (780, 2, 81, 0, 7897), (783, 2, 49, 0, 7769), (787, 2, 79, 0, 7889), (790, 2, 38, 0, 7725), (794, 2, 39, 0, 7729), (797, 2, 40, 0, 7733), (801, 2, 52, 0, 7781), (805, 2, 64, 0, 7829), (808, 2, 42, 0, 7741), (811, 2, 65, 0, 7833), (814, 2, 43, 0, 7745), (817, 2, 66, 0, 7837), (820, 2, 68, 0, 7845), (823, 2, 69, 0, 7849), (826, 2, 70, 0, 7853), (829, 2, 71, 0, 7857), (832, 2, 72, 0, 7861)]
theorem mo_plo5 : mo_pl5.all (ck_pchk mo_mt 12) = true := by decide +kernel
theorem mo_pw5 {p : ck_P} (i : Nat) (h : mo_pl5[i]? = some p) : ck_pok mo_mt RX12 p := ck_pchk_ok (ci := 12) rfl mo_mtok (List.all_eq_true.mp mo_plo5 _ (List.mem_of_getElem? h))
def mo_pl6 : List ck_P := [(835, 2, 67, 0, 7841), (838, 0, 12, 19, 6859), (841, 0, 12, 20, 6860), (844, 2, 41, 0, 7737), (847, 2, 44, 0, 7749), (850, 2, 47, 0, 7761), (853, 2, 50, 0, 7773), (856, 0, 12, 21, 6861), (859, 2, 51, 0, 7777), (862, 2, 45, 0, 7753), (866, 2, 48, 0, 7765), (869, 2, 53, 0, 7785), (872, 2, 54, 0, 7789), (875, 2, 63, 0, 7825), (878, 2, 56, 0, 7797), (882, 2, 59, 0, 7809), (885, 2, 57, 0, 7801), (888, 2, 58, 0, 7805), (891, 2, 55, 0, 7793), (894, 2, 60, 0, 7813), (897, 2, 61, 0, 7817), (900, 2, 62, 0, 7821), (903, 2, 84, 0, 7909), (906, 2, 85, 0, 7913), (909, 2, 87, 0, 7937), (912, 2, 89, 0, 7945), (915, 2, 90, 0, 7949), (918, 2, 83, 0, 7905), (921, 2, 86, 0, 7917), (924, 2, 88, 0, 7941), (927, 2, 91, 0, 7953), (930, 2, 92, 0, 7957), (933, 2, 96, 0, 7973), (936, 2, 97, 0, 7977), (939, 2, 95, 0, 7969), (942, 2, 94, 0, 7965), (945, 2, 93, 0, 7961), (950, 2, 101, 0, 7994), (954, 2, 103, 0, 8002), (957, 2, 99, 0, 7985)]
theorem mo_plo6 : mo_pl6.all (ck_pchk mo_mt 12) = true := by decide +kernel
theorem mo_pw6 {p : ck_P} (i : Nat) (h : mo_pl6[i]? = some p) : ck_pok mo_mt RX12 p := ck_pchk_ok (ci := 12) rfl mo_mtok (List.all_eq_true.mp mo_plo6 _ (List.mem_of_getElem? h))
def mo_pl7 : List ck_P := [(960, 2, 100, 0, 7989), (963, 2, 102, 0, 7998), (966, 2, 104, 0, 8006), (969, 2, 98, 0, 7981), (972, 0, 12, 128, 6984), (975, 0, 12, 130, 6986), (978, 0, 12, 131, 6987), (981, 0, 12, 132, 6988), (984, 0, 12, 135, 6991), (987, 0, 12, 138, 6994), (990, 0, 12, 144, 7000), (993, 0, 12, 149, 7005), (996, 0, 12, 150, 7006), (999, 0, 12, 165, 7021), (1002, 0, 12, 168, 7024), (1005, 0, 12, 172, 7028), (1008, 0, 12, 186, 7042), (1010, 0, 12, 145, 7001), (1013, 0, 12, 146, 7002), (1016, 0, 12, 129, 6985), (1018, 2, 114, 0, 8046), (1021, 2, 115, 0, 8050), (1024, 0, 12, 187, 7043), (1027, 0, 12, 188, 7044), (1030, 0, 12, 189, 7045), (1033, 2, 117, 0, 8058), (1036, 2, 145, 0, 8168), (1039, 2, 151, 0, 8208), (1042, 2, 146, 0, 8172), (1045, 2, 147, 0, 8192), (1048, 2, 149, 0, 8200), (1051, 2, 142, 0, 8156), (1054, 2, 148, 0, 8196), (1057, 0, 12, 190, 7046), (1060, 0, 12, 191, 7047), (1063, 2, 150, 0, 8204), (1066, 2, 144, 0, 8164), (1069, 2, 118, 0, 8062), (1072, 2, 120, 0, 8070), (1076, 2, 122, 0, 8078)]
theorem mo_plo7 : mo_pl7.all (ck_pchk mo_mt 12) = true := by decide +kernel
theorem mo_pw7 {p : ck_P} (i : Nat) (h : mo_pl7[i]? = some p) : ck_pok mo_mt RX12 p := ck_pchk_ok (ci := 12) rfl mo_mtok (List.all_eq_true.mp mo_plo7 _ (List.mem_of_getElem? h))
def mo_pl8 : List ck_P := [(1079, 2, 141, 0, 8152), (1082, 2, 119, 0, 8066), (1085, 2, 121, 0, 8074), (1089, 2, 139, 0, 8144), (1092, 2, 143, 0, 8160), (1095, 2, 140, 0, 8148), (1098, 2, 134, 0, 8126), (1102, 2, 132, 0, 8119), (1105, 2, 129, 0, 8107), (1108, 2, 152, 0, 8212), (1111, 2, 133, 0, 8123), (1114, 2, 153, 0, 8216), (1117, 2, 154, 0, 8220), (1120, 2, 155, 0, 8224), (1123, 2, 136, 0, 8133), (1126, 0, 12, 197, 7053), (1129, 0, 12, 196, 7052), (1132, 2, 123, 0, 8082), (1135, 0, 12, 202, 7058), (1138, 2, 124, 0, 8086), (1141, 2, 125, 0, 8090), (1144, 2, 137, 0, 8136), (1147, 0, 12, 203, 7059), (1150, 2, 126, 0, 8094), (1154, 2, 127, 0, 8099), (1157, 2, 138, 0, 8140), (1160, 2, 128, 0, 8103), (1163, 2, 130, 0, 8111), (1166, 0, 12, 206, 7062), (1169, 0, 12, 207, 7063), (1172, 2, 131, 0, 8115), (1175, 2, 135, 0, 8129), (1178, 2, 158, 0, 8236)]
theorem mo_plo8 : mo_pl8.all (ck_pchk mo_mt 12) = true := by decide +kernel
theorem mo_pw8 {p : ck_P} (i : Nat) (h : mo_pl8[i]? = some p) : ck_pok mo_mt RX12 p := ck_pchk_ok (ci := 12) rfl mo_mtok (List.all_eq_true.mp mo_plo8 _ (List.mem_of_getElem? h))
section
variable {l : Launch} {D : va_G} {cA : Nat → ClassId} {ad : Nat → Nat} {d nL pc : Nat} {cc : ByteArray} {rt : Option FieldType} {L : List (Nat × ja_V)} {S : List ja_V} {h : ja_H} {Q : Option ja_V → ja_H → Prop}
theorem ja_wk {sp : ja_S} {K : Nat} {own : String} {L2 : List (Nat × ja_V)} (hL : ∀ q ∈ L2, ja_g L q.1 = some q.2) (k : ja_J l D cA ad sp K d own cc nL rt pc L2 S h Q) : ja_J l D cA ad sp K d own cc nL rt pc L S h Q := by
  intro p e s m args below meth c H locs ls hx hb hml hr hown hts hnw hlt hlk hK hP hi hS hl
  refine k p e s m args below meth c H locs ls hx hb hml hr hown hts hnw hlt hlk hK hP hi hS ⟨hl.1, hl.2.1, ?_⟩
  intro q hq
  obtain ⟨r, hr, rfl⟩ := List.mem_map.mp hq
  exact ja_at hl (hL r hr)
abbrev mJ (l : Launch) (D : va_G) (cA : Nat → ClassId) (ad : Nat → Nat) (d : Nat) (cc : ByteArray) (nL : Nat) (rt : Option FieldType) (pc : Nat) (L : List (Nat × ja_V)) (S : List ja_V) (h : ja_H) (Q : Option ja_V → ja_H → Prop) : Prop := ja_J l D cA ad mo_sp mo_K d RX12 cc nL rt pc L S h Q
theorem mo_get (idx j : Nat) {v : ja_V} (hv : ja_fx mo_sp h 0 j = v) (hj : j < 209) (hw : Cond.fieldLink RX12 idx (TX12 j).1 (TX12 j).2.1 (TX12 j).2.2.1 ∈ ja_B) (hd : decode cc pc = .ok (.getfield idx, 3)) (k : mJ l D cA ad d cc nL rt (pc + 3) L (v :: S) h Q) : mJ l D cA ad d cc nL rt pc L ((2, ((0 : Nat) : Int)) :: S) h Q := by
  subst hv
  exact ja_get (ci := 12) (j := j) (q := 0) (N := 209) (C := RX12) (T := TX12) (by decide +kernel) (by decide +kernel) (by decide) rfl hj cl_in12 hw hd k
theorem mo_putI (idx j : Nat) {x : Int} (hj : j < 209) (hfin : (TX12 j).2.2.2 = false) (hft : (mo_sp 0).2 j = 0) (htj : tyX12 j = .int) (hw : Cond.fieldLink RX12 idx (TX12 j).1 (TX12 j).2.1 (TX12 j).2.2.1 ∈ ja_B) (hd : decode cc pc = .ok (.putfield idx, 3)) (k : mJ l D cA ad d cc nL rt (pc + 3) L S (ja_up h 0 j x) Q) : mJ l D cA ad d cc nL rt pc L ((0, x) :: (2, ((0 : Nat) : Int)) :: S) h Q :=
  ja_putI (x := x) (ci := 12) (j := j) (q := 0) (N := 209) (C := RX12) (T := TX12) (by decide +kernel) (by decide +kernel) (by decide) rfl hj cl_in12 tyX12 tyX12_ok nmX12 hfin hft htj hw hd k
theorem mo_putZ (idx j : Nat) {x : Int} (hj : j < 209) (hfin : (TX12 j).2.2.2 = false) (hft : (mo_sp 0).2 j = 0) (htj : tyX12 j = .boolean) (h01 : x = 0 ∨ x = 1) (hw : Cond.fieldLink RX12 idx (TX12 j).1 (TX12 j).2.1 (TX12 j).2.2.1 ∈ ja_B) (hd : decode cc pc = .ok (.putfield idx, 3)) (k : mJ l D cA ad d cc nL rt (pc + 3) L S (ja_up h 0 j x) Q) : mJ l D cA ad d cc nL rt pc L ((0, x) :: (2, ((0 : Nat) : Int)) :: S) h Q :=
  ja_putZ (x := x) (ci := 12) (j := j) (q := 0) (N := 209) (C := RX12) (T := TX12) (by decide +kernel) (by decide +kernel) (by decide) rfl hj cl_in12 tyX12 tyX12_ok nmX12 hfin hft htj h01 hw hd k
theorem mo_fw {i idx j pl : Nat} {p : ck_P} (h : ck_pok mo_mt RX12 p) (e : p = (idx, 0, 12, j, pl)) : Cond.fieldLink RX12 idx (TX12 j).1 (TX12 j).2.1 (TX12 j).2.2.1 ∈ ja_B := by
  subst e
  obtain ⟨r, hr, hm⟩ := h.1 rfl
  have hr' : some (RX12, TX12, 209) = some r := hr
  cases hr'
  exact hm
theorem fw_text : Cond.fieldLink RX12 7 (TX12 0).1 (TX12 0).2.1 (TX12 0).2.2.1 ∈ ja_B := mo_fw (i := 0) (mo_pw0 0 (p := (7, 0, 12, 0, 6840)) rfl) rfl
theorem fa_text (hd : decode cc pc = .ok (.getfield 7, 3)) (k : mJ l D cA ad d cc nL rt (pc + 3) L ((2, ((1 : Nat) : Int)) :: S) h Q) : mJ l D cA ad d cc nL rt pc L ((2, ((0 : Nat) : Int)) :: S) h Q := mo_get 7 0 rfl (by decide) fw_text hd k
theorem il_text {i v : Int} (hv : h 1 i.toNat = v) (h0 : 0 ≤ i ∧ i < 5016) (hd : decode cc pc = .ok (.iaload, 1)) (k : mJ l D cA ad d cc nL rt (pc + 1) L ((0, v) :: S) h Q) : mJ l D cA ad d cc nL rt pc L ((0, i) :: (2, ((1 : Nat) : Int)) :: S) h Q := ja_iald (n := 5016) (by decide) rfl (by decide) h0.1 h0.2 hd (hv ▸ k)
theorem is_text {i x : Int} (h0 : 0 ≤ i ∧ i < 5016) (hd : decode cc pc = .ok (.iastore, 1)) (k : mJ l D cA ad d cc nL rt (pc + 1) L S (ja_up h 1 i.toNat x) Q) : mJ l D cA ad d cc nL rt pc L ((0, x) :: (0, i) :: (2, ((1 : Nat) : Int)) :: S) h Q := ja_iast (n := 5016) (by decide) rfl (by decide) h0.1 h0.2 hd k
theorem fw_size : Cond.fieldLink RX12 427 (TX12 1).1 (TX12 1).2.1 (TX12 1).2.2.1 ∈ ja_B := mo_fw (i := 0) (mo_pw3 18 (p := (427, 0, 12, 1, 6841)) rfl) rfl
theorem fg_size {v : Int} (hv : h 0 1 = v) (hd : decode cc pc = .ok (.getfield 427, 3)) (k : mJ l D cA ad d cc nL rt (pc + 3) L ((0, v) :: S) h Q) : mJ l D cA ad d cc nL rt pc L ((2, ((0 : Nat) : Int)) :: S) h Q := mo_get 427 1 (congrArg (Prod.mk 0) hv) (by decide) fw_size hd k
theorem fp_size {x : Int} (hd : decode cc pc = .ok (.putfield 427, 3)) (k : mJ l D cA ad d cc nL rt (pc + 3) L S (ja_up h 0 1 x) Q) : mJ l D cA ad d cc nL rt pc L ((0, x) :: (2, ((0 : Nat) : Int)) :: S) h Q := mo_putI 427 1 (by decide) rfl rfl rfl fw_size hd k
theorem fw_kinds : Cond.fieldLink RX12 13 (TX12 2).1 (TX12 2).2.1 (TX12 2).2.2.1 ∈ ja_B := mo_fw (i := 0) (mo_pw0 1 (p := (13, 0, 12, 2, 6842)) rfl) rfl
theorem fa_kinds (hd : decode cc pc = .ok (.getfield 13, 3)) (k : mJ l D cA ad d cc nL rt (pc + 3) L ((2, ((2 : Nat) : Int)) :: S) h Q) : mJ l D cA ad d cc nL rt pc L ((2, ((0 : Nat) : Int)) :: S) h Q := mo_get 13 2 rfl (by decide) fw_kinds hd k
theorem il_kinds {i v : Int} (hv : h 2 i.toNat = v) (h0 : 0 ≤ i ∧ i < 903) (hd : decode cc pc = .ok (.iaload, 1)) (k : mJ l D cA ad d cc nL rt (pc + 1) L ((0, v) :: S) h Q) : mJ l D cA ad d cc nL rt pc L ((0, i) :: (2, ((2 : Nat) : Int)) :: S) h Q := ja_iald (n := 903) (by decide) rfl (by decide) h0.1 h0.2 hd (hv ▸ k)
theorem is_kinds {i x : Int} (h0 : 0 ≤ i ∧ i < 903) (hd : decode cc pc = .ok (.iastore, 1)) (k : mJ l D cA ad d cc nL rt (pc + 1) L S (ja_up h 2 i.toNat x) Q) : mJ l D cA ad d cc nL rt pc L ((0, x) :: (0, i) :: (2, ((2 : Nat) : Int)) :: S) h Q := ja_iast (n := 903) (by decide) rfl (by decide) h0.1 h0.2 hd k
theorem fw_places : Cond.fieldLink RX12 16 (TX12 3).1 (TX12 3).2.1 (TX12 3).2.2.1 ∈ ja_B := mo_fw (i := 0) (mo_pw0 2 (p := (16, 0, 12, 3, 6843)) rfl) rfl
theorem fa_places (hd : decode cc pc = .ok (.getfield 16, 3)) (k : mJ l D cA ad d cc nL rt (pc + 3) L ((2, ((3 : Nat) : Int)) :: S) h Q) : mJ l D cA ad d cc nL rt pc L ((2, ((0 : Nat) : Int)) :: S) h Q := mo_get 16 3 rfl (by decide) fw_places hd k
theorem il_places {i v : Int} (hv : h 3 i.toNat = v) (h0 : 0 ≤ i ∧ i < 903) (hd : decode cc pc = .ok (.iaload, 1)) (k : mJ l D cA ad d cc nL rt (pc + 1) L ((0, v) :: S) h Q) : mJ l D cA ad d cc nL rt pc L ((0, i) :: (2, ((3 : Nat) : Int)) :: S) h Q := ja_iald (n := 903) (by decide) rfl (by decide) h0.1 h0.2 hd (hv ▸ k)
theorem is_places {i x : Int} (h0 : 0 ≤ i ∧ i < 903) (hd : decode cc pc = .ok (.iastore, 1)) (k : mJ l D cA ad d cc nL rt (pc + 1) L S (ja_up h 3 i.toNat x) Q) : mJ l D cA ad d cc nL rt pc L ((0, x) :: (0, i) :: (2, ((3 : Nat) : Int)) :: S) h Q := ja_iast (n := 903) (by decide) rfl (by decide) h0.1 h0.2 hd k
theorem fw_ends : Cond.fieldLink RX12 19 (TX12 4).1 (TX12 4).2.1 (TX12 4).2.2.1 ∈ ja_B := mo_fw (i := 0) (mo_pw0 3 (p := (19, 0, 12, 4, 6844)) rfl) rfl
theorem fa_ends (hd : decode cc pc = .ok (.getfield 19, 3)) (k : mJ l D cA ad d cc nL rt (pc + 3) L ((2, ((4 : Nat) : Int)) :: S) h Q) : mJ l D cA ad d cc nL rt pc L ((2, ((0 : Nat) : Int)) :: S) h Q := mo_get 19 4 rfl (by decide) fw_ends hd k
theorem il_ends {i v : Int} (hv : h 4 i.toNat = v) (h0 : 0 ≤ i ∧ i < 903) (hd : decode cc pc = .ok (.iaload, 1)) (k : mJ l D cA ad d cc nL rt (pc + 1) L ((0, v) :: S) h Q) : mJ l D cA ad d cc nL rt pc L ((0, i) :: (2, ((4 : Nat) : Int)) :: S) h Q := ja_iald (n := 903) (by decide) rfl (by decide) h0.1 h0.2 hd (hv ▸ k)
theorem is_ends {i x : Int} (h0 : 0 ≤ i ∧ i < 903) (hd : decode cc pc = .ok (.iastore, 1)) (k : mJ l D cA ad d cc nL rt (pc + 1) L S (ja_up h 4 i.toNat x) Q) : mJ l D cA ad d cc nL rt pc L ((0, x) :: (0, i) :: (2, ((4 : Nat) : Int)) :: S) h Q := ja_iast (n := 903) (by decide) rfl (by decide) h0.1 h0.2 hd k
theorem fw_worths : Cond.fieldLink RX12 22 (TX12 5).1 (TX12 5).2.1 (TX12 5).2.2.1 ∈ ja_B := mo_fw (i := 0) (mo_pw0 4 (p := (22, 0, 12, 5, 6845)) rfl) rfl
theorem fa_worths (hd : decode cc pc = .ok (.getfield 22, 3)) (k : mJ l D cA ad d cc nL rt (pc + 3) L ((2, ((5 : Nat) : Int)) :: S) h Q) : mJ l D cA ad d cc nL rt pc L ((2, ((0 : Nat) : Int)) :: S) h Q := mo_get 22 5 rfl (by decide) fw_worths hd k
theorem il_worths {i v : Int} (hv : h 5 i.toNat = v) (h0 : 0 ≤ i ∧ i < 903) (hd : decode cc pc = .ok (.iaload, 1)) (k : mJ l D cA ad d cc nL rt (pc + 1) L ((0, v) :: S) h Q) : mJ l D cA ad d cc nL rt pc L ((0, i) :: (2, ((5 : Nat) : Int)) :: S) h Q := ja_iald (n := 903) (by decide) rfl (by decide) h0.1 h0.2 hd (hv ▸ k)
theorem is_worths {i x : Int} (h0 : 0 ≤ i ∧ i < 903) (hd : decode cc pc = .ok (.iastore, 1)) (k : mJ l D cA ad d cc nL rt (pc + 1) L S (ja_up h 5 i.toNat x) Q) : mJ l D cA ad d cc nL rt pc L ((0, x) :: (0, i) :: (2, ((5 : Nat) : Int)) :: S) h Q := ja_iast (n := 903) (by decide) rfl (by decide) h0.1 h0.2 hd k
theorem fw_tokens : Cond.fieldLink RX12 536 (TX12 6).1 (TX12 6).2.1 (TX12 6).2.2.1 ∈ ja_B := mo_fw (i := 0) (mo_pw3 24 (p := (536, 0, 12, 6, 6846)) rfl) rfl
theorem fg_tokens {v : Int} (hv : h 0 6 = v) (hd : decode cc pc = .ok (.getfield 536, 3)) (k : mJ l D cA ad d cc nL rt (pc + 3) L ((0, v) :: S) h Q) : mJ l D cA ad d cc nL rt pc L ((2, ((0 : Nat) : Int)) :: S) h Q := mo_get 536 6 (congrArg (Prod.mk 0) hv) (by decide) fw_tokens hd k
theorem fp_tokens {x : Int} (hd : decode cc pc = .ok (.putfield 536, 3)) (k : mJ l D cA ad d cc nL rt (pc + 3) L S (ja_up h 0 6 x) Q) : mJ l D cA ad d cc nL rt pc L ((0, x) :: (2, ((0 : Nat) : Int)) :: S) h Q := mo_putI 536 6 (by decide) rfl rfl rfl fw_tokens hd k
theorem fw_at : Cond.fieldLink RX12 574 (TX12 7).1 (TX12 7).2.1 (TX12 7).2.2.1 ∈ ja_B := mo_fw (i := 0) (mo_pw3 35 (p := (574, 0, 12, 7, 6847)) rfl) rfl
theorem fg_at {v : Int} (hv : h 0 7 = v) (hd : decode cc pc = .ok (.getfield 574, 3)) (k : mJ l D cA ad d cc nL rt (pc + 3) L ((0, v) :: S) h Q) : mJ l D cA ad d cc nL rt pc L ((2, ((0 : Nat) : Int)) :: S) h Q := mo_get 574 7 (congrArg (Prod.mk 0) hv) (by decide) fw_at hd k
theorem fp_at {x : Int} (hd : decode cc pc = .ok (.putfield 574, 3)) (k : mJ l D cA ad d cc nL rt (pc + 3) L S (ja_up h 0 7 x) Q) : mJ l D cA ad d cc nL rt pc L ((0, x) :: (2, ((0 : Nat) : Int)) :: S) h Q := mo_putI 574 7 (by decide) rfl rfl rfl fw_at hd k
theorem fw_bad : Cond.fieldLink RX12 577 (TX12 8).1 (TX12 8).2.1 (TX12 8).2.2.1 ∈ ja_B := mo_fw (i := 0) (mo_pw3 36 (p := (577, 0, 12, 8, 6848)) rfl) rfl
theorem fg_bad {v : Int} (hv : h 0 8 = v) (hd : decode cc pc = .ok (.getfield 577, 3)) (k : mJ l D cA ad d cc nL rt (pc + 3) L ((0, v) :: S) h Q) : mJ l D cA ad d cc nL rt pc L ((2, ((0 : Nat) : Int)) :: S) h Q := mo_get 577 8 (congrArg (Prod.mk 0) hv) (by decide) fw_bad hd k
theorem fp_bad {x : Int} (hd : decode cc pc = .ok (.putfield 577, 3)) (k : mJ l D cA ad d cc nL rt (pc + 3) L S (ja_up h 0 8 x) Q) : mJ l D cA ad d cc nL rt pc L ((0, x) :: (2, ((0 : Nat) : Int)) :: S) h Q := mo_putI 577 8 (by decide) rfl rfl rfl fw_bad hd k
theorem fw_badAt : Cond.fieldLink RX12 580 (TX12 9).1 (TX12 9).2.1 (TX12 9).2.2.1 ∈ ja_B := mo_fw (i := 0) (mo_pw3 37 (p := (580, 0, 12, 9, 6849)) rfl) rfl
theorem fg_badAt {v : Int} (hv : h 0 9 = v) (hd : decode cc pc = .ok (.getfield 580, 3)) (k : mJ l D cA ad d cc nL rt (pc + 3) L ((0, v) :: S) h Q) : mJ l D cA ad d cc nL rt pc L ((2, ((0 : Nat) : Int)) :: S) h Q := mo_get 580 9 (congrArg (Prod.mk 0) hv) (by decide) fw_badAt hd k
theorem fp_badAt {x : Int} (hd : decode cc pc = .ok (.putfield 580, 3)) (k : mJ l D cA ad d cc nL rt (pc + 3) L S (ja_up h 0 9 x) Q) : mJ l D cA ad d cc nL rt pc L ((0, x) :: (2, ((0 : Nat) : Int)) :: S) h Q := mo_putI 580 9 (by decide) rfl rfl rfl fw_badAt hd k
theorem fw_badLine : Cond.fieldLink RX12 644 (TX12 10).1 (TX12 10).2.1 (TX12 10).2.2.1 ∈ ja_B := mo_fw (i := 0) (mo_pw4 18 (p := (644, 0, 12, 10, 6850)) rfl) rfl
theorem fg_badLine {v : Int} (hv : h 0 10 = v) (hd : decode cc pc = .ok (.getfield 644, 3)) (k : mJ l D cA ad d cc nL rt (pc + 3) L ((0, v) :: S) h Q) : mJ l D cA ad d cc nL rt pc L ((2, ((0 : Nat) : Int)) :: S) h Q := mo_get 644 10 (congrArg (Prod.mk 0) hv) (by decide) fw_badLine hd k
theorem fp_badLine {x : Int} (hd : decode cc pc = .ok (.putfield 644, 3)) (k : mJ l D cA ad d cc nL rt (pc + 3) L S (ja_up h 0 10 x) Q) : mJ l D cA ad d cc nL rt pc L ((0, x) :: (2, ((0 : Nat) : Int)) :: S) h Q := mo_putI 644 10 (by decide) rfl rfl rfl fw_badLine hd k
theorem fw_false1 : Cond.fieldLink RX12 602 (TX12 11).1 (TX12 11).2.1 (TX12 11).2.2.1 ∈ ja_B := mo_fw (i := 0) (mo_pw4 4 (p := (602, 0, 12, 11, 6851)) rfl) rfl
theorem fg_false1 {v : Int} (hv : h 0 11 = v) (hd : decode cc pc = .ok (.getfield 602, 3)) (k : mJ l D cA ad d cc nL rt (pc + 3) L ((0, v) :: S) h Q) : mJ l D cA ad d cc nL rt pc L ((2, ((0 : Nat) : Int)) :: S) h Q := mo_get 602 11 (congrArg (Prod.mk 0) hv) (by decide) fw_false1 hd k
theorem fp_false1 {x : Int} (hd : decode cc pc = .ok (.putfield 602, 3)) (k : mJ l D cA ad d cc nL rt (pc + 3) L S (ja_up h 0 11 x) Q) : mJ l D cA ad d cc nL rt pc L ((0, x) :: (2, ((0 : Nat) : Int)) :: S) h Q := mo_putI 602 11 (by decide) rfl rfl rfl fw_false1 hd k
theorem fw_falseAt : Cond.fieldLink RX12 605 (TX12 12).1 (TX12 12).2.1 (TX12 12).2.2.1 ∈ ja_B := mo_fw (i := 0) (mo_pw4 5 (p := (605, 0, 12, 12, 6852)) rfl) rfl
theorem fg_falseAt {v : Int} (hv : h 0 12 = v) (hd : decode cc pc = .ok (.getfield 605, 3)) (k : mJ l D cA ad d cc nL rt (pc + 3) L ((0, v) :: S) h Q) : mJ l D cA ad d cc nL rt pc L ((2, ((0 : Nat) : Int)) :: S) h Q := mo_get 605 12 (congrArg (Prod.mk 0) hv) (by decide) fw_falseAt hd k
theorem fp_falseAt {x : Int} (hd : decode cc pc = .ok (.putfield 605, 3)) (k : mJ l D cA ad d cc nL rt (pc + 3) L S (ja_up h 0 12 x) Q) : mJ l D cA ad d cc nL rt pc L ((0, x) :: (2, ((0 : Nat) : Int)) :: S) h Q := mo_putI 605 12 (by decide) rfl rfl rfl fw_falseAt hd k
theorem fw_wAct : Cond.fieldLink RX12 25 (TX12 13).1 (TX12 13).2.1 (TX12 13).2.2.1 ∈ ja_B := mo_fw (i := 0) (mo_pw0 5 (p := (25, 0, 12, 13, 6853)) rfl) rfl
theorem fa_wAct (hd : decode cc pc = .ok (.getfield 25, 3)) (k : mJ l D cA ad d cc nL rt (pc + 3) L ((2, ((6 : Nat) : Int)) :: S) h Q) : mJ l D cA ad d cc nL rt pc L ((2, ((0 : Nat) : Int)) :: S) h Q := mo_get 25 13 rfl (by decide) fw_wAct hd k
theorem il_wAct {i v : Int} (hv : h 6 i.toNat = v) (h0 : 0 ≤ i ∧ i < 2000) (hd : decode cc pc = .ok (.iaload, 1)) (k : mJ l D cA ad d cc nL rt (pc + 1) L ((0, v) :: S) h Q) : mJ l D cA ad d cc nL rt pc L ((0, i) :: (2, ((6 : Nat) : Int)) :: S) h Q := ja_iald (n := 2000) (by decide) rfl (by decide) h0.1 h0.2 hd (hv ▸ k)
theorem is_wAct {i x : Int} (h0 : 0 ≤ i ∧ i < 2000) (hd : decode cc pc = .ok (.iastore, 1)) (k : mJ l D cA ad d cc nL rt (pc + 1) L S (ja_up h 6 i.toNat x) Q) : mJ l D cA ad d cc nL rt pc L ((0, x) :: (0, i) :: (2, ((6 : Nat) : Int)) :: S) h Q := ja_iast (n := 2000) (by decide) rfl (by decide) h0.1 h0.2 hd k
theorem fw_wA : Cond.fieldLink RX12 28 (TX12 14).1 (TX12 14).2.1 (TX12 14).2.2.1 ∈ ja_B := mo_fw (i := 0) (mo_pw0 6 (p := (28, 0, 12, 14, 6854)) rfl) rfl
theorem fa_wA (hd : decode cc pc = .ok (.getfield 28, 3)) (k : mJ l D cA ad d cc nL rt (pc + 3) L ((2, ((7 : Nat) : Int)) :: S) h Q) : mJ l D cA ad d cc nL rt pc L ((2, ((0 : Nat) : Int)) :: S) h Q := mo_get 28 14 rfl (by decide) fw_wA hd k
theorem il_wA {i v : Int} (hv : h 7 i.toNat = v) (h0 : 0 ≤ i ∧ i < 2000) (hd : decode cc pc = .ok (.iaload, 1)) (k : mJ l D cA ad d cc nL rt (pc + 1) L ((0, v) :: S) h Q) : mJ l D cA ad d cc nL rt pc L ((0, i) :: (2, ((7 : Nat) : Int)) :: S) h Q := ja_iald (n := 2000) (by decide) rfl (by decide) h0.1 h0.2 hd (hv ▸ k)
theorem is_wA {i x : Int} (h0 : 0 ≤ i ∧ i < 2000) (hd : decode cc pc = .ok (.iastore, 1)) (k : mJ l D cA ad d cc nL rt (pc + 1) L S (ja_up h 7 i.toNat x) Q) : mJ l D cA ad d cc nL rt pc L ((0, x) :: (0, i) :: (2, ((7 : Nat) : Int)) :: S) h Q := ja_iast (n := 2000) (by decide) rfl (by decide) h0.1 h0.2 hd k
theorem fw_wB : Cond.fieldLink RX12 31 (TX12 15).1 (TX12 15).2.1 (TX12 15).2.2.1 ∈ ja_B := mo_fw (i := 0) (mo_pw0 7 (p := (31, 0, 12, 15, 6855)) rfl) rfl
theorem fa_wB (hd : decode cc pc = .ok (.getfield 31, 3)) (k : mJ l D cA ad d cc nL rt (pc + 3) L ((2, ((8 : Nat) : Int)) :: S) h Q) : mJ l D cA ad d cc nL rt pc L ((2, ((0 : Nat) : Int)) :: S) h Q := mo_get 31 15 rfl (by decide) fw_wB hd k
theorem il_wB {i v : Int} (hv : h 8 i.toNat = v) (h0 : 0 ≤ i ∧ i < 2000) (hd : decode cc pc = .ok (.iaload, 1)) (k : mJ l D cA ad d cc nL rt (pc + 1) L ((0, v) :: S) h Q) : mJ l D cA ad d cc nL rt pc L ((0, i) :: (2, ((8 : Nat) : Int)) :: S) h Q := ja_iald (n := 2000) (by decide) rfl (by decide) h0.1 h0.2 hd (hv ▸ k)
theorem is_wB {i x : Int} (h0 : 0 ≤ i ∧ i < 2000) (hd : decode cc pc = .ok (.iastore, 1)) (k : mJ l D cA ad d cc nL rt (pc + 1) L S (ja_up h 8 i.toNat x) Q) : mJ l D cA ad d cc nL rt pc L ((0, x) :: (0, i) :: (2, ((8 : Nat) : Int)) :: S) h Q := ja_iast (n := 2000) (by decide) rfl (by decide) h0.1 h0.2 hd k
theorem fw_wC : Cond.fieldLink RX12 34 (TX12 16).1 (TX12 16).2.1 (TX12 16).2.2.1 ∈ ja_B := mo_fw (i := 0) (mo_pw0 8 (p := (34, 0, 12, 16, 6856)) rfl) rfl
theorem fa_wC (hd : decode cc pc = .ok (.getfield 34, 3)) (k : mJ l D cA ad d cc nL rt (pc + 3) L ((2, ((9 : Nat) : Int)) :: S) h Q) : mJ l D cA ad d cc nL rt pc L ((2, ((0 : Nat) : Int)) :: S) h Q := mo_get 34 16 rfl (by decide) fw_wC hd k
theorem il_wC {i v : Int} (hv : h 9 i.toNat = v) (h0 : 0 ≤ i ∧ i < 2000) (hd : decode cc pc = .ok (.iaload, 1)) (k : mJ l D cA ad d cc nL rt (pc + 1) L ((0, v) :: S) h Q) : mJ l D cA ad d cc nL rt pc L ((0, i) :: (2, ((9 : Nat) : Int)) :: S) h Q := ja_iald (n := 2000) (by decide) rfl (by decide) h0.1 h0.2 hd (hv ▸ k)
theorem is_wC {i x : Int} (h0 : 0 ≤ i ∧ i < 2000) (hd : decode cc pc = .ok (.iastore, 1)) (k : mJ l D cA ad d cc nL rt (pc + 1) L S (ja_up h 9 i.toNat x) Q) : mJ l D cA ad d cc nL rt pc L ((0, x) :: (0, i) :: (2, ((9 : Nat) : Int)) :: S) h Q := ja_iast (n := 2000) (by decide) rfl (by decide) h0.1 h0.2 hd k
theorem fw_wTop : Cond.fieldLink RX12 608 (TX12 17).1 (TX12 17).2.1 (TX12 17).2.2.1 ∈ ja_B := mo_fw (i := 0) (mo_pw4 6 (p := (608, 0, 12, 17, 6857)) rfl) rfl
theorem fg_wTop {v : Int} (hv : h 0 17 = v) (hd : decode cc pc = .ok (.getfield 608, 3)) (k : mJ l D cA ad d cc nL rt (pc + 3) L ((0, v) :: S) h Q) : mJ l D cA ad d cc nL rt pc L ((2, ((0 : Nat) : Int)) :: S) h Q := mo_get 608 17 (congrArg (Prod.mk 0) hv) (by decide) fw_wTop hd k
theorem fp_wTop {x : Int} (hd : decode cc pc = .ok (.putfield 608, 3)) (k : mJ l D cA ad d cc nL rt (pc + 3) L S (ja_up h 0 17 x) Q) : mJ l D cA ad d cc nL rt pc L ((0, x) :: (2, ((0 : Nat) : Int)) :: S) h Q := mo_putI 608 17 (by decide) rfl rfl rfl fw_wTop hd k
theorem fw_nest : Cond.fieldLink RX12 614 (TX12 18).1 (TX12 18).2.1 (TX12 18).2.2.1 ∈ ja_B := mo_fw (i := 0) (mo_pw4 8 (p := (614, 0, 12, 18, 6858)) rfl) rfl
theorem fg_nest {v : Int} (hv : h 0 18 = v) (hd : decode cc pc = .ok (.getfield 614, 3)) (k : mJ l D cA ad d cc nL rt (pc + 3) L ((0, v) :: S) h Q) : mJ l D cA ad d cc nL rt pc L ((2, ((0 : Nat) : Int)) :: S) h Q := mo_get 614 18 (congrArg (Prod.mk 0) hv) (by decide) fw_nest hd k
theorem fp_nest {x : Int} (hd : decode cc pc = .ok (.putfield 614, 3)) (k : mJ l D cA ad d cc nL rt (pc + 3) L S (ja_up h 0 18 x) Q) : mJ l D cA ad d cc nL rt pc L ((0, x) :: (2, ((0 : Nat) : Int)) :: S) h Q := mo_putI 614 18 (by decide) rfl rfl rfl fw_nest hd k
theorem fw_form : Cond.fieldLink RX12 838 (TX12 19).1 (TX12 19).2.1 (TX12 19).2.2.1 ∈ ja_B := mo_fw (i := 0) (mo_pw6 1 (p := (838, 0, 12, 19, 6859)) rfl) rfl
theorem fg_form {v : Int} (hv : h 0 19 = v) (hd : decode cc pc = .ok (.getfield 838, 3)) (k : mJ l D cA ad d cc nL rt (pc + 3) L ((0, v) :: S) h Q) : mJ l D cA ad d cc nL rt pc L ((2, ((0 : Nat) : Int)) :: S) h Q := mo_get 838 19 (congrArg (Prod.mk 0) hv) (by decide) fw_form hd k
theorem fp_form {x : Int} (hd : decode cc pc = .ok (.putfield 838, 3)) (k : mJ l D cA ad d cc nL rt (pc + 3) L S (ja_up h 0 19 x) Q) : mJ l D cA ad d cc nL rt pc L ((0, x) :: (2, ((0 : Nat) : Int)) :: S) h Q := mo_putI 838 19 (by decide) rfl rfl rfl fw_form hd k
theorem fw_formA : Cond.fieldLink RX12 841 (TX12 20).1 (TX12 20).2.1 (TX12 20).2.2.1 ∈ ja_B := mo_fw (i := 0) (mo_pw6 2 (p := (841, 0, 12, 20, 6860)) rfl) rfl
theorem fg_formA {v : Int} (hv : h 0 20 = v) (hd : decode cc pc = .ok (.getfield 841, 3)) (k : mJ l D cA ad d cc nL rt (pc + 3) L ((0, v) :: S) h Q) : mJ l D cA ad d cc nL rt pc L ((2, ((0 : Nat) : Int)) :: S) h Q := mo_get 841 20 (congrArg (Prod.mk 0) hv) (by decide) fw_formA hd k
theorem fp_formA {x : Int} (hd : decode cc pc = .ok (.putfield 841, 3)) (k : mJ l D cA ad d cc nL rt (pc + 3) L S (ja_up h 0 20 x) Q) : mJ l D cA ad d cc nL rt pc L ((0, x) :: (2, ((0 : Nat) : Int)) :: S) h Q := mo_putI 841 20 (by decide) rfl rfl rfl fw_formA hd k
theorem fw_given : Cond.fieldLink RX12 856 (TX12 21).1 (TX12 21).2.1 (TX12 21).2.2.1 ∈ ja_B := mo_fw (i := 0) (mo_pw6 7 (p := (856, 0, 12, 21, 6861)) rfl) rfl
theorem fg_given {v : Int} (hv : h 0 21 = v) (hd : decode cc pc = .ok (.getfield 856, 3)) (k : mJ l D cA ad d cc nL rt (pc + 3) L ((0, v) :: S) h Q) : mJ l D cA ad d cc nL rt pc L ((2, ((0 : Nat) : Int)) :: S) h Q := mo_get 856 21 (congrArg (Prod.mk 0) hv) (by decide) fw_given hd k
theorem fp_given {x : Int} (hd : decode cc pc = .ok (.putfield 856, 3)) (k : mJ l D cA ad d cc nL rt (pc + 3) L S (ja_up h 0 21 x) Q) : mJ l D cA ad d cc nL rt pc L ((0, x) :: (2, ((0 : Nat) : Int)) :: S) h Q := mo_putI 856 21 (by decide) rfl rfl rfl fw_given hd k
theorem fw_classes : Cond.fieldLink RX12 647 (TX12 22).1 (TX12 22).2.1 (TX12 22).2.2.1 ∈ ja_B := mo_fw (i := 0) (mo_pw4 19 (p := (647, 0, 12, 22, 6862)) rfl) rfl
theorem fg_classes {v : Int} (hv : h 0 22 = v) (hd : decode cc pc = .ok (.getfield 647, 3)) (k : mJ l D cA ad d cc nL rt (pc + 3) L ((0, v) :: S) h Q) : mJ l D cA ad d cc nL rt pc L ((2, ((0 : Nat) : Int)) :: S) h Q := mo_get 647 22 (congrArg (Prod.mk 0) hv) (by decide) fw_classes hd k
theorem fp_classes {x : Int} (hd : decode cc pc = .ok (.putfield 647, 3)) (k : mJ l D cA ad d cc nL rt (pc + 3) L S (ja_up h 0 22 x) Q) : mJ l D cA ad d cc nL rt pc L ((0, x) :: (2, ((0 : Nat) : Int)) :: S) h Q := mo_putI 647 22 (by decide) rfl rfl rfl fw_classes hd k
theorem fw_className : Cond.fieldLink RX12 37 (TX12 23).1 (TX12 23).2.1 (TX12 23).2.2.1 ∈ ja_B := mo_fw (i := 0) (mo_pw0 9 (p := (37, 0, 12, 23, 6863)) rfl) rfl
theorem fa_className (hd : decode cc pc = .ok (.getfield 37, 3)) (k : mJ l D cA ad d cc nL rt (pc + 3) L ((2, ((10 : Nat) : Int)) :: S) h Q) : mJ l D cA ad d cc nL rt pc L ((2, ((0 : Nat) : Int)) :: S) h Q := mo_get 37 23 rfl (by decide) fw_className hd k
theorem il_className {i v : Int} (hv : h 10 i.toNat = v) (h0 : 0 ≤ i ∧ i < 13) (hd : decode cc pc = .ok (.iaload, 1)) (k : mJ l D cA ad d cc nL rt (pc + 1) L ((0, v) :: S) h Q) : mJ l D cA ad d cc nL rt pc L ((0, i) :: (2, ((10 : Nat) : Int)) :: S) h Q := ja_iald (n := 13) (by decide) rfl (by decide) h0.1 h0.2 hd (hv ▸ k)
theorem is_className {i x : Int} (h0 : 0 ≤ i ∧ i < 13) (hd : decode cc pc = .ok (.iastore, 1)) (k : mJ l D cA ad d cc nL rt (pc + 1) L S (ja_up h 10 i.toNat x) Q) : mJ l D cA ad d cc nL rt pc L ((0, x) :: (0, i) :: (2, ((10 : Nat) : Int)) :: S) h Q := ja_iast (n := 13) (by decide) rfl (by decide) h0.1 h0.2 hd k
theorem fw_classUnder : Cond.fieldLink RX12 40 (TX12 24).1 (TX12 24).2.1 (TX12 24).2.2.1 ∈ ja_B := mo_fw (i := 0) (mo_pw0 10 (p := (40, 0, 12, 24, 6864)) rfl) rfl
theorem fa_classUnder (hd : decode cc pc = .ok (.getfield 40, 3)) (k : mJ l D cA ad d cc nL rt (pc + 3) L ((2, ((11 : Nat) : Int)) :: S) h Q) : mJ l D cA ad d cc nL rt pc L ((2, ((0 : Nat) : Int)) :: S) h Q := mo_get 40 24 rfl (by decide) fw_classUnder hd k
theorem il_classUnder {i v : Int} (hv : h 11 i.toNat = v) (h0 : 0 ≤ i ∧ i < 13) (hd : decode cc pc = .ok (.iaload, 1)) (k : mJ l D cA ad d cc nL rt (pc + 1) L ((0, v) :: S) h Q) : mJ l D cA ad d cc nL rt pc L ((0, i) :: (2, ((11 : Nat) : Int)) :: S) h Q := ja_iald (n := 13) (by decide) rfl (by decide) h0.1 h0.2 hd (hv ▸ k)
theorem is_classUnder {i x : Int} (h0 : 0 ≤ i ∧ i < 13) (hd : decode cc pc = .ok (.iastore, 1)) (k : mJ l D cA ad d cc nL rt (pc + 1) L S (ja_up h 11 i.toNat x) Q) : mJ l D cA ad d cc nL rt pc L ((0, x) :: (0, i) :: (2, ((11 : Nat) : Int)) :: S) h Q := ja_iast (n := 13) (by decide) rfl (by decide) h0.1 h0.2 hd k
theorem fw_classAbove : Cond.fieldLink RX12 43 (TX12 25).1 (TX12 25).2.1 (TX12 25).2.2.1 ∈ ja_B := mo_fw (i := 0) (mo_pw0 11 (p := (43, 0, 12, 25, 6865)) rfl) rfl
theorem fa_classAbove (hd : decode cc pc = .ok (.getfield 43, 3)) (k : mJ l D cA ad d cc nL rt (pc + 3) L ((2, ((12 : Nat) : Int)) :: S) h Q) : mJ l D cA ad d cc nL rt pc L ((2, ((0 : Nat) : Int)) :: S) h Q := mo_get 43 25 rfl (by decide) fw_classAbove hd k
theorem il_classAbove {i v : Int} (hv : h 12 i.toNat = v) (h0 : 0 ≤ i ∧ i < 13) (hd : decode cc pc = .ok (.iaload, 1)) (k : mJ l D cA ad d cc nL rt (pc + 1) L ((0, v) :: S) h Q) : mJ l D cA ad d cc nL rt pc L ((0, i) :: (2, ((12 : Nat) : Int)) :: S) h Q := ja_iald (n := 13) (by decide) rfl (by decide) h0.1 h0.2 hd (hv ▸ k)
theorem is_classAbove {i x : Int} (h0 : 0 ≤ i ∧ i < 13) (hd : decode cc pc = .ok (.iastore, 1)) (k : mJ l D cA ad d cc nL rt (pc + 1) L S (ja_up h 12 i.toNat x) Q) : mJ l D cA ad d cc nL rt pc L ((0, x) :: (0, i) :: (2, ((12 : Nat) : Int)) :: S) h Q := ja_iast (n := 13) (by decide) rfl (by decide) h0.1 h0.2 hd k
theorem fw_aspects : Cond.fieldLink RX12 650 (TX12 26).1 (TX12 26).2.1 (TX12 26).2.2.1 ∈ ja_B := mo_fw (i := 0) (mo_pw4 20 (p := (650, 0, 12, 26, 6866)) rfl) rfl
theorem fg_aspects {v : Int} (hv : h 0 26 = v) (hd : decode cc pc = .ok (.getfield 650, 3)) (k : mJ l D cA ad d cc nL rt (pc + 3) L ((0, v) :: S) h Q) : mJ l D cA ad d cc nL rt pc L ((2, ((0 : Nat) : Int)) :: S) h Q := mo_get 650 26 (congrArg (Prod.mk 0) hv) (by decide) fw_aspects hd k
theorem fp_aspects {x : Int} (hd : decode cc pc = .ok (.putfield 650, 3)) (k : mJ l D cA ad d cc nL rt (pc + 3) L S (ja_up h 0 26 x) Q) : mJ l D cA ad d cc nL rt pc L ((0, x) :: (2, ((0 : Nat) : Int)) :: S) h Q := mo_putI 650 26 (by decide) rfl rfl rfl fw_aspects hd k
theorem fw_aspectName : Cond.fieldLink RX12 46 (TX12 27).1 (TX12 27).2.1 (TX12 27).2.2.1 ∈ ja_B := mo_fw (i := 0) (mo_pw0 12 (p := (46, 0, 12, 27, 6867)) rfl) rfl
theorem fa_aspectName (hd : decode cc pc = .ok (.getfield 46, 3)) (k : mJ l D cA ad d cc nL rt (pc + 3) L ((2, ((13 : Nat) : Int)) :: S) h Q) : mJ l D cA ad d cc nL rt pc L ((2, ((0 : Nat) : Int)) :: S) h Q := mo_get 46 27 rfl (by decide) fw_aspectName hd k
theorem il_aspectName {i v : Int} (hv : h 13 i.toNat = v) (h0 : 0 ≤ i ∧ i < 9) (hd : decode cc pc = .ok (.iaload, 1)) (k : mJ l D cA ad d cc nL rt (pc + 1) L ((0, v) :: S) h Q) : mJ l D cA ad d cc nL rt pc L ((0, i) :: (2, ((13 : Nat) : Int)) :: S) h Q := ja_iald (n := 9) (by decide) rfl (by decide) h0.1 h0.2 hd (hv ▸ k)
theorem is_aspectName {i x : Int} (h0 : 0 ≤ i ∧ i < 9) (hd : decode cc pc = .ok (.iastore, 1)) (k : mJ l D cA ad d cc nL rt (pc + 1) L S (ja_up h 13 i.toNat x) Q) : mJ l D cA ad d cc nL rt pc L ((0, x) :: (0, i) :: (2, ((13 : Nat) : Int)) :: S) h Q := ja_iast (n := 9) (by decide) rfl (by decide) h0.1 h0.2 hd k
theorem fw_aspectEach : Cond.fieldLink RX12 49 (TX12 28).1 (TX12 28).2.1 (TX12 28).2.2.1 ∈ ja_B := mo_fw (i := 0) (mo_pw0 13 (p := (49, 0, 12, 28, 6868)) rfl) rfl
theorem fa_aspectEach (hd : decode cc pc = .ok (.getfield 49, 3)) (k : mJ l D cA ad d cc nL rt (pc + 3) L ((2, ((14 : Nat) : Int)) :: S) h Q) : mJ l D cA ad d cc nL rt pc L ((2, ((0 : Nat) : Int)) :: S) h Q := mo_get 49 28 rfl (by decide) fw_aspectEach hd k
theorem il_aspectEach {i v : Int} (hv : h 14 i.toNat = v) (h0 : 0 ≤ i ∧ i < 9) (hd : decode cc pc = .ok (.baload, 1)) (k : mJ l D cA ad d cc nL rt (pc + 1) L ((0, v) :: S) h Q) : mJ l D cA ad d cc nL rt pc L ((0, i) :: (2, ((14 : Nat) : Int)) :: S) h Q := ja_zald (n := 9) (by decide) rfl (by decide) h0.1 h0.2 hd (hv ▸ k)
theorem is_aspectEach {i x : Int} (h0 : 0 ≤ i ∧ i < 9) (h01 : x = 0 ∨ x = 1) (hd : decode cc pc = .ok (.bastore, 1)) (k : mJ l D cA ad d cc nL rt (pc + 1) L S (ja_up h 14 i.toNat x) Q) : mJ l D cA ad d cc nL rt pc L ((0, x) :: (0, i) :: (2, ((14 : Nat) : Int)) :: S) h Q := ja_zast (n := 9) (by decide) rfl (by decide) h0.1 h0.2 h01 hd k
theorem fw_aspectFields : Cond.fieldLink RX12 53 (TX12 29).1 (TX12 29).2.1 (TX12 29).2.2.1 ∈ ja_B := mo_fw (i := 0) (mo_pw0 14 (p := (53, 0, 12, 29, 6869)) rfl) rfl
theorem fa_aspectFields (hd : decode cc pc = .ok (.getfield 53, 3)) (k : mJ l D cA ad d cc nL rt (pc + 3) L ((2, ((15 : Nat) : Int)) :: S) h Q) : mJ l D cA ad d cc nL rt pc L ((2, ((0 : Nat) : Int)) :: S) h Q := mo_get 53 29 rfl (by decide) fw_aspectFields hd k
theorem il_aspectFields {i v : Int} (hv : h 15 i.toNat = v) (h0 : 0 ≤ i ∧ i < 9) (hd : decode cc pc = .ok (.iaload, 1)) (k : mJ l D cA ad d cc nL rt (pc + 1) L ((0, v) :: S) h Q) : mJ l D cA ad d cc nL rt pc L ((0, i) :: (2, ((15 : Nat) : Int)) :: S) h Q := ja_iald (n := 9) (by decide) rfl (by decide) h0.1 h0.2 hd (hv ▸ k)
theorem is_aspectFields {i x : Int} (h0 : 0 ≤ i ∧ i < 9) (hd : decode cc pc = .ok (.iastore, 1)) (k : mJ l D cA ad d cc nL rt (pc + 1) L S (ja_up h 15 i.toNat x) Q) : mJ l D cA ad d cc nL rt pc L ((0, x) :: (0, i) :: (2, ((15 : Nat) : Int)) :: S) h Q := ja_iast (n := 9) (by decide) rfl (by decide) h0.1 h0.2 hd k
theorem fw_aspectField : Cond.fieldLink RX12 56 (TX12 30).1 (TX12 30).2.1 (TX12 30).2.2.1 ∈ ja_B := mo_fw (i := 0) (mo_pw0 15 (p := (56, 0, 12, 30, 6870)) rfl) rfl
theorem fa_aspectField (hd : decode cc pc = .ok (.getfield 56, 3)) (k : mJ l D cA ad d cc nL rt (pc + 3) L ((2, ((16 : Nat) : Int)) :: S) h Q) : mJ l D cA ad d cc nL rt pc L ((2, ((0 : Nat) : Int)) :: S) h Q := mo_get 56 30 rfl (by decide) fw_aspectField hd k
theorem il_aspectField {i v : Int} (hv : h 16 i.toNat = v) (h0 : 0 ≤ i ∧ i < 90) (hd : decode cc pc = .ok (.iaload, 1)) (k : mJ l D cA ad d cc nL rt (pc + 1) L ((0, v) :: S) h Q) : mJ l D cA ad d cc nL rt pc L ((0, i) :: (2, ((16 : Nat) : Int)) :: S) h Q := ja_iald (n := 90) (by decide) rfl (by decide) h0.1 h0.2 hd (hv ▸ k)
theorem is_aspectField {i x : Int} (h0 : 0 ≤ i ∧ i < 90) (hd : decode cc pc = .ok (.iastore, 1)) (k : mJ l D cA ad d cc nL rt (pc + 1) L S (ja_up h 16 i.toNat x) Q) : mJ l D cA ad d cc nL rt pc L ((0, x) :: (0, i) :: (2, ((16 : Nat) : Int)) :: S) h Q := ja_iast (n := 90) (by decide) rfl (by decide) h0.1 h0.2 hd k
theorem fw_fields : Cond.fieldLink RX12 653 (TX12 31).1 (TX12 31).2.1 (TX12 31).2.2.1 ∈ ja_B := mo_fw (i := 0) (mo_pw4 21 (p := (653, 0, 12, 31, 6871)) rfl) rfl
theorem fg_fields {v : Int} (hv : h 0 31 = v) (hd : decode cc pc = .ok (.getfield 653, 3)) (k : mJ l D cA ad d cc nL rt (pc + 3) L ((0, v) :: S) h Q) : mJ l D cA ad d cc nL rt pc L ((2, ((0 : Nat) : Int)) :: S) h Q := mo_get 653 31 (congrArg (Prod.mk 0) hv) (by decide) fw_fields hd k
theorem fp_fields {x : Int} (hd : decode cc pc = .ok (.putfield 653, 3)) (k : mJ l D cA ad d cc nL rt (pc + 3) L S (ja_up h 0 31 x) Q) : mJ l D cA ad d cc nL rt pc L ((0, x) :: (2, ((0 : Nat) : Int)) :: S) h Q := mo_putI 653 31 (by decide) rfl rfl rfl fw_fields hd k
theorem fw_fieldName : Cond.fieldLink RX12 59 (TX12 32).1 (TX12 32).2.1 (TX12 32).2.2.1 ∈ ja_B := mo_fw (i := 0) (mo_pw0 16 (p := (59, 0, 12, 32, 6872)) rfl) rfl
theorem fa_fieldName (hd : decode cc pc = .ok (.getfield 59, 3)) (k : mJ l D cA ad d cc nL rt (pc + 3) L ((2, ((17 : Nat) : Int)) :: S) h Q) : mJ l D cA ad d cc nL rt pc L ((2, ((0 : Nat) : Int)) :: S) h Q := mo_get 59 32 rfl (by decide) fw_fieldName hd k
theorem il_fieldName {i v : Int} (hv : h 17 i.toNat = v) (h0 : 0 ≤ i ∧ i < 900) (hd : decode cc pc = .ok (.iaload, 1)) (k : mJ l D cA ad d cc nL rt (pc + 1) L ((0, v) :: S) h Q) : mJ l D cA ad d cc nL rt pc L ((0, i) :: (2, ((17 : Nat) : Int)) :: S) h Q := ja_iald (n := 900) (by decide) rfl (by decide) h0.1 h0.2 hd (hv ▸ k)
theorem is_fieldName {i x : Int} (h0 : 0 ≤ i ∧ i < 900) (hd : decode cc pc = .ok (.iastore, 1)) (k : mJ l D cA ad d cc nL rt (pc + 1) L S (ja_up h 17 i.toNat x) Q) : mJ l D cA ad d cc nL rt pc L ((0, x) :: (0, i) :: (2, ((17 : Nat) : Int)) :: S) h Q := ja_iast (n := 900) (by decide) rfl (by decide) h0.1 h0.2 hd k
theorem fw_fieldOf : Cond.fieldLink RX12 62 (TX12 33).1 (TX12 33).2.1 (TX12 33).2.2.1 ∈ ja_B := mo_fw (i := 0) (mo_pw0 17 (p := (62, 0, 12, 33, 6873)) rfl) rfl
theorem fa_fieldOf (hd : decode cc pc = .ok (.getfield 62, 3)) (k : mJ l D cA ad d cc nL rt (pc + 3) L ((2, ((18 : Nat) : Int)) :: S) h Q) : mJ l D cA ad d cc nL rt pc L ((2, ((0 : Nat) : Int)) :: S) h Q := mo_get 62 33 rfl (by decide) fw_fieldOf hd k
theorem il_fieldOf {i v : Int} (hv : h 18 i.toNat = v) (h0 : 0 ≤ i ∧ i < 900) (hd : decode cc pc = .ok (.iaload, 1)) (k : mJ l D cA ad d cc nL rt (pc + 1) L ((0, v) :: S) h Q) : mJ l D cA ad d cc nL rt pc L ((0, i) :: (2, ((18 : Nat) : Int)) :: S) h Q := ja_iald (n := 900) (by decide) rfl (by decide) h0.1 h0.2 hd (hv ▸ k)
theorem is_fieldOf {i x : Int} (h0 : 0 ≤ i ∧ i < 900) (hd : decode cc pc = .ok (.iastore, 1)) (k : mJ l D cA ad d cc nL rt (pc + 1) L S (ja_up h 18 i.toNat x) Q) : mJ l D cA ad d cc nL rt pc L ((0, x) :: (0, i) :: (2, ((18 : Nat) : Int)) :: S) h Q := ja_iast (n := 900) (by decide) rfl (by decide) h0.1 h0.2 hd k
theorem fw_methods : Cond.fieldLink RX12 656 (TX12 34).1 (TX12 34).2.1 (TX12 34).2.2.1 ∈ ja_B := mo_fw (i := 0) (mo_pw4 22 (p := (656, 0, 12, 34, 6874)) rfl) rfl
theorem fg_methods {v : Int} (hv : h 0 34 = v) (hd : decode cc pc = .ok (.getfield 656, 3)) (k : mJ l D cA ad d cc nL rt (pc + 3) L ((0, v) :: S) h Q) : mJ l D cA ad d cc nL rt pc L ((2, ((0 : Nat) : Int)) :: S) h Q := mo_get 656 34 (congrArg (Prod.mk 0) hv) (by decide) fw_methods hd k
theorem fp_methods {x : Int} (hd : decode cc pc = .ok (.putfield 656, 3)) (k : mJ l D cA ad d cc nL rt (pc + 3) L S (ja_up h 0 34 x) Q) : mJ l D cA ad d cc nL rt pc L ((0, x) :: (2, ((0 : Nat) : Int)) :: S) h Q := mo_putI 656 34 (by decide) rfl rfl rfl fw_methods hd k
theorem fw_methodName : Cond.fieldLink RX12 65 (TX12 35).1 (TX12 35).2.1 (TX12 35).2.2.1 ∈ ja_B := mo_fw (i := 0) (mo_pw0 18 (p := (65, 0, 12, 35, 6875)) rfl) rfl
theorem fa_methodName (hd : decode cc pc = .ok (.getfield 65, 3)) (k : mJ l D cA ad d cc nL rt (pc + 3) L ((2, ((19 : Nat) : Int)) :: S) h Q) : mJ l D cA ad d cc nL rt pc L ((2, ((0 : Nat) : Int)) :: S) h Q := mo_get 65 35 rfl (by decide) fw_methodName hd k
theorem il_methodName {i v : Int} (hv : h 19 i.toNat = v) (h0 : 0 ≤ i ∧ i < 61) (hd : decode cc pc = .ok (.iaload, 1)) (k : mJ l D cA ad d cc nL rt (pc + 1) L ((0, v) :: S) h Q) : mJ l D cA ad d cc nL rt pc L ((0, i) :: (2, ((19 : Nat) : Int)) :: S) h Q := ja_iald (n := 61) (by decide) rfl (by decide) h0.1 h0.2 hd (hv ▸ k)
theorem is_methodName {i x : Int} (h0 : 0 ≤ i ∧ i < 61) (hd : decode cc pc = .ok (.iastore, 1)) (k : mJ l D cA ad d cc nL rt (pc + 1) L S (ja_up h 19 i.toNat x) Q) : mJ l D cA ad d cc nL rt pc L ((0, x) :: (0, i) :: (2, ((19 : Nat) : Int)) :: S) h Q := ja_iast (n := 61) (by decide) rfl (by decide) h0.1 h0.2 hd k
theorem fw_methodOf : Cond.fieldLink RX12 68 (TX12 36).1 (TX12 36).2.1 (TX12 36).2.2.1 ∈ ja_B := mo_fw (i := 0) (mo_pw0 19 (p := (68, 0, 12, 36, 6876)) rfl) rfl
theorem fa_methodOf (hd : decode cc pc = .ok (.getfield 68, 3)) (k : mJ l D cA ad d cc nL rt (pc + 3) L ((2, ((20 : Nat) : Int)) :: S) h Q) : mJ l D cA ad d cc nL rt pc L ((2, ((0 : Nat) : Int)) :: S) h Q := mo_get 68 36 rfl (by decide) fw_methodOf hd k
theorem il_methodOf {i v : Int} (hv : h 20 i.toNat = v) (h0 : 0 ≤ i ∧ i < 61) (hd : decode cc pc = .ok (.iaload, 1)) (k : mJ l D cA ad d cc nL rt (pc + 1) L ((0, v) :: S) h Q) : mJ l D cA ad d cc nL rt pc L ((0, i) :: (2, ((20 : Nat) : Int)) :: S) h Q := ja_iald (n := 61) (by decide) rfl (by decide) h0.1 h0.2 hd (hv ▸ k)
theorem is_methodOf {i x : Int} (h0 : 0 ≤ i ∧ i < 61) (hd : decode cc pc = .ok (.iastore, 1)) (k : mJ l D cA ad d cc nL rt (pc + 1) L S (ja_up h 20 i.toNat x) Q) : mJ l D cA ad d cc nL rt pc L ((0, x) :: (0, i) :: (2, ((20 : Nat) : Int)) :: S) h Q := ja_iast (n := 61) (by decide) rfl (by decide) h0.1 h0.2 hd k
theorem fw_methodClass : Cond.fieldLink RX12 71 (TX12 37).1 (TX12 37).2.1 (TX12 37).2.2.1 ∈ ja_B := mo_fw (i := 0) (mo_pw0 20 (p := (71, 0, 12, 37, 6877)) rfl) rfl
theorem fa_methodClass (hd : decode cc pc = .ok (.getfield 71, 3)) (k : mJ l D cA ad d cc nL rt (pc + 3) L ((2, ((21 : Nat) : Int)) :: S) h Q) : mJ l D cA ad d cc nL rt pc L ((2, ((0 : Nat) : Int)) :: S) h Q := mo_get 71 37 rfl (by decide) fw_methodClass hd k
theorem il_methodClass {i v : Int} (hv : h 21 i.toNat = v) (h0 : 0 ≤ i ∧ i < 61) (hd : decode cc pc = .ok (.iaload, 1)) (k : mJ l D cA ad d cc nL rt (pc + 1) L ((0, v) :: S) h Q) : mJ l D cA ad d cc nL rt pc L ((0, i) :: (2, ((21 : Nat) : Int)) :: S) h Q := ja_iald (n := 61) (by decide) rfl (by decide) h0.1 h0.2 hd (hv ▸ k)
theorem is_methodClass {i x : Int} (h0 : 0 ≤ i ∧ i < 61) (hd : decode cc pc = .ok (.iastore, 1)) (k : mJ l D cA ad d cc nL rt (pc + 1) L S (ja_up h 21 i.toNat x) Q) : mJ l D cA ad d cc nL rt pc L ((0, x) :: (0, i) :: (2, ((21 : Nat) : Int)) :: S) h Q := ja_iast (n := 61) (by decide) rfl (by decide) h0.1 h0.2 hd k
theorem fw_methodParams : Cond.fieldLink RX12 74 (TX12 38).1 (TX12 38).2.1 (TX12 38).2.2.1 ∈ ja_B := mo_fw (i := 0) (mo_pw0 21 (p := (74, 0, 12, 38, 6878)) rfl) rfl
theorem fa_methodParams (hd : decode cc pc = .ok (.getfield 74, 3)) (k : mJ l D cA ad d cc nL rt (pc + 3) L ((2, ((22 : Nat) : Int)) :: S) h Q) : mJ l D cA ad d cc nL rt pc L ((2, ((0 : Nat) : Int)) :: S) h Q := mo_get 74 38 rfl (by decide) fw_methodParams hd k
theorem il_methodParams {i v : Int} (hv : h 22 i.toNat = v) (h0 : 0 ≤ i ∧ i < 61) (hd : decode cc pc = .ok (.iaload, 1)) (k : mJ l D cA ad d cc nL rt (pc + 1) L ((0, v) :: S) h Q) : mJ l D cA ad d cc nL rt pc L ((0, i) :: (2, ((22 : Nat) : Int)) :: S) h Q := ja_iald (n := 61) (by decide) rfl (by decide) h0.1 h0.2 hd (hv ▸ k)
theorem is_methodParams {i x : Int} (h0 : 0 ≤ i ∧ i < 61) (hd : decode cc pc = .ok (.iastore, 1)) (k : mJ l D cA ad d cc nL rt (pc + 1) L S (ja_up h 22 i.toNat x) Q) : mJ l D cA ad d cc nL rt pc L ((0, x) :: (0, i) :: (2, ((22 : Nat) : Int)) :: S) h Q := ja_iast (n := 61) (by decide) rfl (by decide) h0.1 h0.2 hd k
theorem fw_methodStart : Cond.fieldLink RX12 77 (TX12 39).1 (TX12 39).2.1 (TX12 39).2.2.1 ∈ ja_B := mo_fw (i := 0) (mo_pw0 22 (p := (77, 0, 12, 39, 6879)) rfl) rfl
theorem fa_methodStart (hd : decode cc pc = .ok (.getfield 77, 3)) (k : mJ l D cA ad d cc nL rt (pc + 3) L ((2, ((23 : Nat) : Int)) :: S) h Q) : mJ l D cA ad d cc nL rt pc L ((2, ((0 : Nat) : Int)) :: S) h Q := mo_get 77 39 rfl (by decide) fw_methodStart hd k
theorem il_methodStart {i v : Int} (hv : h 23 i.toNat = v) (h0 : 0 ≤ i ∧ i < 61) (hd : decode cc pc = .ok (.iaload, 1)) (k : mJ l D cA ad d cc nL rt (pc + 1) L ((0, v) :: S) h Q) : mJ l D cA ad d cc nL rt pc L ((0, i) :: (2, ((23 : Nat) : Int)) :: S) h Q := ja_iald (n := 61) (by decide) rfl (by decide) h0.1 h0.2 hd (hv ▸ k)
theorem is_methodStart {i x : Int} (h0 : 0 ≤ i ∧ i < 61) (hd : decode cc pc = .ok (.iastore, 1)) (k : mJ l D cA ad d cc nL rt (pc + 1) L S (ja_up h 23 i.toNat x) Q) : mJ l D cA ad d cc nL rt pc L ((0, x) :: (0, i) :: (2, ((23 : Nat) : Int)) :: S) h Q := ja_iast (n := 61) (by decide) rfl (by decide) h0.1 h0.2 hd k
theorem fw_methodPoint : Cond.fieldLink RX12 80 (TX12 40).1 (TX12 40).2.1 (TX12 40).2.2.1 ∈ ja_B := mo_fw (i := 0) (mo_pw0 23 (p := (80, 0, 12, 40, 6880)) rfl) rfl
theorem fa_methodPoint (hd : decode cc pc = .ok (.getfield 80, 3)) (k : mJ l D cA ad d cc nL rt (pc + 3) L ((2, ((24 : Nat) : Int)) :: S) h Q) : mJ l D cA ad d cc nL rt pc L ((2, ((0 : Nat) : Int)) :: S) h Q := mo_get 80 40 rfl (by decide) fw_methodPoint hd k
theorem il_methodPoint {i v : Int} (hv : h 24 i.toNat = v) (h0 : 0 ≤ i ∧ i < 61) (hd : decode cc pc = .ok (.iaload, 1)) (k : mJ l D cA ad d cc nL rt (pc + 1) L ((0, v) :: S) h Q) : mJ l D cA ad d cc nL rt pc L ((0, i) :: (2, ((24 : Nat) : Int)) :: S) h Q := ja_iald (n := 61) (by decide) rfl (by decide) h0.1 h0.2 hd (hv ▸ k)
theorem is_methodPoint {i x : Int} (h0 : 0 ≤ i ∧ i < 61) (hd : decode cc pc = .ok (.iastore, 1)) (k : mJ l D cA ad d cc nL rt (pc + 1) L S (ja_up h 24 i.toNat x) Q) : mJ l D cA ad d cc nL rt pc L ((0, x) :: (0, i) :: (2, ((24 : Nat) : Int)) :: S) h Q := ja_iast (n := 61) (by decide) rfl (by decide) h0.1 h0.2 hd k
theorem fw_members : Cond.fieldLink RX12 659 (TX12 41).1 (TX12 41).2.1 (TX12 41).2.2.1 ∈ ja_B := mo_fw (i := 0) (mo_pw4 23 (p := (659, 0, 12, 41, 6881)) rfl) rfl
theorem fg_members {v : Int} (hv : h 0 41 = v) (hd : decode cc pc = .ok (.getfield 659, 3)) (k : mJ l D cA ad d cc nL rt (pc + 3) L ((0, v) :: S) h Q) : mJ l D cA ad d cc nL rt pc L ((2, ((0 : Nat) : Int)) :: S) h Q := mo_get 659 41 (congrArg (Prod.mk 0) hv) (by decide) fw_members hd k
theorem fp_members {x : Int} (hd : decode cc pc = .ok (.putfield 659, 3)) (k : mJ l D cA ad d cc nL rt (pc + 3) L S (ja_up h 0 41 x) Q) : mJ l D cA ad d cc nL rt pc L ((0, x) :: (2, ((0 : Nat) : Int)) :: S) h Q := mo_putI 659 41 (by decide) rfl rfl rfl fw_members hd k
theorem fw_memberName : Cond.fieldLink RX12 83 (TX12 42).1 (TX12 42).2.1 (TX12 42).2.2.1 ∈ ja_B := mo_fw (i := 0) (mo_pw0 24 (p := (83, 0, 12, 42, 6882)) rfl) rfl
theorem fa_memberName (hd : decode cc pc = .ok (.getfield 83, 3)) (k : mJ l D cA ad d cc nL rt (pc + 3) L ((2, ((25 : Nat) : Int)) :: S) h Q) : mJ l D cA ad d cc nL rt pc L ((2, ((0 : Nat) : Int)) :: S) h Q := mo_get 83 42 rfl (by decide) fw_memberName hd k
theorem il_memberName {i v : Int} (hv : h 25 i.toNat = v) (h0 : 0 ≤ i ∧ i < 900) (hd : decode cc pc = .ok (.iaload, 1)) (k : mJ l D cA ad d cc nL rt (pc + 1) L ((0, v) :: S) h Q) : mJ l D cA ad d cc nL rt pc L ((0, i) :: (2, ((25 : Nat) : Int)) :: S) h Q := ja_iald (n := 900) (by decide) rfl (by decide) h0.1 h0.2 hd (hv ▸ k)
theorem is_memberName {i x : Int} (h0 : 0 ≤ i ∧ i < 900) (hd : decode cc pc = .ok (.iastore, 1)) (k : mJ l D cA ad d cc nL rt (pc + 1) L S (ja_up h 25 i.toNat x) Q) : mJ l D cA ad d cc nL rt pc L ((0, x) :: (0, i) :: (2, ((25 : Nat) : Int)) :: S) h Q := ja_iast (n := 900) (by decide) rfl (by decide) h0.1 h0.2 hd k
theorem fw_memberOf : Cond.fieldLink RX12 86 (TX12 43).1 (TX12 43).2.1 (TX12 43).2.2.1 ∈ ja_B := mo_fw (i := 0) (mo_pw0 25 (p := (86, 0, 12, 43, 6883)) rfl) rfl
theorem fa_memberOf (hd : decode cc pc = .ok (.getfield 86, 3)) (k : mJ l D cA ad d cc nL rt (pc + 3) L ((2, ((26 : Nat) : Int)) :: S) h Q) : mJ l D cA ad d cc nL rt pc L ((2, ((0 : Nat) : Int)) :: S) h Q := mo_get 86 43 rfl (by decide) fw_memberOf hd k
theorem il_memberOf {i v : Int} (hv : h 26 i.toNat = v) (h0 : 0 ≤ i ∧ i < 900) (hd : decode cc pc = .ok (.iaload, 1)) (k : mJ l D cA ad d cc nL rt (pc + 1) L ((0, v) :: S) h Q) : mJ l D cA ad d cc nL rt pc L ((0, i) :: (2, ((26 : Nat) : Int)) :: S) h Q := ja_iald (n := 900) (by decide) rfl (by decide) h0.1 h0.2 hd (hv ▸ k)
theorem is_memberOf {i x : Int} (h0 : 0 ≤ i ∧ i < 900) (hd : decode cc pc = .ok (.iastore, 1)) (k : mJ l D cA ad d cc nL rt (pc + 1) L S (ja_up h 26 i.toNat x) Q) : mJ l D cA ad d cc nL rt pc L ((0, x) :: (0, i) :: (2, ((26 : Nat) : Int)) :: S) h Q := ja_iast (n := 900) (by decide) rfl (by decide) h0.1 h0.2 hd k
theorem fw_advices : Cond.fieldLink RX12 662 (TX12 44).1 (TX12 44).2.1 (TX12 44).2.2.1 ∈ ja_B := mo_fw (i := 0) (mo_pw4 24 (p := (662, 0, 12, 44, 6884)) rfl) rfl
theorem fg_advices {v : Int} (hv : h 0 44 = v) (hd : decode cc pc = .ok (.getfield 662, 3)) (k : mJ l D cA ad d cc nL rt (pc + 3) L ((0, v) :: S) h Q) : mJ l D cA ad d cc nL rt pc L ((2, ((0 : Nat) : Int)) :: S) h Q := mo_get 662 44 (congrArg (Prod.mk 0) hv) (by decide) fw_advices hd k
theorem fp_advices {x : Int} (hd : decode cc pc = .ok (.putfield 662, 3)) (k : mJ l D cA ad d cc nL rt (pc + 3) L S (ja_up h 0 44 x) Q) : mJ l D cA ad d cc nL rt pc L ((0, x) :: (2, ((0 : Nat) : Int)) :: S) h Q := mo_putI 662 44 (by decide) rfl rfl rfl fw_advices hd k
theorem fw_adviceKind : Cond.fieldLink RX12 89 (TX12 45).1 (TX12 45).2.1 (TX12 45).2.2.1 ∈ ja_B := mo_fw (i := 0) (mo_pw0 26 (p := (89, 0, 12, 45, 6885)) rfl) rfl
theorem fa_adviceKind (hd : decode cc pc = .ok (.getfield 89, 3)) (k : mJ l D cA ad d cc nL rt (pc + 3) L ((2, ((27 : Nat) : Int)) :: S) h Q) : mJ l D cA ad d cc nL rt pc L ((2, ((0 : Nat) : Int)) :: S) h Q := mo_get 89 45 rfl (by decide) fw_adviceKind hd k
theorem il_adviceKind {i v : Int} (hv : h 27 i.toNat = v) (h0 : 0 ≤ i ∧ i < 25) (hd : decode cc pc = .ok (.iaload, 1)) (k : mJ l D cA ad d cc nL rt (pc + 1) L ((0, v) :: S) h Q) : mJ l D cA ad d cc nL rt pc L ((0, i) :: (2, ((27 : Nat) : Int)) :: S) h Q := ja_iald (n := 25) (by decide) rfl (by decide) h0.1 h0.2 hd (hv ▸ k)
theorem is_adviceKind {i x : Int} (h0 : 0 ≤ i ∧ i < 25) (hd : decode cc pc = .ok (.iastore, 1)) (k : mJ l D cA ad d cc nL rt (pc + 1) L S (ja_up h 27 i.toNat x) Q) : mJ l D cA ad d cc nL rt pc L ((0, x) :: (0, i) :: (2, ((27 : Nat) : Int)) :: S) h Q := ja_iast (n := 25) (by decide) rfl (by decide) h0.1 h0.2 hd k
theorem fw_adviceGive : Cond.fieldLink RX12 92 (TX12 46).1 (TX12 46).2.1 (TX12 46).2.2.1 ∈ ja_B := mo_fw (i := 0) (mo_pw0 27 (p := (92, 0, 12, 46, 6886)) rfl) rfl
theorem fa_adviceGive (hd : decode cc pc = .ok (.getfield 92, 3)) (k : mJ l D cA ad d cc nL rt (pc + 3) L ((2, ((28 : Nat) : Int)) :: S) h Q) : mJ l D cA ad d cc nL rt pc L ((2, ((0 : Nat) : Int)) :: S) h Q := mo_get 92 46 rfl (by decide) fw_adviceGive hd k
theorem il_adviceGive {i v : Int} (hv : h 28 i.toNat = v) (h0 : 0 ≤ i ∧ i < 25) (hd : decode cc pc = .ok (.iaload, 1)) (k : mJ l D cA ad d cc nL rt (pc + 1) L ((0, v) :: S) h Q) : mJ l D cA ad d cc nL rt pc L ((0, i) :: (2, ((28 : Nat) : Int)) :: S) h Q := ja_iald (n := 25) (by decide) rfl (by decide) h0.1 h0.2 hd (hv ▸ k)
theorem is_adviceGive {i x : Int} (h0 : 0 ≤ i ∧ i < 25) (hd : decode cc pc = .ok (.iastore, 1)) (k : mJ l D cA ad d cc nL rt (pc + 1) L S (ja_up h 28 i.toNat x) Q) : mJ l D cA ad d cc nL rt pc L ((0, x) :: (0, i) :: (2, ((28 : Nat) : Int)) :: S) h Q := ja_iast (n := 25) (by decide) rfl (by decide) h0.1 h0.2 hd k
theorem fw_adviceAspect : Cond.fieldLink RX12 95 (TX12 47).1 (TX12 47).2.1 (TX12 47).2.2.1 ∈ ja_B := mo_fw (i := 0) (mo_pw0 28 (p := (95, 0, 12, 47, 6887)) rfl) rfl
theorem fa_adviceAspect (hd : decode cc pc = .ok (.getfield 95, 3)) (k : mJ l D cA ad d cc nL rt (pc + 3) L ((2, ((29 : Nat) : Int)) :: S) h Q) : mJ l D cA ad d cc nL rt pc L ((2, ((0 : Nat) : Int)) :: S) h Q := mo_get 95 47 rfl (by decide) fw_adviceAspect hd k
theorem il_adviceAspect {i v : Int} (hv : h 29 i.toNat = v) (h0 : 0 ≤ i ∧ i < 25) (hd : decode cc pc = .ok (.iaload, 1)) (k : mJ l D cA ad d cc nL rt (pc + 1) L ((0, v) :: S) h Q) : mJ l D cA ad d cc nL rt pc L ((0, i) :: (2, ((29 : Nat) : Int)) :: S) h Q := ja_iald (n := 25) (by decide) rfl (by decide) h0.1 h0.2 hd (hv ▸ k)
theorem is_adviceAspect {i x : Int} (h0 : 0 ≤ i ∧ i < 25) (hd : decode cc pc = .ok (.iastore, 1)) (k : mJ l D cA ad d cc nL rt (pc + 1) L S (ja_up h 29 i.toNat x) Q) : mJ l D cA ad d cc nL rt pc L ((0, x) :: (0, i) :: (2, ((29 : Nat) : Int)) :: S) h Q := ja_iast (n := 25) (by decide) rfl (by decide) h0.1 h0.2 hd k
theorem fw_adviceParams : Cond.fieldLink RX12 98 (TX12 48).1 (TX12 48).2.1 (TX12 48).2.2.1 ∈ ja_B := mo_fw (i := 0) (mo_pw0 29 (p := (98, 0, 12, 48, 6888)) rfl) rfl
theorem fa_adviceParams (hd : decode cc pc = .ok (.getfield 98, 3)) (k : mJ l D cA ad d cc nL rt (pc + 3) L ((2, ((30 : Nat) : Int)) :: S) h Q) : mJ l D cA ad d cc nL rt pc L ((2, ((0 : Nat) : Int)) :: S) h Q := mo_get 98 48 rfl (by decide) fw_adviceParams hd k
theorem il_adviceParams {i v : Int} (hv : h 30 i.toNat = v) (h0 : 0 ≤ i ∧ i < 25) (hd : decode cc pc = .ok (.iaload, 1)) (k : mJ l D cA ad d cc nL rt (pc + 1) L ((0, v) :: S) h Q) : mJ l D cA ad d cc nL rt pc L ((0, i) :: (2, ((30 : Nat) : Int)) :: S) h Q := ja_iald (n := 25) (by decide) rfl (by decide) h0.1 h0.2 hd (hv ▸ k)
theorem is_adviceParams {i x : Int} (h0 : 0 ≤ i ∧ i < 25) (hd : decode cc pc = .ok (.iastore, 1)) (k : mJ l D cA ad d cc nL rt (pc + 1) L S (ja_up h 30 i.toNat x) Q) : mJ l D cA ad d cc nL rt pc L ((0, x) :: (0, i) :: (2, ((30 : Nat) : Int)) :: S) h Q := ja_iast (n := 25) (by decide) rfl (by decide) h0.1 h0.2 hd k
theorem fw_adviceRoot : Cond.fieldLink RX12 101 (TX12 49).1 (TX12 49).2.1 (TX12 49).2.2.1 ∈ ja_B := mo_fw (i := 0) (mo_pw0 30 (p := (101, 0, 12, 49, 6889)) rfl) rfl
theorem fa_adviceRoot (hd : decode cc pc = .ok (.getfield 101, 3)) (k : mJ l D cA ad d cc nL rt (pc + 3) L ((2, ((31 : Nat) : Int)) :: S) h Q) : mJ l D cA ad d cc nL rt pc L ((2, ((0 : Nat) : Int)) :: S) h Q := mo_get 101 49 rfl (by decide) fw_adviceRoot hd k
theorem il_adviceRoot {i v : Int} (hv : h 31 i.toNat = v) (h0 : 0 ≤ i ∧ i < 25) (hd : decode cc pc = .ok (.iaload, 1)) (k : mJ l D cA ad d cc nL rt (pc + 1) L ((0, v) :: S) h Q) : mJ l D cA ad d cc nL rt pc L ((0, i) :: (2, ((31 : Nat) : Int)) :: S) h Q := ja_iald (n := 25) (by decide) rfl (by decide) h0.1 h0.2 hd (hv ▸ k)
theorem is_adviceRoot {i x : Int} (h0 : 0 ≤ i ∧ i < 25) (hd : decode cc pc = .ok (.iastore, 1)) (k : mJ l D cA ad d cc nL rt (pc + 1) L S (ja_up h 31 i.toNat x) Q) : mJ l D cA ad d cc nL rt pc L ((0, x) :: (0, i) :: (2, ((31 : Nat) : Int)) :: S) h Q := ja_iast (n := 25) (by decide) rfl (by decide) h0.1 h0.2 hd k
theorem fw_adviceStart : Cond.fieldLink RX12 104 (TX12 50).1 (TX12 50).2.1 (TX12 50).2.2.1 ∈ ja_B := mo_fw (i := 0) (mo_pw0 31 (p := (104, 0, 12, 50, 6890)) rfl) rfl
theorem fa_adviceStart (hd : decode cc pc = .ok (.getfield 104, 3)) (k : mJ l D cA ad d cc nL rt (pc + 3) L ((2, ((32 : Nat) : Int)) :: S) h Q) : mJ l D cA ad d cc nL rt pc L ((2, ((0 : Nat) : Int)) :: S) h Q := mo_get 104 50 rfl (by decide) fw_adviceStart hd k
theorem il_adviceStart {i v : Int} (hv : h 32 i.toNat = v) (h0 : 0 ≤ i ∧ i < 25) (hd : decode cc pc = .ok (.iaload, 1)) (k : mJ l D cA ad d cc nL rt (pc + 1) L ((0, v) :: S) h Q) : mJ l D cA ad d cc nL rt pc L ((0, i) :: (2, ((32 : Nat) : Int)) :: S) h Q := ja_iald (n := 25) (by decide) rfl (by decide) h0.1 h0.2 hd (hv ▸ k)
theorem is_adviceStart {i x : Int} (h0 : 0 ≤ i ∧ i < 25) (hd : decode cc pc = .ok (.iastore, 1)) (k : mJ l D cA ad d cc nL rt (pc + 1) L S (ja_up h 32 i.toNat x) Q) : mJ l D cA ad d cc nL rt pc L ((0, x) :: (0, i) :: (2, ((32 : Nat) : Int)) :: S) h Q := ja_iast (n := 25) (by decide) rfl (by decide) h0.1 h0.2 hd k
theorem fw_adviceToken : Cond.fieldLink RX12 107 (TX12 51).1 (TX12 51).2.1 (TX12 51).2.2.1 ∈ ja_B := mo_fw (i := 0) (mo_pw0 32 (p := (107, 0, 12, 51, 6891)) rfl) rfl
theorem fa_adviceToken (hd : decode cc pc = .ok (.getfield 107, 3)) (k : mJ l D cA ad d cc nL rt (pc + 3) L ((2, ((33 : Nat) : Int)) :: S) h Q) : mJ l D cA ad d cc nL rt pc L ((2, ((0 : Nat) : Int)) :: S) h Q := mo_get 107 51 rfl (by decide) fw_adviceToken hd k
theorem il_adviceToken {i v : Int} (hv : h 33 i.toNat = v) (h0 : 0 ≤ i ∧ i < 25) (hd : decode cc pc = .ok (.iaload, 1)) (k : mJ l D cA ad d cc nL rt (pc + 1) L ((0, v) :: S) h Q) : mJ l D cA ad d cc nL rt pc L ((0, i) :: (2, ((33 : Nat) : Int)) :: S) h Q := ja_iald (n := 25) (by decide) rfl (by decide) h0.1 h0.2 hd (hv ▸ k)
theorem is_adviceToken {i x : Int} (h0 : 0 ≤ i ∧ i < 25) (hd : decode cc pc = .ok (.iastore, 1)) (k : mJ l D cA ad d cc nL rt (pc + 1) L S (ja_up h 33 i.toNat x) Q) : mJ l D cA ad d cc nL rt pc L ((0, x) :: (0, i) :: (2, ((33 : Nat) : Int)) :: S) h Q := ja_iast (n := 25) (by decide) rfl (by decide) h0.1 h0.2 hd k
theorem fw_picks : Cond.fieldLink RX12 665 (TX12 52).1 (TX12 52).2.1 (TX12 52).2.2.1 ∈ ja_B := mo_fw (i := 0) (mo_pw4 25 (p := (665, 0, 12, 52, 6892)) rfl) rfl
theorem fg_picks {v : Int} (hv : h 0 52 = v) (hd : decode cc pc = .ok (.getfield 665, 3)) (k : mJ l D cA ad d cc nL rt (pc + 3) L ((0, v) :: S) h Q) : mJ l D cA ad d cc nL rt pc L ((2, ((0 : Nat) : Int)) :: S) h Q := mo_get 665 52 (congrArg (Prod.mk 0) hv) (by decide) fw_picks hd k
theorem fp_picks {x : Int} (hd : decode cc pc = .ok (.putfield 665, 3)) (k : mJ l D cA ad d cc nL rt (pc + 3) L S (ja_up h 0 52 x) Q) : mJ l D cA ad d cc nL rt pc L ((0, x) :: (2, ((0 : Nat) : Int)) :: S) h Q := mo_putI 665 52 (by decide) rfl rfl rfl fw_picks hd k
theorem fw_pickName : Cond.fieldLink RX12 110 (TX12 53).1 (TX12 53).2.1 (TX12 53).2.2.1 ∈ ja_B := mo_fw (i := 0) (mo_pw0 33 (p := (110, 0, 12, 53, 6893)) rfl) rfl
theorem fa_pickName (hd : decode cc pc = .ok (.getfield 110, 3)) (k : mJ l D cA ad d cc nL rt (pc + 3) L ((2, ((34 : Nat) : Int)) :: S) h Q) : mJ l D cA ad d cc nL rt pc L ((2, ((0 : Nat) : Int)) :: S) h Q := mo_get 110 53 rfl (by decide) fw_pickName hd k
theorem il_pickName {i v : Int} (hv : h 34 i.toNat = v) (h0 : 0 ≤ i ∧ i < 25) (hd : decode cc pc = .ok (.iaload, 1)) (k : mJ l D cA ad d cc nL rt (pc + 1) L ((0, v) :: S) h Q) : mJ l D cA ad d cc nL rt pc L ((0, i) :: (2, ((34 : Nat) : Int)) :: S) h Q := ja_iald (n := 25) (by decide) rfl (by decide) h0.1 h0.2 hd (hv ▸ k)
theorem is_pickName {i x : Int} (h0 : 0 ≤ i ∧ i < 25) (hd : decode cc pc = .ok (.iastore, 1)) (k : mJ l D cA ad d cc nL rt (pc + 1) L S (ja_up h 34 i.toNat x) Q) : mJ l D cA ad d cc nL rt pc L ((0, x) :: (0, i) :: (2, ((34 : Nat) : Int)) :: S) h Q := ja_iast (n := 25) (by decide) rfl (by decide) h0.1 h0.2 hd k
theorem fw_pickAspect : Cond.fieldLink RX12 113 (TX12 54).1 (TX12 54).2.1 (TX12 54).2.2.1 ∈ ja_B := mo_fw (i := 0) (mo_pw0 34 (p := (113, 0, 12, 54, 6894)) rfl) rfl
theorem fa_pickAspect (hd : decode cc pc = .ok (.getfield 113, 3)) (k : mJ l D cA ad d cc nL rt (pc + 3) L ((2, ((35 : Nat) : Int)) :: S) h Q) : mJ l D cA ad d cc nL rt pc L ((2, ((0 : Nat) : Int)) :: S) h Q := mo_get 113 54 rfl (by decide) fw_pickAspect hd k
theorem il_pickAspect {i v : Int} (hv : h 35 i.toNat = v) (h0 : 0 ≤ i ∧ i < 25) (hd : decode cc pc = .ok (.iaload, 1)) (k : mJ l D cA ad d cc nL rt (pc + 1) L ((0, v) :: S) h Q) : mJ l D cA ad d cc nL rt pc L ((0, i) :: (2, ((35 : Nat) : Int)) :: S) h Q := ja_iald (n := 25) (by decide) rfl (by decide) h0.1 h0.2 hd (hv ▸ k)
theorem is_pickAspect {i x : Int} (h0 : 0 ≤ i ∧ i < 25) (hd : decode cc pc = .ok (.iastore, 1)) (k : mJ l D cA ad d cc nL rt (pc + 1) L S (ja_up h 35 i.toNat x) Q) : mJ l D cA ad d cc nL rt pc L ((0, x) :: (0, i) :: (2, ((35 : Nat) : Int)) :: S) h Q := ja_iast (n := 25) (by decide) rfl (by decide) h0.1 h0.2 hd k
theorem fw_pickParams : Cond.fieldLink RX12 116 (TX12 55).1 (TX12 55).2.1 (TX12 55).2.2.1 ∈ ja_B := mo_fw (i := 0) (mo_pw0 35 (p := (116, 0, 12, 55, 6895)) rfl) rfl
theorem fa_pickParams (hd : decode cc pc = .ok (.getfield 116, 3)) (k : mJ l D cA ad d cc nL rt (pc + 3) L ((2, ((36 : Nat) : Int)) :: S) h Q) : mJ l D cA ad d cc nL rt pc L ((2, ((0 : Nat) : Int)) :: S) h Q := mo_get 116 55 rfl (by decide) fw_pickParams hd k
theorem il_pickParams {i v : Int} (hv : h 36 i.toNat = v) (h0 : 0 ≤ i ∧ i < 25) (hd : decode cc pc = .ok (.iaload, 1)) (k : mJ l D cA ad d cc nL rt (pc + 1) L ((0, v) :: S) h Q) : mJ l D cA ad d cc nL rt pc L ((0, i) :: (2, ((36 : Nat) : Int)) :: S) h Q := ja_iald (n := 25) (by decide) rfl (by decide) h0.1 h0.2 hd (hv ▸ k)
theorem is_pickParams {i x : Int} (h0 : 0 ≤ i ∧ i < 25) (hd : decode cc pc = .ok (.iastore, 1)) (k : mJ l D cA ad d cc nL rt (pc + 1) L S (ja_up h 36 i.toNat x) Q) : mJ l D cA ad d cc nL rt pc L ((0, x) :: (0, i) :: (2, ((36 : Nat) : Int)) :: S) h Q := ja_iast (n := 25) (by decide) rfl (by decide) h0.1 h0.2 hd k
theorem fw_pickRoot : Cond.fieldLink RX12 119 (TX12 56).1 (TX12 56).2.1 (TX12 56).2.2.1 ∈ ja_B := mo_fw (i := 0) (mo_pw0 36 (p := (119, 0, 12, 56, 6912)) rfl) rfl
theorem fa_pickRoot (hd : decode cc pc = .ok (.getfield 119, 3)) (k : mJ l D cA ad d cc nL rt (pc + 3) L ((2, ((37 : Nat) : Int)) :: S) h Q) : mJ l D cA ad d cc nL rt pc L ((2, ((0 : Nat) : Int)) :: S) h Q := mo_get 119 56 rfl (by decide) fw_pickRoot hd k
theorem il_pickRoot {i v : Int} (hv : h 37 i.toNat = v) (h0 : 0 ≤ i ∧ i < 25) (hd : decode cc pc = .ok (.iaload, 1)) (k : mJ l D cA ad d cc nL rt (pc + 1) L ((0, v) :: S) h Q) : mJ l D cA ad d cc nL rt pc L ((0, i) :: (2, ((37 : Nat) : Int)) :: S) h Q := ja_iald (n := 25) (by decide) rfl (by decide) h0.1 h0.2 hd (hv ▸ k)
theorem is_pickRoot {i x : Int} (h0 : 0 ≤ i ∧ i < 25) (hd : decode cc pc = .ok (.iastore, 1)) (k : mJ l D cA ad d cc nL rt (pc + 1) L S (ja_up h 37 i.toNat x) Q) : mJ l D cA ad d cc nL rt pc L ((0, x) :: (0, i) :: (2, ((37 : Nat) : Int)) :: S) h Q := ja_iast (n := 25) (by decide) rfl (by decide) h0.1 h0.2 hd k
theorem fw_bars : Cond.fieldLink RX12 668 (TX12 57).1 (TX12 57).2.1 (TX12 57).2.2.1 ∈ ja_B := mo_fw (i := 0) (mo_pw4 26 (p := (668, 0, 12, 57, 6913)) rfl) rfl
theorem fg_bars {v : Int} (hv : h 0 57 = v) (hd : decode cc pc = .ok (.getfield 668, 3)) (k : mJ l D cA ad d cc nL rt (pc + 3) L ((0, v) :: S) h Q) : mJ l D cA ad d cc nL rt pc L ((2, ((0 : Nat) : Int)) :: S) h Q := mo_get 668 57 (congrArg (Prod.mk 0) hv) (by decide) fw_bars hd k
theorem fp_bars {x : Int} (hd : decode cc pc = .ok (.putfield 668, 3)) (k : mJ l D cA ad d cc nL rt (pc + 3) L S (ja_up h 0 57 x) Q) : mJ l D cA ad d cc nL rt pc L ((0, x) :: (2, ((0 : Nat) : Int)) :: S) h Q := mo_putI 668 57 (by decide) rfl rfl rfl fw_bars hd k
theorem fw_barRoot : Cond.fieldLink RX12 122 (TX12 58).1 (TX12 58).2.1 (TX12 58).2.2.1 ∈ ja_B := mo_fw (i := 0) (mo_pw0 37 (p := (122, 0, 12, 58, 6914)) rfl) rfl
theorem fa_barRoot (hd : decode cc pc = .ok (.getfield 122, 3)) (k : mJ l D cA ad d cc nL rt (pc + 3) L ((2, ((38 : Nat) : Int)) :: S) h Q) : mJ l D cA ad d cc nL rt pc L ((2, ((0 : Nat) : Int)) :: S) h Q := mo_get 122 58 rfl (by decide) fw_barRoot hd k
theorem il_barRoot {i v : Int} (hv : h 38 i.toNat = v) (h0 : 0 ≤ i ∧ i < 13) (hd : decode cc pc = .ok (.iaload, 1)) (k : mJ l D cA ad d cc nL rt (pc + 1) L ((0, v) :: S) h Q) : mJ l D cA ad d cc nL rt pc L ((0, i) :: (2, ((38 : Nat) : Int)) :: S) h Q := ja_iald (n := 13) (by decide) rfl (by decide) h0.1 h0.2 hd (hv ▸ k)
theorem is_barRoot {i x : Int} (h0 : 0 ≤ i ∧ i < 13) (hd : decode cc pc = .ok (.iastore, 1)) (k : mJ l D cA ad d cc nL rt (pc + 1) L S (ja_up h 38 i.toNat x) Q) : mJ l D cA ad d cc nL rt pc L ((0, x) :: (0, i) :: (2, ((38 : Nat) : Int)) :: S) h Q := ja_iast (n := 13) (by decide) rfl (by decide) h0.1 h0.2 hd k
theorem fw_barWarns : Cond.fieldLink RX12 125 (TX12 59).1 (TX12 59).2.1 (TX12 59).2.2.1 ∈ ja_B := mo_fw (i := 0) (mo_pw0 38 (p := (125, 0, 12, 59, 6915)) rfl) rfl
theorem fa_barWarns (hd : decode cc pc = .ok (.getfield 125, 3)) (k : mJ l D cA ad d cc nL rt (pc + 3) L ((2, ((39 : Nat) : Int)) :: S) h Q) : mJ l D cA ad d cc nL rt pc L ((2, ((0 : Nat) : Int)) :: S) h Q := mo_get 125 59 rfl (by decide) fw_barWarns hd k
theorem il_barWarns {i v : Int} (hv : h 39 i.toNat = v) (h0 : 0 ≤ i ∧ i < 13) (hd : decode cc pc = .ok (.baload, 1)) (k : mJ l D cA ad d cc nL rt (pc + 1) L ((0, v) :: S) h Q) : mJ l D cA ad d cc nL rt pc L ((0, i) :: (2, ((39 : Nat) : Int)) :: S) h Q := ja_zald (n := 13) (by decide) rfl (by decide) h0.1 h0.2 hd (hv ▸ k)
theorem is_barWarns {i x : Int} (h0 : 0 ≤ i ∧ i < 13) (h01 : x = 0 ∨ x = 1) (hd : decode cc pc = .ok (.bastore, 1)) (k : mJ l D cA ad d cc nL rt (pc + 1) L S (ja_up h 39 i.toNat x) Q) : mJ l D cA ad d cc nL rt pc L ((0, x) :: (0, i) :: (2, ((39 : Nat) : Int)) :: S) h Q := ja_zast (n := 13) (by decide) rfl (by decide) h0.1 h0.2 h01 hd k
theorem fw_barToken : Cond.fieldLink RX12 128 (TX12 60).1 (TX12 60).2.1 (TX12 60).2.2.1 ∈ ja_B := mo_fw (i := 0) (mo_pw0 39 (p := (128, 0, 12, 60, 6916)) rfl) rfl
theorem fa_barToken (hd : decode cc pc = .ok (.getfield 128, 3)) (k : mJ l D cA ad d cc nL rt (pc + 3) L ((2, ((40 : Nat) : Int)) :: S) h Q) : mJ l D cA ad d cc nL rt pc L ((2, ((0 : Nat) : Int)) :: S) h Q := mo_get 128 60 rfl (by decide) fw_barToken hd k
theorem il_barToken {i v : Int} (hv : h 40 i.toNat = v) (h0 : 0 ≤ i ∧ i < 13) (hd : decode cc pc = .ok (.iaload, 1)) (k : mJ l D cA ad d cc nL rt (pc + 1) L ((0, v) :: S) h Q) : mJ l D cA ad d cc nL rt pc L ((0, i) :: (2, ((40 : Nat) : Int)) :: S) h Q := ja_iald (n := 13) (by decide) rfl (by decide) h0.1 h0.2 hd (hv ▸ k)
theorem is_barToken {i x : Int} (h0 : 0 ≤ i ∧ i < 13) (hd : decode cc pc = .ok (.iastore, 1)) (k : mJ l D cA ad d cc nL rt (pc + 1) L S (ja_up h 40 i.toNat x) Q) : mJ l D cA ad d cc nL rt pc L ((0, x) :: (0, i) :: (2, ((40 : Nat) : Int)) :: S) h Q := ja_iast (n := 13) (by decide) rfl (by decide) h0.1 h0.2 hd k
theorem fw_unders : Cond.fieldLink RX12 671 (TX12 61).1 (TX12 61).2.1 (TX12 61).2.2.1 ∈ ja_B := mo_fw (i := 0) (mo_pw4 27 (p := (671, 0, 12, 61, 6917)) rfl) rfl
theorem fg_unders {v : Int} (hv : h 0 61 = v) (hd : decode cc pc = .ok (.getfield 671, 3)) (k : mJ l D cA ad d cc nL rt (pc + 3) L ((0, v) :: S) h Q) : mJ l D cA ad d cc nL rt pc L ((2, ((0 : Nat) : Int)) :: S) h Q := mo_get 671 61 (congrArg (Prod.mk 0) hv) (by decide) fw_unders hd k
theorem fp_unders {x : Int} (hd : decode cc pc = .ok (.putfield 671, 3)) (k : mJ l D cA ad d cc nL rt (pc + 3) L S (ja_up h 0 61 x) Q) : mJ l D cA ad d cc nL rt pc L ((0, x) :: (2, ((0 : Nat) : Int)) :: S) h Q := mo_putI 671 61 (by decide) rfl rfl rfl fw_unders hd k
theorem fw_underOf : Cond.fieldLink RX12 131 (TX12 62).1 (TX12 62).2.1 (TX12 62).2.2.1 ∈ ja_B := mo_fw (i := 0) (mo_pw1 0 (p := (131, 0, 12, 62, 6918)) rfl) rfl
theorem fa_underOf (hd : decode cc pc = .ok (.getfield 131, 3)) (k : mJ l D cA ad d cc nL rt (pc + 3) L ((2, ((41 : Nat) : Int)) :: S) h Q) : mJ l D cA ad d cc nL rt pc L ((2, ((0 : Nat) : Int)) :: S) h Q := mo_get 131 62 rfl (by decide) fw_underOf hd k
theorem il_underOf {i v : Int} (hv : h 41 i.toNat = v) (h0 : 0 ≤ i ∧ i < 300) (hd : decode cc pc = .ok (.iaload, 1)) (k : mJ l D cA ad d cc nL rt (pc + 1) L ((0, v) :: S) h Q) : mJ l D cA ad d cc nL rt pc L ((0, i) :: (2, ((41 : Nat) : Int)) :: S) h Q := ja_iald (n := 300) (by decide) rfl (by decide) h0.1 h0.2 hd (hv ▸ k)
theorem is_underOf {i x : Int} (h0 : 0 ≤ i ∧ i < 300) (hd : decode cc pc = .ok (.iastore, 1)) (k : mJ l D cA ad d cc nL rt (pc + 1) L S (ja_up h 41 i.toNat x) Q) : mJ l D cA ad d cc nL rt pc L ((0, x) :: (0, i) :: (2, ((41 : Nat) : Int)) :: S) h Q := ja_iast (n := 300) (by decide) rfl (by decide) h0.1 h0.2 hd k
theorem fw_underName : Cond.fieldLink RX12 134 (TX12 63).1 (TX12 63).2.1 (TX12 63).2.2.1 ∈ ja_B := mo_fw (i := 0) (mo_pw1 1 (p := (134, 0, 12, 63, 6919)) rfl) rfl
theorem fa_underName (hd : decode cc pc = .ok (.getfield 134, 3)) (k : mJ l D cA ad d cc nL rt (pc + 3) L ((2, ((42 : Nat) : Int)) :: S) h Q) : mJ l D cA ad d cc nL rt pc L ((2, ((0 : Nat) : Int)) :: S) h Q := mo_get 134 63 rfl (by decide) fw_underName hd k
theorem il_underName {i v : Int} (hv : h 42 i.toNat = v) (h0 : 0 ≤ i ∧ i < 300) (hd : decode cc pc = .ok (.iaload, 1)) (k : mJ l D cA ad d cc nL rt (pc + 1) L ((0, v) :: S) h Q) : mJ l D cA ad d cc nL rt pc L ((0, i) :: (2, ((42 : Nat) : Int)) :: S) h Q := ja_iald (n := 300) (by decide) rfl (by decide) h0.1 h0.2 hd (hv ▸ k)
theorem is_underName {i x : Int} (h0 : 0 ≤ i ∧ i < 300) (hd : decode cc pc = .ok (.iastore, 1)) (k : mJ l D cA ad d cc nL rt (pc + 1) L S (ja_up h 42 i.toNat x) Q) : mJ l D cA ad d cc nL rt pc L ((0, x) :: (0, i) :: (2, ((42 : Nat) : Int)) :: S) h Q := ja_iast (n := 300) (by decide) rfl (by decide) h0.1 h0.2 hd k
theorem fw_orders : Cond.fieldLink RX12 674 (TX12 64).1 (TX12 64).2.1 (TX12 64).2.2.1 ∈ ja_B := mo_fw (i := 0) (mo_pw4 28 (p := (674, 0, 12, 64, 6920)) rfl) rfl
theorem fg_orders {v : Int} (hv : h 0 64 = v) (hd : decode cc pc = .ok (.getfield 674, 3)) (k : mJ l D cA ad d cc nL rt (pc + 3) L ((0, v) :: S) h Q) : mJ l D cA ad d cc nL rt pc L ((2, ((0 : Nat) : Int)) :: S) h Q := mo_get 674 64 (congrArg (Prod.mk 0) hv) (by decide) fw_orders hd k
theorem fp_orders {x : Int} (hd : decode cc pc = .ok (.putfield 674, 3)) (k : mJ l D cA ad d cc nL rt (pc + 3) L S (ja_up h 0 64 x) Q) : mJ l D cA ad d cc nL rt pc L ((0, x) :: (2, ((0 : Nat) : Int)) :: S) h Q := mo_putI 674 64 (by decide) rfl rfl rfl fw_orders hd k
theorem fw_orderName : Cond.fieldLink RX12 137 (TX12 65).1 (TX12 65).2.1 (TX12 65).2.2.1 ∈ ja_B := mo_fw (i := 0) (mo_pw1 2 (p := (137, 0, 12, 65, 6921)) rfl) rfl
theorem fa_orderName (hd : decode cc pc = .ok (.getfield 137, 3)) (k : mJ l D cA ad d cc nL rt (pc + 3) L ((2, ((43 : Nat) : Int)) :: S) h Q) : mJ l D cA ad d cc nL rt pc L ((2, ((0 : Nat) : Int)) :: S) h Q := mo_get 137 65 rfl (by decide) fw_orderName hd k
theorem il_orderName {i v : Int} (hv : h 43 i.toNat = v) (h0 : 0 ≤ i ∧ i < 900) (hd : decode cc pc = .ok (.iaload, 1)) (k : mJ l D cA ad d cc nL rt (pc + 1) L ((0, v) :: S) h Q) : mJ l D cA ad d cc nL rt pc L ((0, i) :: (2, ((43 : Nat) : Int)) :: S) h Q := ja_iald (n := 900) (by decide) rfl (by decide) h0.1 h0.2 hd (hv ▸ k)
theorem is_orderName {i x : Int} (h0 : 0 ≤ i ∧ i < 900) (hd : decode cc pc = .ok (.iastore, 1)) (k : mJ l D cA ad d cc nL rt (pc + 1) L S (ja_up h 43 i.toNat x) Q) : mJ l D cA ad d cc nL rt pc L ((0, x) :: (0, i) :: (2, ((43 : Nat) : Int)) :: S) h Q := ja_iast (n := 900) (by decide) rfl (by decide) h0.1 h0.2 hd k
theorem fw_mains : Cond.fieldLink RX12 677 (TX12 66).1 (TX12 66).2.1 (TX12 66).2.2.1 ∈ ja_B := mo_fw (i := 0) (mo_pw4 29 (p := (677, 0, 12, 66, 6922)) rfl) rfl
theorem fg_mains {v : Int} (hv : h 0 66 = v) (hd : decode cc pc = .ok (.getfield 677, 3)) (k : mJ l D cA ad d cc nL rt (pc + 3) L ((0, v) :: S) h Q) : mJ l D cA ad d cc nL rt pc L ((2, ((0 : Nat) : Int)) :: S) h Q := mo_get 677 66 (congrArg (Prod.mk 0) hv) (by decide) fw_mains hd k
theorem fp_mains {x : Int} (hd : decode cc pc = .ok (.putfield 677, 3)) (k : mJ l D cA ad d cc nL rt (pc + 3) L S (ja_up h 0 66 x) Q) : mJ l D cA ad d cc nL rt pc L ((0, x) :: (2, ((0 : Nat) : Int)) :: S) h Q := mo_putI 677 66 (by decide) rfl rfl rfl fw_mains hd k
theorem fw_mainStart : Cond.fieldLink RX12 680 (TX12 67).1 (TX12 67).2.1 (TX12 67).2.2.1 ∈ ja_B := mo_fw (i := 0) (mo_pw4 30 (p := (680, 0, 12, 67, 6923)) rfl) rfl
theorem fg_mainStart {v : Int} (hv : h 0 67 = v) (hd : decode cc pc = .ok (.getfield 680, 3)) (k : mJ l D cA ad d cc nL rt (pc + 3) L ((0, v) :: S) h Q) : mJ l D cA ad d cc nL rt pc L ((2, ((0 : Nat) : Int)) :: S) h Q := mo_get 680 67 (congrArg (Prod.mk 0) hv) (by decide) fw_mainStart hd k
theorem fp_mainStart {x : Int} (hd : decode cc pc = .ok (.putfield 680, 3)) (k : mJ l D cA ad d cc nL rt (pc + 3) L S (ja_up h 0 67 x) Q) : mJ l D cA ad d cc nL rt pc L ((0, x) :: (2, ((0 : Nat) : Int)) :: S) h Q := mo_putI 680 67 (by decide) rfl rfl rfl fw_mainStart hd k
theorem fw_wants : Cond.fieldLink RX12 626 (TX12 68).1 (TX12 68).2.1 (TX12 68).2.2.1 ∈ ja_B := mo_fw (i := 0) (mo_pw4 12 (p := (626, 0, 12, 68, 6924)) rfl) rfl
theorem fg_wants {v : Int} (hv : h 0 68 = v) (hd : decode cc pc = .ok (.getfield 626, 3)) (k : mJ l D cA ad d cc nL rt (pc + 3) L ((0, v) :: S) h Q) : mJ l D cA ad d cc nL rt pc L ((2, ((0 : Nat) : Int)) :: S) h Q := mo_get 626 68 (congrArg (Prod.mk 0) hv) (by decide) fw_wants hd k
theorem fp_wants {x : Int} (hd : decode cc pc = .ok (.putfield 626, 3)) (k : mJ l D cA ad d cc nL rt (pc + 3) L S (ja_up h 0 68 x) Q) : mJ l D cA ad d cc nL rt pc L ((0, x) :: (2, ((0 : Nat) : Int)) :: S) h Q := mo_putI 626 68 (by decide) rfl rfl rfl fw_wants hd k
theorem fw_wantToken : Cond.fieldLink RX12 140 (TX12 69).1 (TX12 69).2.1 (TX12 69).2.2.1 ∈ ja_B := mo_fw (i := 0) (mo_pw1 3 (p := (140, 0, 12, 69, 6925)) rfl) rfl
theorem fa_wantToken (hd : decode cc pc = .ok (.getfield 140, 3)) (k : mJ l D cA ad d cc nL rt (pc + 3) L ((2, ((44 : Nat) : Int)) :: S) h Q) : mJ l D cA ad d cc nL rt pc L ((2, ((0 : Nat) : Int)) :: S) h Q := mo_get 140 69 rfl (by decide) fw_wantToken hd k
theorem il_wantToken {i v : Int} (hv : h 44 i.toNat = v) (h0 : 0 ≤ i ∧ i < 900) (hd : decode cc pc = .ok (.iaload, 1)) (k : mJ l D cA ad d cc nL rt (pc + 1) L ((0, v) :: S) h Q) : mJ l D cA ad d cc nL rt pc L ((0, i) :: (2, ((44 : Nat) : Int)) :: S) h Q := ja_iald (n := 900) (by decide) rfl (by decide) h0.1 h0.2 hd (hv ▸ k)
theorem is_wantToken {i x : Int} (h0 : 0 ≤ i ∧ i < 900) (hd : decode cc pc = .ok (.iastore, 1)) (k : mJ l D cA ad d cc nL rt (pc + 1) L S (ja_up h 44 i.toNat x) Q) : mJ l D cA ad d cc nL rt pc L ((0, x) :: (0, i) :: (2, ((44 : Nat) : Int)) :: S) h Q := ja_iast (n := 900) (by decide) rfl (by decide) h0.1 h0.2 hd k
theorem fw_wantSort : Cond.fieldLink RX12 143 (TX12 70).1 (TX12 70).2.1 (TX12 70).2.2.1 ∈ ja_B := mo_fw (i := 0) (mo_pw1 4 (p := (143, 0, 12, 70, 6926)) rfl) rfl
theorem fa_wantSort (hd : decode cc pc = .ok (.getfield 143, 3)) (k : mJ l D cA ad d cc nL rt (pc + 3) L ((2, ((45 : Nat) : Int)) :: S) h Q) : mJ l D cA ad d cc nL rt pc L ((2, ((0 : Nat) : Int)) :: S) h Q := mo_get 143 70 rfl (by decide) fw_wantSort hd k
theorem il_wantSort {i v : Int} (hv : h 45 i.toNat = v) (h0 : 0 ≤ i ∧ i < 900) (hd : decode cc pc = .ok (.iaload, 1)) (k : mJ l D cA ad d cc nL rt (pc + 1) L ((0, v) :: S) h Q) : mJ l D cA ad d cc nL rt pc L ((0, i) :: (2, ((45 : Nat) : Int)) :: S) h Q := ja_iald (n := 900) (by decide) rfl (by decide) h0.1 h0.2 hd (hv ▸ k)
theorem is_wantSort {i x : Int} (h0 : 0 ≤ i ∧ i < 900) (hd : decode cc pc = .ok (.iastore, 1)) (k : mJ l D cA ad d cc nL rt (pc + 1) L S (ja_up h 45 i.toNat x) Q) : mJ l D cA ad d cc nL rt pc L ((0, x) :: (0, i) :: (2, ((45 : Nat) : Int)) :: S) h Q := ja_iast (n := 900) (by decide) rfl (by decide) h0.1 h0.2 hd k
theorem fw_wantOf : Cond.fieldLink RX12 146 (TX12 71).1 (TX12 71).2.1 (TX12 71).2.2.1 ∈ ja_B := mo_fw (i := 0) (mo_pw1 5 (p := (146, 0, 12, 71, 6927)) rfl) rfl
theorem fa_wantOf (hd : decode cc pc = .ok (.getfield 146, 3)) (k : mJ l D cA ad d cc nL rt (pc + 3) L ((2, ((46 : Nat) : Int)) :: S) h Q) : mJ l D cA ad d cc nL rt pc L ((2, ((0 : Nat) : Int)) :: S) h Q := mo_get 146 71 rfl (by decide) fw_wantOf hd k
theorem il_wantOf {i v : Int} (hv : h 46 i.toNat = v) (h0 : 0 ≤ i ∧ i < 900) (hd : decode cc pc = .ok (.iaload, 1)) (k : mJ l D cA ad d cc nL rt (pc + 1) L ((0, v) :: S) h Q) : mJ l D cA ad d cc nL rt pc L ((0, i) :: (2, ((46 : Nat) : Int)) :: S) h Q := ja_iald (n := 900) (by decide) rfl (by decide) h0.1 h0.2 hd (hv ▸ k)
theorem is_wantOf {i x : Int} (h0 : 0 ≤ i ∧ i < 900) (hd : decode cc pc = .ok (.iastore, 1)) (k : mJ l D cA ad d cc nL rt (pc + 1) L S (ja_up h 46 i.toNat x) Q) : mJ l D cA ad d cc nL rt pc L ((0, x) :: (0, i) :: (2, ((46 : Nat) : Int)) :: S) h Q := ja_iast (n := 900) (by decide) rfl (by decide) h0.1 h0.2 hd k
theorem fw_uses : Cond.fieldLink RX12 683 (TX12 72).1 (TX12 72).2.1 (TX12 72).2.2.1 ∈ ja_B := mo_fw (i := 0) (mo_pw4 31 (p := (683, 0, 12, 72, 6928)) rfl) rfl
theorem fg_uses {v : Int} (hv : h 0 72 = v) (hd : decode cc pc = .ok (.getfield 683, 3)) (k : mJ l D cA ad d cc nL rt (pc + 3) L ((0, v) :: S) h Q) : mJ l D cA ad d cc nL rt pc L ((2, ((0 : Nat) : Int)) :: S) h Q := mo_get 683 72 (congrArg (Prod.mk 0) hv) (by decide) fw_uses hd k
theorem fp_uses {x : Int} (hd : decode cc pc = .ok (.putfield 683, 3)) (k : mJ l D cA ad d cc nL rt (pc + 3) L S (ja_up h 0 72 x) Q) : mJ l D cA ad d cc nL rt pc L ((0, x) :: (2, ((0 : Nat) : Int)) :: S) h Q := mo_putI 683 72 (by decide) rfl rfl rfl fw_uses hd k
theorem fw_useNode : Cond.fieldLink RX12 149 (TX12 73).1 (TX12 73).2.1 (TX12 73).2.2.1 ∈ ja_B := mo_fw (i := 0) (mo_pw1 6 (p := (149, 0, 12, 73, 6929)) rfl) rfl
theorem fa_useNode (hd : decode cc pc = .ok (.getfield 149, 3)) (k : mJ l D cA ad d cc nL rt (pc + 3) L ((2, ((47 : Nat) : Int)) :: S) h Q) : mJ l D cA ad d cc nL rt pc L ((2, ((0 : Nat) : Int)) :: S) h Q := mo_get 149 73 rfl (by decide) fw_useNode hd k
theorem il_useNode {i v : Int} (hv : h 47 i.toNat = v) (h0 : 0 ≤ i ∧ i < 900) (hd : decode cc pc = .ok (.iaload, 1)) (k : mJ l D cA ad d cc nL rt (pc + 1) L ((0, v) :: S) h Q) : mJ l D cA ad d cc nL rt pc L ((0, i) :: (2, ((47 : Nat) : Int)) :: S) h Q := ja_iald (n := 900) (by decide) rfl (by decide) h0.1 h0.2 hd (hv ▸ k)
theorem is_useNode {i x : Int} (h0 : 0 ≤ i ∧ i < 900) (hd : decode cc pc = .ok (.iastore, 1)) (k : mJ l D cA ad d cc nL rt (pc + 1) L S (ja_up h 47 i.toNat x) Q) : mJ l D cA ad d cc nL rt pc L ((0, x) :: (0, i) :: (2, ((47 : Nat) : Int)) :: S) h Q := ja_iast (n := 900) (by decide) rfl (by decide) h0.1 h0.2 hd k
theorem fw_body : Cond.fieldLink RX12 620 (TX12 74).1 (TX12 74).2.1 (TX12 74).2.2.1 ∈ ja_B := mo_fw (i := 0) (mo_pw4 10 (p := (620, 0, 12, 74, 6930)) rfl) rfl
theorem fg_body {v : Int} (hv : h 0 74 = v) (hd : decode cc pc = .ok (.getfield 620, 3)) (k : mJ l D cA ad d cc nL rt (pc + 3) L ((0, v) :: S) h Q) : mJ l D cA ad d cc nL rt pc L ((2, ((0 : Nat) : Int)) :: S) h Q := mo_get 620 74 (congrArg (Prod.mk 0) hv) (by decide) fw_body hd k
theorem fp_body {x : Int} (hd : decode cc pc = .ok (.putfield 620, 3)) (k : mJ l D cA ad d cc nL rt (pc + 3) L S (ja_up h 0 74 x) Q) : mJ l D cA ad d cc nL rt pc L ((0, x) :: (2, ((0 : Nat) : Int)) :: S) h Q := mo_putI 620 74 (by decide) rfl rfl rfl fw_body hd k
theorem fw_bodyNumber : Cond.fieldLink RX12 623 (TX12 75).1 (TX12 75).2.1 (TX12 75).2.2.1 ∈ ja_B := mo_fw (i := 0) (mo_pw4 11 (p := (623, 0, 12, 75, 6931)) rfl) rfl
theorem fg_bodyNumber {v : Int} (hv : h 0 75 = v) (hd : decode cc pc = .ok (.getfield 623, 3)) (k : mJ l D cA ad d cc nL rt (pc + 3) L ((0, v) :: S) h Q) : mJ l D cA ad d cc nL rt pc L ((2, ((0 : Nat) : Int)) :: S) h Q := mo_get 623 75 (congrArg (Prod.mk 0) hv) (by decide) fw_bodyNumber hd k
theorem fp_bodyNumber {x : Int} (hd : decode cc pc = .ok (.putfield 623, 3)) (k : mJ l D cA ad d cc nL rt (pc + 3) L S (ja_up h 0 75 x) Q) : mJ l D cA ad d cc nL rt pc L ((0, x) :: (2, ((0 : Nat) : Int)) :: S) h Q := mo_putI 623 75 (by decide) rfl rfl rfl fw_bodyNumber hd k
theorem fw_inAspect : Cond.fieldLink RX12 760 (TX12 76).1 (TX12 76).2.1 (TX12 76).2.2.1 ∈ ja_B := mo_fw (i := 0) (mo_pw5 16 (p := (760, 0, 12, 76, 6932)) rfl) rfl
theorem fg_inAspect {v : Int} (hv : h 0 76 = v) (hd : decode cc pc = .ok (.getfield 760, 3)) (k : mJ l D cA ad d cc nL rt (pc + 3) L ((0, v) :: S) h Q) : mJ l D cA ad d cc nL rt pc L ((2, ((0 : Nat) : Int)) :: S) h Q := mo_get 760 76 (congrArg (Prod.mk 0) hv) (by decide) fw_inAspect hd k
theorem fp_inAspect {x : Int} (hd : decode cc pc = .ok (.putfield 760, 3)) (k : mJ l D cA ad d cc nL rt (pc + 3) L S (ja_up h 0 76 x) Q) : mJ l D cA ad d cc nL rt pc L ((0, x) :: (2, ((0 : Nat) : Int)) :: S) h Q := mo_putI 760 76 (by decide) rfl rfl rfl fw_inAspect hd k
theorem fw_locals : Cond.fieldLink RX12 710 (TX12 77).1 (TX12 77).2.1 (TX12 77).2.2.1 ∈ ja_B := mo_fw (i := 0) (mo_pw5 0 (p := (710, 0, 12, 77, 6933)) rfl) rfl
theorem fg_locals {v : Int} (hv : h 0 77 = v) (hd : decode cc pc = .ok (.getfield 710, 3)) (k : mJ l D cA ad d cc nL rt (pc + 3) L ((0, v) :: S) h Q) : mJ l D cA ad d cc nL rt pc L ((2, ((0 : Nat) : Int)) :: S) h Q := mo_get 710 77 (congrArg (Prod.mk 0) hv) (by decide) fw_locals hd k
theorem fp_locals {x : Int} (hd : decode cc pc = .ok (.putfield 710, 3)) (k : mJ l D cA ad d cc nL rt (pc + 3) L S (ja_up h 0 77 x) Q) : mJ l D cA ad d cc nL rt pc L ((0, x) :: (2, ((0 : Nat) : Int)) :: S) h Q := mo_putI 710 77 (by decide) rfl rfl rfl fw_locals hd k
theorem fw_localName : Cond.fieldLink RX12 152 (TX12 78).1 (TX12 78).2.1 (TX12 78).2.2.1 ∈ ja_B := mo_fw (i := 0) (mo_pw1 7 (p := (152, 0, 12, 78, 6934)) rfl) rfl
theorem fa_localName (hd : decode cc pc = .ok (.getfield 152, 3)) (k : mJ l D cA ad d cc nL rt (pc + 3) L ((2, ((48 : Nat) : Int)) :: S) h Q) : mJ l D cA ad d cc nL rt pc L ((2, ((0 : Nat) : Int)) :: S) h Q := mo_get 152 78 rfl (by decide) fw_localName hd k
theorem il_localName {i v : Int} (hv : h 48 i.toNat = v) (h0 : 0 ≤ i ∧ i < 16) (hd : decode cc pc = .ok (.iaload, 1)) (k : mJ l D cA ad d cc nL rt (pc + 1) L ((0, v) :: S) h Q) : mJ l D cA ad d cc nL rt pc L ((0, i) :: (2, ((48 : Nat) : Int)) :: S) h Q := ja_iald (n := 16) (by decide) rfl (by decide) h0.1 h0.2 hd (hv ▸ k)
theorem is_localName {i x : Int} (h0 : 0 ≤ i ∧ i < 16) (hd : decode cc pc = .ok (.iastore, 1)) (k : mJ l D cA ad d cc nL rt (pc + 1) L S (ja_up h 48 i.toNat x) Q) : mJ l D cA ad d cc nL rt pc L ((0, x) :: (0, i) :: (2, ((48 : Nat) : Int)) :: S) h Q := ja_iast (n := 16) (by decide) rfl (by decide) h0.1 h0.2 hd k
theorem fw_known : Cond.fieldLink RX12 713 (TX12 79).1 (TX12 79).2.1 (TX12 79).2.2.1 ∈ ja_B := mo_fw (i := 0) (mo_pw5 1 (p := (713, 0, 12, 79, 6935)) rfl) rfl
theorem fg_known {v : Int} (hv : h 0 79 = v) (hd : decode cc pc = .ok (.getfield 713, 3)) (k : mJ l D cA ad d cc nL rt (pc + 3) L ((0, v) :: S) h Q) : mJ l D cA ad d cc nL rt pc L ((2, ((0 : Nat) : Int)) :: S) h Q := mo_get 713 79 (congrArg (Prod.mk 0) hv) (by decide) fw_known hd k
theorem fp_known {x : Int} (hd : decode cc pc = .ok (.putfield 713, 3)) (k : mJ l D cA ad d cc nL rt (pc + 3) L S (ja_up h 0 79 x) Q) : mJ l D cA ad d cc nL rt pc L ((0, x) :: (2, ((0 : Nat) : Int)) :: S) h Q := mo_putI 713 79 (by decide) rfl rfl rfl fw_known hd k
theorem fw_knownName : Cond.fieldLink RX12 155 (TX12 80).1 (TX12 80).2.1 (TX12 80).2.2.1 ∈ ja_B := mo_fw (i := 0) (mo_pw1 8 (p := (155, 0, 12, 80, 6936)) rfl) rfl
theorem fa_knownName (hd : decode cc pc = .ok (.getfield 155, 3)) (k : mJ l D cA ad d cc nL rt (pc + 3) L ((2, ((49 : Nat) : Int)) :: S) h Q) : mJ l D cA ad d cc nL rt pc L ((2, ((0 : Nat) : Int)) :: S) h Q := mo_get 155 80 rfl (by decide) fw_knownName hd k
theorem il_knownName {i v : Int} (hv : h 49 i.toNat = v) (h0 : 0 ≤ i ∧ i < 16) (hd : decode cc pc = .ok (.iaload, 1)) (k : mJ l D cA ad d cc nL rt (pc + 1) L ((0, v) :: S) h Q) : mJ l D cA ad d cc nL rt pc L ((0, i) :: (2, ((49 : Nat) : Int)) :: S) h Q := ja_iald (n := 16) (by decide) rfl (by decide) h0.1 h0.2 hd (hv ▸ k)
theorem is_knownName {i x : Int} (h0 : 0 ≤ i ∧ i < 16) (hd : decode cc pc = .ok (.iastore, 1)) (k : mJ l D cA ad d cc nL rt (pc + 1) L S (ja_up h 49 i.toNat x) Q) : mJ l D cA ad d cc nL rt pc L ((0, x) :: (0, i) :: (2, ((49 : Nat) : Int)) :: S) h Q := ja_iast (n := 16) (by decide) rfl (by decide) h0.1 h0.2 hd k
theorem fw_knownSlot : Cond.fieldLink RX12 158 (TX12 81).1 (TX12 81).2.1 (TX12 81).2.2.1 ∈ ja_B := mo_fw (i := 0) (mo_pw1 9 (p := (158, 0, 12, 81, 6937)) rfl) rfl
theorem fa_knownSlot (hd : decode cc pc = .ok (.getfield 158, 3)) (k : mJ l D cA ad d cc nL rt (pc + 3) L ((2, ((50 : Nat) : Int)) :: S) h Q) : mJ l D cA ad d cc nL rt pc L ((2, ((0 : Nat) : Int)) :: S) h Q := mo_get 158 81 rfl (by decide) fw_knownSlot hd k
theorem il_knownSlot {i v : Int} (hv : h 50 i.toNat = v) (h0 : 0 ≤ i ∧ i < 16) (hd : decode cc pc = .ok (.iaload, 1)) (k : mJ l D cA ad d cc nL rt (pc + 1) L ((0, v) :: S) h Q) : mJ l D cA ad d cc nL rt pc L ((0, i) :: (2, ((50 : Nat) : Int)) :: S) h Q := ja_iald (n := 16) (by decide) rfl (by decide) h0.1 h0.2 hd (hv ▸ k)
theorem is_knownSlot {i x : Int} (h0 : 0 ≤ i ∧ i < 16) (hd : decode cc pc = .ok (.iastore, 1)) (k : mJ l D cA ad d cc nL rt (pc + 1) L S (ja_up h 50 i.toNat x) Q) : mJ l D cA ad d cc nL rt pc L ((0, x) :: (0, i) :: (2, ((50 : Nat) : Int)) :: S) h Q := ja_iast (n := 16) (by decide) rfl (by decide) h0.1 h0.2 hd k
theorem fw_params : Cond.fieldLink RX12 704 (TX12 82).1 (TX12 82).2.1 (TX12 82).2.2.1 ∈ ja_B := mo_fw (i := 0) (mo_pw4 38 (p := (704, 0, 12, 82, 6938)) rfl) rfl
theorem fg_params {v : Int} (hv : h 0 82 = v) (hd : decode cc pc = .ok (.getfield 704, 3)) (k : mJ l D cA ad d cc nL rt (pc + 3) L ((0, v) :: S) h Q) : mJ l D cA ad d cc nL rt pc L ((2, ((0 : Nat) : Int)) :: S) h Q := mo_get 704 82 (congrArg (Prod.mk 0) hv) (by decide) fw_params hd k
theorem fp_params {x : Int} (hd : decode cc pc = .ok (.putfield 704, 3)) (k : mJ l D cA ad d cc nL rt (pc + 3) L S (ja_up h 0 82 x) Q) : mJ l D cA ad d cc nL rt pc L ((0, x) :: (2, ((0 : Nat) : Int)) :: S) h Q := mo_putI 704 82 (by decide) rfl rfl rfl fw_params hd k
theorem fw_paramName : Cond.fieldLink RX12 161 (TX12 83).1 (TX12 83).2.1 (TX12 83).2.2.1 ∈ ja_B := mo_fw (i := 0) (mo_pw1 10 (p := (161, 0, 12, 83, 6939)) rfl) rfl
theorem fa_paramName (hd : decode cc pc = .ok (.getfield 161, 3)) (k : mJ l D cA ad d cc nL rt (pc + 3) L ((2, ((51 : Nat) : Int)) :: S) h Q) : mJ l D cA ad d cc nL rt pc L ((2, ((0 : Nat) : Int)) :: S) h Q := mo_get 161 83 rfl (by decide) fw_paramName hd k
theorem il_paramName {i v : Int} (hv : h 51 i.toNat = v) (h0 : 0 ≤ i ∧ i < 8) (hd : decode cc pc = .ok (.iaload, 1)) (k : mJ l D cA ad d cc nL rt (pc + 1) L ((0, v) :: S) h Q) : mJ l D cA ad d cc nL rt pc L ((0, i) :: (2, ((51 : Nat) : Int)) :: S) h Q := ja_iald (n := 8) (by decide) rfl (by decide) h0.1 h0.2 hd (hv ▸ k)
theorem is_paramName {i x : Int} (h0 : 0 ≤ i ∧ i < 8) (hd : decode cc pc = .ok (.iastore, 1)) (k : mJ l D cA ad d cc nL rt (pc + 1) L S (ja_up h 51 i.toNat x) Q) : mJ l D cA ad d cc nL rt pc L ((0, x) :: (0, i) :: (2, ((51 : Nat) : Int)) :: S) h Q := ja_iast (n := 8) (by decide) rfl (by decide) h0.1 h0.2 hd k
theorem fw_quiet : Cond.fieldLink RX12 692 (TX12 84).1 (TX12 84).2.1 (TX12 84).2.2.1 ∈ ja_B := mo_fw (i := 0) (mo_pw4 34 (p := (692, 0, 12, 84, 6940)) rfl) rfl
theorem fg_quiet {v : Int} (hv : h 0 84 = v) (hd : decode cc pc = .ok (.getfield 692, 3)) (k : mJ l D cA ad d cc nL rt (pc + 3) L ((0, v) :: S) h Q) : mJ l D cA ad d cc nL rt pc L ((2, ((0 : Nat) : Int)) :: S) h Q := mo_get 692 84 (congrArg (Prod.mk 0) hv) (by decide) fw_quiet hd k
theorem fp_quiet {x : Int} (hd : decode cc pc = .ok (.putfield 692, 3)) (k : mJ l D cA ad d cc nL rt (pc + 3) L S (ja_up h 0 84 x) Q) : mJ l D cA ad d cc nL rt pc L ((0, x) :: (2, ((0 : Nat) : Int)) :: S) h Q := mo_putI 692 84 (by decide) rfl rfl rfl fw_quiet hd k
theorem fw_inPick : Cond.fieldLink RX12 695 (TX12 85).1 (TX12 85).2.1 (TX12 85).2.2.1 ∈ ja_B := mo_fw (i := 0) (mo_pw4 35 (p := (695, 0, 12, 85, 6941)) rfl) rfl
theorem fg_inPick {v : Int} (hv : h 0 85 = v) (hd : decode cc pc = .ok (.getfield 695, 3)) (k : mJ l D cA ad d cc nL rt (pc + 3) L ((0, v) :: S) h Q) : mJ l D cA ad d cc nL rt pc L ((2, ((0 : Nat) : Int)) :: S) h Q := mo_get 695 85 (congrArg (Prod.mk 0) hv) (by decide) fw_inPick hd k
theorem fp_inPick {x : Int} (hd : decode cc pc = .ok (.putfield 695, 3)) (k : mJ l D cA ad d cc nL rt (pc + 3) L S (ja_up h 0 85 x) Q) : mJ l D cA ad d cc nL rt pc L ((0, x) :: (2, ((0 : Nat) : Int)) :: S) h Q := mo_putI 695 85 (by decide) rfl rfl rfl fw_inPick hd k
theorem fw_inIf : Cond.fieldLink RX12 698 (TX12 86).1 (TX12 86).2.1 (TX12 86).2.2.1 ∈ ja_B := mo_fw (i := 0) (mo_pw4 36 (p := (698, 0, 12, 86, 6942)) rfl) rfl
theorem fg_inIf {v : Int} (hv : h 0 86 = v) (hd : decode cc pc = .ok (.getfield 698, 3)) (k : mJ l D cA ad d cc nL rt (pc + 3) L ((0, v) :: S) h Q) : mJ l D cA ad d cc nL rt pc L ((2, ((0 : Nat) : Int)) :: S) h Q := mo_get 698 86 (congrArg (Prod.mk 0) hv) (by decide) fw_inIf hd k
theorem fp_inIf {x : Int} (hd : decode cc pc = .ok (.putfield 698, 3)) (k : mJ l D cA ad d cc nL rt (pc + 3) L S (ja_up h 0 86 x) Q) : mJ l D cA ad d cc nL rt pc L ((0, x) :: (2, ((0 : Nat) : Int)) :: S) h Q := mo_putI 698 86 (by decide) rfl rfl rfl fw_inIf hd k
theorem fw_inFlow : Cond.fieldLink RX12 701 (TX12 87).1 (TX12 87).2.1 (TX12 87).2.2.1 ∈ ja_B := mo_fw (i := 0) (mo_pw4 37 (p := (701, 0, 12, 87, 6943)) rfl) rfl
theorem fg_inFlow {v : Int} (hv : h 0 87 = v) (hd : decode cc pc = .ok (.getfield 701, 3)) (k : mJ l D cA ad d cc nL rt (pc + 3) L ((0, v) :: S) h Q) : mJ l D cA ad d cc nL rt pc L ((2, ((0 : Nat) : Int)) :: S) h Q := mo_get 701 87 (congrArg (Prod.mk 0) hv) (by decide) fw_inFlow hd k
theorem fp_inFlow {x : Int} (hd : decode cc pc = .ok (.putfield 701, 3)) (k : mJ l D cA ad d cc nL rt (pc + 3) L S (ja_up h 0 87 x) Q) : mJ l D cA ad d cc nL rt pc L ((0, x) :: (2, ((0 : Nat) : Int)) :: S) h Q := mo_putI 701 87 (by decide) rfl rfl rfl fw_inFlow hd k
theorem fw_points : Cond.fieldLink RX12 617 (TX12 88).1 (TX12 88).2.1 (TX12 88).2.2.1 ∈ ja_B := mo_fw (i := 0) (mo_pw4 9 (p := (617, 0, 12, 88, 6944)) rfl) rfl
theorem fg_points {v : Int} (hv : h 0 88 = v) (hd : decode cc pc = .ok (.getfield 617, 3)) (k : mJ l D cA ad d cc nL rt (pc + 3) L ((0, v) :: S) h Q) : mJ l D cA ad d cc nL rt pc L ((2, ((0 : Nat) : Int)) :: S) h Q := mo_get 617 88 (congrArg (Prod.mk 0) hv) (by decide) fw_points hd k
theorem fp_points {x : Int} (hd : decode cc pc = .ok (.putfield 617, 3)) (k : mJ l D cA ad d cc nL rt (pc + 3) L S (ja_up h 0 88 x) Q) : mJ l D cA ad d cc nL rt pc L ((0, x) :: (2, ((0 : Nat) : Int)) :: S) h Q := mo_putI 617 88 (by decide) rfl rfl rfl fw_points hd k
theorem fw_pointKind : Cond.fieldLink RX12 164 (TX12 89).1 (TX12 89).2.1 (TX12 89).2.2.1 ∈ ja_B := mo_fw (i := 0) (mo_pw1 11 (p := (164, 0, 12, 89, 6945)) rfl) rfl
theorem fa_pointKind (hd : decode cc pc = .ok (.getfield 164, 3)) (k : mJ l D cA ad d cc nL rt (pc + 3) L ((2, ((52 : Nat) : Int)) :: S) h Q) : mJ l D cA ad d cc nL rt pc L ((2, ((0 : Nat) : Int)) :: S) h Q := mo_get 164 89 rfl (by decide) fw_pointKind hd k
theorem il_pointKind {i v : Int} (hv : h 52 i.toNat = v) (h0 : 0 ≤ i ∧ i < 400) (hd : decode cc pc = .ok (.iaload, 1)) (k : mJ l D cA ad d cc nL rt (pc + 1) L ((0, v) :: S) h Q) : mJ l D cA ad d cc nL rt pc L ((0, i) :: (2, ((52 : Nat) : Int)) :: S) h Q := ja_iald (n := 400) (by decide) rfl (by decide) h0.1 h0.2 hd (hv ▸ k)
theorem is_pointKind {i x : Int} (h0 : 0 ≤ i ∧ i < 400) (hd : decode cc pc = .ok (.iastore, 1)) (k : mJ l D cA ad d cc nL rt (pc + 1) L S (ja_up h 52 i.toNat x) Q) : mJ l D cA ad d cc nL rt pc L ((0, x) :: (0, i) :: (2, ((52 : Nat) : Int)) :: S) h Q := ja_iast (n := 400) (by decide) rfl (by decide) h0.1 h0.2 hd k
theorem fw_pointToken : Cond.fieldLink RX12 167 (TX12 90).1 (TX12 90).2.1 (TX12 90).2.2.1 ∈ ja_B := mo_fw (i := 0) (mo_pw1 12 (p := (167, 0, 12, 90, 6946)) rfl) rfl
theorem fa_pointToken (hd : decode cc pc = .ok (.getfield 167, 3)) (k : mJ l D cA ad d cc nL rt (pc + 3) L ((2, ((53 : Nat) : Int)) :: S) h Q) : mJ l D cA ad d cc nL rt pc L ((2, ((0 : Nat) : Int)) :: S) h Q := mo_get 167 90 rfl (by decide) fw_pointToken hd k
theorem il_pointToken {i v : Int} (hv : h 53 i.toNat = v) (h0 : 0 ≤ i ∧ i < 400) (hd : decode cc pc = .ok (.iaload, 1)) (k : mJ l D cA ad d cc nL rt (pc + 1) L ((0, v) :: S) h Q) : mJ l D cA ad d cc nL rt pc L ((0, i) :: (2, ((53 : Nat) : Int)) :: S) h Q := ja_iald (n := 400) (by decide) rfl (by decide) h0.1 h0.2 hd (hv ▸ k)
theorem is_pointToken {i x : Int} (h0 : 0 ≤ i ∧ i < 400) (hd : decode cc pc = .ok (.iastore, 1)) (k : mJ l D cA ad d cc nL rt (pc + 1) L S (ja_up h 53 i.toNat x) Q) : mJ l D cA ad d cc nL rt pc L ((0, x) :: (0, i) :: (2, ((53 : Nat) : Int)) :: S) h Q := ja_iast (n := 400) (by decide) rfl (by decide) h0.1 h0.2 hd k
theorem fw_pointName : Cond.fieldLink RX12 170 (TX12 91).1 (TX12 91).2.1 (TX12 91).2.2.1 ∈ ja_B := mo_fw (i := 0) (mo_pw1 13 (p := (170, 0, 12, 91, 6947)) rfl) rfl
theorem fa_pointName (hd : decode cc pc = .ok (.getfield 170, 3)) (k : mJ l D cA ad d cc nL rt (pc + 3) L ((2, ((54 : Nat) : Int)) :: S) h Q) : mJ l D cA ad d cc nL rt pc L ((2, ((0 : Nat) : Int)) :: S) h Q := mo_get 170 91 rfl (by decide) fw_pointName hd k
theorem il_pointName {i v : Int} (hv : h 54 i.toNat = v) (h0 : 0 ≤ i ∧ i < 400) (hd : decode cc pc = .ok (.iaload, 1)) (k : mJ l D cA ad d cc nL rt (pc + 1) L ((0, v) :: S) h Q) : mJ l D cA ad d cc nL rt pc L ((0, i) :: (2, ((54 : Nat) : Int)) :: S) h Q := ja_iald (n := 400) (by decide) rfl (by decide) h0.1 h0.2 hd (hv ▸ k)
theorem is_pointName {i x : Int} (h0 : 0 ≤ i ∧ i < 400) (hd : decode cc pc = .ok (.iastore, 1)) (k : mJ l D cA ad d cc nL rt (pc + 1) L S (ja_up h 54 i.toNat x) Q) : mJ l D cA ad d cc nL rt pc L ((0, x) :: (0, i) :: (2, ((54 : Nat) : Int)) :: S) h Q := ja_iast (n := 400) (by decide) rfl (by decide) h0.1 h0.2 hd k
theorem fw_pointArgs : Cond.fieldLink RX12 173 (TX12 92).1 (TX12 92).2.1 (TX12 92).2.2.1 ∈ ja_B := mo_fw (i := 0) (mo_pw1 14 (p := (173, 0, 12, 92, 6948)) rfl) rfl
theorem fa_pointArgs (hd : decode cc pc = .ok (.getfield 173, 3)) (k : mJ l D cA ad d cc nL rt (pc + 3) L ((2, ((55 : Nat) : Int)) :: S) h Q) : mJ l D cA ad d cc nL rt pc L ((2, ((0 : Nat) : Int)) :: S) h Q := mo_get 173 92 rfl (by decide) fw_pointArgs hd k
theorem il_pointArgs {i v : Int} (hv : h 55 i.toNat = v) (h0 : 0 ≤ i ∧ i < 400) (hd : decode cc pc = .ok (.iaload, 1)) (k : mJ l D cA ad d cc nL rt (pc + 1) L ((0, v) :: S) h Q) : mJ l D cA ad d cc nL rt pc L ((0, i) :: (2, ((55 : Nat) : Int)) :: S) h Q := ja_iald (n := 400) (by decide) rfl (by decide) h0.1 h0.2 hd (hv ▸ k)
theorem is_pointArgs {i x : Int} (h0 : 0 ≤ i ∧ i < 400) (hd : decode cc pc = .ok (.iastore, 1)) (k : mJ l D cA ad d cc nL rt (pc + 1) L S (ja_up h 55 i.toNat x) Q) : mJ l D cA ad d cc nL rt pc L ((0, x) :: (0, i) :: (2, ((55 : Nat) : Int)) :: S) h Q := ja_iast (n := 400) (by decide) rfl (by decide) h0.1 h0.2 hd k
theorem fw_pointStands : Cond.fieldLink RX12 176 (TX12 93).1 (TX12 93).2.1 (TX12 93).2.2.1 ∈ ja_B := mo_fw (i := 0) (mo_pw1 15 (p := (176, 0, 12, 93, 6949)) rfl) rfl
theorem fa_pointStands (hd : decode cc pc = .ok (.getfield 176, 3)) (k : mJ l D cA ad d cc nL rt (pc + 3) L ((2, ((56 : Nat) : Int)) :: S) h Q) : mJ l D cA ad d cc nL rt pc L ((2, ((0 : Nat) : Int)) :: S) h Q := mo_get 176 93 rfl (by decide) fw_pointStands hd k
theorem il_pointStands {i v : Int} (hv : h 56 i.toNat = v) (h0 : 0 ≤ i ∧ i < 400) (hd : decode cc pc = .ok (.iaload, 1)) (k : mJ l D cA ad d cc nL rt (pc + 1) L ((0, v) :: S) h Q) : mJ l D cA ad d cc nL rt pc L ((0, i) :: (2, ((56 : Nat) : Int)) :: S) h Q := ja_iald (n := 400) (by decide) rfl (by decide) h0.1 h0.2 hd (hv ▸ k)
theorem is_pointStands {i x : Int} (h0 : 0 ≤ i ∧ i < 400) (hd : decode cc pc = .ok (.iastore, 1)) (k : mJ l D cA ad d cc nL rt (pc + 1) L S (ja_up h 56 i.toNat x) Q) : mJ l D cA ad d cc nL rt pc L ((0, x) :: (0, i) :: (2, ((56 : Nat) : Int)) :: S) h Q := ja_iast (n := 400) (by decide) rfl (by decide) h0.1 h0.2 hd k
theorem fw_pointWhich : Cond.fieldLink RX12 179 (TX12 94).1 (TX12 94).2.1 (TX12 94).2.2.1 ∈ ja_B := mo_fw (i := 0) (mo_pw1 16 (p := (179, 0, 12, 94, 6950)) rfl) rfl
theorem fa_pointWhich (hd : decode cc pc = .ok (.getfield 179, 3)) (k : mJ l D cA ad d cc nL rt (pc + 3) L ((2, ((57 : Nat) : Int)) :: S) h Q) : mJ l D cA ad d cc nL rt pc L ((2, ((0 : Nat) : Int)) :: S) h Q := mo_get 179 94 rfl (by decide) fw_pointWhich hd k
theorem il_pointWhich {i v : Int} (hv : h 57 i.toNat = v) (h0 : 0 ≤ i ∧ i < 400) (hd : decode cc pc = .ok (.iaload, 1)) (k : mJ l D cA ad d cc nL rt (pc + 1) L ((0, v) :: S) h Q) : mJ l D cA ad d cc nL rt pc L ((0, i) :: (2, ((57 : Nat) : Int)) :: S) h Q := ja_iald (n := 400) (by decide) rfl (by decide) h0.1 h0.2 hd (hv ▸ k)
theorem is_pointWhich {i x : Int} (h0 : 0 ≤ i ∧ i < 400) (hd : decode cc pc = .ok (.iastore, 1)) (k : mJ l D cA ad d cc nL rt (pc + 1) L S (ja_up h 57 i.toNat x) Q) : mJ l D cA ad d cc nL rt pc L ((0, x) :: (0, i) :: (2, ((57 : Nat) : Int)) :: S) h Q := ja_iast (n := 400) (by decide) rfl (by decide) h0.1 h0.2 hd k
theorem fw_nodes : Cond.fieldLink RX12 686 (TX12 95).1 (TX12 95).2.1 (TX12 95).2.2.1 ∈ ja_B := mo_fw (i := 0) (mo_pw4 32 (p := (686, 0, 12, 95, 6951)) rfl) rfl
theorem fg_nodes {v : Int} (hv : h 0 95 = v) (hd : decode cc pc = .ok (.getfield 686, 3)) (k : mJ l D cA ad d cc nL rt (pc + 3) L ((0, v) :: S) h Q) : mJ l D cA ad d cc nL rt pc L ((2, ((0 : Nat) : Int)) :: S) h Q := mo_get 686 95 (congrArg (Prod.mk 0) hv) (by decide) fw_nodes hd k
theorem fp_nodes {x : Int} (hd : decode cc pc = .ok (.putfield 686, 3)) (k : mJ l D cA ad d cc nL rt (pc + 3) L S (ja_up h 0 95 x) Q) : mJ l D cA ad d cc nL rt pc L ((0, x) :: (2, ((0 : Nat) : Int)) :: S) h Q := mo_putI 686 95 (by decide) rfl rfl rfl fw_nodes hd k
theorem fw_nodeKind : Cond.fieldLink RX12 182 (TX12 96).1 (TX12 96).2.1 (TX12 96).2.2.1 ∈ ja_B := mo_fw (i := 0) (mo_pw1 17 (p := (182, 0, 12, 96, 6952)) rfl) rfl
theorem fa_nodeKind (hd : decode cc pc = .ok (.getfield 182, 3)) (k : mJ l D cA ad d cc nL rt (pc + 3) L ((2, ((58 : Nat) : Int)) :: S) h Q) : mJ l D cA ad d cc nL rt pc L ((2, ((0 : Nat) : Int)) :: S) h Q := mo_get 182 96 rfl (by decide) fw_nodeKind hd k
theorem il_nodeKind {i v : Int} (hv : h 58 i.toNat = v) (h0 : 0 ≤ i ∧ i < 900) (hd : decode cc pc = .ok (.iaload, 1)) (k : mJ l D cA ad d cc nL rt (pc + 1) L ((0, v) :: S) h Q) : mJ l D cA ad d cc nL rt pc L ((0, i) :: (2, ((58 : Nat) : Int)) :: S) h Q := ja_iald (n := 900) (by decide) rfl (by decide) h0.1 h0.2 hd (hv ▸ k)
theorem is_nodeKind {i x : Int} (h0 : 0 ≤ i ∧ i < 900) (hd : decode cc pc = .ok (.iastore, 1)) (k : mJ l D cA ad d cc nL rt (pc + 1) L S (ja_up h 58 i.toNat x) Q) : mJ l D cA ad d cc nL rt pc L ((0, x) :: (0, i) :: (2, ((58 : Nat) : Int)) :: S) h Q := ja_iast (n := 900) (by decide) rfl (by decide) h0.1 h0.2 hd k
theorem fw_nodeA : Cond.fieldLink RX12 185 (TX12 97).1 (TX12 97).2.1 (TX12 97).2.2.1 ∈ ja_B := mo_fw (i := 0) (mo_pw1 18 (p := (185, 0, 12, 97, 6953)) rfl) rfl
theorem fa_nodeA (hd : decode cc pc = .ok (.getfield 185, 3)) (k : mJ l D cA ad d cc nL rt (pc + 3) L ((2, ((59 : Nat) : Int)) :: S) h Q) : mJ l D cA ad d cc nL rt pc L ((2, ((0 : Nat) : Int)) :: S) h Q := mo_get 185 97 rfl (by decide) fw_nodeA hd k
theorem il_nodeA {i v : Int} (hv : h 59 i.toNat = v) (h0 : 0 ≤ i ∧ i < 900) (hd : decode cc pc = .ok (.iaload, 1)) (k : mJ l D cA ad d cc nL rt (pc + 1) L ((0, v) :: S) h Q) : mJ l D cA ad d cc nL rt pc L ((0, i) :: (2, ((59 : Nat) : Int)) :: S) h Q := ja_iald (n := 900) (by decide) rfl (by decide) h0.1 h0.2 hd (hv ▸ k)
theorem is_nodeA {i x : Int} (h0 : 0 ≤ i ∧ i < 900) (hd : decode cc pc = .ok (.iastore, 1)) (k : mJ l D cA ad d cc nL rt (pc + 1) L S (ja_up h 59 i.toNat x) Q) : mJ l D cA ad d cc nL rt pc L ((0, x) :: (0, i) :: (2, ((59 : Nat) : Int)) :: S) h Q := ja_iast (n := 900) (by decide) rfl (by decide) h0.1 h0.2 hd k
theorem fw_nodeB : Cond.fieldLink RX12 188 (TX12 98).1 (TX12 98).2.1 (TX12 98).2.2.1 ∈ ja_B := mo_fw (i := 0) (mo_pw1 19 (p := (188, 0, 12, 98, 6954)) rfl) rfl
theorem fa_nodeB (hd : decode cc pc = .ok (.getfield 188, 3)) (k : mJ l D cA ad d cc nL rt (pc + 3) L ((2, ((60 : Nat) : Int)) :: S) h Q) : mJ l D cA ad d cc nL rt pc L ((2, ((0 : Nat) : Int)) :: S) h Q := mo_get 188 98 rfl (by decide) fw_nodeB hd k
theorem il_nodeB {i v : Int} (hv : h 60 i.toNat = v) (h0 : 0 ≤ i ∧ i < 900) (hd : decode cc pc = .ok (.iaload, 1)) (k : mJ l D cA ad d cc nL rt (pc + 1) L ((0, v) :: S) h Q) : mJ l D cA ad d cc nL rt pc L ((0, i) :: (2, ((60 : Nat) : Int)) :: S) h Q := ja_iald (n := 900) (by decide) rfl (by decide) h0.1 h0.2 hd (hv ▸ k)
theorem is_nodeB {i x : Int} (h0 : 0 ≤ i ∧ i < 900) (hd : decode cc pc = .ok (.iastore, 1)) (k : mJ l D cA ad d cc nL rt (pc + 1) L S (ja_up h 60 i.toNat x) Q) : mJ l D cA ad d cc nL rt pc L ((0, x) :: (0, i) :: (2, ((60 : Nat) : Int)) :: S) h Q := ja_iast (n := 900) (by decide) rfl (by decide) h0.1 h0.2 hd k
theorem fw_nodeToken : Cond.fieldLink RX12 191 (TX12 99).1 (TX12 99).2.1 (TX12 99).2.2.1 ∈ ja_B := mo_fw (i := 0) (mo_pw1 20 (p := (191, 0, 12, 99, 6955)) rfl) rfl
theorem fa_nodeToken (hd : decode cc pc = .ok (.getfield 191, 3)) (k : mJ l D cA ad d cc nL rt (pc + 3) L ((2, ((61 : Nat) : Int)) :: S) h Q) : mJ l D cA ad d cc nL rt pc L ((2, ((0 : Nat) : Int)) :: S) h Q := mo_get 191 99 rfl (by decide) fw_nodeToken hd k
theorem il_nodeToken {i v : Int} (hv : h 61 i.toNat = v) (h0 : 0 ≤ i ∧ i < 900) (hd : decode cc pc = .ok (.iaload, 1)) (k : mJ l D cA ad d cc nL rt (pc + 1) L ((0, v) :: S) h Q) : mJ l D cA ad d cc nL rt pc L ((0, i) :: (2, ((61 : Nat) : Int)) :: S) h Q := ja_iald (n := 900) (by decide) rfl (by decide) h0.1 h0.2 hd (hv ▸ k)
theorem is_nodeToken {i x : Int} (h0 : 0 ≤ i ∧ i < 900) (hd : decode cc pc = .ok (.iastore, 1)) (k : mJ l D cA ad d cc nL rt (pc + 1) L S (ja_up h 61 i.toNat x) Q) : mJ l D cA ad d cc nL rt pc L ((0, x) :: (0, i) :: (2, ((61 : Nat) : Int)) :: S) h Q := ja_iast (n := 900) (by decide) rfl (by decide) h0.1 h0.2 hd k
theorem fw_nodeMany : Cond.fieldLink RX12 194 (TX12 100).1 (TX12 100).2.1 (TX12 100).2.2.1 ∈ ja_B := mo_fw (i := 0) (mo_pw1 21 (p := (194, 0, 12, 100, 6956)) rfl) rfl
theorem fa_nodeMany (hd : decode cc pc = .ok (.getfield 194, 3)) (k : mJ l D cA ad d cc nL rt (pc + 3) L ((2, ((62 : Nat) : Int)) :: S) h Q) : mJ l D cA ad d cc nL rt pc L ((2, ((0 : Nat) : Int)) :: S) h Q := mo_get 194 100 rfl (by decide) fw_nodeMany hd k
theorem il_nodeMany {i v : Int} (hv : h 62 i.toNat = v) (h0 : 0 ≤ i ∧ i < 900) (hd : decode cc pc = .ok (.iaload, 1)) (k : mJ l D cA ad d cc nL rt (pc + 1) L ((0, v) :: S) h Q) : mJ l D cA ad d cc nL rt pc L ((0, i) :: (2, ((62 : Nat) : Int)) :: S) h Q := ja_iald (n := 900) (by decide) rfl (by decide) h0.1 h0.2 hd (hv ▸ k)
theorem is_nodeMany {i x : Int} (h0 : 0 ≤ i ∧ i < 900) (hd : decode cc pc = .ok (.iastore, 1)) (k : mJ l D cA ad d cc nL rt (pc + 1) L S (ja_up h 62 i.toNat x) Q) : mJ l D cA ad d cc nL rt pc L ((0, x) :: (0, i) :: (2, ((62 : Nat) : Int)) :: S) h Q := ja_iast (n := 900) (by decide) rfl (by decide) h0.1 h0.2 hd k
theorem fw_nodeArg : Cond.fieldLink RX12 197 (TX12 101).1 (TX12 101).2.1 (TX12 101).2.2.1 ∈ ja_B := mo_fw (i := 0) (mo_pw1 22 (p := (197, 0, 12, 101, 6957)) rfl) rfl
theorem fa_nodeArg (hd : decode cc pc = .ok (.getfield 197, 3)) (k : mJ l D cA ad d cc nL rt (pc + 3) L ((2, ((63 : Nat) : Int)) :: S) h Q) : mJ l D cA ad d cc nL rt pc L ((2, ((0 : Nat) : Int)) :: S) h Q := mo_get 197 101 rfl (by decide) fw_nodeArg hd k
theorem il_nodeArg {i v : Int} (hv : h 63 i.toNat = v) (h0 : 0 ≤ i ∧ i < 6300) (hd : decode cc pc = .ok (.iaload, 1)) (k : mJ l D cA ad d cc nL rt (pc + 1) L ((0, v) :: S) h Q) : mJ l D cA ad d cc nL rt pc L ((0, i) :: (2, ((63 : Nat) : Int)) :: S) h Q := ja_iald (n := 6300) (by decide) rfl (by decide) h0.1 h0.2 hd (hv ▸ k)
theorem is_nodeArg {i x : Int} (h0 : 0 ≤ i ∧ i < 6300) (hd : decode cc pc = .ok (.iastore, 1)) (k : mJ l D cA ad d cc nL rt (pc + 1) L S (ja_up h 63 i.toNat x) Q) : mJ l D cA ad d cc nL rt pc L ((0, x) :: (0, i) :: (2, ((63 : Nat) : Int)) :: S) h Q := ja_iast (n := 6300) (by decide) rfl (by decide) h0.1 h0.2 hd k
theorem fw_nodeAspect : Cond.fieldLink RX12 200 (TX12 102).1 (TX12 102).2.1 (TX12 102).2.2.1 ∈ ja_B := mo_fw (i := 0) (mo_pw1 23 (p := (200, 0, 12, 102, 6958)) rfl) rfl
theorem fa_nodeAspect (hd : decode cc pc = .ok (.getfield 200, 3)) (k : mJ l D cA ad d cc nL rt (pc + 3) L ((2, ((64 : Nat) : Int)) :: S) h Q) : mJ l D cA ad d cc nL rt pc L ((2, ((0 : Nat) : Int)) :: S) h Q := mo_get 200 102 rfl (by decide) fw_nodeAspect hd k
theorem il_nodeAspect {i v : Int} (hv : h 64 i.toNat = v) (h0 : 0 ≤ i ∧ i < 900) (hd : decode cc pc = .ok (.iaload, 1)) (k : mJ l D cA ad d cc nL rt (pc + 1) L ((0, v) :: S) h Q) : mJ l D cA ad d cc nL rt pc L ((0, i) :: (2, ((64 : Nat) : Int)) :: S) h Q := ja_iald (n := 900) (by decide) rfl (by decide) h0.1 h0.2 hd (hv ▸ k)
theorem is_nodeAspect {i x : Int} (h0 : 0 ≤ i ∧ i < 900) (hd : decode cc pc = .ok (.iastore, 1)) (k : mJ l D cA ad d cc nL rt (pc + 1) L S (ja_up h 64 i.toNat x) Q) : mJ l D cA ad d cc nL rt pc L ((0, x) :: (0, i) :: (2, ((64 : Nat) : Int)) :: S) h Q := ja_iast (n := 900) (by decide) rfl (by decide) h0.1 h0.2 hd k
theorem fw_nodeBinds : Cond.fieldLink RX12 203 (TX12 103).1 (TX12 103).2.1 (TX12 103).2.2.1 ∈ ja_B := mo_fw (i := 0) (mo_pw1 24 (p := (203, 0, 12, 103, 6959)) rfl) rfl
theorem fa_nodeBinds (hd : decode cc pc = .ok (.getfield 203, 3)) (k : mJ l D cA ad d cc nL rt (pc + 3) L ((2, ((65 : Nat) : Int)) :: S) h Q) : mJ l D cA ad d cc nL rt pc L ((2, ((0 : Nat) : Int)) :: S) h Q := mo_get 203 103 rfl (by decide) fw_nodeBinds hd k
theorem il_nodeBinds {i v : Int} (hv : h 65 i.toNat = v) (h0 : 0 ≤ i ∧ i < 900) (hd : decode cc pc = .ok (.iaload, 1)) (k : mJ l D cA ad d cc nL rt (pc + 1) L ((0, v) :: S) h Q) : mJ l D cA ad d cc nL rt pc L ((0, i) :: (2, ((65 : Nat) : Int)) :: S) h Q := ja_iald (n := 900) (by decide) rfl (by decide) h0.1 h0.2 hd (hv ▸ k)
theorem is_nodeBinds {i x : Int} (h0 : 0 ≤ i ∧ i < 900) (hd : decode cc pc = .ok (.iastore, 1)) (k : mJ l D cA ad d cc nL rt (pc + 1) L S (ja_up h 65 i.toNat x) Q) : mJ l D cA ad d cc nL rt pc L ((0, x) :: (0, i) :: (2, ((65 : Nat) : Int)) :: S) h Q := ja_iast (n := 900) (by decide) rfl (by decide) h0.1 h0.2 hd k
theorem fw_nodeTwice : Cond.fieldLink RX12 206 (TX12 104).1 (TX12 104).2.1 (TX12 104).2.2.1 ∈ ja_B := mo_fw (i := 0) (mo_pw1 25 (p := (206, 0, 12, 104, 6960)) rfl) rfl
theorem fa_nodeTwice (hd : decode cc pc = .ok (.getfield 206, 3)) (k : mJ l D cA ad d cc nL rt (pc + 3) L ((2, ((66 : Nat) : Int)) :: S) h Q) : mJ l D cA ad d cc nL rt pc L ((2, ((0 : Nat) : Int)) :: S) h Q := mo_get 206 104 rfl (by decide) fw_nodeTwice hd k
theorem il_nodeTwice {i v : Int} (hv : h 66 i.toNat = v) (h0 : 0 ≤ i ∧ i < 900) (hd : decode cc pc = .ok (.baload, 1)) (k : mJ l D cA ad d cc nL rt (pc + 1) L ((0, v) :: S) h Q) : mJ l D cA ad d cc nL rt pc L ((0, i) :: (2, ((66 : Nat) : Int)) :: S) h Q := ja_zald (n := 900) (by decide) rfl (by decide) h0.1 h0.2 hd (hv ▸ k)
theorem is_nodeTwice {i x : Int} (h0 : 0 ≤ i ∧ i < 900) (h01 : x = 0 ∨ x = 1) (hd : decode cc pc = .ok (.bastore, 1)) (k : mJ l D cA ad d cc nL rt (pc + 1) L S (ja_up h 66 i.toNat x) Q) : mJ l D cA ad d cc nL rt pc L ((0, x) :: (0, i) :: (2, ((66 : Nat) : Int)) :: S) h Q := ja_zast (n := 900) (by decide) rfl (by decide) h0.1 h0.2 h01 hd k
theorem fw_nodeInPick : Cond.fieldLink RX12 209 (TX12 105).1 (TX12 105).2.1 (TX12 105).2.2.1 ∈ ja_B := mo_fw (i := 0) (mo_pw1 26 (p := (209, 0, 12, 105, 6961)) rfl) rfl
theorem fa_nodeInPick (hd : decode cc pc = .ok (.getfield 209, 3)) (k : mJ l D cA ad d cc nL rt (pc + 3) L ((2, ((67 : Nat) : Int)) :: S) h Q) : mJ l D cA ad d cc nL rt pc L ((2, ((0 : Nat) : Int)) :: S) h Q := mo_get 209 105 rfl (by decide) fw_nodeInPick hd k
theorem il_nodeInPick {i v : Int} (hv : h 67 i.toNat = v) (h0 : 0 ≤ i ∧ i < 900) (hd : decode cc pc = .ok (.baload, 1)) (k : mJ l D cA ad d cc nL rt (pc + 1) L ((0, v) :: S) h Q) : mJ l D cA ad d cc nL rt pc L ((0, i) :: (2, ((67 : Nat) : Int)) :: S) h Q := ja_zald (n := 900) (by decide) rfl (by decide) h0.1 h0.2 hd (hv ▸ k)
theorem is_nodeInPick {i x : Int} (h0 : 0 ≤ i ∧ i < 900) (h01 : x = 0 ∨ x = 1) (hd : decode cc pc = .ok (.bastore, 1)) (k : mJ l D cA ad d cc nL rt (pc + 1) L S (ja_up h 67 i.toNat x) Q) : mJ l D cA ad d cc nL rt pc L ((0, x) :: (0, i) :: (2, ((67 : Nat) : Int)) :: S) h Q := ja_zast (n := 900) (by decide) rfl (by decide) h0.1 h0.2 h01 hd k
theorem fw_nodeTypes : Cond.fieldLink RX12 212 (TX12 106).1 (TX12 106).2.1 (TX12 106).2.2.1 ∈ ja_B := mo_fw (i := 0) (mo_pw1 27 (p := (212, 0, 12, 106, 6962)) rfl) rfl
theorem fa_nodeTypes (hd : decode cc pc = .ok (.getfield 212, 3)) (k : mJ l D cA ad d cc nL rt (pc + 3) L ((2, ((68 : Nat) : Int)) :: S) h Q) : mJ l D cA ad d cc nL rt pc L ((2, ((0 : Nat) : Int)) :: S) h Q := mo_get 212 106 rfl (by decide) fw_nodeTypes hd k
theorem il_nodeTypes {i v : Int} (hv : h 68 i.toNat = v) (h0 : 0 ≤ i ∧ i < 900) (hd : decode cc pc = .ok (.iaload, 1)) (k : mJ l D cA ad d cc nL rt (pc + 1) L ((0, v) :: S) h Q) : mJ l D cA ad d cc nL rt pc L ((0, i) :: (2, ((68 : Nat) : Int)) :: S) h Q := ja_iald (n := 900) (by decide) rfl (by decide) h0.1 h0.2 hd (hv ▸ k)
theorem is_nodeTypes {i x : Int} (h0 : 0 ≤ i ∧ i < 900) (hd : decode cc pc = .ok (.iastore, 1)) (k : mJ l D cA ad d cc nL rt (pc + 1) L S (ja_up h 68 i.toNat x) Q) : mJ l D cA ad d cc nL rt pc L ((0, x) :: (0, i) :: (2, ((68 : Nat) : Int)) :: S) h Q := ja_iast (n := 900) (by decide) rfl (by decide) h0.1 h0.2 hd k
theorem fw_nodeMethod : Cond.fieldLink RX12 215 (TX12 107).1 (TX12 107).2.1 (TX12 107).2.2.1 ∈ ja_B := mo_fw (i := 0) (mo_pw1 28 (p := (215, 0, 12, 107, 6963)) rfl) rfl
theorem fa_nodeMethod (hd : decode cc pc = .ok (.getfield 215, 3)) (k : mJ l D cA ad d cc nL rt (pc + 3) L ((2, ((69 : Nat) : Int)) :: S) h Q) : mJ l D cA ad d cc nL rt pc L ((2, ((0 : Nat) : Int)) :: S) h Q := mo_get 215 107 rfl (by decide) fw_nodeMethod hd k
theorem il_nodeMethod {i v : Int} (hv : h 69 i.toNat = v) (h0 : 0 ≤ i ∧ i < 900) (hd : decode cc pc = .ok (.iaload, 1)) (k : mJ l D cA ad d cc nL rt (pc + 1) L ((0, v) :: S) h Q) : mJ l D cA ad d cc nL rt pc L ((0, i) :: (2, ((69 : Nat) : Int)) :: S) h Q := ja_iald (n := 900) (by decide) rfl (by decide) h0.1 h0.2 hd (hv ▸ k)
theorem is_nodeMethod {i x : Int} (h0 : 0 ≤ i ∧ i < 900) (hd : decode cc pc = .ok (.iastore, 1)) (k : mJ l D cA ad d cc nL rt (pc + 1) L S (ja_up h 69 i.toNat x) Q) : mJ l D cA ad d cc nL rt pc L ((0, x) :: (0, i) :: (2, ((69 : Nat) : Int)) :: S) h Q := ja_iast (n := 900) (by decide) rfl (by decide) h0.1 h0.2 hd k
theorem fw_treePile : Cond.fieldLink RX12 218 (TX12 108).1 (TX12 108).2.1 (TX12 108).2.2.1 ∈ ja_B := mo_fw (i := 0) (mo_pw1 29 (p := (218, 0, 12, 108, 6964)) rfl) rfl
theorem fa_treePile (hd : decode cc pc = .ok (.getfield 218, 3)) (k : mJ l D cA ad d cc nL rt (pc + 3) L ((2, ((70 : Nat) : Int)) :: S) h Q) : mJ l D cA ad d cc nL rt pc L ((2, ((0 : Nat) : Int)) :: S) h Q := mo_get 218 108 rfl (by decide) fw_treePile hd k
theorem il_treePile {i v : Int} (hv : h 70 i.toNat = v) (h0 : 0 ≤ i ∧ i < 400) (hd : decode cc pc = .ok (.iaload, 1)) (k : mJ l D cA ad d cc nL rt (pc + 1) L ((0, v) :: S) h Q) : mJ l D cA ad d cc nL rt pc L ((0, i) :: (2, ((70 : Nat) : Int)) :: S) h Q := ja_iald (n := 400) (by decide) rfl (by decide) h0.1 h0.2 hd (hv ▸ k)
theorem is_treePile {i x : Int} (h0 : 0 ≤ i ∧ i < 400) (hd : decode cc pc = .ok (.iastore, 1)) (k : mJ l D cA ad d cc nL rt (pc + 1) L S (ja_up h 70 i.toNat x) Q) : mJ l D cA ad d cc nL rt pc L ((0, x) :: (0, i) :: (2, ((70 : Nat) : Int)) :: S) h Q := ja_iast (n := 400) (by decide) rfl (by decide) h0.1 h0.2 hd k
theorem fw_treeTop : Cond.fieldLink RX12 689 (TX12 109).1 (TX12 109).2.1 (TX12 109).2.2.1 ∈ ja_B := mo_fw (i := 0) (mo_pw4 33 (p := (689, 0, 12, 109, 6965)) rfl) rfl
theorem fg_treeTop {v : Int} (hv : h 0 109 = v) (hd : decode cc pc = .ok (.getfield 689, 3)) (k : mJ l D cA ad d cc nL rt (pc + 3) L ((0, v) :: S) h Q) : mJ l D cA ad d cc nL rt pc L ((2, ((0 : Nat) : Int)) :: S) h Q := mo_get 689 109 (congrArg (Prod.mk 0) hv) (by decide) fw_treeTop hd k
theorem fp_treeTop {x : Int} (hd : decode cc pc = .ok (.putfield 689, 3)) (k : mJ l D cA ad d cc nL rt (pc + 3) L S (ja_up h 0 109 x) Q) : mJ l D cA ad d cc nL rt pc L ((0, x) :: (2, ((0 : Nat) : Int)) :: S) h Q := mo_putI 689 109 (by decide) rfl rfl rfl fw_treeTop hd k
theorem fw_ahead : Cond.fieldLink RX12 222 (TX12 110).1 (TX12 110).2.1 (TX12 110).2.2.1 ∈ ja_B := mo_fw (i := 0) (mo_pw1 30 (p := (222, 0, 12, 110, 6966)) rfl) rfl
theorem fa_ahead (hd : decode cc pc = .ok (.getfield 222, 3)) (k : mJ l D cA ad d cc nL rt (pc + 3) L ((2, ((71 : Nat) : Int)) :: S) h Q) : mJ l D cA ad d cc nL rt pc L ((2, ((0 : Nat) : Int)) :: S) h Q := mo_get 222 110 rfl (by decide) fw_ahead hd k
theorem il_ahead {i v : Int} (hv : h 71 i.toNat = v) (h0 : 0 ≤ i ∧ i < 360000) (hd : decode cc pc = .ok (.iaload, 1)) (k : mJ l D cA ad d cc nL rt (pc + 1) L ((0, v) :: S) h Q) : mJ l D cA ad d cc nL rt pc L ((0, i) :: (2, ((71 : Nat) : Int)) :: S) h Q := ja_iald (n := 360000) (by decide) rfl (by decide) h0.1 h0.2 hd (hv ▸ k)
theorem is_ahead {i x : Int} (h0 : 0 ≤ i ∧ i < 360000) (hd : decode cc pc = .ok (.iastore, 1)) (k : mJ l D cA ad d cc nL rt (pc + 1) L S (ja_up h 71 i.toNat x) Q) : mJ l D cA ad d cc nL rt pc L ((0, x) :: (0, i) :: (2, ((71 : Nat) : Int)) :: S) h Q := ja_iast (n := 360000) (by decide) rfl (by decide) h0.1 h0.2 hd k
theorem fw_left : Cond.fieldLink RX12 225 (TX12 111).1 (TX12 111).2.1 (TX12 111).2.2.1 ∈ ja_B := mo_fw (i := 0) (mo_pw1 31 (p := (225, 0, 12, 111, 6967)) rfl) rfl
theorem fa_left (hd : decode cc pc = .ok (.getfield 225, 3)) (k : mJ l D cA ad d cc nL rt (pc + 3) L ((2, ((72 : Nat) : Int)) :: S) h Q) : mJ l D cA ad d cc nL rt pc L ((2, ((0 : Nat) : Int)) :: S) h Q := mo_get 225 111 rfl (by decide) fw_left hd k
theorem il_left {i v : Int} (hv : h 72 i.toNat = v) (h0 : 0 ≤ i ∧ i < 360000) (hd : decode cc pc = .ok (.iaload, 1)) (k : mJ l D cA ad d cc nL rt (pc + 1) L ((0, v) :: S) h Q) : mJ l D cA ad d cc nL rt pc L ((0, i) :: (2, ((72 : Nat) : Int)) :: S) h Q := ja_iald (n := 360000) (by decide) rfl (by decide) h0.1 h0.2 hd (hv ▸ k)
theorem is_left {i x : Int} (h0 : 0 ≤ i ∧ i < 360000) (hd : decode cc pc = .ok (.iastore, 1)) (k : mJ l D cA ad d cc nL rt (pc + 1) L S (ja_up h 72 i.toNat x) Q) : mJ l D cA ad d cc nL rt pc L ((0, x) :: (0, i) :: (2, ((72 : Nat) : Int)) :: S) h Q := ja_iast (n := 360000) (by decide) rfl (by decide) h0.1 h0.2 hd k
theorem fw_never : Cond.fieldLink RX12 228 (TX12 112).1 (TX12 112).2.1 (TX12 112).2.2.1 ∈ ja_B := mo_fw (i := 0) (mo_pw1 32 (p := (228, 0, 12, 112, 6968)) rfl) rfl
theorem fa_never (hd : decode cc pc = .ok (.getfield 228, 3)) (k : mJ l D cA ad d cc nL rt (pc + 3) L ((2, ((73 : Nat) : Int)) :: S) h Q) : mJ l D cA ad d cc nL rt pc L ((2, ((0 : Nat) : Int)) :: S) h Q := mo_get 228 112 rfl (by decide) fw_never hd k
theorem il_never {i v : Int} (hv : h 73 i.toNat = v) (h0 : 0 ≤ i ∧ i < 900) (hd : decode cc pc = .ok (.baload, 1)) (k : mJ l D cA ad d cc nL rt (pc + 1) L ((0, v) :: S) h Q) : mJ l D cA ad d cc nL rt pc L ((0, i) :: (2, ((73 : Nat) : Int)) :: S) h Q := ja_zald (n := 900) (by decide) rfl (by decide) h0.1 h0.2 hd (hv ▸ k)
theorem is_never {i x : Int} (h0 : 0 ≤ i ∧ i < 900) (h01 : x = 0 ∨ x = 1) (hd : decode cc pc = .ok (.bastore, 1)) (k : mJ l D cA ad d cc nL rt (pc + 1) L S (ja_up h 73 i.toNat x) Q) : mJ l D cA ad d cc nL rt pc L ((0, x) :: (0, i) :: (2, ((73 : Nat) : Int)) :: S) h Q := ja_zast (n := 900) (by decide) rfl (by decide) h0.1 h0.2 h01 hd k
theorem fw_words : Cond.fieldLink RX12 611 (TX12 113).1 (TX12 113).2.1 (TX12 113).2.2.1 ∈ ja_B := mo_fw (i := 0) (mo_pw4 7 (p := (611, 0, 12, 113, 6969)) rfl) rfl
theorem fg_words {v : Int} (hv : h 0 113 = v) (hd : decode cc pc = .ok (.getfield 611, 3)) (k : mJ l D cA ad d cc nL rt (pc + 3) L ((0, v) :: S) h Q) : mJ l D cA ad d cc nL rt pc L ((2, ((0 : Nat) : Int)) :: S) h Q := mo_get 611 113 (congrArg (Prod.mk 0) hv) (by decide) fw_words hd k
theorem fp_words {x : Int} (hd : decode cc pc = .ok (.putfield 611, 3)) (k : mJ l D cA ad d cc nL rt (pc + 3) L S (ja_up h 0 113 x) Q) : mJ l D cA ad d cc nL rt pc L ((0, x) :: (2, ((0 : Nat) : Int)) :: S) h Q := mo_putI 611 113 (by decide) rfl rfl rfl fw_words hd k
theorem fw_op : Cond.fieldLink RX12 231 (TX12 114).1 (TX12 114).2.1 (TX12 114).2.2.1 ∈ ja_B := mo_fw (i := 0) (mo_pw1 33 (p := (231, 0, 12, 114, 6970)) rfl) rfl
theorem fa_op (hd : decode cc pc = .ok (.getfield 231, 3)) (k : mJ l D cA ad d cc nL rt (pc + 3) L ((2, ((74 : Nat) : Int)) :: S) h Q) : mJ l D cA ad d cc nL rt pc L ((2, ((0 : Nat) : Int)) :: S) h Q := mo_get 231 114 rfl (by decide) fw_op hd k
theorem il_op {i v : Int} (hv : h 74 i.toNat = v) (h0 : 0 ≤ i ∧ i < 5000) (hd : decode cc pc = .ok (.iaload, 1)) (k : mJ l D cA ad d cc nL rt (pc + 1) L ((0, v) :: S) h Q) : mJ l D cA ad d cc nL rt pc L ((0, i) :: (2, ((74 : Nat) : Int)) :: S) h Q := ja_iald (n := 5000) (by decide) rfl (by decide) h0.1 h0.2 hd (hv ▸ k)
theorem is_op {i x : Int} (h0 : 0 ≤ i ∧ i < 5000) (hd : decode cc pc = .ok (.iastore, 1)) (k : mJ l D cA ad d cc nL rt (pc + 1) L S (ja_up h 74 i.toNat x) Q) : mJ l D cA ad d cc nL rt pc L ((0, x) :: (0, i) :: (2, ((74 : Nat) : Int)) :: S) h Q := ja_iast (n := 5000) (by decide) rfl (by decide) h0.1 h0.2 hd k
theorem fw_opA : Cond.fieldLink RX12 234 (TX12 115).1 (TX12 115).2.1 (TX12 115).2.2.1 ∈ ja_B := mo_fw (i := 0) (mo_pw1 34 (p := (234, 0, 12, 115, 6971)) rfl) rfl
theorem fa_opA (hd : decode cc pc = .ok (.getfield 234, 3)) (k : mJ l D cA ad d cc nL rt (pc + 3) L ((2, ((75 : Nat) : Int)) :: S) h Q) : mJ l D cA ad d cc nL rt pc L ((2, ((0 : Nat) : Int)) :: S) h Q := mo_get 234 115 rfl (by decide) fw_opA hd k
theorem il_opA {i v : Int} (hv : h 75 i.toNat = v) (h0 : 0 ≤ i ∧ i < 5000) (hd : decode cc pc = .ok (.iaload, 1)) (k : mJ l D cA ad d cc nL rt (pc + 1) L ((0, v) :: S) h Q) : mJ l D cA ad d cc nL rt pc L ((0, i) :: (2, ((75 : Nat) : Int)) :: S) h Q := ja_iald (n := 5000) (by decide) rfl (by decide) h0.1 h0.2 hd (hv ▸ k)
theorem is_opA {i x : Int} (h0 : 0 ≤ i ∧ i < 5000) (hd : decode cc pc = .ok (.iastore, 1)) (k : mJ l D cA ad d cc nL rt (pc + 1) L S (ja_up h 75 i.toNat x) Q) : mJ l D cA ad d cc nL rt pc L ((0, x) :: (0, i) :: (2, ((75 : Nat) : Int)) :: S) h Q := ja_iast (n := 5000) (by decide) rfl (by decide) h0.1 h0.2 hd k
theorem fw_opB : Cond.fieldLink RX12 237 (TX12 116).1 (TX12 116).2.1 (TX12 116).2.2.1 ∈ ja_B := mo_fw (i := 0) (mo_pw1 35 (p := (237, 0, 12, 116, 6972)) rfl) rfl
theorem fa_opB (hd : decode cc pc = .ok (.getfield 237, 3)) (k : mJ l D cA ad d cc nL rt (pc + 3) L ((2, ((76 : Nat) : Int)) :: S) h Q) : mJ l D cA ad d cc nL rt pc L ((2, ((0 : Nat) : Int)) :: S) h Q := mo_get 237 116 rfl (by decide) fw_opB hd k
theorem il_opB {i v : Int} (hv : h 76 i.toNat = v) (h0 : 0 ≤ i ∧ i < 5000) (hd : decode cc pc = .ok (.iaload, 1)) (k : mJ l D cA ad d cc nL rt (pc + 1) L ((0, v) :: S) h Q) : mJ l D cA ad d cc nL rt pc L ((0, i) :: (2, ((76 : Nat) : Int)) :: S) h Q := ja_iald (n := 5000) (by decide) rfl (by decide) h0.1 h0.2 hd (hv ▸ k)
theorem is_opB {i x : Int} (h0 : 0 ≤ i ∧ i < 5000) (hd : decode cc pc = .ok (.iastore, 1)) (k : mJ l D cA ad d cc nL rt (pc + 1) L S (ja_up h 76 i.toNat x) Q) : mJ l D cA ad d cc nL rt pc L ((0, x) :: (0, i) :: (2, ((76 : Nat) : Int)) :: S) h Q := ja_iast (n := 5000) (by decide) rfl (by decide) h0.1 h0.2 hd k
theorem fw_opC : Cond.fieldLink RX12 240 (TX12 117).1 (TX12 117).2.1 (TX12 117).2.2.1 ∈ ja_B := mo_fw (i := 0) (mo_pw1 36 (p := (240, 0, 12, 117, 6973)) rfl) rfl
theorem fa_opC (hd : decode cc pc = .ok (.getfield 240, 3)) (k : mJ l D cA ad d cc nL rt (pc + 3) L ((2, ((77 : Nat) : Int)) :: S) h Q) : mJ l D cA ad d cc nL rt pc L ((2, ((0 : Nat) : Int)) :: S) h Q := mo_get 240 117 rfl (by decide) fw_opC hd k
theorem il_opC {i v : Int} (hv : h 77 i.toNat = v) (h0 : 0 ≤ i ∧ i < 5000) (hd : decode cc pc = .ok (.iaload, 1)) (k : mJ l D cA ad d cc nL rt (pc + 1) L ((0, v) :: S) h Q) : mJ l D cA ad d cc nL rt pc L ((0, i) :: (2, ((77 : Nat) : Int)) :: S) h Q := ja_iald (n := 5000) (by decide) rfl (by decide) h0.1 h0.2 hd (hv ▸ k)
theorem is_opC {i x : Int} (h0 : 0 ≤ i ∧ i < 5000) (hd : decode cc pc = .ok (.iastore, 1)) (k : mJ l D cA ad d cc nL rt (pc + 1) L S (ja_up h 77 i.toNat x) Q) : mJ l D cA ad d cc nL rt pc L ((0, x) :: (0, i) :: (2, ((77 : Nat) : Int)) :: S) h Q := ja_iast (n := 5000) (by decide) rfl (by decide) h0.1 h0.2 hd k
theorem fw_compiled : Cond.fieldLink RX12 430 (TX12 118).1 (TX12 118).2.1 (TX12 118).2.2.1 ∈ ja_B := mo_fw (i := 0) (mo_pw3 19 (p := (430, 0, 12, 118, 6974)) rfl) rfl
theorem fg_compiled {v : Int} (hv : h 0 118 = v) (hd : decode cc pc = .ok (.getfield 430, 3)) (k : mJ l D cA ad d cc nL rt (pc + 3) L ((0, v) :: S) h Q) : mJ l D cA ad d cc nL rt pc L ((2, ((0 : Nat) : Int)) :: S) h Q := mo_get 430 118 (congrArg (Prod.mk 0) hv) (by decide) fw_compiled hd k
theorem fp_compiled {x : Int} (h01 : x = 0 ∨ x = 1) (hd : decode cc pc = .ok (.putfield 430, 3)) (k : mJ l D cA ad d cc nL rt (pc + 3) L S (ja_up h 0 118 x) Q) : mJ l D cA ad d cc nL rt pc L ((0, x) :: (2, ((0 : Nat) : Int)) :: S) h Q := mo_putZ 430 118 (by decide) rfl rfl rfl h01 fw_compiled hd k
theorem fw_findings : Cond.fieldLink RX12 707 (TX12 119).1 (TX12 119).2.1 (TX12 119).2.2.1 ∈ ja_B := mo_fw (i := 0) (mo_pw4 39 (p := (707, 0, 12, 119, 6975)) rfl) rfl
theorem fg_findings {v : Int} (hv : h 0 119 = v) (hd : decode cc pc = .ok (.getfield 707, 3)) (k : mJ l D cA ad d cc nL rt (pc + 3) L ((0, v) :: S) h Q) : mJ l D cA ad d cc nL rt pc L ((2, ((0 : Nat) : Int)) :: S) h Q := mo_get 707 119 (congrArg (Prod.mk 0) hv) (by decide) fw_findings hd k
theorem fp_findings {x : Int} (hd : decode cc pc = .ok (.putfield 707, 3)) (k : mJ l D cA ad d cc nL rt (pc + 3) L S (ja_up h 0 119 x) Q) : mJ l D cA ad d cc nL rt pc L ((0, x) :: (2, ((0 : Nat) : Int)) :: S) h Q := mo_putI 707 119 (by decide) rfl rfl rfl fw_findings hd k
theorem fw_findBar : Cond.fieldLink RX12 243 (TX12 120).1 (TX12 120).2.1 (TX12 120).2.2.1 ∈ ja_B := mo_fw (i := 0) (mo_pw1 37 (p := (243, 0, 12, 120, 6976)) rfl) rfl
theorem fa_findBar (hd : decode cc pc = .ok (.getfield 243, 3)) (k : mJ l D cA ad d cc nL rt (pc + 3) L ((2, ((78 : Nat) : Int)) :: S) h Q) : mJ l D cA ad d cc nL rt pc L ((2, ((0 : Nat) : Int)) :: S) h Q := mo_get 243 120 rfl (by decide) fw_findBar hd k
theorem il_findBar {i v : Int} (hv : h 78 i.toNat = v) (h0 : 0 ≤ i ∧ i < 4800) (hd : decode cc pc = .ok (.iaload, 1)) (k : mJ l D cA ad d cc nL rt (pc + 1) L ((0, v) :: S) h Q) : mJ l D cA ad d cc nL rt pc L ((0, i) :: (2, ((78 : Nat) : Int)) :: S) h Q := ja_iald (n := 4800) (by decide) rfl (by decide) h0.1 h0.2 hd (hv ▸ k)
theorem is_findBar {i x : Int} (h0 : 0 ≤ i ∧ i < 4800) (hd : decode cc pc = .ok (.iastore, 1)) (k : mJ l D cA ad d cc nL rt (pc + 1) L S (ja_up h 78 i.toNat x) Q) : mJ l D cA ad d cc nL rt pc L ((0, x) :: (0, i) :: (2, ((78 : Nat) : Int)) :: S) h Q := ja_iast (n := 4800) (by decide) rfl (by decide) h0.1 h0.2 hd k
theorem fw_findPoint : Cond.fieldLink RX12 246 (TX12 121).1 (TX12 121).2.1 (TX12 121).2.2.1 ∈ ja_B := mo_fw (i := 0) (mo_pw1 38 (p := (246, 0, 12, 121, 6977)) rfl) rfl
theorem fa_findPoint (hd : decode cc pc = .ok (.getfield 246, 3)) (k : mJ l D cA ad d cc nL rt (pc + 3) L ((2, ((79 : Nat) : Int)) :: S) h Q) : mJ l D cA ad d cc nL rt pc L ((2, ((0 : Nat) : Int)) :: S) h Q := mo_get 246 121 rfl (by decide) fw_findPoint hd k
theorem il_findPoint {i v : Int} (hv : h 79 i.toNat = v) (h0 : 0 ≤ i ∧ i < 4800) (hd : decode cc pc = .ok (.iaload, 1)) (k : mJ l D cA ad d cc nL rt (pc + 1) L ((0, v) :: S) h Q) : mJ l D cA ad d cc nL rt pc L ((0, i) :: (2, ((79 : Nat) : Int)) :: S) h Q := ja_iald (n := 4800) (by decide) rfl (by decide) h0.1 h0.2 hd (hv ▸ k)
theorem is_findPoint {i x : Int} (h0 : 0 ≤ i ∧ i < 4800) (hd : decode cc pc = .ok (.iastore, 1)) (k : mJ l D cA ad d cc nL rt (pc + 1) L S (ja_up h 79 i.toNat x) Q) : mJ l D cA ad d cc nL rt pc L ((0, x) :: (0, i) :: (2, ((79 : Nat) : Int)) :: S) h Q := ja_iast (n := 4800) (by decide) rfl (by decide) h0.1 h0.2 hd k
theorem fw_findKnown : Cond.fieldLink RX12 249 (TX12 122).1 (TX12 122).2.1 (TX12 122).2.2.1 ∈ ja_B := mo_fw (i := 0) (mo_pw1 39 (p := (249, 0, 12, 122, 6978)) rfl) rfl
theorem fa_findKnown (hd : decode cc pc = .ok (.getfield 249, 3)) (k : mJ l D cA ad d cc nL rt (pc + 3) L ((2, ((80 : Nat) : Int)) :: S) h Q) : mJ l D cA ad d cc nL rt pc L ((2, ((0 : Nat) : Int)) :: S) h Q := mo_get 249 122 rfl (by decide) fw_findKnown hd k
theorem il_findKnown {i v : Int} (hv : h 80 i.toNat = v) (h0 : 0 ≤ i ∧ i < 4800) (hd : decode cc pc = .ok (.iaload, 1)) (k : mJ l D cA ad d cc nL rt (pc + 1) L ((0, v) :: S) h Q) : mJ l D cA ad d cc nL rt pc L ((0, i) :: (2, ((80 : Nat) : Int)) :: S) h Q := ja_iald (n := 4800) (by decide) rfl (by decide) h0.1 h0.2 hd (hv ▸ k)
theorem is_findKnown {i x : Int} (h0 : 0 ≤ i ∧ i < 4800) (hd : decode cc pc = .ok (.iastore, 1)) (k : mJ l D cA ad d cc nL rt (pc + 1) L S (ja_up h 80 i.toNat x) Q) : mJ l D cA ad d cc nL rt pc L ((0, x) :: (0, i) :: (2, ((80 : Nat) : Int)) :: S) h Q := ja_iast (n := 4800) (by decide) rfl (by decide) h0.1 h0.2 hd k
theorem fw_ordered : Cond.fieldLink RX12 252 (TX12 123).1 (TX12 123).2.1 (TX12 123).2.2.1 ∈ ja_B := mo_fw (i := 0) (mo_pw2 0 (p := (252, 0, 12, 123, 6979)) rfl) rfl
theorem fa_ordered (hd : decode cc pc = .ok (.getfield 252, 3)) (k : mJ l D cA ad d cc nL rt (pc + 3) L ((2, ((81 : Nat) : Int)) :: S) h Q) : mJ l D cA ad d cc nL rt pc L ((2, ((0 : Nat) : Int)) :: S) h Q := mo_get 252 123 rfl (by decide) fw_ordered hd k
theorem il_ordered {i v : Int} (hv : h 81 i.toNat = v) (h0 : 0 ≤ i ∧ i < 25) (hd : decode cc pc = .ok (.iaload, 1)) (k : mJ l D cA ad d cc nL rt (pc + 1) L ((0, v) :: S) h Q) : mJ l D cA ad d cc nL rt pc L ((0, i) :: (2, ((81 : Nat) : Int)) :: S) h Q := ja_iald (n := 25) (by decide) rfl (by decide) h0.1 h0.2 hd (hv ▸ k)
theorem is_ordered {i x : Int} (h0 : 0 ≤ i ∧ i < 25) (hd : decode cc pc = .ok (.iastore, 1)) (k : mJ l D cA ad d cc nL rt (pc + 1) L S (ja_up h 81 i.toNat x) Q) : mJ l D cA ad d cc nL rt pc L ((0, x) :: (0, i) :: (2, ((81 : Nat) : Int)) :: S) h Q := ja_iast (n := 25) (by decide) rfl (by decide) h0.1 h0.2 hd k
theorem fw_layoutMany : Cond.fieldLink RX12 255 (TX12 124).1 (TX12 124).2.1 (TX12 124).2.2.1 ∈ ja_B := mo_fw (i := 0) (mo_pw2 1 (p := (255, 0, 12, 124, 6980)) rfl) rfl
theorem fa_layoutMany (hd : decode cc pc = .ok (.getfield 255, 3)) (k : mJ l D cA ad d cc nL rt (pc + 3) L ((2, ((82 : Nat) : Int)) :: S) h Q) : mJ l D cA ad d cc nL rt pc L ((2, ((0 : Nat) : Int)) :: S) h Q := mo_get 255 124 rfl (by decide) fw_layoutMany hd k
theorem il_layoutMany {i v : Int} (hv : h 82 i.toNat = v) (h0 : 0 ≤ i ∧ i < 13) (hd : decode cc pc = .ok (.iaload, 1)) (k : mJ l D cA ad d cc nL rt (pc + 1) L ((0, v) :: S) h Q) : mJ l D cA ad d cc nL rt pc L ((0, i) :: (2, ((82 : Nat) : Int)) :: S) h Q := ja_iald (n := 13) (by decide) rfl (by decide) h0.1 h0.2 hd (hv ▸ k)
theorem is_layoutMany {i x : Int} (h0 : 0 ≤ i ∧ i < 13) (hd : decode cc pc = .ok (.iastore, 1)) (k : mJ l D cA ad d cc nL rt (pc + 1) L S (ja_up h 82 i.toNat x) Q) : mJ l D cA ad d cc nL rt pc L ((0, x) :: (0, i) :: (2, ((82 : Nat) : Int)) :: S) h Q := ja_iast (n := 13) (by decide) rfl (by decide) h0.1 h0.2 hd k
theorem fw_layoutField : Cond.fieldLink RX12 258 (TX12 125).1 (TX12 125).2.1 (TX12 125).2.2.1 ∈ ja_B := mo_fw (i := 0) (mo_pw2 2 (p := (258, 0, 12, 125, 6981)) rfl) rfl
theorem fa_layoutField (hd : decode cc pc = .ok (.getfield 258, 3)) (k : mJ l D cA ad d cc nL rt (pc + 3) L ((2, ((83 : Nat) : Int)) :: S) h Q) : mJ l D cA ad d cc nL rt pc L ((2, ((0 : Nat) : Int)) :: S) h Q := mo_get 258 125 rfl (by decide) fw_layoutField hd k
theorem il_layoutField {i v : Int} (hv : h 83 i.toNat = v) (h0 : 0 ≤ i ∧ i < 1600) (hd : decode cc pc = .ok (.iaload, 1)) (k : mJ l D cA ad d cc nL rt (pc + 1) L ((0, v) :: S) h Q) : mJ l D cA ad d cc nL rt pc L ((0, i) :: (2, ((83 : Nat) : Int)) :: S) h Q := ja_iald (n := 1600) (by decide) rfl (by decide) h0.1 h0.2 hd (hv ▸ k)
theorem is_layoutField {i x : Int} (h0 : 0 ≤ i ∧ i < 1600) (hd : decode cc pc = .ok (.iastore, 1)) (k : mJ l D cA ad d cc nL rt (pc + 1) L S (ja_up h 83 i.toNat x) Q) : mJ l D cA ad d cc nL rt pc L ((0, x) :: (0, i) :: (2, ((83 : Nat) : Int)) :: S) h Q := ja_iast (n := 1600) (by decide) rfl (by decide) h0.1 h0.2 hd k
theorem fw_below : Cond.fieldLink RX12 261 (TX12 126).1 (TX12 126).2.1 (TX12 126).2.2.1 ∈ ja_B := mo_fw (i := 0) (mo_pw2 3 (p := (261, 0, 12, 126, 6982)) rfl) rfl
theorem fa_below (hd : decode cc pc = .ok (.getfield 261, 3)) (k : mJ l D cA ad d cc nL rt (pc + 3) L ((2, ((84 : Nat) : Int)) :: S) h Q) : mJ l D cA ad d cc nL rt pc L ((2, ((0 : Nat) : Int)) :: S) h Q := mo_get 261 126 rfl (by decide) fw_below hd k
theorem il_below {i v : Int} (hv : h 84 i.toNat = v) (h0 : 0 ≤ i ∧ i < 13) (hd : decode cc pc = .ok (.iaload, 1)) (k : mJ l D cA ad d cc nL rt (pc + 1) L ((0, v) :: S) h Q) : mJ l D cA ad d cc nL rt pc L ((0, i) :: (2, ((84 : Nat) : Int)) :: S) h Q := ja_iald (n := 13) (by decide) rfl (by decide) h0.1 h0.2 hd (hv ▸ k)
theorem is_below {i x : Int} (h0 : 0 ≤ i ∧ i < 13) (hd : decode cc pc = .ok (.iastore, 1)) (k : mJ l D cA ad d cc nL rt (pc + 1) L S (ja_up h 84 i.toNat x) Q) : mJ l D cA ad d cc nL rt pc L ((0, x) :: (0, i) :: (2, ((84 : Nat) : Int)) :: S) h Q := ja_iast (n := 13) (by decide) rfl (by decide) h0.1 h0.2 hd k
theorem fw_started : Cond.fieldLink RX12 434 (TX12 127).1 (TX12 127).2.1 (TX12 127).2.2.1 ∈ ja_B := mo_fw (i := 0) (mo_pw3 20 (p := (434, 0, 12, 127, 6983)) rfl) rfl
theorem fg_started {v : Int} (hv : h 0 127 = v) (hd : decode cc pc = .ok (.getfield 434, 3)) (k : mJ l D cA ad d cc nL rt (pc + 3) L ((0, v) :: S) h Q) : mJ l D cA ad d cc nL rt pc L ((2, ((0 : Nat) : Int)) :: S) h Q := mo_get 434 127 (congrArg (Prod.mk 0) hv) (by decide) fw_started hd k
theorem fp_started {x : Int} (h01 : x = 0 ∨ x = 1) (hd : decode cc pc = .ok (.putfield 434, 3)) (k : mJ l D cA ad d cc nL rt (pc + 3) L S (ja_up h 0 127 x) Q) : mJ l D cA ad d cc nL rt pc L ((0, x) :: (2, ((0 : Nat) : Int)) :: S) h Q := mo_putZ 434 127 (by decide) rfl rfl rfl h01 fw_started hd k
theorem fw_woven : Cond.fieldLink RX12 972 (TX12 128).1 (TX12 128).2.1 (TX12 128).2.2.1 ∈ ja_B := mo_fw (i := 0) (mo_pw7 4 (p := (972, 0, 12, 128, 6984)) rfl) rfl
theorem fg_woven {v : Int} (hv : h 0 128 = v) (hd : decode cc pc = .ok (.getfield 972, 3)) (k : mJ l D cA ad d cc nL rt (pc + 3) L ((0, v) :: S) h Q) : mJ l D cA ad d cc nL rt pc L ((2, ((0 : Nat) : Int)) :: S) h Q := mo_get 972 128 (congrArg (Prod.mk 0) hv) (by decide) fw_woven hd k
theorem fp_woven {x : Int} (h01 : x = 0 ∨ x = 1) (hd : decode cc pc = .ok (.putfield 972, 3)) (k : mJ l D cA ad d cc nL rt (pc + 3) L S (ja_up h 0 128 x) Q) : mJ l D cA ad d cc nL rt pc L ((0, x) :: (2, ((0 : Nat) : Int)) :: S) h Q := mo_putZ 972 128 (by decide) rfl rfl rfl h01 fw_woven hd k
theorem fw_state : Cond.fieldLink RX12 1016 (TX12 129).1 (TX12 129).2.1 (TX12 129).2.2.1 ∈ ja_B := mo_fw (i := 0) (mo_pw7 19 (p := (1016, 0, 12, 129, 6985)) rfl) rfl
theorem fg_state {v : Int} (hv : h 0 129 = v) (hd : decode cc pc = .ok (.getfield 1016, 3)) (k : mJ l D cA ad d cc nL rt (pc + 3) L ((0, v) :: S) h Q) : mJ l D cA ad d cc nL rt pc L ((2, ((0 : Nat) : Int)) :: S) h Q := mo_get 1016 129 (congrArg (Prod.mk 0) hv) (by decide) fw_state hd k
theorem fp_state {x : Int} (hd : decode cc pc = .ok (.putfield 1016, 3)) (k : mJ l D cA ad d cc nL rt (pc + 3) L S (ja_up h 0 129 x) Q) : mJ l D cA ad d cc nL rt pc L ((0, x) :: (2, ((0 : Nat) : Int)) :: S) h Q := mo_putI 1016 129 (by decide) rfl rfl rfl fw_state hd k
theorem fw_steps : Cond.fieldLink RX12 975 (TX12 130).1 (TX12 130).2.1 (TX12 130).2.2.1 ∈ ja_B := mo_fw (i := 0) (mo_pw7 5 (p := (975, 0, 12, 130, 6986)) rfl) rfl
theorem fg_steps {v : Int} (hv : h 0 130 = v) (hd : decode cc pc = .ok (.getfield 975, 3)) (k : mJ l D cA ad d cc nL rt (pc + 3) L ((0, v) :: S) h Q) : mJ l D cA ad d cc nL rt pc L ((2, ((0 : Nat) : Int)) :: S) h Q := mo_get 975 130 (congrArg (Prod.mk 0) hv) (by decide) fw_steps hd k
theorem fp_steps {x : Int} (hd : decode cc pc = .ok (.putfield 975, 3)) (k : mJ l D cA ad d cc nL rt (pc + 3) L S (ja_up h 0 130 x) Q) : mJ l D cA ad d cc nL rt pc L ((0, x) :: (2, ((0 : Nat) : Int)) :: S) h Q := mo_putI 975 130 (by decide) rfl rfl rfl fw_steps hd k
theorem fw_tests : Cond.fieldLink RX12 978 (TX12 131).1 (TX12 131).2.1 (TX12 131).2.2.1 ∈ ja_B := mo_fw (i := 0) (mo_pw7 6 (p := (978, 0, 12, 131, 6987)) rfl) rfl
theorem fg_tests {v : Int} (hv : h 0 131 = v) (hd : decode cc pc = .ok (.getfield 978, 3)) (k : mJ l D cA ad d cc nL rt (pc + 3) L ((0, v) :: S) h Q) : mJ l D cA ad d cc nL rt pc L ((2, ((0 : Nat) : Int)) :: S) h Q := mo_get 978 131 (congrArg (Prod.mk 0) hv) (by decide) fw_tests hd k
theorem fp_tests {x : Int} (hd : decode cc pc = .ok (.putfield 978, 3)) (k : mJ l D cA ad d cc nL rt (pc + 3) L S (ja_up h 0 131 x) Q) : mJ l D cA ad d cc nL rt pc L ((0, x) :: (2, ((0 : Nat) : Int)) :: S) h Q := mo_putI 978 131 (by decide) rfl rfl rfl fw_tests hd k
theorem fw_outputs : Cond.fieldLink RX12 981 (TX12 132).1 (TX12 132).2.1 (TX12 132).2.2.1 ∈ ja_B := mo_fw (i := 0) (mo_pw7 7 (p := (981, 0, 12, 132, 6988)) rfl) rfl
theorem fg_outputs {v : Int} (hv : h 0 132 = v) (hd : decode cc pc = .ok (.getfield 981, 3)) (k : mJ l D cA ad d cc nL rt (pc + 3) L ((0, v) :: S) h Q) : mJ l D cA ad d cc nL rt pc L ((2, ((0 : Nat) : Int)) :: S) h Q := mo_get 981 132 (congrArg (Prod.mk 0) hv) (by decide) fw_outputs hd k
theorem fp_outputs {x : Int} (hd : decode cc pc = .ok (.putfield 981, 3)) (k : mJ l D cA ad d cc nL rt (pc + 3) L S (ja_up h 0 132 x) Q) : mJ l D cA ad d cc nL rt pc L ((0, x) :: (2, ((0 : Nat) : Int)) :: S) h Q := mo_putI 981 132 (by decide) rfl rfl rfl fw_outputs hd k
theorem fw_outputKind : Cond.fieldLink RX12 264 (TX12 133).1 (TX12 133).2.1 (TX12 133).2.2.1 ∈ ja_B := mo_fw (i := 0) (mo_pw2 4 (p := (264, 0, 12, 133, 6989)) rfl) rfl
theorem fa_outputKind (hd : decode cc pc = .ok (.getfield 264, 3)) (k : mJ l D cA ad d cc nL rt (pc + 3) L ((2, ((85 : Nat) : Int)) :: S) h Q) : mJ l D cA ad d cc nL rt pc L ((2, ((0 : Nat) : Int)) :: S) h Q := mo_get 264 133 rfl (by decide) fw_outputKind hd k
theorem il_outputKind {i v : Int} (hv : h 85 i.toNat = v) (h0 : 0 ≤ i ∧ i < 300) (hd : decode cc pc = .ok (.iaload, 1)) (k : mJ l D cA ad d cc nL rt (pc + 1) L ((0, v) :: S) h Q) : mJ l D cA ad d cc nL rt pc L ((0, i) :: (2, ((85 : Nat) : Int)) :: S) h Q := ja_iald (n := 300) (by decide) rfl (by decide) h0.1 h0.2 hd (hv ▸ k)
theorem is_outputKind {i x : Int} (h0 : 0 ≤ i ∧ i < 300) (hd : decode cc pc = .ok (.iastore, 1)) (k : mJ l D cA ad d cc nL rt (pc + 1) L S (ja_up h 85 i.toNat x) Q) : mJ l D cA ad d cc nL rt pc L ((0, x) :: (0, i) :: (2, ((85 : Nat) : Int)) :: S) h Q := ja_iast (n := 300) (by decide) rfl (by decide) h0.1 h0.2 hd k
theorem fw_outputValue : Cond.fieldLink RX12 267 (TX12 134).1 (TX12 134).2.1 (TX12 134).2.2.1 ∈ ja_B := mo_fw (i := 0) (mo_pw2 5 (p := (267, 0, 12, 134, 6990)) rfl) rfl
theorem fa_outputValue (hd : decode cc pc = .ok (.getfield 267, 3)) (k : mJ l D cA ad d cc nL rt (pc + 3) L ((2, ((86 : Nat) : Int)) :: S) h Q) : mJ l D cA ad d cc nL rt pc L ((2, ((0 : Nat) : Int)) :: S) h Q := mo_get 267 134 rfl (by decide) fw_outputValue hd k
theorem il_outputValue {i v : Int} (hv : h 86 i.toNat = v) (h0 : 0 ≤ i ∧ i < 300) (hd : decode cc pc = .ok (.iaload, 1)) (k : mJ l D cA ad d cc nL rt (pc + 1) L ((0, v) :: S) h Q) : mJ l D cA ad d cc nL rt pc L ((0, i) :: (2, ((86 : Nat) : Int)) :: S) h Q := ja_iald (n := 300) (by decide) rfl (by decide) h0.1 h0.2 hd (hv ▸ k)
theorem is_outputValue {i x : Int} (h0 : 0 ≤ i ∧ i < 300) (hd : decode cc pc = .ok (.iastore, 1)) (k : mJ l D cA ad d cc nL rt (pc + 1) L S (ja_up h 86 i.toNat x) Q) : mJ l D cA ad d cc nL rt pc L ((0, x) :: (0, i) :: (2, ((86 : Nat) : Int)) :: S) h Q := ja_iast (n := 300) (by decide) rfl (by decide) h0.1 h0.2 hd k
theorem fw_rows : Cond.fieldLink RX12 984 (TX12 135).1 (TX12 135).2.1 (TX12 135).2.2.1 ∈ ja_B := mo_fw (i := 0) (mo_pw7 8 (p := (984, 0, 12, 135, 6991)) rfl) rfl
theorem fg_rows {v : Int} (hv : h 0 135 = v) (hd : decode cc pc = .ok (.getfield 984, 3)) (k : mJ l D cA ad d cc nL rt (pc + 3) L ((0, v) :: S) h Q) : mJ l D cA ad d cc nL rt pc L ((2, ((0 : Nat) : Int)) :: S) h Q := mo_get 984 135 (congrArg (Prod.mk 0) hv) (by decide) fw_rows hd k
theorem fp_rows {x : Int} (hd : decode cc pc = .ok (.putfield 984, 3)) (k : mJ l D cA ad d cc nL rt (pc + 3) L S (ja_up h 0 135 x) Q) : mJ l D cA ad d cc nL rt pc L ((0, x) :: (2, ((0 : Nat) : Int)) :: S) h Q := mo_putI 984 135 (by decide) rfl rfl rfl fw_rows hd k
theorem fw_rowAdvice : Cond.fieldLink RX12 270 (TX12 136).1 (TX12 136).2.1 (TX12 136).2.2.1 ∈ ja_B := mo_fw (i := 0) (mo_pw2 6 (p := (270, 0, 12, 136, 6992)) rfl) rfl
theorem fa_rowAdvice (hd : decode cc pc = .ok (.getfield 270, 3)) (k : mJ l D cA ad d cc nL rt (pc + 3) L ((2, ((87 : Nat) : Int)) :: S) h Q) : mJ l D cA ad d cc nL rt pc L ((2, ((0 : Nat) : Int)) :: S) h Q := mo_get 270 136 rfl (by decide) fw_rowAdvice hd k
theorem il_rowAdvice {i v : Int} (hv : h 87 i.toNat = v) (h0 : 0 ≤ i ∧ i < 300) (hd : decode cc pc = .ok (.iaload, 1)) (k : mJ l D cA ad d cc nL rt (pc + 1) L ((0, v) :: S) h Q) : mJ l D cA ad d cc nL rt pc L ((0, i) :: (2, ((87 : Nat) : Int)) :: S) h Q := ja_iald (n := 300) (by decide) rfl (by decide) h0.1 h0.2 hd (hv ▸ k)
theorem is_rowAdvice {i x : Int} (h0 : 0 ≤ i ∧ i < 300) (hd : decode cc pc = .ok (.iastore, 1)) (k : mJ l D cA ad d cc nL rt (pc + 1) L S (ja_up h 87 i.toNat x) Q) : mJ l D cA ad d cc nL rt pc L ((0, x) :: (0, i) :: (2, ((87 : Nat) : Int)) :: S) h Q := ja_iast (n := 300) (by decide) rfl (by decide) h0.1 h0.2 hd k
theorem fw_rowPoint : Cond.fieldLink RX12 273 (TX12 137).1 (TX12 137).2.1 (TX12 137).2.2.1 ∈ ja_B := mo_fw (i := 0) (mo_pw2 7 (p := (273, 0, 12, 137, 6993)) rfl) rfl
theorem fa_rowPoint (hd : decode cc pc = .ok (.getfield 273, 3)) (k : mJ l D cA ad d cc nL rt (pc + 3) L ((2, ((88 : Nat) : Int)) :: S) h Q) : mJ l D cA ad d cc nL rt pc L ((2, ((0 : Nat) : Int)) :: S) h Q := mo_get 273 137 rfl (by decide) fw_rowPoint hd k
theorem il_rowPoint {i v : Int} (hv : h 88 i.toNat = v) (h0 : 0 ≤ i ∧ i < 300) (hd : decode cc pc = .ok (.iaload, 1)) (k : mJ l D cA ad d cc nL rt (pc + 1) L ((0, v) :: S) h Q) : mJ l D cA ad d cc nL rt pc L ((0, i) :: (2, ((88 : Nat) : Int)) :: S) h Q := ja_iald (n := 300) (by decide) rfl (by decide) h0.1 h0.2 hd (hv ▸ k)
theorem is_rowPoint {i x : Int} (h0 : 0 ≤ i ∧ i < 300) (hd : decode cc pc = .ok (.iastore, 1)) (k : mJ l D cA ad d cc nL rt (pc + 1) L S (ja_up h 88 i.toNat x) Q) : mJ l D cA ad d cc nL rt pc L ((0, x) :: (0, i) :: (2, ((88 : Nat) : Int)) :: S) h Q := ja_iast (n := 300) (by decide) rfl (by decide) h0.1 h0.2 hd k
theorem fw_objects : Cond.fieldLink RX12 987 (TX12 138).1 (TX12 138).2.1 (TX12 138).2.2.1 ∈ ja_B := mo_fw (i := 0) (mo_pw7 9 (p := (987, 0, 12, 138, 6994)) rfl) rfl
theorem fg_objects {v : Int} (hv : h 0 138 = v) (hd : decode cc pc = .ok (.getfield 987, 3)) (k : mJ l D cA ad d cc nL rt (pc + 3) L ((0, v) :: S) h Q) : mJ l D cA ad d cc nL rt pc L ((2, ((0 : Nat) : Int)) :: S) h Q := mo_get 987 138 (congrArg (Prod.mk 0) hv) (by decide) fw_objects hd k
theorem fp_objects {x : Int} (hd : decode cc pc = .ok (.putfield 987, 3)) (k : mJ l D cA ad d cc nL rt (pc + 3) L S (ja_up h 0 138 x) Q) : mJ l D cA ad d cc nL rt pc L ((0, x) :: (2, ((0 : Nat) : Int)) :: S) h Q := mo_putI 987 138 (by decide) rfl rfl rfl fw_objects hd k
theorem fw_objectClass : Cond.fieldLink RX12 276 (TX12 139).1 (TX12 139).2.1 (TX12 139).2.2.1 ∈ ja_B := mo_fw (i := 0) (mo_pw2 8 (p := (276, 0, 12, 139, 6995)) rfl) rfl
theorem fa_objectClass (hd : decode cc pc = .ok (.getfield 276, 3)) (k : mJ l D cA ad d cc nL rt (pc + 3) L ((2, ((89 : Nat) : Int)) :: S) h Q) : mJ l D cA ad d cc nL rt pc L ((2, ((0 : Nat) : Int)) :: S) h Q := mo_get 276 139 rfl (by decide) fw_objectClass hd k
theorem il_objectClass {i v : Int} (hv : h 89 i.toNat = v) (h0 : 0 ≤ i ∧ i < 201) (hd : decode cc pc = .ok (.iaload, 1)) (k : mJ l D cA ad d cc nL rt (pc + 1) L ((0, v) :: S) h Q) : mJ l D cA ad d cc nL rt pc L ((0, i) :: (2, ((89 : Nat) : Int)) :: S) h Q := ja_iald (n := 201) (by decide) rfl (by decide) h0.1 h0.2 hd (hv ▸ k)
theorem is_objectClass {i x : Int} (h0 : 0 ≤ i ∧ i < 201) (hd : decode cc pc = .ok (.iastore, 1)) (k : mJ l D cA ad d cc nL rt (pc + 1) L S (ja_up h 89 i.toNat x) Q) : mJ l D cA ad d cc nL rt pc L ((0, x) :: (0, i) :: (2, ((89 : Nat) : Int)) :: S) h Q := ja_iast (n := 201) (by decide) rfl (by decide) h0.1 h0.2 hd k
theorem fw_fieldKind : Cond.fieldLink RX12 279 (TX12 140).1 (TX12 140).2.1 (TX12 140).2.2.1 ∈ ja_B := mo_fw (i := 0) (mo_pw2 9 (p := (279, 0, 12, 140, 6996)) rfl) rfl
theorem fa_fieldKind (hd : decode cc pc = .ok (.getfield 279, 3)) (k : mJ l D cA ad d cc nL rt (pc + 3) L ((2, ((90 : Nat) : Int)) :: S) h Q) : mJ l D cA ad d cc nL rt pc L ((2, ((0 : Nat) : Int)) :: S) h Q := mo_get 279 140 rfl (by decide) fw_fieldKind hd k
theorem il_fieldKind {i v : Int} (hv : h 90 i.toNat = v) (h0 : 0 ≤ i ∧ i < 24200) (hd : decode cc pc = .ok (.iaload, 1)) (k : mJ l D cA ad d cc nL rt (pc + 1) L ((0, v) :: S) h Q) : mJ l D cA ad d cc nL rt pc L ((0, i) :: (2, ((90 : Nat) : Int)) :: S) h Q := ja_iald (n := 24200) (by decide) rfl (by decide) h0.1 h0.2 hd (hv ▸ k)
theorem is_fieldKind {i x : Int} (h0 : 0 ≤ i ∧ i < 24200) (hd : decode cc pc = .ok (.iastore, 1)) (k : mJ l D cA ad d cc nL rt (pc + 1) L S (ja_up h 90 i.toNat x) Q) : mJ l D cA ad d cc nL rt pc L ((0, x) :: (0, i) :: (2, ((90 : Nat) : Int)) :: S) h Q := ja_iast (n := 24200) (by decide) rfl (by decide) h0.1 h0.2 hd k
theorem fw_fieldValue : Cond.fieldLink RX12 282 (TX12 141).1 (TX12 141).2.1 (TX12 141).2.2.1 ∈ ja_B := mo_fw (i := 0) (mo_pw2 10 (p := (282, 0, 12, 141, 6997)) rfl) rfl
theorem fa_fieldValue (hd : decode cc pc = .ok (.getfield 282, 3)) (k : mJ l D cA ad d cc nL rt (pc + 3) L ((2, ((91 : Nat) : Int)) :: S) h Q) : mJ l D cA ad d cc nL rt pc L ((2, ((0 : Nat) : Int)) :: S) h Q := mo_get 282 141 rfl (by decide) fw_fieldValue hd k
theorem il_fieldValue {i v : Int} (hv : h 91 i.toNat = v) (h0 : 0 ≤ i ∧ i < 24200) (hd : decode cc pc = .ok (.iaload, 1)) (k : mJ l D cA ad d cc nL rt (pc + 1) L ((0, v) :: S) h Q) : mJ l D cA ad d cc nL rt pc L ((0, i) :: (2, ((91 : Nat) : Int)) :: S) h Q := ja_iald (n := 24200) (by decide) rfl (by decide) h0.1 h0.2 hd (hv ▸ k)
theorem is_fieldValue {i x : Int} (h0 : 0 ≤ i ∧ i < 24200) (hd : decode cc pc = .ok (.iastore, 1)) (k : mJ l D cA ad d cc nL rt (pc + 1) L S (ja_up h 91 i.toNat x) Q) : mJ l D cA ad d cc nL rt pc L ((0, x) :: (0, i) :: (2, ((91 : Nat) : Int)) :: S) h Q := ja_iast (n := 24200) (by decide) rfl (by decide) h0.1 h0.2 hd k
theorem fw_heldKind : Cond.fieldLink RX12 285 (TX12 142).1 (TX12 142).2.1 (TX12 142).2.2.1 ∈ ja_B := mo_fw (i := 0) (mo_pw2 11 (p := (285, 0, 12, 142, 6998)) rfl) rfl
theorem fa_heldKind (hd : decode cc pc = .ok (.getfield 285, 3)) (k : mJ l D cA ad d cc nL rt (pc + 3) L ((2, ((92 : Nat) : Int)) :: S) h Q) : mJ l D cA ad d cc nL rt pc L ((2, ((0 : Nat) : Int)) :: S) h Q := mo_get 285 142 rfl (by decide) fw_heldKind hd k
theorem il_heldKind {i v : Int} (hv : h 92 i.toNat = v) (h0 : 0 ≤ i ∧ i < 16200) (hd : decode cc pc = .ok (.iaload, 1)) (k : mJ l D cA ad d cc nL rt (pc + 1) L ((0, v) :: S) h Q) : mJ l D cA ad d cc nL rt pc L ((0, i) :: (2, ((92 : Nat) : Int)) :: S) h Q := ja_iald (n := 16200) (by decide) rfl (by decide) h0.1 h0.2 hd (hv ▸ k)
theorem is_heldKind {i x : Int} (h0 : 0 ≤ i ∧ i < 16200) (hd : decode cc pc = .ok (.iastore, 1)) (k : mJ l D cA ad d cc nL rt (pc + 1) L S (ja_up h 92 i.toNat x) Q) : mJ l D cA ad d cc nL rt pc L ((0, x) :: (0, i) :: (2, ((92 : Nat) : Int)) :: S) h Q := ja_iast (n := 16200) (by decide) rfl (by decide) h0.1 h0.2 hd k
theorem fw_heldValue : Cond.fieldLink RX12 288 (TX12 143).1 (TX12 143).2.1 (TX12 143).2.2.1 ∈ ja_B := mo_fw (i := 0) (mo_pw2 12 (p := (288, 0, 12, 143, 6999)) rfl) rfl
theorem fa_heldValue (hd : decode cc pc = .ok (.getfield 288, 3)) (k : mJ l D cA ad d cc nL rt (pc + 3) L ((2, ((93 : Nat) : Int)) :: S) h Q) : mJ l D cA ad d cc nL rt pc L ((2, ((0 : Nat) : Int)) :: S) h Q := mo_get 288 143 rfl (by decide) fw_heldValue hd k
theorem il_heldValue {i v : Int} (hv : h 93 i.toNat = v) (h0 : 0 ≤ i ∧ i < 16200) (hd : decode cc pc = .ok (.iaload, 1)) (k : mJ l D cA ad d cc nL rt (pc + 1) L ((0, v) :: S) h Q) : mJ l D cA ad d cc nL rt pc L ((0, i) :: (2, ((93 : Nat) : Int)) :: S) h Q := ja_iald (n := 16200) (by decide) rfl (by decide) h0.1 h0.2 hd (hv ▸ k)
theorem is_heldValue {i x : Int} (h0 : 0 ≤ i ∧ i < 16200) (hd : decode cc pc = .ok (.iastore, 1)) (k : mJ l D cA ad d cc nL rt (pc + 1) L S (ja_up h 93 i.toNat x) Q) : mJ l D cA ad d cc nL rt pc L ((0, x) :: (0, i) :: (2, ((93 : Nat) : Int)) :: S) h Q := ja_iast (n := 16200) (by decide) rfl (by decide) h0.1 h0.2 hd k
theorem fw_bodies : Cond.fieldLink RX12 990 (TX12 144).1 (TX12 144).2.1 (TX12 144).2.2.1 ∈ ja_B := mo_fw (i := 0) (mo_pw7 10 (p := (990, 0, 12, 144, 7000)) rfl) rfl
theorem fg_bodies {v : Int} (hv : h 0 144 = v) (hd : decode cc pc = .ok (.getfield 990, 3)) (k : mJ l D cA ad d cc nL rt (pc + 3) L ((0, v) :: S) h Q) : mJ l D cA ad d cc nL rt pc L ((2, ((0 : Nat) : Int)) :: S) h Q := mo_get 990 144 (congrArg (Prod.mk 0) hv) (by decide) fw_bodies hd k
theorem fp_bodies {x : Int} (hd : decode cc pc = .ok (.putfield 990, 3)) (k : mJ l D cA ad d cc nL rt (pc + 3) L S (ja_up h 0 144 x) Q) : mJ l D cA ad d cc nL rt pc L ((0, x) :: (2, ((0 : Nat) : Int)) :: S) h Q := mo_putI 990 144 (by decide) rfl rfl rfl fw_bodies hd k
theorem fw_failureKind : Cond.fieldLink RX12 1010 (TX12 145).1 (TX12 145).2.1 (TX12 145).2.2.1 ∈ ja_B := mo_fw (i := 0) (mo_pw7 17 (p := (1010, 0, 12, 145, 7001)) rfl) rfl
theorem fg_failureKind {v : Int} (hv : h 0 145 = v) (hd : decode cc pc = .ok (.getfield 1010, 3)) (k : mJ l D cA ad d cc nL rt (pc + 3) L ((0, v) :: S) h Q) : mJ l D cA ad d cc nL rt pc L ((2, ((0 : Nat) : Int)) :: S) h Q := mo_get 1010 145 (congrArg (Prod.mk 0) hv) (by decide) fw_failureKind hd k
theorem fp_failureKind {x : Int} (hd : decode cc pc = .ok (.putfield 1010, 3)) (k : mJ l D cA ad d cc nL rt (pc + 3) L S (ja_up h 0 145 x) Q) : mJ l D cA ad d cc nL rt pc L ((0, x) :: (2, ((0 : Nat) : Int)) :: S) h Q := mo_putI 1010 145 (by decide) rfl rfl rfl fw_failureKind hd k
theorem fw_failureValue : Cond.fieldLink RX12 1013 (TX12 146).1 (TX12 146).2.1 (TX12 146).2.2.1 ∈ ja_B := mo_fw (i := 0) (mo_pw7 18 (p := (1013, 0, 12, 146, 7002)) rfl) rfl
theorem fg_failureValue {v : Int} (hv : h 0 146 = v) (hd : decode cc pc = .ok (.getfield 1013, 3)) (k : mJ l D cA ad d cc nL rt (pc + 3) L ((0, v) :: S) h Q) : mJ l D cA ad d cc nL rt pc L ((2, ((0 : Nat) : Int)) :: S) h Q := mo_get 1013 146 (congrArg (Prod.mk 0) hv) (by decide) fw_failureValue hd k
theorem fp_failureValue {x : Int} (hd : decode cc pc = .ok (.putfield 1013, 3)) (k : mJ l D cA ad d cc nL rt (pc + 3) L S (ja_up h 0 146 x) Q) : mJ l D cA ad d cc nL rt pc L ((0, x) :: (2, ((0 : Nat) : Int)) :: S) h Q := mo_putI 1013 146 (by decide) rfl rfl rfl fw_failureValue hd k
theorem fw_pileKind : Cond.fieldLink RX12 291 (TX12 147).1 (TX12 147).2.1 (TX12 147).2.2.1 ∈ ja_B := mo_fw (i := 0) (mo_pw2 13 (p := (291, 0, 12, 147, 7003)) rfl) rfl
theorem fa_pileKind (hd : decode cc pc = .ok (.getfield 291, 3)) (k : mJ l D cA ad d cc nL rt (pc + 3) L ((2, ((94 : Nat) : Int)) :: S) h Q) : mJ l D cA ad d cc nL rt pc L ((2, ((0 : Nat) : Int)) :: S) h Q := mo_get 291 147 rfl (by decide) fw_pileKind hd k
theorem il_pileKind {i v : Int} (hv : h 94 i.toNat = v) (h0 : 0 ≤ i ∧ i < 6000) (hd : decode cc pc = .ok (.iaload, 1)) (k : mJ l D cA ad d cc nL rt (pc + 1) L ((0, v) :: S) h Q) : mJ l D cA ad d cc nL rt pc L ((0, i) :: (2, ((94 : Nat) : Int)) :: S) h Q := ja_iald (n := 6000) (by decide) rfl (by decide) h0.1 h0.2 hd (hv ▸ k)
theorem is_pileKind {i x : Int} (h0 : 0 ≤ i ∧ i < 6000) (hd : decode cc pc = .ok (.iastore, 1)) (k : mJ l D cA ad d cc nL rt (pc + 1) L S (ja_up h 94 i.toNat x) Q) : mJ l D cA ad d cc nL rt pc L ((0, x) :: (0, i) :: (2, ((94 : Nat) : Int)) :: S) h Q := ja_iast (n := 6000) (by decide) rfl (by decide) h0.1 h0.2 hd k
theorem fw_pileValue : Cond.fieldLink RX12 294 (TX12 148).1 (TX12 148).2.1 (TX12 148).2.2.1 ∈ ja_B := mo_fw (i := 0) (mo_pw2 14 (p := (294, 0, 12, 148, 7004)) rfl) rfl
theorem fa_pileValue (hd : decode cc pc = .ok (.getfield 294, 3)) (k : mJ l D cA ad d cc nL rt (pc + 3) L ((2, ((95 : Nat) : Int)) :: S) h Q) : mJ l D cA ad d cc nL rt pc L ((2, ((0 : Nat) : Int)) :: S) h Q := mo_get 294 148 rfl (by decide) fw_pileValue hd k
theorem il_pileValue {i v : Int} (hv : h 95 i.toNat = v) (h0 : 0 ≤ i ∧ i < 6000) (hd : decode cc pc = .ok (.iaload, 1)) (k : mJ l D cA ad d cc nL rt (pc + 1) L ((0, v) :: S) h Q) : mJ l D cA ad d cc nL rt pc L ((0, i) :: (2, ((95 : Nat) : Int)) :: S) h Q := ja_iald (n := 6000) (by decide) rfl (by decide) h0.1 h0.2 hd (hv ▸ k)
theorem is_pileValue {i x : Int} (h0 : 0 ≤ i ∧ i < 6000) (hd : decode cc pc = .ok (.iastore, 1)) (k : mJ l D cA ad d cc nL rt (pc + 1) L S (ja_up h 95 i.toNat x) Q) : mJ l D cA ad d cc nL rt pc L ((0, x) :: (0, i) :: (2, ((95 : Nat) : Int)) :: S) h Q := ja_iast (n := 6000) (by decide) rfl (by decide) h0.1 h0.2 hd k
theorem fw_pile : Cond.fieldLink RX12 993 (TX12 149).1 (TX12 149).2.1 (TX12 149).2.2.1 ∈ ja_B := mo_fw (i := 0) (mo_pw7 11 (p := (993, 0, 12, 149, 7005)) rfl) rfl
theorem fg_pile {v : Int} (hv : h 0 149 = v) (hd : decode cc pc = .ok (.getfield 993, 3)) (k : mJ l D cA ad d cc nL rt (pc + 3) L ((0, v) :: S) h Q) : mJ l D cA ad d cc nL rt pc L ((2, ((0 : Nat) : Int)) :: S) h Q := mo_get 993 149 (congrArg (Prod.mk 0) hv) (by decide) fw_pile hd k
theorem fp_pile {x : Int} (hd : decode cc pc = .ok (.putfield 993, 3)) (k : mJ l D cA ad d cc nL rt (pc + 3) L S (ja_up h 0 149 x) Q) : mJ l D cA ad d cc nL rt pc L ((0, x) :: (2, ((0 : Nat) : Int)) :: S) h Q := mo_putI 993 149 (by decide) rfl rfl rfl fw_pile hd k
theorem fw_frames : Cond.fieldLink RX12 996 (TX12 150).1 (TX12 150).2.1 (TX12 150).2.2.1 ∈ ja_B := mo_fw (i := 0) (mo_pw7 12 (p := (996, 0, 12, 150, 7006)) rfl) rfl
theorem fg_frames {v : Int} (hv : h 0 150 = v) (hd : decode cc pc = .ok (.getfield 996, 3)) (k : mJ l D cA ad d cc nL rt (pc + 3) L ((0, v) :: S) h Q) : mJ l D cA ad d cc nL rt pc L ((2, ((0 : Nat) : Int)) :: S) h Q := mo_get 996 150 (congrArg (Prod.mk 0) hv) (by decide) fw_frames hd k
theorem fp_frames {x : Int} (hd : decode cc pc = .ok (.putfield 996, 3)) (k : mJ l D cA ad d cc nL rt (pc + 3) L S (ja_up h 0 150 x) Q) : mJ l D cA ad d cc nL rt pc L ((0, x) :: (2, ((0 : Nat) : Int)) :: S) h Q := mo_putI 996 150 (by decide) rfl rfl rfl fw_frames hd k
theorem fw_frameType : Cond.fieldLink RX12 297 (TX12 151).1 (TX12 151).2.1 (TX12 151).2.2.1 ∈ ja_B := mo_fw (i := 0) (mo_pw2 15 (p := (297, 0, 12, 151, 7007)) rfl) rfl
theorem fa_frameType (hd : decode cc pc = .ok (.getfield 297, 3)) (k : mJ l D cA ad d cc nL rt (pc + 3) L ((2, ((96 : Nat) : Int)) :: S) h Q) : mJ l D cA ad d cc nL rt pc L ((2, ((0 : Nat) : Int)) :: S) h Q := mo_get 297 151 rfl (by decide) fw_frameType hd k
theorem il_frameType {i v : Int} (hv : h 96 i.toNat = v) (h0 : 0 ≤ i ∧ i < 3000) (hd : decode cc pc = .ok (.iaload, 1)) (k : mJ l D cA ad d cc nL rt (pc + 1) L ((0, v) :: S) h Q) : mJ l D cA ad d cc nL rt pc L ((0, i) :: (2, ((96 : Nat) : Int)) :: S) h Q := ja_iald (n := 3000) (by decide) rfl (by decide) h0.1 h0.2 hd (hv ▸ k)
theorem is_frameType {i x : Int} (h0 : 0 ≤ i ∧ i < 3000) (hd : decode cc pc = .ok (.iastore, 1)) (k : mJ l D cA ad d cc nL rt (pc + 1) L S (ja_up h 96 i.toNat x) Q) : mJ l D cA ad d cc nL rt pc L ((0, x) :: (0, i) :: (2, ((96 : Nat) : Int)) :: S) h Q := ja_iast (n := 3000) (by decide) rfl (by decide) h0.1 h0.2 hd k
theorem fw_framePc : Cond.fieldLink RX12 300 (TX12 152).1 (TX12 152).2.1 (TX12 152).2.2.1 ∈ ja_B := mo_fw (i := 0) (mo_pw2 16 (p := (300, 0, 12, 152, 7008)) rfl) rfl
theorem fa_framePc (hd : decode cc pc = .ok (.getfield 300, 3)) (k : mJ l D cA ad d cc nL rt (pc + 3) L ((2, ((97 : Nat) : Int)) :: S) h Q) : mJ l D cA ad d cc nL rt pc L ((2, ((0 : Nat) : Int)) :: S) h Q := mo_get 300 152 rfl (by decide) fw_framePc hd k
theorem il_framePc {i v : Int} (hv : h 97 i.toNat = v) (h0 : 0 ≤ i ∧ i < 3000) (hd : decode cc pc = .ok (.iaload, 1)) (k : mJ l D cA ad d cc nL rt (pc + 1) L ((0, v) :: S) h Q) : mJ l D cA ad d cc nL rt pc L ((0, i) :: (2, ((97 : Nat) : Int)) :: S) h Q := ja_iald (n := 3000) (by decide) rfl (by decide) h0.1 h0.2 hd (hv ▸ k)
theorem is_framePc {i x : Int} (h0 : 0 ≤ i ∧ i < 3000) (hd : decode cc pc = .ok (.iastore, 1)) (k : mJ l D cA ad d cc nL rt (pc + 1) L S (ja_up h 97 i.toNat x) Q) : mJ l D cA ad d cc nL rt pc L ((0, x) :: (0, i) :: (2, ((97 : Nat) : Int)) :: S) h Q := ja_iast (n := 3000) (by decide) rfl (by decide) h0.1 h0.2 hd k
theorem fw_frameSelf : Cond.fieldLink RX12 303 (TX12 153).1 (TX12 153).2.1 (TX12 153).2.2.1 ∈ ja_B := mo_fw (i := 0) (mo_pw2 17 (p := (303, 0, 12, 153, 7009)) rfl) rfl
theorem fa_frameSelf (hd : decode cc pc = .ok (.getfield 303, 3)) (k : mJ l D cA ad d cc nL rt (pc + 3) L ((2, ((98 : Nat) : Int)) :: S) h Q) : mJ l D cA ad d cc nL rt pc L ((2, ((0 : Nat) : Int)) :: S) h Q := mo_get 303 153 rfl (by decide) fw_frameSelf hd k
theorem il_frameSelf {i v : Int} (hv : h 98 i.toNat = v) (h0 : 0 ≤ i ∧ i < 3000) (hd : decode cc pc = .ok (.iaload, 1)) (k : mJ l D cA ad d cc nL rt (pc + 1) L ((0, v) :: S) h Q) : mJ l D cA ad d cc nL rt pc L ((0, i) :: (2, ((98 : Nat) : Int)) :: S) h Q := ja_iald (n := 3000) (by decide) rfl (by decide) h0.1 h0.2 hd (hv ▸ k)
theorem is_frameSelf {i x : Int} (h0 : 0 ≤ i ∧ i < 3000) (hd : decode cc pc = .ok (.iastore, 1)) (k : mJ l D cA ad d cc nL rt (pc + 1) L S (ja_up h 98 i.toNat x) Q) : mJ l D cA ad d cc nL rt pc L ((0, x) :: (0, i) :: (2, ((98 : Nat) : Int)) :: S) h Q := ja_iast (n := 3000) (by decide) rfl (by decide) h0.1 h0.2 hd k
theorem fw_frameBase : Cond.fieldLink RX12 306 (TX12 154).1 (TX12 154).2.1 (TX12 154).2.2.1 ∈ ja_B := mo_fw (i := 0) (mo_pw2 18 (p := (306, 0, 12, 154, 7010)) rfl) rfl
theorem fa_frameBase (hd : decode cc pc = .ok (.getfield 306, 3)) (k : mJ l D cA ad d cc nL rt (pc + 3) L ((2, ((99 : Nat) : Int)) :: S) h Q) : mJ l D cA ad d cc nL rt pc L ((2, ((0 : Nat) : Int)) :: S) h Q := mo_get 306 154 rfl (by decide) fw_frameBase hd k
theorem il_frameBase {i v : Int} (hv : h 99 i.toNat = v) (h0 : 0 ≤ i ∧ i < 3000) (hd : decode cc pc = .ok (.iaload, 1)) (k : mJ l D cA ad d cc nL rt (pc + 1) L ((0, v) :: S) h Q) : mJ l D cA ad d cc nL rt pc L ((0, i) :: (2, ((99 : Nat) : Int)) :: S) h Q := ja_iald (n := 3000) (by decide) rfl (by decide) h0.1 h0.2 hd (hv ▸ k)
theorem is_frameBase {i x : Int} (h0 : 0 ≤ i ∧ i < 3000) (hd : decode cc pc = .ok (.iastore, 1)) (k : mJ l D cA ad d cc nL rt (pc + 1) L S (ja_up h 99 i.toNat x) Q) : mJ l D cA ad d cc nL rt pc L ((0, x) :: (0, i) :: (2, ((99 : Nat) : Int)) :: S) h Q := ja_iast (n := 3000) (by decide) rfl (by decide) h0.1 h0.2 hd k
theorem fw_frameTries : Cond.fieldLink RX12 309 (TX12 155).1 (TX12 155).2.1 (TX12 155).2.2.1 ∈ ja_B := mo_fw (i := 0) (mo_pw2 19 (p := (309, 0, 12, 155, 7011)) rfl) rfl
theorem fa_frameTries (hd : decode cc pc = .ok (.getfield 309, 3)) (k : mJ l D cA ad d cc nL rt (pc + 3) L ((2, ((100 : Nat) : Int)) :: S) h Q) : mJ l D cA ad d cc nL rt pc L ((2, ((0 : Nat) : Int)) :: S) h Q := mo_get 309 155 rfl (by decide) fw_frameTries hd k
theorem il_frameTries {i v : Int} (hv : h 100 i.toNat = v) (h0 : 0 ≤ i ∧ i < 3000) (hd : decode cc pc = .ok (.iaload, 1)) (k : mJ l D cA ad d cc nL rt (pc + 1) L ((0, v) :: S) h Q) : mJ l D cA ad d cc nL rt pc L ((0, i) :: (2, ((100 : Nat) : Int)) :: S) h Q := ja_iald (n := 3000) (by decide) rfl (by decide) h0.1 h0.2 hd (hv ▸ k)
theorem is_frameTries {i x : Int} (h0 : 0 ≤ i ∧ i < 3000) (hd : decode cc pc = .ok (.iastore, 1)) (k : mJ l D cA ad d cc nL rt (pc + 1) L S (ja_up h 100 i.toNat x) Q) : mJ l D cA ad d cc nL rt pc L ((0, x) :: (0, i) :: (2, ((100 : Nat) : Int)) :: S) h Q := ja_iast (n := 3000) (by decide) rfl (by decide) h0.1 h0.2 hd k
theorem fw_frameLocals : Cond.fieldLink RX12 312 (TX12 156).1 (TX12 156).2.1 (TX12 156).2.2.1 ∈ ja_B := mo_fw (i := 0) (mo_pw2 20 (p := (312, 0, 12, 156, 7012)) rfl) rfl
theorem fa_frameLocals (hd : decode cc pc = .ok (.getfield 312, 3)) (k : mJ l D cA ad d cc nL rt (pc + 3) L ((2, ((101 : Nat) : Int)) :: S) h Q) : mJ l D cA ad d cc nL rt pc L ((2, ((0 : Nat) : Int)) :: S) h Q := mo_get 312 156 rfl (by decide) fw_frameLocals hd k
theorem il_frameLocals {i v : Int} (hv : h 101 i.toNat = v) (h0 : 0 ≤ i ∧ i < 3000) (hd : decode cc pc = .ok (.iaload, 1)) (k : mJ l D cA ad d cc nL rt (pc + 1) L ((0, v) :: S) h Q) : mJ l D cA ad d cc nL rt pc L ((0, i) :: (2, ((101 : Nat) : Int)) :: S) h Q := ja_iald (n := 3000) (by decide) rfl (by decide) h0.1 h0.2 hd (hv ▸ k)
theorem is_frameLocals {i x : Int} (h0 : 0 ≤ i ∧ i < 3000) (hd : decode cc pc = .ok (.iastore, 1)) (k : mJ l D cA ad d cc nL rt (pc + 1) L S (ja_up h 101 i.toNat x) Q) : mJ l D cA ad d cc nL rt pc L ((0, x) :: (0, i) :: (2, ((101 : Nat) : Int)) :: S) h Q := ja_iast (n := 3000) (by decide) rfl (by decide) h0.1 h0.2 hd k
theorem fw_frameRow : Cond.fieldLink RX12 315 (TX12 157).1 (TX12 157).2.1 (TX12 157).2.2.1 ∈ ja_B := mo_fw (i := 0) (mo_pw2 21 (p := (315, 0, 12, 157, 7013)) rfl) rfl
theorem fa_frameRow (hd : decode cc pc = .ok (.getfield 315, 3)) (k : mJ l D cA ad d cc nL rt (pc + 3) L ((2, ((102 : Nat) : Int)) :: S) h Q) : mJ l D cA ad d cc nL rt pc L ((2, ((0 : Nat) : Int)) :: S) h Q := mo_get 315 157 rfl (by decide) fw_frameRow hd k
theorem il_frameRow {i v : Int} (hv : h 102 i.toNat = v) (h0 : 0 ≤ i ∧ i < 3000) (hd : decode cc pc = .ok (.iaload, 1)) (k : mJ l D cA ad d cc nL rt (pc + 1) L ((0, v) :: S) h Q) : mJ l D cA ad d cc nL rt pc L ((0, i) :: (2, ((102 : Nat) : Int)) :: S) h Q := ja_iald (n := 3000) (by decide) rfl (by decide) h0.1 h0.2 hd (hv ▸ k)
theorem is_frameRow {i x : Int} (h0 : 0 ≤ i ∧ i < 3000) (hd : decode cc pc = .ok (.iastore, 1)) (k : mJ l D cA ad d cc nL rt (pc + 1) L S (ja_up h 102 i.toNat x) Q) : mJ l D cA ad d cc nL rt pc L ((0, x) :: (0, i) :: (2, ((102 : Nat) : Int)) :: S) h Q := ja_iast (n := 3000) (by decide) rfl (by decide) h0.1 h0.2 hd k
theorem fw_frameLevel : Cond.fieldLink RX12 318 (TX12 158).1 (TX12 158).2.1 (TX12 158).2.2.1 ∈ ja_B := mo_fw (i := 0) (mo_pw2 22 (p := (318, 0, 12, 158, 7014)) rfl) rfl
theorem fa_frameLevel (hd : decode cc pc = .ok (.getfield 318, 3)) (k : mJ l D cA ad d cc nL rt (pc + 3) L ((2, ((103 : Nat) : Int)) :: S) h Q) : mJ l D cA ad d cc nL rt pc L ((2, ((0 : Nat) : Int)) :: S) h Q := mo_get 318 158 rfl (by decide) fw_frameLevel hd k
theorem il_frameLevel {i v : Int} (hv : h 103 i.toNat = v) (h0 : 0 ≤ i ∧ i < 3000) (hd : decode cc pc = .ok (.iaload, 1)) (k : mJ l D cA ad d cc nL rt (pc + 1) L ((0, v) :: S) h Q) : mJ l D cA ad d cc nL rt pc L ((0, i) :: (2, ((103 : Nat) : Int)) :: S) h Q := ja_iald (n := 3000) (by decide) rfl (by decide) h0.1 h0.2 hd (hv ▸ k)
theorem is_frameLevel {i x : Int} (h0 : 0 ≤ i ∧ i < 3000) (hd : decode cc pc = .ok (.iastore, 1)) (k : mJ l D cA ad d cc nL rt (pc + 1) L S (ja_up h 103 i.toNat x) Q) : mJ l D cA ad d cc nL rt pc L ((0, x) :: (0, i) :: (2, ((103 : Nat) : Int)) :: S) h Q := ja_iast (n := 3000) (by decide) rfl (by decide) h0.1 h0.2 hd k
theorem fw_frameStage : Cond.fieldLink RX12 321 (TX12 159).1 (TX12 159).2.1 (TX12 159).2.2.1 ∈ ja_B := mo_fw (i := 0) (mo_pw2 23 (p := (321, 0, 12, 159, 7015)) rfl) rfl
theorem fa_frameStage (hd : decode cc pc = .ok (.getfield 321, 3)) (k : mJ l D cA ad d cc nL rt (pc + 3) L ((2, ((104 : Nat) : Int)) :: S) h Q) : mJ l D cA ad d cc nL rt pc L ((2, ((0 : Nat) : Int)) :: S) h Q := mo_get 321 159 rfl (by decide) fw_frameStage hd k
theorem il_frameStage {i v : Int} (hv : h 104 i.toNat = v) (h0 : 0 ≤ i ∧ i < 3000) (hd : decode cc pc = .ok (.iaload, 1)) (k : mJ l D cA ad d cc nL rt (pc + 1) L ((0, v) :: S) h Q) : mJ l D cA ad d cc nL rt pc L ((0, i) :: (2, ((104 : Nat) : Int)) :: S) h Q := ja_iald (n := 3000) (by decide) rfl (by decide) h0.1 h0.2 hd (hv ▸ k)
theorem is_frameStage {i x : Int} (h0 : 0 ≤ i ∧ i < 3000) (hd : decode cc pc = .ok (.iastore, 1)) (k : mJ l D cA ad d cc nL rt (pc + 1) L S (ja_up h 104 i.toNat x) Q) : mJ l D cA ad d cc nL rt pc L ((0, x) :: (0, i) :: (2, ((104 : Nat) : Int)) :: S) h Q := ja_iast (n := 3000) (by decide) rfl (by decide) h0.1 h0.2 hd k
theorem fw_frameFails : Cond.fieldLink RX12 324 (TX12 160).1 (TX12 160).2.1 (TX12 160).2.2.1 ∈ ja_B := mo_fw (i := 0) (mo_pw2 24 (p := (324, 0, 12, 160, 7016)) rfl) rfl
theorem fa_frameFails (hd : decode cc pc = .ok (.getfield 324, 3)) (k : mJ l D cA ad d cc nL rt (pc + 3) L ((2, ((105 : Nat) : Int)) :: S) h Q) : mJ l D cA ad d cc nL rt pc L ((2, ((0 : Nat) : Int)) :: S) h Q := mo_get 324 160 rfl (by decide) fw_frameFails hd k
theorem il_frameFails {i v : Int} (hv : h 105 i.toNat = v) (h0 : 0 ≤ i ∧ i < 3000) (hd : decode cc pc = .ok (.iaload, 1)) (k : mJ l D cA ad d cc nL rt (pc + 1) L ((0, v) :: S) h Q) : mJ l D cA ad d cc nL rt pc L ((0, i) :: (2, ((105 : Nat) : Int)) :: S) h Q := ja_iald (n := 3000) (by decide) rfl (by decide) h0.1 h0.2 hd (hv ▸ k)
theorem is_frameFails {i x : Int} (h0 : 0 ≤ i ∧ i < 3000) (hd : decode cc pc = .ok (.iastore, 1)) (k : mJ l D cA ad d cc nL rt (pc + 1) L S (ja_up h 105 i.toNat x) Q) : mJ l D cA ad d cc nL rt pc L ((0, x) :: (0, i) :: (2, ((105 : Nat) : Int)) :: S) h Q := ja_iast (n := 3000) (by decide) rfl (by decide) h0.1 h0.2 hd k
theorem fw_frameKind : Cond.fieldLink RX12 327 (TX12 161).1 (TX12 161).2.1 (TX12 161).2.2.1 ∈ ja_B := mo_fw (i := 0) (mo_pw2 25 (p := (327, 0, 12, 161, 7017)) rfl) rfl
theorem fa_frameKind (hd : decode cc pc = .ok (.getfield 327, 3)) (k : mJ l D cA ad d cc nL rt (pc + 3) L ((2, ((106 : Nat) : Int)) :: S) h Q) : mJ l D cA ad d cc nL rt pc L ((2, ((0 : Nat) : Int)) :: S) h Q := mo_get 327 161 rfl (by decide) fw_frameKind hd k
theorem il_frameKind {i v : Int} (hv : h 106 i.toNat = v) (h0 : 0 ≤ i ∧ i < 3000) (hd : decode cc pc = .ok (.iaload, 1)) (k : mJ l D cA ad d cc nL rt (pc + 1) L ((0, v) :: S) h Q) : mJ l D cA ad d cc nL rt pc L ((0, i) :: (2, ((106 : Nat) : Int)) :: S) h Q := ja_iald (n := 3000) (by decide) rfl (by decide) h0.1 h0.2 hd (hv ▸ k)
theorem is_frameKind {i x : Int} (h0 : 0 ≤ i ∧ i < 3000) (hd : decode cc pc = .ok (.iastore, 1)) (k : mJ l D cA ad d cc nL rt (pc + 1) L S (ja_up h 106 i.toNat x) Q) : mJ l D cA ad d cc nL rt pc L ((0, x) :: (0, i) :: (2, ((106 : Nat) : Int)) :: S) h Q := ja_iast (n := 3000) (by decide) rfl (by decide) h0.1 h0.2 hd k
theorem fw_frameValue : Cond.fieldLink RX12 330 (TX12 162).1 (TX12 162).2.1 (TX12 162).2.2.1 ∈ ja_B := mo_fw (i := 0) (mo_pw2 26 (p := (330, 0, 12, 162, 7018)) rfl) rfl
theorem fa_frameValue (hd : decode cc pc = .ok (.getfield 330, 3)) (k : mJ l D cA ad d cc nL rt (pc + 3) L ((2, ((107 : Nat) : Int)) :: S) h Q) : mJ l D cA ad d cc nL rt pc L ((2, ((0 : Nat) : Int)) :: S) h Q := mo_get 330 162 rfl (by decide) fw_frameValue hd k
theorem il_frameValue {i v : Int} (hv : h 107 i.toNat = v) (h0 : 0 ≤ i ∧ i < 3000) (hd : decode cc pc = .ok (.iaload, 1)) (k : mJ l D cA ad d cc nL rt (pc + 1) L ((0, v) :: S) h Q) : mJ l D cA ad d cc nL rt pc L ((0, i) :: (2, ((107 : Nat) : Int)) :: S) h Q := ja_iald (n := 3000) (by decide) rfl (by decide) h0.1 h0.2 hd (hv ▸ k)
theorem is_frameValue {i x : Int} (h0 : 0 ≤ i ∧ i < 3000) (hd : decode cc pc = .ok (.iastore, 1)) (k : mJ l D cA ad d cc nL rt (pc + 1) L S (ja_up h 107 i.toNat x) Q) : mJ l D cA ad d cc nL rt pc L ((0, x) :: (0, i) :: (2, ((107 : Nat) : Int)) :: S) h Q := ja_iast (n := 3000) (by decide) rfl (by decide) h0.1 h0.2 hd k
theorem fw_frameArgKind : Cond.fieldLink RX12 333 (TX12 163).1 (TX12 163).2.1 (TX12 163).2.2.1 ∈ ja_B := mo_fw (i := 0) (mo_pw2 27 (p := (333, 0, 12, 163, 7019)) rfl) rfl
theorem fa_frameArgKind (hd : decode cc pc = .ok (.getfield 333, 3)) (k : mJ l D cA ad d cc nL rt (pc + 3) L ((2, ((108 : Nat) : Int)) :: S) h Q) : mJ l D cA ad d cc nL rt pc L ((2, ((0 : Nat) : Int)) :: S) h Q := mo_get 333 163 rfl (by decide) fw_frameArgKind hd k
theorem il_frameArgKind {i v : Int} (hv : h 108 i.toNat = v) (h0 : 0 ≤ i ∧ i < 18000) (hd : decode cc pc = .ok (.iaload, 1)) (k : mJ l D cA ad d cc nL rt (pc + 1) L ((0, v) :: S) h Q) : mJ l D cA ad d cc nL rt pc L ((0, i) :: (2, ((108 : Nat) : Int)) :: S) h Q := ja_iald (n := 18000) (by decide) rfl (by decide) h0.1 h0.2 hd (hv ▸ k)
theorem is_frameArgKind {i x : Int} (h0 : 0 ≤ i ∧ i < 18000) (hd : decode cc pc = .ok (.iastore, 1)) (k : mJ l D cA ad d cc nL rt (pc + 1) L S (ja_up h 108 i.toNat x) Q) : mJ l D cA ad d cc nL rt pc L ((0, x) :: (0, i) :: (2, ((108 : Nat) : Int)) :: S) h Q := ja_iast (n := 18000) (by decide) rfl (by decide) h0.1 h0.2 hd k
theorem fw_frameArgValue : Cond.fieldLink RX12 336 (TX12 164).1 (TX12 164).2.1 (TX12 164).2.2.1 ∈ ja_B := mo_fw (i := 0) (mo_pw2 28 (p := (336, 0, 12, 164, 7020)) rfl) rfl
theorem fa_frameArgValue (hd : decode cc pc = .ok (.getfield 336, 3)) (k : mJ l D cA ad d cc nL rt (pc + 3) L ((2, ((109 : Nat) : Int)) :: S) h Q) : mJ l D cA ad d cc nL rt pc L ((2, ((0 : Nat) : Int)) :: S) h Q := mo_get 336 164 rfl (by decide) fw_frameArgValue hd k
theorem il_frameArgValue {i v : Int} (hv : h 109 i.toNat = v) (h0 : 0 ≤ i ∧ i < 18000) (hd : decode cc pc = .ok (.iaload, 1)) (k : mJ l D cA ad d cc nL rt (pc + 1) L ((0, v) :: S) h Q) : mJ l D cA ad d cc nL rt pc L ((0, i) :: (2, ((109 : Nat) : Int)) :: S) h Q := ja_iald (n := 18000) (by decide) rfl (by decide) h0.1 h0.2 hd (hv ▸ k)
theorem is_frameArgValue {i x : Int} (h0 : 0 ≤ i ∧ i < 18000) (hd : decode cc pc = .ok (.iastore, 1)) (k : mJ l D cA ad d cc nL rt (pc + 1) L S (ja_up h 109 i.toNat x) Q) : mJ l D cA ad d cc nL rt pc L ((0, x) :: (0, i) :: (2, ((109 : Nat) : Int)) :: S) h Q := ja_iast (n := 18000) (by decide) rfl (by decide) h0.1 h0.2 hd k
theorem fw_localTop : Cond.fieldLink RX12 999 (TX12 165).1 (TX12 165).2.1 (TX12 165).2.2.1 ∈ ja_B := mo_fw (i := 0) (mo_pw7 13 (p := (999, 0, 12, 165, 7021)) rfl) rfl
theorem fg_localTop {v : Int} (hv : h 0 165 = v) (hd : decode cc pc = .ok (.getfield 999, 3)) (k : mJ l D cA ad d cc nL rt (pc + 3) L ((0, v) :: S) h Q) : mJ l D cA ad d cc nL rt pc L ((2, ((0 : Nat) : Int)) :: S) h Q := mo_get 999 165 (congrArg (Prod.mk 0) hv) (by decide) fw_localTop hd k
theorem fp_localTop {x : Int} (hd : decode cc pc = .ok (.putfield 999, 3)) (k : mJ l D cA ad d cc nL rt (pc + 3) L S (ja_up h 0 165 x) Q) : mJ l D cA ad d cc nL rt pc L ((0, x) :: (2, ((0 : Nat) : Int)) :: S) h Q := mo_putI 999 165 (by decide) rfl rfl rfl fw_localTop hd k
theorem fw_localKind : Cond.fieldLink RX12 339 (TX12 166).1 (TX12 166).2.1 (TX12 166).2.2.1 ∈ ja_B := mo_fw (i := 0) (mo_pw2 29 (p := (339, 0, 12, 166, 7022)) rfl) rfl
theorem fa_localKind (hd : decode cc pc = .ok (.getfield 339, 3)) (k : mJ l D cA ad d cc nL rt (pc + 3) L ((2, ((110 : Nat) : Int)) :: S) h Q) : mJ l D cA ad d cc nL rt pc L ((2, ((0 : Nat) : Int)) :: S) h Q := mo_get 339 166 rfl (by decide) fw_localKind hd k
theorem il_localKind {i v : Int} (hv : h 110 i.toNat = v) (h0 : 0 ≤ i ∧ i < 500) (hd : decode cc pc = .ok (.iaload, 1)) (k : mJ l D cA ad d cc nL rt (pc + 1) L ((0, v) :: S) h Q) : mJ l D cA ad d cc nL rt pc L ((0, i) :: (2, ((110 : Nat) : Int)) :: S) h Q := ja_iald (n := 500) (by decide) rfl (by decide) h0.1 h0.2 hd (hv ▸ k)
theorem is_localKind {i x : Int} (h0 : 0 ≤ i ∧ i < 500) (hd : decode cc pc = .ok (.iastore, 1)) (k : mJ l D cA ad d cc nL rt (pc + 1) L S (ja_up h 110 i.toNat x) Q) : mJ l D cA ad d cc nL rt pc L ((0, x) :: (0, i) :: (2, ((110 : Nat) : Int)) :: S) h Q := ja_iast (n := 500) (by decide) rfl (by decide) h0.1 h0.2 hd k
theorem fw_localValue : Cond.fieldLink RX12 342 (TX12 167).1 (TX12 167).2.1 (TX12 167).2.2.1 ∈ ja_B := mo_fw (i := 0) (mo_pw2 30 (p := (342, 0, 12, 167, 7023)) rfl) rfl
theorem fa_localValue (hd : decode cc pc = .ok (.getfield 342, 3)) (k : mJ l D cA ad d cc nL rt (pc + 3) L ((2, ((111 : Nat) : Int)) :: S) h Q) : mJ l D cA ad d cc nL rt pc L ((2, ((0 : Nat) : Int)) :: S) h Q := mo_get 342 167 rfl (by decide) fw_localValue hd k
theorem il_localValue {i v : Int} (hv : h 111 i.toNat = v) (h0 : 0 ≤ i ∧ i < 500) (hd : decode cc pc = .ok (.iaload, 1)) (k : mJ l D cA ad d cc nL rt (pc + 1) L ((0, v) :: S) h Q) : mJ l D cA ad d cc nL rt pc L ((0, i) :: (2, ((111 : Nat) : Int)) :: S) h Q := ja_iald (n := 500) (by decide) rfl (by decide) h0.1 h0.2 hd (hv ▸ k)
theorem is_localValue {i x : Int} (h0 : 0 ≤ i ∧ i < 500) (hd : decode cc pc = .ok (.iastore, 1)) (k : mJ l D cA ad d cc nL rt (pc + 1) L S (ja_up h 111 i.toNat x) Q) : mJ l D cA ad d cc nL rt pc L ((0, x) :: (0, i) :: (2, ((111 : Nat) : Int)) :: S) h Q := ja_iast (n := 500) (by decide) rfl (by decide) h0.1 h0.2 hd k
theorem fw_tries : Cond.fieldLink RX12 1002 (TX12 168).1 (TX12 168).2.1 (TX12 168).2.2.1 ∈ ja_B := mo_fw (i := 0) (mo_pw7 14 (p := (1002, 0, 12, 168, 7024)) rfl) rfl
theorem fg_tries {v : Int} (hv : h 0 168 = v) (hd : decode cc pc = .ok (.getfield 1002, 3)) (k : mJ l D cA ad d cc nL rt (pc + 3) L ((0, v) :: S) h Q) : mJ l D cA ad d cc nL rt pc L ((2, ((0 : Nat) : Int)) :: S) h Q := mo_get 1002 168 (congrArg (Prod.mk 0) hv) (by decide) fw_tries hd k
theorem fp_tries {x : Int} (hd : decode cc pc = .ok (.putfield 1002, 3)) (k : mJ l D cA ad d cc nL rt (pc + 3) L S (ja_up h 0 168 x) Q) : mJ l D cA ad d cc nL rt pc L ((0, x) :: (2, ((0 : Nat) : Int)) :: S) h Q := mo_putI 1002 168 (by decide) rfl rfl rfl fw_tries hd k
theorem fw_tryPc : Cond.fieldLink RX12 345 (TX12 169).1 (TX12 169).2.1 (TX12 169).2.2.1 ∈ ja_B := mo_fw (i := 0) (mo_pw2 31 (p := (345, 0, 12, 169, 7025)) rfl) rfl
theorem fa_tryPc (hd : decode cc pc = .ok (.getfield 345, 3)) (k : mJ l D cA ad d cc nL rt (pc + 3) L ((2, ((112 : Nat) : Int)) :: S) h Q) : mJ l D cA ad d cc nL rt pc L ((2, ((0 : Nat) : Int)) :: S) h Q := mo_get 345 169 rfl (by decide) fw_tryPc hd k
theorem il_tryPc {i v : Int} (hv : h 112 i.toNat = v) (h0 : 0 ≤ i ∧ i < 800) (hd : decode cc pc = .ok (.iaload, 1)) (k : mJ l D cA ad d cc nL rt (pc + 1) L ((0, v) :: S) h Q) : mJ l D cA ad d cc nL rt pc L ((0, i) :: (2, ((112 : Nat) : Int)) :: S) h Q := ja_iald (n := 800) (by decide) rfl (by decide) h0.1 h0.2 hd (hv ▸ k)
theorem is_tryPc {i x : Int} (h0 : 0 ≤ i ∧ i < 800) (hd : decode cc pc = .ok (.iastore, 1)) (k : mJ l D cA ad d cc nL rt (pc + 1) L S (ja_up h 112 i.toNat x) Q) : mJ l D cA ad d cc nL rt pc L ((0, x) :: (0, i) :: (2, ((112 : Nat) : Int)) :: S) h Q := ja_iast (n := 800) (by decide) rfl (by decide) h0.1 h0.2 hd k
theorem fw_tryPile : Cond.fieldLink RX12 348 (TX12 170).1 (TX12 170).2.1 (TX12 170).2.2.1 ∈ ja_B := mo_fw (i := 0) (mo_pw2 32 (p := (348, 0, 12, 170, 7026)) rfl) rfl
theorem fa_tryPile (hd : decode cc pc = .ok (.getfield 348, 3)) (k : mJ l D cA ad d cc nL rt (pc + 3) L ((2, ((113 : Nat) : Int)) :: S) h Q) : mJ l D cA ad d cc nL rt pc L ((2, ((0 : Nat) : Int)) :: S) h Q := mo_get 348 170 rfl (by decide) fw_tryPile hd k
theorem il_tryPile {i v : Int} (hv : h 113 i.toNat = v) (h0 : 0 ≤ i ∧ i < 800) (hd : decode cc pc = .ok (.iaload, 1)) (k : mJ l D cA ad d cc nL rt (pc + 1) L ((0, v) :: S) h Q) : mJ l D cA ad d cc nL rt pc L ((0, i) :: (2, ((113 : Nat) : Int)) :: S) h Q := ja_iald (n := 800) (by decide) rfl (by decide) h0.1 h0.2 hd (hv ▸ k)
theorem is_tryPile {i x : Int} (h0 : 0 ≤ i ∧ i < 800) (hd : decode cc pc = .ok (.iastore, 1)) (k : mJ l D cA ad d cc nL rt (pc + 1) L S (ja_up h 113 i.toNat x) Q) : mJ l D cA ad d cc nL rt pc L ((0, x) :: (0, i) :: (2, ((113 : Nat) : Int)) :: S) h Q := ja_iast (n := 800) (by decide) rfl (by decide) h0.1 h0.2 hd k
theorem fw_tryFrame : Cond.fieldLink RX12 351 (TX12 171).1 (TX12 171).2.1 (TX12 171).2.2.1 ∈ ja_B := mo_fw (i := 0) (mo_pw2 33 (p := (351, 0, 12, 171, 7027)) rfl) rfl
theorem fa_tryFrame (hd : decode cc pc = .ok (.getfield 351, 3)) (k : mJ l D cA ad d cc nL rt (pc + 3) L ((2, ((114 : Nat) : Int)) :: S) h Q) : mJ l D cA ad d cc nL rt pc L ((2, ((0 : Nat) : Int)) :: S) h Q := mo_get 351 171 rfl (by decide) fw_tryFrame hd k
theorem il_tryFrame {i v : Int} (hv : h 114 i.toNat = v) (h0 : 0 ≤ i ∧ i < 800) (hd : decode cc pc = .ok (.iaload, 1)) (k : mJ l D cA ad d cc nL rt (pc + 1) L ((0, v) :: S) h Q) : mJ l D cA ad d cc nL rt pc L ((0, i) :: (2, ((114 : Nat) : Int)) :: S) h Q := ja_iald (n := 800) (by decide) rfl (by decide) h0.1 h0.2 hd (hv ▸ k)
theorem is_tryFrame {i x : Int} (h0 : 0 ≤ i ∧ i < 800) (hd : decode cc pc = .ok (.iastore, 1)) (k : mJ l D cA ad d cc nL rt (pc + 1) L S (ja_up h 114 i.toNat x) Q) : mJ l D cA ad d cc nL rt pc L ((0, x) :: (0, i) :: (2, ((114 : Nat) : Int)) :: S) h Q := ja_iast (n := 800) (by decide) rfl (by decide) h0.1 h0.2 hd k
theorem fw_reached : Cond.fieldLink RX12 1005 (TX12 172).1 (TX12 172).2.1 (TX12 172).2.2.1 ∈ ja_B := mo_fw (i := 0) (mo_pw7 15 (p := (1005, 0, 12, 172, 7028)) rfl) rfl
theorem fg_reached {v : Int} (hv : h 0 172 = v) (hd : decode cc pc = .ok (.getfield 1005, 3)) (k : mJ l D cA ad d cc nL rt (pc + 3) L ((0, v) :: S) h Q) : mJ l D cA ad d cc nL rt pc L ((2, ((0 : Nat) : Int)) :: S) h Q := mo_get 1005 172 (congrArg (Prod.mk 0) hv) (by decide) fw_reached hd k
theorem fp_reached {x : Int} (hd : decode cc pc = .ok (.putfield 1005, 3)) (k : mJ l D cA ad d cc nL rt (pc + 3) L S (ja_up h 0 172 x) Q) : mJ l D cA ad d cc nL rt pc L ((0, x) :: (2, ((0 : Nat) : Int)) :: S) h Q := mo_putI 1005 172 (by decide) rfl rfl rfl fw_reached hd k
theorem fw_reachPoint : Cond.fieldLink RX12 354 (TX12 173).1 (TX12 173).2.1 (TX12 173).2.2.1 ∈ ja_B := mo_fw (i := 0) (mo_pw2 34 (p := (354, 0, 12, 173, 7029)) rfl) rfl
theorem fa_reachPoint (hd : decode cc pc = .ok (.getfield 354, 3)) (k : mJ l D cA ad d cc nL rt (pc + 3) L ((2, ((115 : Nat) : Int)) :: S) h Q) : mJ l D cA ad d cc nL rt pc L ((2, ((0 : Nat) : Int)) :: S) h Q := mo_get 354 173 rfl (by decide) fw_reachPoint hd k
theorem il_reachPoint {i v : Int} (hv : h 115 i.toNat = v) (h0 : 0 ≤ i ∧ i < 120) (hd : decode cc pc = .ok (.iaload, 1)) (k : mJ l D cA ad d cc nL rt (pc + 1) L ((0, v) :: S) h Q) : mJ l D cA ad d cc nL rt pc L ((0, i) :: (2, ((115 : Nat) : Int)) :: S) h Q := ja_iald (n := 120) (by decide) rfl (by decide) h0.1 h0.2 hd (hv ▸ k)
theorem is_reachPoint {i x : Int} (h0 : 0 ≤ i ∧ i < 120) (hd : decode cc pc = .ok (.iastore, 1)) (k : mJ l D cA ad d cc nL rt (pc + 1) L S (ja_up h 115 i.toNat x) Q) : mJ l D cA ad d cc nL rt pc L ((0, x) :: (0, i) :: (2, ((115 : Nat) : Int)) :: S) h Q := ja_iast (n := 120) (by decide) rfl (by decide) h0.1 h0.2 hd k
theorem fw_reachSelf : Cond.fieldLink RX12 357 (TX12 174).1 (TX12 174).2.1 (TX12 174).2.2.1 ∈ ja_B := mo_fw (i := 0) (mo_pw2 35 (p := (357, 0, 12, 174, 7030)) rfl) rfl
theorem fa_reachSelf (hd : decode cc pc = .ok (.getfield 357, 3)) (k : mJ l D cA ad d cc nL rt (pc + 3) L ((2, ((116 : Nat) : Int)) :: S) h Q) : mJ l D cA ad d cc nL rt pc L ((2, ((0 : Nat) : Int)) :: S) h Q := mo_get 357 174 rfl (by decide) fw_reachSelf hd k
theorem il_reachSelf {i v : Int} (hv : h 116 i.toNat = v) (h0 : 0 ≤ i ∧ i < 120) (hd : decode cc pc = .ok (.iaload, 1)) (k : mJ l D cA ad d cc nL rt (pc + 1) L ((0, v) :: S) h Q) : mJ l D cA ad d cc nL rt pc L ((0, i) :: (2, ((116 : Nat) : Int)) :: S) h Q := ja_iald (n := 120) (by decide) rfl (by decide) h0.1 h0.2 hd (hv ▸ k)
theorem is_reachSelf {i x : Int} (h0 : 0 ≤ i ∧ i < 120) (hd : decode cc pc = .ok (.iastore, 1)) (k : mJ l D cA ad d cc nL rt (pc + 1) L S (ja_up h 116 i.toNat x) Q) : mJ l D cA ad d cc nL rt pc L ((0, x) :: (0, i) :: (2, ((116 : Nat) : Int)) :: S) h Q := ja_iast (n := 120) (by decide) rfl (by decide) h0.1 h0.2 hd k
theorem fw_reachTargetKind : Cond.fieldLink RX12 360 (TX12 175).1 (TX12 175).2.1 (TX12 175).2.2.1 ∈ ja_B := mo_fw (i := 0) (mo_pw2 36 (p := (360, 0, 12, 175, 7031)) rfl) rfl
theorem fa_reachTargetKind (hd : decode cc pc = .ok (.getfield 360, 3)) (k : mJ l D cA ad d cc nL rt (pc + 3) L ((2, ((117 : Nat) : Int)) :: S) h Q) : mJ l D cA ad d cc nL rt pc L ((2, ((0 : Nat) : Int)) :: S) h Q := mo_get 360 175 rfl (by decide) fw_reachTargetKind hd k
theorem il_reachTargetKind {i v : Int} (hv : h 117 i.toNat = v) (h0 : 0 ≤ i ∧ i < 120) (hd : decode cc pc = .ok (.iaload, 1)) (k : mJ l D cA ad d cc nL rt (pc + 1) L ((0, v) :: S) h Q) : mJ l D cA ad d cc nL rt pc L ((0, i) :: (2, ((117 : Nat) : Int)) :: S) h Q := ja_iald (n := 120) (by decide) rfl (by decide) h0.1 h0.2 hd (hv ▸ k)
theorem is_reachTargetKind {i x : Int} (h0 : 0 ≤ i ∧ i < 120) (hd : decode cc pc = .ok (.iastore, 1)) (k : mJ l D cA ad d cc nL rt (pc + 1) L S (ja_up h 117 i.toNat x) Q) : mJ l D cA ad d cc nL rt pc L ((0, x) :: (0, i) :: (2, ((117 : Nat) : Int)) :: S) h Q := ja_iast (n := 120) (by decide) rfl (by decide) h0.1 h0.2 hd k
theorem fw_reachTarget : Cond.fieldLink RX12 363 (TX12 176).1 (TX12 176).2.1 (TX12 176).2.2.1 ∈ ja_B := mo_fw (i := 0) (mo_pw2 37 (p := (363, 0, 12, 176, 7032)) rfl) rfl
theorem fa_reachTarget (hd : decode cc pc = .ok (.getfield 363, 3)) (k : mJ l D cA ad d cc nL rt (pc + 3) L ((2, ((118 : Nat) : Int)) :: S) h Q) : mJ l D cA ad d cc nL rt pc L ((2, ((0 : Nat) : Int)) :: S) h Q := mo_get 363 176 rfl (by decide) fw_reachTarget hd k
theorem il_reachTarget {i v : Int} (hv : h 118 i.toNat = v) (h0 : 0 ≤ i ∧ i < 120) (hd : decode cc pc = .ok (.iaload, 1)) (k : mJ l D cA ad d cc nL rt (pc + 1) L ((0, v) :: S) h Q) : mJ l D cA ad d cc nL rt pc L ((0, i) :: (2, ((118 : Nat) : Int)) :: S) h Q := ja_iald (n := 120) (by decide) rfl (by decide) h0.1 h0.2 hd (hv ▸ k)
theorem is_reachTarget {i x : Int} (h0 : 0 ≤ i ∧ i < 120) (hd : decode cc pc = .ok (.iastore, 1)) (k : mJ l D cA ad d cc nL rt (pc + 1) L S (ja_up h 118 i.toNat x) Q) : mJ l D cA ad d cc nL rt pc L ((0, x) :: (0, i) :: (2, ((118 : Nat) : Int)) :: S) h Q := ja_iast (n := 120) (by decide) rfl (by decide) h0.1 h0.2 hd k
theorem fw_reachMany : Cond.fieldLink RX12 366 (TX12 177).1 (TX12 177).2.1 (TX12 177).2.2.1 ∈ ja_B := mo_fw (i := 0) (mo_pw2 38 (p := (366, 0, 12, 177, 7033)) rfl) rfl
theorem fa_reachMany (hd : decode cc pc = .ok (.getfield 366, 3)) (k : mJ l D cA ad d cc nL rt (pc + 3) L ((2, ((119 : Nat) : Int)) :: S) h Q) : mJ l D cA ad d cc nL rt pc L ((2, ((0 : Nat) : Int)) :: S) h Q := mo_get 366 177 rfl (by decide) fw_reachMany hd k
theorem il_reachMany {i v : Int} (hv : h 119 i.toNat = v) (h0 : 0 ≤ i ∧ i < 120) (hd : decode cc pc = .ok (.iaload, 1)) (k : mJ l D cA ad d cc nL rt (pc + 1) L ((0, v) :: S) h Q) : mJ l D cA ad d cc nL rt pc L ((0, i) :: (2, ((119 : Nat) : Int)) :: S) h Q := ja_iald (n := 120) (by decide) rfl (by decide) h0.1 h0.2 hd (hv ▸ k)
theorem is_reachMany {i x : Int} (h0 : 0 ≤ i ∧ i < 120) (hd : decode cc pc = .ok (.iastore, 1)) (k : mJ l D cA ad d cc nL rt (pc + 1) L S (ja_up h 119 i.toNat x) Q) : mJ l D cA ad d cc nL rt pc L ((0, x) :: (0, i) :: (2, ((119 : Nat) : Int)) :: S) h Q := ja_iast (n := 120) (by decide) rfl (by decide) h0.1 h0.2 hd k
theorem fw_reachKind : Cond.fieldLink RX12 369 (TX12 178).1 (TX12 178).2.1 (TX12 178).2.2.1 ∈ ja_B := mo_fw (i := 0) (mo_pw2 39 (p := (369, 0, 12, 178, 7034)) rfl) rfl
theorem fa_reachKind (hd : decode cc pc = .ok (.getfield 369, 3)) (k : mJ l D cA ad d cc nL rt (pc + 3) L ((2, ((120 : Nat) : Int)) :: S) h Q) : mJ l D cA ad d cc nL rt pc L ((2, ((0 : Nat) : Int)) :: S) h Q := mo_get 369 178 rfl (by decide) fw_reachKind hd k
theorem il_reachKind {i v : Int} (hv : h 120 i.toNat = v) (h0 : 0 ≤ i ∧ i < 720) (hd : decode cc pc = .ok (.iaload, 1)) (k : mJ l D cA ad d cc nL rt (pc + 1) L ((0, v) :: S) h Q) : mJ l D cA ad d cc nL rt pc L ((0, i) :: (2, ((120 : Nat) : Int)) :: S) h Q := ja_iald (n := 720) (by decide) rfl (by decide) h0.1 h0.2 hd (hv ▸ k)
theorem is_reachKind {i x : Int} (h0 : 0 ≤ i ∧ i < 720) (hd : decode cc pc = .ok (.iastore, 1)) (k : mJ l D cA ad d cc nL rt (pc + 1) L S (ja_up h 120 i.toNat x) Q) : mJ l D cA ad d cc nL rt pc L ((0, x) :: (0, i) :: (2, ((120 : Nat) : Int)) :: S) h Q := ja_iast (n := 720) (by decide) rfl (by decide) h0.1 h0.2 hd k
theorem fw_reachValue : Cond.fieldLink RX12 372 (TX12 179).1 (TX12 179).2.1 (TX12 179).2.2.1 ∈ ja_B := mo_fw (i := 0) (mo_pw3 0 (p := (372, 0, 12, 179, 7035)) rfl) rfl
theorem fa_reachValue (hd : decode cc pc = .ok (.getfield 372, 3)) (k : mJ l D cA ad d cc nL rt (pc + 3) L ((2, ((121 : Nat) : Int)) :: S) h Q) : mJ l D cA ad d cc nL rt pc L ((2, ((0 : Nat) : Int)) :: S) h Q := mo_get 372 179 rfl (by decide) fw_reachValue hd k
theorem il_reachValue {i v : Int} (hv : h 121 i.toNat = v) (h0 : 0 ≤ i ∧ i < 720) (hd : decode cc pc = .ok (.iaload, 1)) (k : mJ l D cA ad d cc nL rt (pc + 1) L ((0, v) :: S) h Q) : mJ l D cA ad d cc nL rt pc L ((0, i) :: (2, ((121 : Nat) : Int)) :: S) h Q := ja_iald (n := 720) (by decide) rfl (by decide) h0.1 h0.2 hd (hv ▸ k)
theorem is_reachValue {i x : Int} (h0 : 0 ≤ i ∧ i < 720) (hd : decode cc pc = .ok (.iastore, 1)) (k : mJ l D cA ad d cc nL rt (pc + 1) L S (ja_up h 121 i.toNat x) Q) : mJ l D cA ad d cc nL rt pc L ((0, x) :: (0, i) :: (2, ((121 : Nat) : Int)) :: S) h Q := ja_iast (n := 720) (by decide) rfl (by decide) h0.1 h0.2 hd k
theorem fw_reachName : Cond.fieldLink RX12 375 (TX12 180).1 (TX12 180).2.1 (TX12 180).2.2.1 ∈ ja_B := mo_fw (i := 0) (mo_pw3 1 (p := (375, 0, 12, 180, 7036)) rfl) rfl
theorem fa_reachName (hd : decode cc pc = .ok (.getfield 375, 3)) (k : mJ l D cA ad d cc nL rt (pc + 3) L ((2, ((122 : Nat) : Int)) :: S) h Q) : mJ l D cA ad d cc nL rt pc L ((2, ((0 : Nat) : Int)) :: S) h Q := mo_get 375 180 rfl (by decide) fw_reachName hd k
theorem il_reachName {i v : Int} (hv : h 122 i.toNat = v) (h0 : 0 ≤ i ∧ i < 120) (hd : decode cc pc = .ok (.iaload, 1)) (k : mJ l D cA ad d cc nL rt (pc + 1) L ((0, v) :: S) h Q) : mJ l D cA ad d cc nL rt pc L ((0, i) :: (2, ((122 : Nat) : Int)) :: S) h Q := ja_iald (n := 120) (by decide) rfl (by decide) h0.1 h0.2 hd (hv ▸ k)
theorem is_reachName {i x : Int} (h0 : 0 ≤ i ∧ i < 120) (hd : decode cc pc = .ok (.iastore, 1)) (k : mJ l D cA ad d cc nL rt (pc + 1) L S (ja_up h 122 i.toNat x) Q) : mJ l D cA ad d cc nL rt pc L ((0, x) :: (0, i) :: (2, ((122 : Nat) : Int)) :: S) h Q := ja_iast (n := 120) (by decide) rfl (by decide) h0.1 h0.2 hd k
theorem fw_heldMany : Cond.fieldLink RX12 378 (TX12 181).1 (TX12 181).2.1 (TX12 181).2.2.1 ∈ ja_B := mo_fw (i := 0) (mo_pw3 2 (p := (378, 0, 12, 181, 7037)) rfl) rfl
theorem fa_heldMany (hd : decode cc pc = .ok (.getfield 378, 3)) (k : mJ l D cA ad d cc nL rt (pc + 3) L ((2, ((123 : Nat) : Int)) :: S) h Q) : mJ l D cA ad d cc nL rt pc L ((2, ((0 : Nat) : Int)) :: S) h Q := mo_get 378 181 rfl (by decide) fw_heldMany hd k
theorem il_heldMany {i v : Int} (hv : h 123 i.toNat = v) (h0 : 0 ≤ i ∧ i < 120) (hd : decode cc pc = .ok (.iaload, 1)) (k : mJ l D cA ad d cc nL rt (pc + 1) L ((0, v) :: S) h Q) : mJ l D cA ad d cc nL rt pc L ((0, i) :: (2, ((123 : Nat) : Int)) :: S) h Q := ja_iald (n := 120) (by decide) rfl (by decide) h0.1 h0.2 hd (hv ▸ k)
theorem is_heldMany {i x : Int} (h0 : 0 ≤ i ∧ i < 120) (hd : decode cc pc = .ok (.iastore, 1)) (k : mJ l D cA ad d cc nL rt (pc + 1) L S (ja_up h 123 i.toNat x) Q) : mJ l D cA ad d cc nL rt pc L ((0, x) :: (0, i) :: (2, ((123 : Nat) : Int)) :: S) h Q := ja_iast (n := 120) (by decide) rfl (by decide) h0.1 h0.2 hd k
theorem fw_heldAdvice : Cond.fieldLink RX12 381 (TX12 182).1 (TX12 182).2.1 (TX12 182).2.2.1 ∈ ja_B := mo_fw (i := 0) (mo_pw3 3 (p := (381, 0, 12, 182, 7038)) rfl) rfl
theorem fa_heldAdvice (hd : decode cc pc = .ok (.getfield 381, 3)) (k : mJ l D cA ad d cc nL rt (pc + 3) L ((2, ((124 : Nat) : Int)) :: S) h Q) : mJ l D cA ad d cc nL rt pc L ((2, ((0 : Nat) : Int)) :: S) h Q := mo_get 381 182 rfl (by decide) fw_heldAdvice hd k
theorem il_heldAdvice {i v : Int} (hv : h 124 i.toNat = v) (h0 : 0 ≤ i ∧ i < 2880) (hd : decode cc pc = .ok (.iaload, 1)) (k : mJ l D cA ad d cc nL rt (pc + 1) L ((0, v) :: S) h Q) : mJ l D cA ad d cc nL rt pc L ((0, i) :: (2, ((124 : Nat) : Int)) :: S) h Q := ja_iald (n := 2880) (by decide) rfl (by decide) h0.1 h0.2 hd (hv ▸ k)
theorem is_heldAdvice {i x : Int} (h0 : 0 ≤ i ∧ i < 2880) (hd : decode cc pc = .ok (.iastore, 1)) (k : mJ l D cA ad d cc nL rt (pc + 1) L S (ja_up h 124 i.toNat x) Q) : mJ l D cA ad d cc nL rt pc L ((0, x) :: (0, i) :: (2, ((124 : Nat) : Int)) :: S) h Q := ja_iast (n := 2880) (by decide) rfl (by decide) h0.1 h0.2 hd k
theorem fw_heldFor : Cond.fieldLink RX12 384 (TX12 183).1 (TX12 183).2.1 (TX12 183).2.2.1 ∈ ja_B := mo_fw (i := 0) (mo_pw3 4 (p := (384, 0, 12, 183, 7039)) rfl) rfl
theorem fa_heldFor (hd : decode cc pc = .ok (.getfield 384, 3)) (k : mJ l D cA ad d cc nL rt (pc + 3) L ((2, ((125 : Nat) : Int)) :: S) h Q) : mJ l D cA ad d cc nL rt pc L ((2, ((0 : Nat) : Int)) :: S) h Q := mo_get 384 183 rfl (by decide) fw_heldFor hd k
theorem il_heldFor {i v : Int} (hv : h 125 i.toNat = v) (h0 : 0 ≤ i ∧ i < 2880) (hd : decode cc pc = .ok (.iaload, 1)) (k : mJ l D cA ad d cc nL rt (pc + 1) L ((0, v) :: S) h Q) : mJ l D cA ad d cc nL rt pc L ((0, i) :: (2, ((125 : Nat) : Int)) :: S) h Q := ja_iald (n := 2880) (by decide) rfl (by decide) h0.1 h0.2 hd (hv ▸ k)
theorem is_heldFor {i x : Int} (h0 : 0 ≤ i ∧ i < 2880) (hd : decode cc pc = .ok (.iastore, 1)) (k : mJ l D cA ad d cc nL rt (pc + 1) L S (ja_up h 125 i.toNat x) Q) : mJ l D cA ad d cc nL rt pc L ((0, x) :: (0, i) :: (2, ((125 : Nat) : Int)) :: S) h Q := ja_iast (n := 2880) (by decide) rfl (by decide) h0.1 h0.2 hd k
theorem fw_boundKind : Cond.fieldLink RX12 387 (TX12 184).1 (TX12 184).2.1 (TX12 184).2.2.1 ∈ ja_B := mo_fw (i := 0) (mo_pw3 5 (p := (387, 0, 12, 184, 7040)) rfl) rfl
theorem fa_boundKind (hd : decode cc pc = .ok (.getfield 387, 3)) (k : mJ l D cA ad d cc nL rt (pc + 3) L ((2, ((126 : Nat) : Int)) :: S) h Q) : mJ l D cA ad d cc nL rt pc L ((2, ((0 : Nat) : Int)) :: S) h Q := mo_get 387 184 rfl (by decide) fw_boundKind hd k
theorem il_boundKind {i v : Int} (hv : h 126 i.toNat = v) (h0 : 0 ≤ i ∧ i < 20160) (hd : decode cc pc = .ok (.iaload, 1)) (k : mJ l D cA ad d cc nL rt (pc + 1) L ((0, v) :: S) h Q) : mJ l D cA ad d cc nL rt pc L ((0, i) :: (2, ((126 : Nat) : Int)) :: S) h Q := ja_iald (n := 20160) (by decide) rfl (by decide) h0.1 h0.2 hd (hv ▸ k)
theorem is_boundKind {i x : Int} (h0 : 0 ≤ i ∧ i < 20160) (hd : decode cc pc = .ok (.iastore, 1)) (k : mJ l D cA ad d cc nL rt (pc + 1) L S (ja_up h 126 i.toNat x) Q) : mJ l D cA ad d cc nL rt pc L ((0, x) :: (0, i) :: (2, ((126 : Nat) : Int)) :: S) h Q := ja_iast (n := 20160) (by decide) rfl (by decide) h0.1 h0.2 hd k
theorem fw_boundValue : Cond.fieldLink RX12 390 (TX12 185).1 (TX12 185).2.1 (TX12 185).2.2.1 ∈ ja_B := mo_fw (i := 0) (mo_pw3 6 (p := (390, 0, 12, 185, 7041)) rfl) rfl
theorem fa_boundValue (hd : decode cc pc = .ok (.getfield 390, 3)) (k : mJ l D cA ad d cc nL rt (pc + 3) L ((2, ((127 : Nat) : Int)) :: S) h Q) : mJ l D cA ad d cc nL rt pc L ((2, ((0 : Nat) : Int)) :: S) h Q := mo_get 390 185 rfl (by decide) fw_boundValue hd k
theorem il_boundValue {i v : Int} (hv : h 127 i.toNat = v) (h0 : 0 ≤ i ∧ i < 20160) (hd : decode cc pc = .ok (.iaload, 1)) (k : mJ l D cA ad d cc nL rt (pc + 1) L ((0, v) :: S) h Q) : mJ l D cA ad d cc nL rt pc L ((0, i) :: (2, ((127 : Nat) : Int)) :: S) h Q := ja_iald (n := 20160) (by decide) rfl (by decide) h0.1 h0.2 hd (hv ▸ k)
theorem is_boundValue {i x : Int} (h0 : 0 ≤ i ∧ i < 20160) (hd : decode cc pc = .ok (.iastore, 1)) (k : mJ l D cA ad d cc nL rt (pc + 1) L S (ja_up h 127 i.toNat x) Q) : mJ l D cA ad d cc nL rt pc L ((0, x) :: (0, i) :: (2, ((127 : Nat) : Int)) :: S) h Q := ja_iast (n := 20160) (by decide) rfl (by decide) h0.1 h0.2 hd k
theorem fw_under : Cond.fieldLink RX12 1008 (TX12 186).1 (TX12 186).2.1 (TX12 186).2.2.1 ∈ ja_B := mo_fw (i := 0) (mo_pw7 16 (p := (1008, 0, 12, 186, 7042)) rfl) rfl
theorem fg_under {v : Int} (hv : h 0 186 = v) (hd : decode cc pc = .ok (.getfield 1008, 3)) (k : mJ l D cA ad d cc nL rt (pc + 3) L ((0, v) :: S) h Q) : mJ l D cA ad d cc nL rt pc L ((2, ((0 : Nat) : Int)) :: S) h Q := mo_get 1008 186 (congrArg (Prod.mk 0) hv) (by decide) fw_under hd k
theorem fp_under {x : Int} (hd : decode cc pc = .ok (.putfield 1008, 3)) (k : mJ l D cA ad d cc nL rt (pc + 3) L S (ja_up h 0 186 x) Q) : mJ l D cA ad d cc nL rt pc L ((0, x) :: (2, ((0 : Nat) : Int)) :: S) h Q := mo_putI 1008 186 (by decide) rfl rfl rfl fw_under hd k
theorem fw_resultFails : Cond.fieldLink RX12 1024 (TX12 187).1 (TX12 187).2.1 (TX12 187).2.2.1 ∈ ja_B := mo_fw (i := 0) (mo_pw7 22 (p := (1024, 0, 12, 187, 7043)) rfl) rfl
theorem fg_resultFails {v : Int} (hv : h 0 187 = v) (hd : decode cc pc = .ok (.getfield 1024, 3)) (k : mJ l D cA ad d cc nL rt (pc + 3) L ((0, v) :: S) h Q) : mJ l D cA ad d cc nL rt pc L ((2, ((0 : Nat) : Int)) :: S) h Q := mo_get 1024 187 (congrArg (Prod.mk 0) hv) (by decide) fw_resultFails hd k
theorem fp_resultFails {x : Int} (h01 : x = 0 ∨ x = 1) (hd : decode cc pc = .ok (.putfield 1024, 3)) (k : mJ l D cA ad d cc nL rt (pc + 3) L S (ja_up h 0 187 x) Q) : mJ l D cA ad d cc nL rt pc L ((0, x) :: (2, ((0 : Nat) : Int)) :: S) h Q := mo_putZ 1024 187 (by decide) rfl rfl rfl h01 fw_resultFails hd k
theorem fw_resultKind : Cond.fieldLink RX12 1027 (TX12 188).1 (TX12 188).2.1 (TX12 188).2.2.1 ∈ ja_B := mo_fw (i := 0) (mo_pw7 23 (p := (1027, 0, 12, 188, 7044)) rfl) rfl
theorem fg_resultKind {v : Int} (hv : h 0 188 = v) (hd : decode cc pc = .ok (.getfield 1027, 3)) (k : mJ l D cA ad d cc nL rt (pc + 3) L ((0, v) :: S) h Q) : mJ l D cA ad d cc nL rt pc L ((2, ((0 : Nat) : Int)) :: S) h Q := mo_get 1027 188 (congrArg (Prod.mk 0) hv) (by decide) fw_resultKind hd k
theorem fp_resultKind {x : Int} (hd : decode cc pc = .ok (.putfield 1027, 3)) (k : mJ l D cA ad d cc nL rt (pc + 3) L S (ja_up h 0 188 x) Q) : mJ l D cA ad d cc nL rt pc L ((0, x) :: (2, ((0 : Nat) : Int)) :: S) h Q := mo_putI 1027 188 (by decide) rfl rfl rfl fw_resultKind hd k
theorem fw_resultValue : Cond.fieldLink RX12 1030 (TX12 189).1 (TX12 189).2.1 (TX12 189).2.2.1 ∈ ja_B := mo_fw (i := 0) (mo_pw7 24 (p := (1030, 0, 12, 189, 7045)) rfl) rfl
theorem fg_resultValue {v : Int} (hv : h 0 189 = v) (hd : decode cc pc = .ok (.getfield 1030, 3)) (k : mJ l D cA ad d cc nL rt (pc + 3) L ((0, v) :: S) h Q) : mJ l D cA ad d cc nL rt pc L ((2, ((0 : Nat) : Int)) :: S) h Q := mo_get 1030 189 (congrArg (Prod.mk 0) hv) (by decide) fw_resultValue hd k
theorem fp_resultValue {x : Int} (hd : decode cc pc = .ok (.putfield 1030, 3)) (k : mJ l D cA ad d cc nL rt (pc + 3) L S (ja_up h 0 189 x) Q) : mJ l D cA ad d cc nL rt pc L ((0, x) :: (2, ((0 : Nat) : Int)) :: S) h Q := mo_putI 1030 189 (by decide) rfl rfl rfl fw_resultValue hd k
theorem fw_restRow : Cond.fieldLink RX12 1057 (TX12 190).1 (TX12 190).2.1 (TX12 190).2.2.1 ∈ ja_B := mo_fw (i := 0) (mo_pw7 33 (p := (1057, 0, 12, 190, 7046)) rfl) rfl
theorem fg_restRow {v : Int} (hv : h 0 190 = v) (hd : decode cc pc = .ok (.getfield 1057, 3)) (k : mJ l D cA ad d cc nL rt (pc + 3) L ((0, v) :: S) h Q) : mJ l D cA ad d cc nL rt pc L ((2, ((0 : Nat) : Int)) :: S) h Q := mo_get 1057 190 (congrArg (Prod.mk 0) hv) (by decide) fw_restRow hd k
theorem fp_restRow {x : Int} (hd : decode cc pc = .ok (.putfield 1057, 3)) (k : mJ l D cA ad d cc nL rt (pc + 3) L S (ja_up h 0 190 x) Q) : mJ l D cA ad d cc nL rt pc L ((0, x) :: (2, ((0 : Nat) : Int)) :: S) h Q := mo_putI 1057 190 (by decide) rfl rfl rfl fw_restRow hd k
theorem fw_restLevel : Cond.fieldLink RX12 1060 (TX12 191).1 (TX12 191).2.1 (TX12 191).2.2.1 ∈ ja_B := mo_fw (i := 0) (mo_pw7 34 (p := (1060, 0, 12, 191, 7047)) rfl) rfl
theorem fg_restLevel {v : Int} (hv : h 0 191 = v) (hd : decode cc pc = .ok (.getfield 1060, 3)) (k : mJ l D cA ad d cc nL rt (pc + 3) L ((0, v) :: S) h Q) : mJ l D cA ad d cc nL rt pc L ((2, ((0 : Nat) : Int)) :: S) h Q := mo_get 1060 191 (congrArg (Prod.mk 0) hv) (by decide) fw_restLevel hd k
theorem fp_restLevel {x : Int} (hd : decode cc pc = .ok (.putfield 1060, 3)) (k : mJ l D cA ad d cc nL rt (pc + 3) L S (ja_up h 0 191 x) Q) : mJ l D cA ad d cc nL rt pc L ((0, x) :: (2, ((0 : Nat) : Int)) :: S) h Q := mo_putI 1060 191 (by decide) rfl rfl rfl fw_restLevel hd k
theorem fw_argKind : Cond.fieldLink RX12 393 (TX12 192).1 (TX12 192).2.1 (TX12 192).2.2.1 ∈ ja_B := mo_fw (i := 0) (mo_pw3 7 (p := (393, 0, 12, 192, 7048)) rfl) rfl
theorem fa_argKind (hd : decode cc pc = .ok (.getfield 393, 3)) (k : mJ l D cA ad d cc nL rt (pc + 3) L ((2, ((128 : Nat) : Int)) :: S) h Q) : mJ l D cA ad d cc nL rt pc L ((2, ((0 : Nat) : Int)) :: S) h Q := mo_get 393 192 rfl (by decide) fw_argKind hd k
theorem il_argKind {i v : Int} (hv : h 128 i.toNat = v) (h0 : 0 ≤ i ∧ i < 6) (hd : decode cc pc = .ok (.iaload, 1)) (k : mJ l D cA ad d cc nL rt (pc + 1) L ((0, v) :: S) h Q) : mJ l D cA ad d cc nL rt pc L ((0, i) :: (2, ((128 : Nat) : Int)) :: S) h Q := ja_iald (n := 6) (by decide) rfl (by decide) h0.1 h0.2 hd (hv ▸ k)
theorem is_argKind {i x : Int} (h0 : 0 ≤ i ∧ i < 6) (hd : decode cc pc = .ok (.iastore, 1)) (k : mJ l D cA ad d cc nL rt (pc + 1) L S (ja_up h 128 i.toNat x) Q) : mJ l D cA ad d cc nL rt pc L ((0, x) :: (0, i) :: (2, ((128 : Nat) : Int)) :: S) h Q := ja_iast (n := 6) (by decide) rfl (by decide) h0.1 h0.2 hd k
theorem fw_argValue : Cond.fieldLink RX12 396 (TX12 193).1 (TX12 193).2.1 (TX12 193).2.2.1 ∈ ja_B := mo_fw (i := 0) (mo_pw3 8 (p := (396, 0, 12, 193, 7049)) rfl) rfl
theorem fa_argValue (hd : decode cc pc = .ok (.getfield 396, 3)) (k : mJ l D cA ad d cc nL rt (pc + 3) L ((2, ((129 : Nat) : Int)) :: S) h Q) : mJ l D cA ad d cc nL rt pc L ((2, ((0 : Nat) : Int)) :: S) h Q := mo_get 396 193 rfl (by decide) fw_argValue hd k
theorem il_argValue {i v : Int} (hv : h 129 i.toNat = v) (h0 : 0 ≤ i ∧ i < 6) (hd : decode cc pc = .ok (.iaload, 1)) (k : mJ l D cA ad d cc nL rt (pc + 1) L ((0, v) :: S) h Q) : mJ l D cA ad d cc nL rt pc L ((0, i) :: (2, ((129 : Nat) : Int)) :: S) h Q := ja_iald (n := 6) (by decide) rfl (by decide) h0.1 h0.2 hd (hv ▸ k)
theorem is_argValue {i x : Int} (h0 : 0 ≤ i ∧ i < 6) (hd : decode cc pc = .ok (.iastore, 1)) (k : mJ l D cA ad d cc nL rt (pc + 1) L S (ja_up h 129 i.toNat x) Q) : mJ l D cA ad d cc nL rt pc L ((0, x) :: (0, i) :: (2, ((129 : Nat) : Int)) :: S) h Q := ja_iast (n := 6) (by decide) rfl (by decide) h0.1 h0.2 hd k
theorem fw_bindKind : Cond.fieldLink RX12 399 (TX12 194).1 (TX12 194).2.1 (TX12 194).2.2.1 ∈ ja_B := mo_fw (i := 0) (mo_pw3 9 (p := (399, 0, 12, 194, 7050)) rfl) rfl
theorem fa_bindKind (hd : decode cc pc = .ok (.getfield 399, 3)) (k : mJ l D cA ad d cc nL rt (pc + 3) L ((2, ((130 : Nat) : Int)) :: S) h Q) : mJ l D cA ad d cc nL rt pc L ((2, ((0 : Nat) : Int)) :: S) h Q := mo_get 399 194 rfl (by decide) fw_bindKind hd k
theorem il_bindKind {i v : Int} (hv : h 130 i.toNat = v) (h0 : 0 ≤ i ∧ i < 14) (hd : decode cc pc = .ok (.iaload, 1)) (k : mJ l D cA ad d cc nL rt (pc + 1) L ((0, v) :: S) h Q) : mJ l D cA ad d cc nL rt pc L ((0, i) :: (2, ((130 : Nat) : Int)) :: S) h Q := ja_iald (n := 14) (by decide) rfl (by decide) h0.1 h0.2 hd (hv ▸ k)
theorem is_bindKind {i x : Int} (h0 : 0 ≤ i ∧ i < 14) (hd : decode cc pc = .ok (.iastore, 1)) (k : mJ l D cA ad d cc nL rt (pc + 1) L S (ja_up h 130 i.toNat x) Q) : mJ l D cA ad d cc nL rt pc L ((0, x) :: (0, i) :: (2, ((130 : Nat) : Int)) :: S) h Q := ja_iast (n := 14) (by decide) rfl (by decide) h0.1 h0.2 hd k
theorem fw_bindValue : Cond.fieldLink RX12 402 (TX12 195).1 (TX12 195).2.1 (TX12 195).2.2.1 ∈ ja_B := mo_fw (i := 0) (mo_pw3 10 (p := (402, 0, 12, 195, 7051)) rfl) rfl
theorem fa_bindValue (hd : decode cc pc = .ok (.getfield 402, 3)) (k : mJ l D cA ad d cc nL rt (pc + 3) L ((2, ((131 : Nat) : Int)) :: S) h Q) : mJ l D cA ad d cc nL rt pc L ((2, ((0 : Nat) : Int)) :: S) h Q := mo_get 402 195 rfl (by decide) fw_bindValue hd k
theorem il_bindValue {i v : Int} (hv : h 131 i.toNat = v) (h0 : 0 ≤ i ∧ i < 14) (hd : decode cc pc = .ok (.iaload, 1)) (k : mJ l D cA ad d cc nL rt (pc + 1) L ((0, v) :: S) h Q) : mJ l D cA ad d cc nL rt pc L ((0, i) :: (2, ((131 : Nat) : Int)) :: S) h Q := ja_iald (n := 14) (by decide) rfl (by decide) h0.1 h0.2 hd (hv ▸ k)
theorem is_bindValue {i x : Int} (h0 : 0 ≤ i ∧ i < 14) (hd : decode cc pc = .ok (.iastore, 1)) (k : mJ l D cA ad d cc nL rt (pc + 1) L S (ja_up h 131 i.toNat x) Q) : mJ l D cA ad d cc nL rt pc L ((0, x) :: (0, i) :: (2, ((131 : Nat) : Int)) :: S) h Q := ja_iast (n := 14) (by decide) rfl (by decide) h0.1 h0.2 hd k
theorem fw_askedFor : Cond.fieldLink RX12 1129 (TX12 196).1 (TX12 196).2.1 (TX12 196).2.2.1 ∈ ja_B := mo_fw (i := 0) (mo_pw8 16 (p := (1129, 0, 12, 196, 7052)) rfl) rfl
theorem fg_askedFor {v : Int} (hv : h 0 196 = v) (hd : decode cc pc = .ok (.getfield 1129, 3)) (k : mJ l D cA ad d cc nL rt (pc + 3) L ((0, v) :: S) h Q) : mJ l D cA ad d cc nL rt pc L ((2, ((0 : Nat) : Int)) :: S) h Q := mo_get 1129 196 (congrArg (Prod.mk 0) hv) (by decide) fw_askedFor hd k
theorem fp_askedFor {x : Int} (hd : decode cc pc = .ok (.putfield 1129, 3)) (k : mJ l D cA ad d cc nL rt (pc + 3) L S (ja_up h 0 196 x) Q) : mJ l D cA ad d cc nL rt pc L ((0, x) :: (2, ((0 : Nat) : Int)) :: S) h Q := mo_putI 1129 196 (by decide) rfl rfl rfl fw_askedFor hd k
theorem fw_askedAspect : Cond.fieldLink RX12 1126 (TX12 197).1 (TX12 197).2.1 (TX12 197).2.2.1 ∈ ja_B := mo_fw (i := 0) (mo_pw8 15 (p := (1126, 0, 12, 197, 7053)) rfl) rfl
theorem fg_askedAspect {v : Int} (hv : h 0 197 = v) (hd : decode cc pc = .ok (.getfield 1126, 3)) (k : mJ l D cA ad d cc nL rt (pc + 3) L ((0, v) :: S) h Q) : mJ l D cA ad d cc nL rt pc L ((2, ((0 : Nat) : Int)) :: S) h Q := mo_get 1126 197 (congrArg (Prod.mk 0) hv) (by decide) fw_askedAspect hd k
theorem fp_askedAspect {x : Int} (hd : decode cc pc = .ok (.putfield 1126, 3)) (k : mJ l D cA ad d cc nL rt (pc + 3) L S (ja_up h 0 197 x) Q) : mJ l D cA ad d cc nL rt pc L ((0, x) :: (2, ((0 : Nat) : Int)) :: S) h Q := mo_putI 1126 197 (by decide) rfl rfl rfl fw_askedAspect hd k
theorem fw_evNode : Cond.fieldLink RX12 405 (TX12 198).1 (TX12 198).2.1 (TX12 198).2.2.1 ∈ ja_B := mo_fw (i := 0) (mo_pw3 11 (p := (405, 0, 12, 198, 7054)) rfl) rfl
theorem fa_evNode (hd : decode cc pc = .ok (.getfield 405, 3)) (k : mJ l D cA ad d cc nL rt (pc + 3) L ((2, ((132 : Nat) : Int)) :: S) h Q) : mJ l D cA ad d cc nL rt pc L ((2, ((0 : Nat) : Int)) :: S) h Q := mo_get 405 198 rfl (by decide) fw_evNode hd k
theorem il_evNode {i v : Int} (hv : h 132 i.toNat = v) (h0 : 0 ≤ i ∧ i < 1000) (hd : decode cc pc = .ok (.iaload, 1)) (k : mJ l D cA ad d cc nL rt (pc + 1) L ((0, v) :: S) h Q) : mJ l D cA ad d cc nL rt pc L ((0, i) :: (2, ((132 : Nat) : Int)) :: S) h Q := ja_iald (n := 1000) (by decide) rfl (by decide) h0.1 h0.2 hd (hv ▸ k)
theorem is_evNode {i x : Int} (h0 : 0 ≤ i ∧ i < 1000) (hd : decode cc pc = .ok (.iastore, 1)) (k : mJ l D cA ad d cc nL rt (pc + 1) L S (ja_up h 132 i.toNat x) Q) : mJ l D cA ad d cc nL rt pc L ((0, x) :: (0, i) :: (2, ((132 : Nat) : Int)) :: S) h Q := ja_iast (n := 1000) (by decide) rfl (by decide) h0.1 h0.2 hd k
theorem fw_evState : Cond.fieldLink RX12 408 (TX12 199).1 (TX12 199).2.1 (TX12 199).2.2.1 ∈ ja_B := mo_fw (i := 0) (mo_pw3 12 (p := (408, 0, 12, 199, 7055)) rfl) rfl
theorem fa_evState (hd : decode cc pc = .ok (.getfield 408, 3)) (k : mJ l D cA ad d cc nL rt (pc + 3) L ((2, ((133 : Nat) : Int)) :: S) h Q) : mJ l D cA ad d cc nL rt pc L ((2, ((0 : Nat) : Int)) :: S) h Q := mo_get 408 199 rfl (by decide) fw_evState hd k
theorem il_evState {i v : Int} (hv : h 133 i.toNat = v) (h0 : 0 ≤ i ∧ i < 1000) (hd : decode cc pc = .ok (.iaload, 1)) (k : mJ l D cA ad d cc nL rt (pc + 1) L ((0, v) :: S) h Q) : mJ l D cA ad d cc nL rt pc L ((0, i) :: (2, ((133 : Nat) : Int)) :: S) h Q := ja_iald (n := 1000) (by decide) rfl (by decide) h0.1 h0.2 hd (hv ▸ k)
theorem is_evState {i x : Int} (h0 : 0 ≤ i ∧ i < 1000) (hd : decode cc pc = .ok (.iastore, 1)) (k : mJ l D cA ad d cc nL rt (pc + 1) L S (ja_up h 133 i.toNat x) Q) : mJ l D cA ad d cc nL rt pc L ((0, x) :: (0, i) :: (2, ((133 : Nat) : Int)) :: S) h Q := ja_iast (n := 1000) (by decide) rfl (by decide) h0.1 h0.2 hd k
theorem fw_evRow : Cond.fieldLink RX12 411 (TX12 200).1 (TX12 200).2.1 (TX12 200).2.2.1 ∈ ja_B := mo_fw (i := 0) (mo_pw3 13 (p := (411, 0, 12, 200, 7056)) rfl) rfl
theorem fa_evRow (hd : decode cc pc = .ok (.getfield 411, 3)) (k : mJ l D cA ad d cc nL rt (pc + 3) L ((2, ((134 : Nat) : Int)) :: S) h Q) : mJ l D cA ad d cc nL rt pc L ((2, ((0 : Nat) : Int)) :: S) h Q := mo_get 411 200 rfl (by decide) fw_evRow hd k
theorem il_evRow {i v : Int} (hv : h 134 i.toNat = v) (h0 : 0 ≤ i ∧ i < 1000) (hd : decode cc pc = .ok (.iaload, 1)) (k : mJ l D cA ad d cc nL rt (pc + 1) L ((0, v) :: S) h Q) : mJ l D cA ad d cc nL rt pc L ((0, i) :: (2, ((134 : Nat) : Int)) :: S) h Q := ja_iald (n := 1000) (by decide) rfl (by decide) h0.1 h0.2 hd (hv ▸ k)
theorem is_evRow {i x : Int} (h0 : 0 ≤ i ∧ i < 1000) (hd : decode cc pc = .ok (.iastore, 1)) (k : mJ l D cA ad d cc nL rt (pc + 1) L S (ja_up h 134 i.toNat x) Q) : mJ l D cA ad d cc nL rt pc L ((0, x) :: (0, i) :: (2, ((134 : Nat) : Int)) :: S) h Q := ja_iast (n := 1000) (by decide) rfl (by decide) h0.1 h0.2 hd k
theorem fw_evAt : Cond.fieldLink RX12 414 (TX12 201).1 (TX12 201).2.1 (TX12 201).2.2.1 ∈ ja_B := mo_fw (i := 0) (mo_pw3 14 (p := (414, 0, 12, 201, 7057)) rfl) rfl
theorem fa_evAt (hd : decode cc pc = .ok (.getfield 414, 3)) (k : mJ l D cA ad d cc nL rt (pc + 3) L ((2, ((135 : Nat) : Int)) :: S) h Q) : mJ l D cA ad d cc nL rt pc L ((2, ((0 : Nat) : Int)) :: S) h Q := mo_get 414 201 rfl (by decide) fw_evAt hd k
theorem il_evAt {i v : Int} (hv : h 135 i.toNat = v) (h0 : 0 ≤ i ∧ i < 1000) (hd : decode cc pc = .ok (.iaload, 1)) (k : mJ l D cA ad d cc nL rt (pc + 1) L ((0, v) :: S) h Q) : mJ l D cA ad d cc nL rt pc L ((0, i) :: (2, ((135 : Nat) : Int)) :: S) h Q := ja_iald (n := 1000) (by decide) rfl (by decide) h0.1 h0.2 hd (hv ▸ k)
theorem is_evAt {i x : Int} (h0 : 0 ≤ i ∧ i < 1000) (hd : decode cc pc = .ok (.iastore, 1)) (k : mJ l D cA ad d cc nL rt (pc + 1) L S (ja_up h 135 i.toNat x) Q) : mJ l D cA ad d cc nL rt pc L ((0, x) :: (0, i) :: (2, ((135 : Nat) : Int)) :: S) h Q := ja_iast (n := 1000) (by decide) rfl (by decide) h0.1 h0.2 hd k
theorem fw_ev : Cond.fieldLink RX12 1135 (TX12 202).1 (TX12 202).2.1 (TX12 202).2.2.1 ∈ ja_B := mo_fw (i := 0) (mo_pw8 18 (p := (1135, 0, 12, 202, 7058)) rfl) rfl
theorem fg_ev {v : Int} (hv : h 0 202 = v) (hd : decode cc pc = .ok (.getfield 1135, 3)) (k : mJ l D cA ad d cc nL rt (pc + 3) L ((0, v) :: S) h Q) : mJ l D cA ad d cc nL rt pc L ((2, ((0 : Nat) : Int)) :: S) h Q := mo_get 1135 202 (congrArg (Prod.mk 0) hv) (by decide) fw_ev hd k
theorem fp_ev {x : Int} (hd : decode cc pc = .ok (.putfield 1135, 3)) (k : mJ l D cA ad d cc nL rt (pc + 3) L S (ja_up h 0 202 x) Q) : mJ l D cA ad d cc nL rt pc L ((0, x) :: (2, ((0 : Nat) : Int)) :: S) h Q := mo_putI 1135 202 (by decide) rfl rfl rfl fw_ev hd k
theorem fw_isSo : Cond.fieldLink RX12 1147 (TX12 203).1 (TX12 203).2.1 (TX12 203).2.2.1 ∈ ja_B := mo_fw (i := 0) (mo_pw8 22 (p := (1147, 0, 12, 203, 7059)) rfl) rfl
theorem fg_isSo {v : Int} (hv : h 0 203 = v) (hd : decode cc pc = .ok (.getfield 1147, 3)) (k : mJ l D cA ad d cc nL rt (pc + 3) L ((0, v) :: S) h Q) : mJ l D cA ad d cc nL rt pc L ((2, ((0 : Nat) : Int)) :: S) h Q := mo_get 1147 203 (congrArg (Prod.mk 0) hv) (by decide) fw_isSo hd k
theorem fp_isSo {x : Int} (h01 : x = 0 ∨ x = 1) (hd : decode cc pc = .ok (.putfield 1147, 3)) (k : mJ l D cA ad d cc nL rt (pc + 3) L S (ja_up h 0 203 x) Q) : mJ l D cA ad d cc nL rt pc L ((0, x) :: (2, ((0 : Nat) : Int)) :: S) h Q := mo_putZ 1147 203 (by decide) rfl rfl rfl h01 fw_isSo hd k
theorem fw_ePileKind : Cond.fieldLink RX12 417 (TX12 204).1 (TX12 204).2.1 (TX12 204).2.2.1 ∈ ja_B := mo_fw (i := 0) (mo_pw3 15 (p := (417, 0, 12, 204, 7060)) rfl) rfl
theorem fa_ePileKind (hd : decode cc pc = .ok (.getfield 417, 3)) (k : mJ l D cA ad d cc nL rt (pc + 3) L ((2, ((136 : Nat) : Int)) :: S) h Q) : mJ l D cA ad d cc nL rt pc L ((2, ((0 : Nat) : Int)) :: S) h Q := mo_get 417 204 rfl (by decide) fw_ePileKind hd k
theorem il_ePileKind {i v : Int} (hv : h 136 i.toNat = v) (h0 : 0 ≤ i ∧ i < 64) (hd : decode cc pc = .ok (.iaload, 1)) (k : mJ l D cA ad d cc nL rt (pc + 1) L ((0, v) :: S) h Q) : mJ l D cA ad d cc nL rt pc L ((0, i) :: (2, ((136 : Nat) : Int)) :: S) h Q := ja_iald (n := 64) (by decide) rfl (by decide) h0.1 h0.2 hd (hv ▸ k)
theorem is_ePileKind {i x : Int} (h0 : 0 ≤ i ∧ i < 64) (hd : decode cc pc = .ok (.iastore, 1)) (k : mJ l D cA ad d cc nL rt (pc + 1) L S (ja_up h 136 i.toNat x) Q) : mJ l D cA ad d cc nL rt pc L ((0, x) :: (0, i) :: (2, ((136 : Nat) : Int)) :: S) h Q := ja_iast (n := 64) (by decide) rfl (by decide) h0.1 h0.2 hd k
theorem fw_ePileValue : Cond.fieldLink RX12 420 (TX12 205).1 (TX12 205).2.1 (TX12 205).2.2.1 ∈ ja_B := mo_fw (i := 0) (mo_pw3 16 (p := (420, 0, 12, 205, 7061)) rfl) rfl
theorem fa_ePileValue (hd : decode cc pc = .ok (.getfield 420, 3)) (k : mJ l D cA ad d cc nL rt (pc + 3) L ((2, ((137 : Nat) : Int)) :: S) h Q) : mJ l D cA ad d cc nL rt pc L ((2, ((0 : Nat) : Int)) :: S) h Q := mo_get 420 205 rfl (by decide) fw_ePileValue hd k
theorem il_ePileValue {i v : Int} (hv : h 137 i.toNat = v) (h0 : 0 ≤ i ∧ i < 64) (hd : decode cc pc = .ok (.iaload, 1)) (k : mJ l D cA ad d cc nL rt (pc + 1) L ((0, v) :: S) h Q) : mJ l D cA ad d cc nL rt pc L ((0, i) :: (2, ((137 : Nat) : Int)) :: S) h Q := ja_iald (n := 64) (by decide) rfl (by decide) h0.1 h0.2 hd (hv ▸ k)
theorem is_ePileValue {i x : Int} (h0 : 0 ≤ i ∧ i < 64) (hd : decode cc pc = .ok (.iastore, 1)) (k : mJ l D cA ad d cc nL rt (pc + 1) L S (ja_up h 137 i.toNat x) Q) : mJ l D cA ad d cc nL rt pc L ((0, x) :: (0, i) :: (2, ((137 : Nat) : Int)) :: S) h Q := ja_iast (n := 64) (by decide) rfl (by decide) h0.1 h0.2 hd k
theorem fw_ePile : Cond.fieldLink RX12 1166 (TX12 206).1 (TX12 206).2.1 (TX12 206).2.2.1 ∈ ja_B := mo_fw (i := 0) (mo_pw8 28 (p := (1166, 0, 12, 206, 7062)) rfl) rfl
theorem fg_ePile {v : Int} (hv : h 0 206 = v) (hd : decode cc pc = .ok (.getfield 1166, 3)) (k : mJ l D cA ad d cc nL rt (pc + 3) L ((0, v) :: S) h Q) : mJ l D cA ad d cc nL rt pc L ((2, ((0 : Nat) : Int)) :: S) h Q := mo_get 1166 206 (congrArg (Prod.mk 0) hv) (by decide) fw_ePile hd k
theorem fp_ePile {x : Int} (hd : decode cc pc = .ok (.putfield 1166, 3)) (k : mJ l D cA ad d cc nL rt (pc + 3) L S (ja_up h 0 206 x) Q) : mJ l D cA ad d cc nL rt pc L ((0, x) :: (2, ((0 : Nat) : Int)) :: S) h Q := mo_putI 1166 206 (by decide) rfl rfl rfl fw_ePile hd k
theorem fw_eFails : Cond.fieldLink RX12 1169 (TX12 207).1 (TX12 207).2.1 (TX12 207).2.2.1 ∈ ja_B := mo_fw (i := 0) (mo_pw8 29 (p := (1169, 0, 12, 207, 7063)) rfl) rfl
theorem fg_eFails {v : Int} (hv : h 0 207 = v) (hd : decode cc pc = .ok (.getfield 1169, 3)) (k : mJ l D cA ad d cc nL rt (pc + 3) L ((0, v) :: S) h Q) : mJ l D cA ad d cc nL rt pc L ((2, ((0 : Nat) : Int)) :: S) h Q := mo_get 1169 207 (congrArg (Prod.mk 0) hv) (by decide) fw_eFails hd k
theorem fp_eFails {x : Int} (h01 : x = 0 ∨ x = 1) (hd : decode cc pc = .ok (.putfield 1169, 3)) (k : mJ l D cA ad d cc nL rt (pc + 3) L S (ja_up h 0 207 x) Q) : mJ l D cA ad d cc nL rt pc L ((0, x) :: (2, ((0 : Nat) : Int)) :: S) h Q := mo_putZ 1169 207 (by decide) rfl rfl rfl h01 fw_eFails hd k
theorem fw_thrown : Cond.fieldLink RX12 423 (TX12 208).1 (TX12 208).2.1 (TX12 208).2.2.1 ∈ ja_B := mo_fw (i := 0) (mo_pw3 17 (p := (423, 0, 12, 208, 7064)) rfl) rfl
theorem fg_thrown {v : Int} (hv : h 0 208 = v) (hd : decode cc pc = .ok (.getfield 423, 3)) (k : mJ l D cA ad d cc nL rt (pc + 3) L ((0, v) :: S) h Q) : mJ l D cA ad d cc nL rt pc L ((2, ((0 : Nat) : Int)) :: S) h Q := mo_get 423 208 (congrArg (Prod.mk 0) hv) (by decide) fw_thrown hd k
theorem fp_thrown {x : Int} (hd : decode cc pc = .ok (.putfield 423, 3)) (k : mJ l D cA ad d cc nL rt (pc + 3) L S (ja_up h 0 208 x) Q) : mJ l D cA ad d cc nL rt pc L ((0, x) :: (2, ((0 : Nat) : Int)) :: S) h Q := mo_putI 423 208 (by decide) rfl rfl rfl fw_thrown hd k
theorem mo_mw {idx mid pl : Nat} {p : ck_P} (h : ck_pok mo_mt RX12 p) (e : p = (idx, 2, mid, 0, pl)) : Cond.methodLink RX12 idx (mo_mt mid).1 ∈ ja_B ∧ ck_mok (mo_mt mid) := by
  subst e
  exact h.2.2.1 rfl
abbrev mM_thrown (l : Launch) (D : va_G) (cA : Nat → ClassId) (ad : Nat → Nat) (h : ja_H) (Q : Option ja_V → ja_H → Prop) : Prop := ja_M l D cA ad mo_sp mo_K 1 yX12_thrown cX12_thrown 1 (some .int) [(2, ((0 : Nat) : Int))] h Q
abbrev mM_feed (l : Launch) (D : va_G) (cA : Nat → ClassId) (ad : Nat → Nat) (a1 a2 : Int) (h : ja_H) (Q : Option ja_V → ja_H → Prop) : Prop := ja_M l D cA ad mo_sp mo_K 1 yX12_feed cX12_feed 5 (some .int) [(2, ((0 : Nat) : Int)), (0, a1), (1, a2)] h Q
abbrev mM_wipe (l : Launch) (D : va_G) (cA : Nat → ClassId) (ad : Nat → Nat) (h : ja_H) (Q : Option ja_V → ja_H → Prop) : Prop := ja_M l D cA ad mo_sp mo_K 1 yX12_wipe cX12_wipe 2 (some .int) [(2, ((0 : Nat) : Int))] h Q
abbrev mM_compile (l : Launch) (D : va_G) (cA : Nat → ClassId) (ad : Nat → Nat) (h : ja_H) (Q : Option ja_V → ja_H → Prop) : Prop := ja_M l D cA ad mo_sp mo_K 15 yX12_compile cX12_compile 2 (some .int) [(2, ((0 : Nat) : Int))] h Q
abbrev mM_clearAll (l : Launch) (D : va_G) (cA : Nat → ClassId) (ad : Nat → Nat) (h : ja_H) (Q : Option ja_V → ja_H → Prop) : Prop := ja_M l D cA ad mo_sp mo_K 1 yX12_clearAll cX12_clearAll 1 none [(2, ((0 : Nat) : Int))] h Q
theorem mc_clearAll (hdd : 1 < d) (hwd : ja_wd S ≤ 8) (hd : decode cc pc = .ok (.invokevirtual 629, 3)) (k : mM_clearAll l D cA ad  h (fun r h' => mJ l D cA ad d cc nL rt (pc + 3) L (r.toList ++ S) h' Q)) : mJ l D cA ad d cc nL rt pc L ((2, ((0 : Nat) : Int)) :: S) h Q := by
  obtain ⟨m0, m1, m2, m3, m4⟩ := mo_mw (mo_pw4 13 (p := (629, 2, 4, 0, 7533)) rfl) rfl
  exact ja_callV (S := S) (vals := []) (n := 0) (N := 209) (T := TX12) (ci := 12) (q := 0) m0 m2 m1 m3 rfl hdd (by decide) m4.1 m4.2.1 (by decide +kernel) (by decide +kernel) (by decide) rfl (show (0 : Nat) + 1 ≤ 1 by decide) hwd hd k
abbrev mM_scan (l : Launch) (D : va_G) (cA : Nat → ClassId) (ad : Nat → Nat) (h : ja_H) (Q : Option ja_V → ja_H → Prop) : Prop := ja_M l D cA ad mo_sp mo_K 4 yX12_scan cX12_scan 4 none [(2, ((0 : Nat) : Int))] h Q
theorem mc_scan (hdd : 4 < d) (hwd : ja_wd S ≤ 8) (hd : decode cc pc = .ok (.invokevirtual 632, 3)) (k : mM_scan l D cA ad  h (fun r h' => mJ l D cA ad d cc nL rt (pc + 3) L (r.toList ++ S) h' Q)) : mJ l D cA ad d cc nL rt pc L ((2, ((0 : Nat) : Int)) :: S) h Q := by
  obtain ⟨m0, m1, m2, m3, m4⟩ := mo_mw (mo_pw4 14 (p := (632, 2, 5, 0, 7537)) rfl) rfl
  exact ja_callV (S := S) (vals := []) (n := 0) (N := 209) (T := TX12) (ci := 12) (q := 0) m0 m2 m1 m3 rfl hdd (by decide) m4.1 m4.2.1 (by decide +kernel) (by decide +kernel) (by decide) rfl (show (0 : Nat) + 1 ≤ 4 by decide) hwd hd k
abbrev mM_skip (l : Launch) (D : va_G) (cA : Nat → ClassId) (ad : Nat → Nat) (a1 : Int) (h : ja_H) (Q : Option ja_V → ja_H → Prop) : Prop := ja_M l D cA ad mo_sp mo_K 2 yX12_skip cX12_skip 5 (some .int) [(2, ((0 : Nat) : Int)), (0, a1)] h Q
theorem mc_skip {a1 : Int} (hdd : 2 < d) (hwd : ja_wd S ≤ 8) (hd : decode cc pc = .ok (.invokevirtual 558, 3)) (k : mM_skip l D cA ad a1 h (fun r h' => mJ l D cA ad d cc nL rt (pc + 3) L (r.toList ++ S) h' Q)) : mJ l D cA ad d cc nL rt pc L ((0, a1) :: (2, ((0 : Nat) : Int)) :: S) h Q := by
  obtain ⟨m0, m1, m2, m3, m4⟩ := mo_mw (mo_pw3 30 (p := (558, 2, 6, 0, 7541)) rfl) rfl
  exact ja_callV (S := S) (vals := [(0, a1)]) (n := 1) (N := 209) (T := TX12) (ci := 12) (q := 0) m0 m2 m1 m3 rfl hdd (by decide) m4.1 m4.2.1 (by decide +kernel) (by decide +kernel) (by decide) rfl (show (1 : Nat) + 1 ≤ 5 by decide) hwd hd k
abbrev mM_byteAt (l : Launch) (D : va_G) (cA : Nat → ClassId) (ad : Nat → Nat) (a1 : Int) (h : ja_H) (Q : Option ja_V → ja_H → Prop) : Prop := ja_M l D cA ad mo_sp mo_K 1 yX12_byteAt cX12_byteAt 2 (some .int) [(2, ((0 : Nat) : Int)), (0, a1)] h Q
theorem mc_byteAt {a1 : Int} (hdd : 1 < d) (hwd : ja_wd S ≤ 8) (hd : decode cc pc = .ok (.invokevirtual 437, 3)) (k : mM_byteAt l D cA ad a1 h (fun r h' => mJ l D cA ad d cc nL rt (pc + 3) L (r.toList ++ S) h' Q)) : mJ l D cA ad d cc nL rt pc L ((0, a1) :: (2, ((0 : Nat) : Int)) :: S) h Q := by
  obtain ⟨m0, m1, m2, m3, m4⟩ := mo_mw (mo_pw3 21 (p := (437, 2, 7, 0, 7545)) rfl) rfl
  exact ja_callV (S := S) (vals := [(0, a1)]) (n := 1) (N := 209) (T := TX12) (ci := 12) (q := 0) m0 m2 m1 m3 rfl hdd (by decide) m4.1 m4.2.1 (by decide +kernel) (by decide +kernel) (by decide) rfl (show (1 : Nat) + 1 ≤ 2 by decide) hwd hd k
abbrev mM_isLetter (l : Launch) (D : va_G) (cA : Nat → ClassId) (ad : Nat → Nat) (a1 : Int) (h : ja_H) (Q : Option ja_V → ja_H → Prop) : Prop := ja_M l D cA ad mo_sp mo_K 1 yX12_isLetter cX12_isLetter 1 (some .boolean) [(0, a1)] h Q
theorem mc_isLetter {a1 : Int} (hdd : 1 < d) (hwd : ja_wd S ≤ 8) (hd : decode cc pc = .ok (.invokestatic 539, 3)) (k : mM_isLetter l D cA ad a1 h (fun r h' => mJ l D cA ad d cc nL rt (pc + 3) L (r.toList ++ S) h' Q)) : mJ l D cA ad d cc nL rt pc L ((0, a1) :: S) h Q := by
  obtain ⟨m0, m1, m2, m3, m4⟩ := mo_mw (mo_pw3 25 (p := (539, 2, 8, 0, 7549)) rfl) rfl
  exact ja_callS (S := S) (vals := [(0, a1)]) (n := 1) m0 m2 m1 m3 rfl hdd (by decide) m4 (show (1 : Nat) ≤ 1 by decide) hwd hd k
abbrev mM_tokenName (l : Launch) (D : va_G) (cA : Nat → ClassId) (ad : Nat → Nat) (a1 : Int) (h : ja_H) (Q : Option ja_V → ja_H → Prop) : Prop := ja_M l D cA ad mo_sp mo_K 3 yX12_tokenName cX12_tokenName 6 none [(2, ((0 : Nat) : Int)), (0, a1)] h Q
theorem mc_tokenName {a1 : Int} (hdd : 3 < d) (hwd : ja_wd S ≤ 8) (hd : decode cc pc = .ok (.invokevirtual 561, 3)) (k : mM_tokenName l D cA ad a1 h (fun r h' => mJ l D cA ad d cc nL rt (pc + 3) L (r.toList ++ S) h' Q)) : mJ l D cA ad d cc nL rt pc L ((0, a1) :: (2, ((0 : Nat) : Int)) :: S) h Q := by
  obtain ⟨m0, m1, m2, m3, m4⟩ := mo_mw (mo_pw3 31 (p := (561, 2, 9, 0, 7552)) rfl) rfl
  exact ja_callV (S := S) (vals := [(0, a1)]) (n := 1) (N := 209) (T := TX12) (ci := 12) (q := 0) m0 m2 m1 m3 rfl hdd (by decide) m4.1 m4.2.1 (by decide +kernel) (by decide +kernel) (by decide) rfl (show (1 : Nat) + 1 ≤ 6 by decide) hwd hd k
abbrev mM_isDigit (l : Launch) (D : va_G) (cA : Nat → ClassId) (ad : Nat → Nat) (a1 : Int) (h : ja_H) (Q : Option ja_V → ja_H → Prop) : Prop := ja_M l D cA ad mo_sp mo_K 1 yX12_isDigit cX12_isDigit 1 (some .boolean) [(0, a1)] h Q
theorem mc_isDigit {a1 : Int} (hdd : 1 < d) (hwd : ja_wd S ≤ 8) (hd : decode cc pc = .ok (.invokestatic 543, 3)) (k : mM_isDigit l D cA ad a1 h (fun r h' => mJ l D cA ad d cc nL rt (pc + 3) L (r.toList ++ S) h' Q)) : mJ l D cA ad d cc nL rt pc L ((0, a1) :: S) h Q := by
  obtain ⟨m0, m1, m2, m3, m4⟩ := mo_mw (mo_pw3 26 (p := (543, 2, 10, 0, 7556)) rfl) rfl
  exact ja_callS (S := S) (vals := [(0, a1)]) (n := 1) m0 m2 m1 m3 rfl hdd (by decide) m4 (show (1 : Nat) ≤ 1 by decide) hwd hd k
abbrev mM_wordOf (l : Launch) (D : va_G) (cA : Nat → ClassId) (ad : Nat → Nat) (a1 : Int) (h : ja_H) (Q : Option ja_V → ja_H → Prop) : Prop := ja_M l D cA ad mo_sp mo_K 2 yX12_wordOf cX12_wordOf 3 (some .int) [(1, a1)] h Q
theorem mc_wordOf {a1 : Int} (hdd : 2 < d) (hwd : ja_wd S ≤ 8) (hd : decode cc pc = .ok (.invokestatic 548, 3)) (k : mM_wordOf l D cA ad a1 h (fun r h' => mJ l D cA ad d cc nL rt (pc + 3) L (r.toList ++ S) h' Q)) : mJ l D cA ad d cc nL rt pc L ((1, a1) :: S) h Q := by
  obtain ⟨m0, m1, m2, m3, m4⟩ := mo_mw (mo_pw3 27 (p := (548, 2, 11, 0, 7560)) rfl) rfl
  exact ja_callS (S := S) (vals := [(1, a1)]) (n := 1) m0 m2 m1 m3 rfl hdd (by decide) m4 (show (2 : Nat) ≤ 3 by decide) hwd hd k
abbrev mM_firstWords (l : Launch) (D : va_G) (cA : Nat → ClassId) (ad : Nat → Nat) (a1 : Int) (h : ja_H) (Q : Option ja_V → ja_H → Prop) : Prop := ja_M l D cA ad mo_sp mo_K 1 yX12_firstWords cX12_firstWords 2 (some .int) [(1, a1)] h Q
theorem mc_firstWords {a1 : Int} (hdd : 1 < d) (hwd : ja_wd S ≤ 8) (hd : decode cc pc = .ok (.invokestatic 441, 3)) (k : mM_firstWords l D cA ad a1 h (fun r h' => mJ l D cA ad d cc nL rt (pc + 3) L (r.toList ++ S) h' Q)) : mJ l D cA ad d cc nL rt pc L ((1, a1) :: S) h Q := by
  obtain ⟨m0, m1, m2, m3, m4⟩ := mo_mw (mo_pw3 22 (p := (441, 2, 12, 0, 7563)) rfl) rfl
  exact ja_callS (S := S) (vals := [(1, a1)]) (n := 1) m0 m2 m1 m3 rfl hdd (by decide) m4 (show (2 : Nat) ≤ 2 by decide) hwd hd k
abbrev mM_lastWords (l : Launch) (D : va_G) (cA : Nat → ClassId) (ad : Nat → Nat) (a1 : Int) (h : ja_H) (Q : Option ja_V → ja_H → Prop) : Prop := ja_M l D cA ad mo_sp mo_K 1 yX12_lastWords cX12_lastWords 2 (some .int) [(1, a1)] h Q
theorem mc_lastWords {a1 : Int} (hdd : 1 < d) (hwd : ja_wd S ≤ 8) (hd : decode cc pc = .ok (.invokestatic 445, 3)) (k : mM_lastWords l D cA ad a1 h (fun r h' => mJ l D cA ad d cc nL rt (pc + 3) L (r.toList ++ S) h' Q)) : mJ l D cA ad d cc nL rt pc L ((1, a1) :: S) h Q := by
  obtain ⟨m0, m1, m2, m3, m4⟩ := mo_mw (mo_pw3 23 (p := (445, 2, 13, 0, 7588)) rfl) rfl
  exact ja_callS (S := S) (vals := [(1, a1)]) (n := 1) m0 m2 m1 m3 rfl hdd (by decide) m4 (show (2 : Nat) ≤ 2 by decide) hwd hd k
abbrev mM_nameOf (l : Launch) (D : va_G) (cA : Nat → ClassId) (ad : Nat → Nat) (a1 a2 : Int) (h : ja_H) (Q : Option ja_V → ja_H → Prop) : Prop := ja_M l D cA ad mo_sp mo_K 1 yX12_nameOf cX12_nameOf 6 (some .int) [(2, ((0 : Nat) : Int)), (0, a1), (0, a2)] h Q
theorem mc_nameOf {a1 a2 : Int} (hdd : 1 < d) (hwd : ja_wd S ≤ 8) (hd : decode cc pc = .ok (.invokevirtual 551, 3)) (k : mM_nameOf l D cA ad a1 a2 h (fun r h' => mJ l D cA ad d cc nL rt (pc + 3) L (r.toList ++ S) h' Q)) : mJ l D cA ad d cc nL rt pc L ((0, a2) :: (0, a1) :: (2, ((0 : Nat) : Int)) :: S) h Q := by
  obtain ⟨m0, m1, m2, m3, m4⟩ := mo_mw (mo_pw3 28 (p := (551, 2, 14, 0, 7613)) rfl) rfl
  exact ja_callV (S := S) (vals := [(0, a1), (0, a2)]) (n := 2) (N := 209) (T := TX12) (ci := 12) (q := 0) m0 m2 m1 m3 rfl hdd (by decide) m4.1 m4.2.1 (by decide +kernel) (by decide +kernel) (by decide) rfl (show (2 : Nat) + 1 ≤ 6 by decide) hwd hd k
abbrev mM_tokenWhole (l : Launch) (D : va_G) (cA : Nat → ClassId) (ad : Nat → Nat) (a1 : Int) (h : ja_H) (Q : Option ja_V → ja_H → Prop) : Prop := ja_M l D cA ad mo_sp mo_K 2 yX12_tokenWhole cX12_tokenWhole 4 none [(2, ((0 : Nat) : Int)), (0, a1)] h Q
theorem mc_tokenWhole {a1 : Int} (hdd : 2 < d) (hwd : ja_wd S ≤ 8) (hd : decode cc pc = .ok (.invokevirtual 565, 3)) (k : mM_tokenWhole l D cA ad a1 h (fun r h' => mJ l D cA ad d cc nL rt (pc + 3) L (r.toList ++ S) h' Q)) : mJ l D cA ad d cc nL rt pc L ((0, a1) :: (2, ((0 : Nat) : Int)) :: S) h Q := by
  obtain ⟨m0, m1, m2, m3, m4⟩ := mo_mw (mo_pw3 32 (p := (565, 2, 15, 0, 7617)) rfl) rfl
  exact ja_callV (S := S) (vals := [(0, a1)]) (n := 1) (N := 209) (T := TX12) (ci := 12) (q := 0) m0 m2 m1 m3 rfl hdd (by decide) m4.1 m4.2.1 (by decide +kernel) (by decide +kernel) (by decide) rfl (show (1 : Nat) + 1 ≤ 4 by decide) hwd hd k
abbrev mM_tokenPattern (l : Launch) (D : va_G) (cA : Nat → ClassId) (ad : Nat → Nat) (a1 : Int) (h : ja_H) (Q : Option ja_V → ja_H → Prop) : Prop := ja_M l D cA ad mo_sp mo_K 3 yX12_tokenPattern cX12_tokenPattern 5 none [(2, ((0 : Nat) : Int)), (0, a1)] h Q
theorem mc_tokenPattern {a1 : Int} (hdd : 3 < d) (hwd : ja_wd S ≤ 8) (hd : decode cc pc = .ok (.invokevirtual 568, 3)) (k : mM_tokenPattern l D cA ad a1 h (fun r h' => mJ l D cA ad d cc nL rt (pc + 3) L (r.toList ++ S) h' Q)) : mJ l D cA ad d cc nL rt pc L ((0, a1) :: (2, ((0 : Nat) : Int)) :: S) h Q := by
  obtain ⟨m0, m1, m2, m3, m4⟩ := mo_mw (mo_pw3 33 (p := (568, 2, 16, 0, 7621)) rfl) rfl
  exact ja_callV (S := S) (vals := [(0, a1)]) (n := 1) (N := 209) (T := TX12) (ci := 12) (q := 0) m0 m2 m1 m3 rfl hdd (by decide) m4.1 m4.2.1 (by decide +kernel) (by decide +kernel) (by decide) rfl (show (1 : Nat) + 1 ≤ 5 by decide) hwd hd k
abbrev mM_partEnd (l : Launch) (D : va_G) (cA : Nat → ClassId) (ad : Nat → Nat) (a1 : Int) (h : ja_H) (Q : Option ja_V → ja_H → Prop) : Prop := ja_M l D cA ad mo_sp mo_K 2 yX12_partEnd cX12_partEnd 3 (some .int) [(2, ((0 : Nat) : Int)), (0, a1)] h Q
theorem mc_partEnd {a1 : Int} (hdd : 2 < d) (hwd : ja_wd S ≤ 8) (hd : decode cc pc = .ok (.invokevirtual 555, 3)) (k : mM_partEnd l D cA ad a1 h (fun r h' => mJ l D cA ad d cc nL rt (pc + 3) L (r.toList ++ S) h' Q)) : mJ l D cA ad d cc nL rt pc L ((0, a1) :: (2, ((0 : Nat) : Int)) :: S) h Q := by
  obtain ⟨m0, m1, m2, m3, m4⟩ := mo_mw (mo_pw3 29 (p := (555, 2, 17, 0, 7625)) rfl) rfl
  exact ja_callV (S := S) (vals := [(0, a1)]) (n := 1) (N := 209) (T := TX12) (ci := 12) (q := 0) m0 m2 m1 m3 rfl hdd (by decide) m4.1 m4.2.1 (by decide +kernel) (by decide +kernel) (by decide) rfl (show (1 : Nat) + 1 ≤ 3 by decide) hwd hd k
abbrev mM_tokenSign (l : Launch) (D : va_G) (cA : Nat → ClassId) (ad : Nat → Nat) (a1 : Int) (h : ja_H) (Q : Option ja_V → ja_H → Prop) : Prop := ja_M l D cA ad mo_sp mo_K 2 yX12_tokenSign cX12_tokenSign 5 none [(2, ((0 : Nat) : Int)), (0, a1)] h Q
theorem mc_tokenSign {a1 : Int} (hdd : 2 < d) (hwd : ja_wd S ≤ 8) (hd : decode cc pc = .ok (.invokevirtual 571, 3)) (k : mM_tokenSign l D cA ad a1 h (fun r h' => mJ l D cA ad d cc nL rt (pc + 3) L (r.toList ++ S) h' Q)) : mJ l D cA ad d cc nL rt pc L ((0, a1) :: (2, ((0 : Nat) : Int)) :: S) h Q := by
  obtain ⟨m0, m1, m2, m3, m4⟩ := mo_mw (mo_pw3 34 (p := (571, 2, 18, 0, 7629)) rfl) rfl
  exact ja_callV (S := S) (vals := [(0, a1)]) (n := 1) (N := 209) (T := TX12) (ci := 12) (q := 0) m0 m2 m1 m3 rfl hdd (by decide) m4.1 m4.2.1 (by decide +kernel) (by decide +kernel) (by decide) rfl (show (1 : Nat) + 1 ≤ 5 by decide) hwd hd k
abbrev mM_item (l : Launch) (D : va_G) (cA : Nat → ClassId) (ad : Nat → Nat) (h : ja_H) (Q : Option ja_V → ja_H → Prop) : Prop := ja_M l D cA ad mo_sp mo_K 14 yX12_item cX12_item 3 (some .boolean) [(2, ((0 : Nat) : Int))] h Q
theorem mc_item (hdd : 14 < d) (hwd : ja_wd S ≤ 8) (hd : decode cc pc = .ok (.invokevirtual 635, 3)) (k : mM_item l D cA ad  h (fun r h' => mJ l D cA ad d cc nL rt (pc + 3) L (r.toList ++ S) h' Q)) : mJ l D cA ad d cc nL rt pc L ((2, ((0 : Nat) : Int)) :: S) h Q := by
  obtain ⟨m0, m1, m2, m3, m4⟩ := mo_mw (mo_pw4 15 (p := (635, 2, 19, 0, 7633)) rfl) rfl
  exact ja_callV (S := S) (vals := []) (n := 0) (N := 209) (T := TX12) (ci := 12) (q := 0) m0 m2 m1 m3 rfl hdd (by decide) m4.1 m4.2.1 (by decide +kernel) (by decide +kernel) (by decide) rfl (show (0 : Nat) + 1 ≤ 3 by decide) hwd hd k
abbrev mM_isWord (l : Launch) (D : va_G) (cA : Nat → ClassId) (ad : Nat → Nat) (a1 : Int) (h : ja_H) (Q : Option ja_V → ja_H → Prop) : Prop := ja_M l D cA ad mo_sp mo_K 1 yX12_isWord cX12_isWord 2 (some .boolean) [(2, ((0 : Nat) : Int)), (0, a1)] h Q
theorem mc_isWord {a1 : Int} (hdd : 1 < d) (hwd : ja_wd S ≤ 8) (hd : decode cc pc = .ok (.invokevirtual 596, 3)) (k : mM_isWord l D cA ad a1 h (fun r h' => mJ l D cA ad d cc nL rt (pc + 3) L (r.toList ++ S) h' Q)) : mJ l D cA ad d cc nL rt pc L ((0, a1) :: (2, ((0 : Nat) : Int)) :: S) h Q := by
  obtain ⟨m0, m1, m2, m3, m4⟩ := mo_mw (mo_pw4 2 (p := (596, 2, 20, 0, 7637)) rfl) rfl
  exact ja_callV (S := S) (vals := [(0, a1)]) (n := 1) (N := 209) (T := TX12) (ci := 12) (q := 0) m0 m2 m1 m3 rfl hdd (by decide) m4.1 m4.2.1 (by decide +kernel) (by decide +kernel) (by decide) rfl (show (1 : Nat) + 1 ≤ 2 by decide) hwd hd k
abbrev mM_take (l : Launch) (D : va_G) (cA : Nat → ClassId) (ad : Nat → Nat) (h : ja_H) (Q : Option ja_V → ja_H → Prop) : Prop := ja_M l D cA ad mo_sp mo_K 2 yX12_take cX12_take 1 (some .boolean) [(2, ((0 : Nat) : Int))] h Q
theorem mc_take (hdd : 2 < d) (hwd : ja_wd S ≤ 8) (hd : decode cc pc = .ok (.invokevirtual 589, 3)) (k : mM_take l D cA ad  h (fun r h' => mJ l D cA ad d cc nL rt (pc + 3) L (r.toList ++ S) h' Q)) : mJ l D cA ad d cc nL rt pc L ((2, ((0 : Nat) : Int)) :: S) h Q := by
  obtain ⟨m0, m1, m2, m3, m4⟩ := mo_mw (mo_pw4 0 (p := (589, 2, 21, 0, 7641)) rfl) rfl
  exact ja_callV (S := S) (vals := []) (n := 0) (N := 209) (T := TX12) (ci := 12) (q := 0) m0 m2 m1 m3 rfl hdd (by decide) m4.1 m4.2.1 (by decide +kernel) (by decide +kernel) (by decide) rfl (show (0 : Nat) + 1 ≤ 1 by decide) hwd hd k
abbrev mM_halt (l : Launch) (D : va_G) (cA : Nat → ClassId) (ad : Nat → Nat) (a1 : Int) (h : ja_H) (Q : Option ja_V → ja_H → Prop) : Prop := ja_M l D cA ad mo_sp mo_K 1 yX12_halt cX12_halt 2 (some .boolean) [(2, ((0 : Nat) : Int)), (0, a1)] h Q
theorem mc_halt {a1 : Int} (hdd : 1 < d) (hwd : ja_wd S ≤ 8) (hd : decode cc pc = .ok (.invokevirtual 583, 3)) (k : mM_halt l D cA ad a1 h (fun r h' => mJ l D cA ad d cc nL rt (pc + 3) L (r.toList ++ S) h' Q)) : mJ l D cA ad d cc nL rt pc L ((0, a1) :: (2, ((0 : Nat) : Int)) :: S) h Q := by
  obtain ⟨m0, m1, m2, m3, m4⟩ := mo_mw (mo_pw3 38 (p := (583, 2, 22, 0, 7645)) rfl) rfl
  exact ja_callV (S := S) (vals := [(0, a1)]) (n := 1) (N := 209) (T := TX12) (ci := 12) (q := 0) m0 m2 m1 m3 rfl hdd (by decide) m4.1 m4.2.1 (by decide +kernel) (by decide +kernel) (by decide) rfl (show (1 : Nat) + 1 ≤ 2 by decide) hwd hd k
abbrev mM_classItem (l : Launch) (D : va_G) (cA : Nat → ClassId) (ad : Nat → Nat) (h : ja_H) (Q : Option ja_V → ja_H → Prop) : Prop := ja_M l D cA ad mo_sp mo_K 11 yX12_classItem cX12_classItem 3 (some .boolean) [(2, ((0 : Nat) : Int))] h Q
theorem mc_classItem (hdd : 11 < d) (hwd : ja_wd S ≤ 8) (hd : decode cc pc = .ok (.invokevirtual 723, 3)) (k : mM_classItem l D cA ad  h (fun r h' => mJ l D cA ad d cc nL rt (pc + 3) L (r.toList ++ S) h' Q)) : mJ l D cA ad d cc nL rt pc L ((2, ((0 : Nat) : Int)) :: S) h Q := by
  obtain ⟨m0, m1, m2, m3, m4⟩ := mo_mw (mo_pw5 4 (p := (723, 2, 23, 0, 7649)) rfl) rfl
  exact ja_callV (S := S) (vals := []) (n := 0) (N := 209) (T := TX12) (ci := 12) (q := 0) m0 m2 m1 m3 rfl hdd (by decide) m4.1 m4.2.1 (by decide +kernel) (by decide +kernel) (by decide) rfl (show (0 : Nat) + 1 ≤ 3 by decide) hwd hd k
abbrev mM_isName (l : Launch) (D : va_G) (cA : Nat → ClassId) (ad : Nat → Nat) (h : ja_H) (Q : Option ja_V → ja_H → Prop) : Prop := ja_M l D cA ad mo_sp mo_K 1 yX12_isName cX12_isName 1 (some .boolean) [(2, ((0 : Nat) : Int))] h Q
theorem mc_isName (hdd : 1 < d) (hwd : ja_wd S ≤ 8) (hd : decode cc pc = .ok (.invokevirtual 599, 3)) (k : mM_isName l D cA ad  h (fun r h' => mJ l D cA ad d cc nL rt (pc + 3) L (r.toList ++ S) h' Q)) : mJ l D cA ad d cc nL rt pc L ((2, ((0 : Nat) : Int)) :: S) h Q := by
  obtain ⟨m0, m1, m2, m3, m4⟩ := mo_mw (mo_pw4 3 (p := (599, 2, 24, 0, 7653)) rfl) rfl
  exact ja_callV (S := S) (vals := []) (n := 0) (N := 209) (T := TX12) (ci := 12) (q := 0) m0 m2 m1 m3 rfl hdd (by decide) m4.1 m4.2.1 (by decide +kernel) (by decide +kernel) (by decide) rfl (show (0 : Nat) + 1 ≤ 1 by decide) hwd hd k
abbrev mM_name (l : Launch) (D : va_G) (cA : Nat → ClassId) (ad : Nat → Nat) (h : ja_H) (Q : Option ja_V → ja_H → Prop) : Prop := ja_M l D cA ad mo_sp mo_K 3 yX12_name cX12_name 1 (some .boolean) [(2, ((0 : Nat) : Int))] h Q
theorem mc_name (hdd : 3 < d) (hwd : ja_wd S ≤ 8) (hd : decode cc pc = .ok (.invokevirtual 739, 3)) (k : mM_name l D cA ad  h (fun r h' => mJ l D cA ad d cc nL rt (pc + 3) L (r.toList ++ S) h' Q)) : mJ l D cA ad d cc nL rt pc L ((2, ((0 : Nat) : Int)) :: S) h Q := by
  obtain ⟨m0, m1, m2, m3, m4⟩ := mo_mw (mo_pw5 9 (p := (739, 2, 25, 0, 7657)) rfl) rfl
  exact ja_callV (S := S) (vals := []) (n := 0) (N := 209) (T := TX12) (ci := 12) (q := 0) m0 m2 m1 m3 rfl hdd (by decide) m4.1 m4.2.1 (by decide +kernel) (by decide +kernel) (by decide) rfl (show (0 : Nat) + 1 ≤ 1 by decide) hwd hd k
abbrev mM_wrong (l : Launch) (D : va_G) (cA : Nat → ClassId) (ad : Nat → Nat) (h : ja_H) (Q : Option ja_V → ja_H → Prop) : Prop := ja_M l D cA ad mo_sp mo_K 2 yX12_wrong cX12_wrong 1 (some .boolean) [(2, ((0 : Nat) : Int))] h Q
theorem mc_wrong (hdd : 2 < d) (hwd : ja_wd S ≤ 8) (hd : decode cc pc = .ok (.invokevirtual 593, 3)) (k : mM_wrong l D cA ad  h (fun r h' => mJ l D cA ad d cc nL rt (pc + 3) L (r.toList ++ S) h' Q)) : mJ l D cA ad d cc nL rt pc L ((2, ((0 : Nat) : Int)) :: S) h Q := by
  obtain ⟨m0, m1, m2, m3, m4⟩ := mo_mw (mo_pw4 1 (p := (593, 2, 26, 0, 7661)) rfl) rfl
  exact ja_callV (S := S) (vals := []) (n := 0) (N := 209) (T := TX12) (ci := 12) (q := 0) m0 m2 m1 m3 rfl hdd (by decide) m4.1 m4.2.1 (by decide +kernel) (by decide +kernel) (by decide) rfl (show (0 : Nat) + 1 ≤ 1 by decide) hwd hd k
abbrev mM_sign (l : Launch) (D : va_G) (cA : Nat → ClassId) (ad : Nat → Nat) (a1 : Int) (h : ja_H) (Q : Option ja_V → ja_H → Prop) : Prop := ja_M l D cA ad mo_sp mo_K 3 yX12_sign cX12_sign 2 (some .boolean) [(2, ((0 : Nat) : Int)), (0, a1)] h Q
theorem mc_sign {a1 : Int} (hdd : 3 < d) (hwd : ja_wd S ≤ 8) (hd : decode cc pc = .ok (.invokevirtual 742, 3)) (k : mM_sign l D cA ad a1 h (fun r h' => mJ l D cA ad d cc nL rt (pc + 3) L (r.toList ++ S) h' Q)) : mJ l D cA ad d cc nL rt pc L ((0, a1) :: (2, ((0 : Nat) : Int)) :: S) h Q := by
  obtain ⟨m0, m1, m2, m3, m4⟩ := mo_mw (mo_pw5 10 (p := (742, 2, 27, 0, 7681)) rfl) rfl
  exact ja_callV (S := S) (vals := [(0, a1)]) (n := 1) (N := 209) (T := TX12) (ci := 12) (q := 0) m0 m2 m1 m3 rfl hdd (by decide) m4.1 m4.2.1 (by decide +kernel) (by decide +kernel) (by decide) rfl (show (1 : Nat) + 1 ≤ 2 by decide) hwd hd k
abbrev mM_isSign (l : Launch) (D : va_G) (cA : Nat → ClassId) (ad : Nat → Nat) (a1 : Int) (h : ja_H) (Q : Option ja_V → ja_H → Prop) : Prop := ja_M l D cA ad mo_sp mo_K 1 yX12_isSign cX12_isSign 2 (some .boolean) [(2, ((0 : Nat) : Int)), (0, a1)] h Q
theorem mc_isSign {a1 : Int} (hdd : 1 < d) (hwd : ja_wd S ≤ 8) (hd : decode cc pc = .ok (.invokevirtual 586, 3)) (k : mM_isSign l D cA ad a1 h (fun r h' => mJ l D cA ad d cc nL rt (pc + 3) L (r.toList ++ S) h' Q)) : mJ l D cA ad d cc nL rt pc L ((0, a1) :: (2, ((0 : Nat) : Int)) :: S) h Q := by
  obtain ⟨m0, m1, m2, m3, m4⟩ := mo_mw (mo_pw3 39 (p := (586, 2, 28, 0, 7685)) rfl) rfl
  exact ja_callV (S := S) (vals := [(0, a1)]) (n := 1) (N := 209) (T := TX12) (ci := 12) (q := 0) m0 m2 m1 m3 rfl hdd (by decide) m4.1 m4.2.1 (by decide +kernel) (by decide +kernel) (by decide) rfl (show (1 : Nat) + 1 ≤ 2 by decide) hwd hd k
abbrev mM_member (l : Launch) (D : va_G) (cA : Nat → ClassId) (ad : Nat → Nat) (a1 : Int) (h : ja_H) (Q : Option ja_V → ja_H → Prop) : Prop := ja_M l D cA ad mo_sp mo_K 10 yX12_member cX12_member 4 (some .boolean) [(2, ((0 : Nat) : Int)), (0, a1)] h Q
theorem mc_member {a1 : Int} (hdd : 10 < d) (hwd : ja_wd S ≤ 8) (hd : decode cc pc = .ok (.invokevirtual 745, 3)) (k : mM_member l D cA ad a1 h (fun r h' => mJ l D cA ad d cc nL rt (pc + 3) L (r.toList ++ S) h' Q)) : mJ l D cA ad d cc nL rt pc L ((0, a1) :: (2, ((0 : Nat) : Int)) :: S) h Q := by
  obtain ⟨m0, m1, m2, m3, m4⟩ := mo_mw (mo_pw5 11 (p := (745, 2, 29, 0, 7689)) rfl) rfl
  exact ja_callV (S := S) (vals := [(0, a1)]) (n := 1) (N := 209) (T := TX12) (ci := 12) (q := 0) m0 m2 m1 m3 rfl hdd (by decide) m4.1 m4.2.1 (by decide +kernel) (by decide +kernel) (by decide) rfl (show (1 : Nat) + 1 ≤ 4 by decide) hwd hd k
abbrev mM_id (l : Launch) (D : va_G) (cA : Nat → ClassId) (ad : Nat → Nat) (a1 : Int) (h : ja_H) (Q : Option ja_V → ja_H → Prop) : Prop := ja_M l D cA ad mo_sp mo_K 1 yX12_id cX12_id 2 (some .int) [(2, ((0 : Nat) : Int)), (0, a1)] h Q
theorem mc_id {a1 : Int} (hdd : 1 < d) (hwd : ja_wd S ≤ 8) (hd : decode cc pc = .ok (.invokevirtual 716, 3)) (k : mM_id l D cA ad a1 h (fun r h' => mJ l D cA ad d cc nL rt (pc + 3) L (r.toList ++ S) h' Q)) : mJ l D cA ad d cc nL rt pc L ((0, a1) :: (2, ((0 : Nat) : Int)) :: S) h Q := by
  obtain ⟨m0, m1, m2, m3, m4⟩ := mo_mw (mo_pw5 2 (p := (716, 2, 30, 0, 7693)) rfl) rfl
  exact ja_callV (S := S) (vals := [(0, a1)]) (n := 1) (N := 209) (T := TX12) (ci := 12) (q := 0) m0 m2 m1 m3 rfl hdd (by decide) m4.1 m4.2.1 (by decide +kernel) (by decide +kernel) (by decide) rfl (show (1 : Nat) + 1 ≤ 2 by decide) hwd hd k
abbrev mM_method (l : Launch) (D : va_G) (cA : Nat → ClassId) (ad : Nat → Nat) (a1 : Int) (h : ja_H) (Q : Option ja_V → ja_H → Prop) : Prop := ja_M l D cA ad mo_sp mo_K 9 yX12_method cX12_method 5 (some .boolean) [(2, ((0 : Nat) : Int)), (0, a1)] h Q
theorem mc_method {a1 : Int} (hdd : 9 < d) (hwd : ja_wd S ≤ 8) (hd : decode cc pc = .ok (.invokevirtual 748, 3)) (k : mM_method l D cA ad a1 h (fun r h' => mJ l D cA ad d cc nL rt (pc + 3) L (r.toList ++ S) h' Q)) : mJ l D cA ad d cc nL rt pc L ((0, a1) :: (2, ((0 : Nat) : Int)) :: S) h Q := by
  obtain ⟨m0, m1, m2, m3, m4⟩ := mo_mw (mo_pw5 12 (p := (748, 2, 31, 0, 7697)) rfl) rfl
  exact ja_callV (S := S) (vals := [(0, a1)]) (n := 1) (N := 209) (T := TX12) (ci := 12) (q := 0) m0 m2 m1 m3 rfl hdd (by decide) m4.1 m4.2.1 (by decide +kernel) (by decide +kernel) (by decide) rfl (show (1 : Nat) + 1 ≤ 5 by decide) hwd hd k
abbrev mM_beginBody (l : Launch) (D : va_G) (cA : Nat → ClassId) (ad : Nat → Nat) (a1 a2 : Int) (h : ja_H) (Q : Option ja_V → ja_H → Prop) : Prop := ja_M l D cA ad mo_sp mo_K 1 yX12_beginBody cX12_beginBody 3 none [(2, ((0 : Nat) : Int)), (0, a1), (0, a2)] h Q
theorem mc_beginBody {a1 a2 : Int} (hdd : 1 < d) (hwd : ja_wd S ≤ 8) (hd : decode cc pc = .ok (.invokevirtual 726, 3)) (k : mM_beginBody l D cA ad a1 a2 h (fun r h' => mJ l D cA ad d cc nL rt (pc + 3) L (r.toList ++ S) h' Q)) : mJ l D cA ad d cc nL rt pc L ((0, a2) :: (0, a1) :: (2, ((0 : Nat) : Int)) :: S) h Q := by
  obtain ⟨m0, m1, m2, m3, m4⟩ := mo_mw (mo_pw5 5 (p := (726, 2, 32, 0, 7701)) rfl) rfl
  exact ja_callV (S := S) (vals := [(0, a1), (0, a2)]) (n := 2) (N := 209) (T := TX12) (ci := 12) (q := 0) m0 m2 m1 m3 rfl hdd (by decide) m4.1 m4.2.1 (by decide +kernel) (by decide +kernel) (by decide) rfl (show (2 : Nat) + 1 ≤ 3 by decide) hwd hd k
abbrev mM_newPoint (l : Launch) (D : va_G) (cA : Nat → ClassId) (ad : Nat → Nat) (a1 : Int) (h : ja_H) (Q : Option ja_V → ja_H → Prop) : Prop := ja_M l D cA ad mo_sp mo_K 2 yX12_newPoint cX12_newPoint 3 (some .int) [(2, ((0 : Nat) : Int)), (0, a1)] h Q
theorem mc_newPoint {a1 : Int} (hdd : 2 < d) (hwd : ja_wd S ≤ 8) (hd : decode cc pc = .ok (.invokevirtual 751, 3)) (k : mM_newPoint l D cA ad a1 h (fun r h' => mJ l D cA ad d cc nL rt (pc + 3) L (r.toList ++ S) h' Q)) : mJ l D cA ad d cc nL rt pc L ((0, a1) :: (2, ((0 : Nat) : Int)) :: S) h Q := by
  obtain ⟨m0, m1, m2, m3, m4⟩ := mo_mw (mo_pw5 13 (p := (751, 2, 33, 0, 7705)) rfl) rfl
  exact ja_callV (S := S) (vals := [(0, a1)]) (n := 1) (N := 209) (T := TX12) (ci := 12) (q := 0) m0 m2 m1 m3 rfl hdd (by decide) m4.1 m4.2.1 (by decide +kernel) (by decide +kernel) (by decide) rfl (show (1 : Nat) + 1 ≤ 3 by decide) hwd hd k
abbrev mM_paramRow (l : Launch) (D : va_G) (cA : Nat → ClassId) (ad : Nat → Nat) (h : ja_H) (Q : Option ja_V → ja_H → Prop) : Prop := ja_M l D cA ad mo_sp mo_K 4 yX12_paramRow cX12_paramRow 3 (some .boolean) [(2, ((0 : Nat) : Int))] h Q
theorem mc_paramRow (hdd : 4 < d) (hwd : ja_wd S ≤ 8) (hd : decode cc pc = .ok (.invokevirtual 754, 3)) (k : mM_paramRow l D cA ad  h (fun r h' => mJ l D cA ad d cc nL rt (pc + 3) L (r.toList ++ S) h' Q)) : mJ l D cA ad d cc nL rt pc L ((2, ((0 : Nat) : Int)) :: S) h Q := by
  obtain ⟨m0, m1, m2, m3, m4⟩ := mo_mw (mo_pw5 14 (p := (754, 2, 34, 0, 7709)) rfl) rfl
  exact ja_callV (S := S) (vals := []) (n := 0) (N := 209) (T := TX12) (ci := 12) (q := 0) m0 m2 m1 m3 rfl hdd (by decide) m4.1 m4.2.1 (by decide +kernel) (by decide +kernel) (by decide) rfl (show (0 : Nat) + 1 ≤ 3 by decide) hwd hd k
abbrev mM_param (l : Launch) (D : va_G) (cA : Nat → ClassId) (ad : Nat → Nat) (a1 : Int) (h : ja_H) (Q : Option ja_V → ja_H → Prop) : Prop := ja_M l D cA ad mo_sp mo_K 2 yX12_param cX12_param 3 none [(2, ((0 : Nat) : Int)), (0, a1)] h Q
theorem mc_param {a1 : Int} (hdd : 2 < d) (hwd : ja_wd S ≤ 8) (hd : decode cc pc = .ok (.invokevirtual 757, 3)) (k : mM_param l D cA ad a1 h (fun r h' => mJ l D cA ad d cc nL rt (pc + 3) L (r.toList ++ S) h' Q)) : mJ l D cA ad d cc nL rt pc L ((0, a1) :: (2, ((0 : Nat) : Int)) :: S) h Q := by
  obtain ⟨m0, m1, m2, m3, m4⟩ := mo_mw (mo_pw5 15 (p := (757, 2, 35, 0, 7713)) rfl) rfl
  exact ja_callV (S := S) (vals := [(0, a1)]) (n := 1) (N := 209) (T := TX12) (ci := 12) (q := 0) m0 m2 m1 m3 rfl hdd (by decide) m4.1 m4.2.1 (by decide +kernel) (by decide +kernel) (by decide) rfl (show (1 : Nat) + 1 ≤ 3 by decide) hwd hd k
abbrev mM_judge (l : Launch) (D : va_G) (cA : Nat → ClassId) (ad : Nat → Nat) (a1 a2 : Int) (h : ja_H) (Q : Option ja_V → ja_H → Prop) : Prop := ja_M l D cA ad mo_sp mo_K 1 yX12_judge cX12_judge 4 none [(2, ((0 : Nat) : Int)), (0, a1), (0, a2)] h Q
theorem mc_judge {a1 a2 : Int} (hdd : 1 < d) (hwd : ja_wd S ≤ 8) (hd : decode cc pc = .ok (.invokevirtual 719, 3)) (k : mM_judge l D cA ad a1 a2 h (fun r h' => mJ l D cA ad d cc nL rt (pc + 3) L (r.toList ++ S) h' Q)) : mJ l D cA ad d cc nL rt pc L ((0, a2) :: (0, a1) :: (2, ((0 : Nat) : Int)) :: S) h Q := by
  obtain ⟨m0, m1, m2, m3, m4⟩ := mo_mw (mo_pw5 3 (p := (719, 2, 36, 0, 7717)) rfl) rfl
  exact ja_callV (S := S) (vals := [(0, a1), (0, a2)]) (n := 2) (N := 209) (T := TX12) (ci := 12) (q := 0) m0 m2 m1 m3 rfl hdd (by decide) m4.1 m4.2.1 (by decide +kernel) (by decide +kernel) (by decide) rfl (show (2 : Nat) + 1 ≤ 4 by decide) hwd hd k
abbrev mM_block (l : Launch) (D : va_G) (cA : Nat → ClassId) (ad : Nat → Nat) (h : ja_H) (Q : Option ja_V → ja_H → Prop) : Prop := ja_M l D cA ad mo_sp mo_K 8 yX12_block cX12_block 1 (some .boolean) [(2, ((0 : Nat) : Int))] h Q
theorem mc_block (hdd : 8 < d) (hwd : ja_wd S ≤ 8) (hd : decode cc pc = .ok (.invokevirtual 729, 3)) (k : mM_block l D cA ad  h (fun r h' => mJ l D cA ad d cc nL rt (pc + 3) L (r.toList ++ S) h' Q)) : mJ l D cA ad d cc nL rt pc L ((2, ((0 : Nat) : Int)) :: S) h Q := by
  obtain ⟨m0, m1, m2, m3, m4⟩ := mo_mw (mo_pw5 6 (p := (729, 2, 37, 0, 7721)) rfl) rfl
  exact ja_callV (S := S) (vals := []) (n := 0) (N := 209) (T := TX12) (ci := 12) (q := 0) m0 m2 m1 m3 rfl hdd (by decide) m4.1 m4.2.1 (by decide +kernel) (by decide +kernel) (by decide) rfl (show (0 : Nat) + 1 ≤ 1 by decide) hwd hd k
abbrev mM_later (l : Launch) (D : va_G) (cA : Nat → ClassId) (ad : Nat → Nat) (a1 a2 a3 a4 : Int) (h : ja_H) (Q : Option ja_V → ja_H → Prop) : Prop := ja_M l D cA ad mo_sp mo_K 1 yX12_later cX12_later 5 (some .boolean) [(2, ((0 : Nat) : Int)), (0, a1), (0, a2), (0, a3), (0, a4)] h Q
theorem mc_later {a1 a2 a3 a4 : Int} (hdd : 1 < d) (hwd : ja_wd S ≤ 8) (hd : decode cc pc = .ok (.invokevirtual 790, 3)) (k : mM_later l D cA ad a1 a2 a3 a4 h (fun r h' => mJ l D cA ad d cc nL rt (pc + 3) L (r.toList ++ S) h' Q)) : mJ l D cA ad d cc nL rt pc L ((0, a4) :: (0, a3) :: (0, a2) :: (0, a1) :: (2, ((0 : Nat) : Int)) :: S) h Q := by
  obtain ⟨m0, m1, m2, m3, m4⟩ := mo_mw (mo_pw5 26 (p := (790, 2, 38, 0, 7725)) rfl) rfl
  exact ja_callV (S := S) (vals := [(0, a1), (0, a2), (0, a3), (0, a4)]) (n := 4) (N := 209) (T := TX12) (ci := 12) (q := 0) m0 m2 m1 m3 rfl hdd (by decide) m4.1 m4.2.1 (by decide +kernel) (by decide +kernel) (by decide) rfl (show (4 : Nat) + 1 ≤ 5 by decide) hwd hd k
abbrev mM_loop (l : Launch) (D : va_G) (cA : Nat → ClassId) (ad : Nat → Nat) (h : ja_H) (Q : Option ja_V → ja_H → Prop) : Prop := ja_M l D cA ad mo_sp mo_K 7 yX12_loop cX12_loop 3 (some .boolean) [(2, ((0 : Nat) : Int))] h Q
theorem mc_loop (hdd : 7 < d) (hwd : ja_wd S ≤ 8) (hd : decode cc pc = .ok (.invokevirtual 794, 3)) (k : mM_loop l D cA ad  h (fun r h' => mJ l D cA ad d cc nL rt (pc + 3) L (r.toList ++ S) h' Q)) : mJ l D cA ad d cc nL rt pc L ((2, ((0 : Nat) : Int)) :: S) h Q := by
  obtain ⟨m0, m1, m2, m3, m4⟩ := mo_mw (mo_pw5 27 (p := (794, 2, 39, 0, 7729)) rfl) rfl
  exact ja_callV (S := S) (vals := []) (n := 0) (N := 209) (T := TX12) (ci := 12) (q := 0) m0 m2 m1 m3 rfl hdd (by decide) m4.1 m4.2.1 (by decide +kernel) (by decide +kernel) (by decide) rfl (show (0 : Nat) + 1 ≤ 3 by decide) hwd hd k
abbrev mM_expressionAct (l : Launch) (D : va_G) (cA : Nat → ClassId) (ad : Nat → Nat) (a1 a2 a3 : Int) (h : ja_H) (Q : Option ja_V → ja_H → Prop) : Prop := ja_M l D cA ad mo_sp mo_K 5 yX12_expressionAct cX12_expressionAct 5 (some .boolean) [(2, ((0 : Nat) : Int)), (0, a1), (0, a2), (0, a3)] h Q
theorem mc_expressionAct {a1 a2 a3 : Int} (hdd : 5 < d) (hwd : ja_wd S ≤ 8) (hd : decode cc pc = .ok (.invokevirtual 797, 3)) (k : mM_expressionAct l D cA ad a1 a2 a3 h (fun r h' => mJ l D cA ad d cc nL rt (pc + 3) L (r.toList ++ S) h' Q)) : mJ l D cA ad d cc nL rt pc L ((0, a3) :: (0, a2) :: (0, a1) :: (2, ((0 : Nat) : Int)) :: S) h Q := by
  obtain ⟨m0, m1, m2, m3, m4⟩ := mo_mw (mo_pw5 28 (p := (797, 2, 40, 0, 7733)) rfl) rfl
  exact ja_callV (S := S) (vals := [(0, a1), (0, a2), (0, a3)]) (n := 3) (N := 209) (T := TX12) (ci := 12) (q := 0) m0 m2 m1 m3 rfl hdd (by decide) m4.1 m4.2.1 (by decide +kernel) (by decide +kernel) (by decide) rfl (show (3 : Nat) + 1 ≤ 5 by decide) hwd hd k
abbrev mM_expression (l : Launch) (D : va_G) (cA : Nat → ClassId) (ad : Nat → Nat) (a1 : Int) (h : ja_H) (Q : Option ja_V → ja_H → Prop) : Prop := ja_M l D cA ad mo_sp mo_K 3 yX12_expression cX12_expression 4 (some .boolean) [(2, ((0 : Nat) : Int)), (0, a1)] h Q
theorem mc_expression {a1 : Int} (hdd : 3 < d) (hwd : ja_wd S ≤ 8) (hd : decode cc pc = .ok (.invokevirtual 844, 3)) (k : mM_expression l D cA ad a1 h (fun r h' => mJ l D cA ad d cc nL rt (pc + 3) L (r.toList ++ S) h' Q)) : mJ l D cA ad d cc nL rt pc L ((0, a1) :: (2, ((0 : Nat) : Int)) :: S) h Q := by
  obtain ⟨m0, m1, m2, m3, m4⟩ := mo_mw (mo_pw6 3 (p := (844, 2, 41, 0, 7737)) rfl) rfl
  exact ja_callV (S := S) (vals := [(0, a1)]) (n := 1) (N := 209) (T := TX12) (ci := 12) (q := 0) m0 m2 m1 m3 rfl hdd (by decide) m4.1 m4.2.1 (by decide +kernel) (by decide +kernel) (by decide) rfl (show (1 : Nat) + 1 ≤ 4 by decide) hwd hd k
abbrev mM_beginsExpression (l : Launch) (D : va_G) (cA : Nat → ClassId) (ad : Nat → Nat) (h : ja_H) (Q : Option ja_V → ja_H → Prop) : Prop := ja_M l D cA ad mo_sp mo_K 2 yX12_beginsExpression cX12_beginsExpression 2 (some .boolean) [(2, ((0 : Nat) : Int))] h Q
theorem mc_beginsExpression (hdd : 2 < d) (hwd : ja_wd S ≤ 8) (hd : decode cc pc = .ok (.invokevirtual 808, 3)) (k : mM_beginsExpression l D cA ad  h (fun r h' => mJ l D cA ad d cc nL rt (pc + 3) L (r.toList ++ S) h' Q)) : mJ l D cA ad d cc nL rt pc L ((2, ((0 : Nat) : Int)) :: S) h Q := by
  obtain ⟨m0, m1, m2, m3, m4⟩ := mo_mw (mo_pw5 31 (p := (808, 2, 42, 0, 7741)) rfl) rfl
  exact ja_callV (S := S) (vals := []) (n := 0) (N := 209) (T := TX12) (ci := 12) (q := 0) m0 m2 m1 m3 rfl hdd (by decide) m4.1 m4.2.1 (by decide +kernel) (by decide +kernel) (by decide) rfl (show (0 : Nat) + 1 ≤ 2 by decide) hwd hd k
abbrev mM_enter (l : Launch) (D : va_G) (cA : Nat → ClassId) (ad : Nat → Nat) (h : ja_H) (Q : Option ja_V → ja_H → Prop) : Prop := ja_M l D cA ad mo_sp mo_K 2 yX12_enter cX12_enter 1 (some .boolean) [(2, ((0 : Nat) : Int))] h Q
theorem mc_enter (hdd : 2 < d) (hwd : ja_wd S ≤ 8) (hd : decode cc pc = .ok (.invokevirtual 814, 3)) (k : mM_enter l D cA ad  h (fun r h' => mJ l D cA ad d cc nL rt (pc + 3) L (r.toList ++ S) h' Q)) : mJ l D cA ad d cc nL rt pc L ((2, ((0 : Nat) : Int)) :: S) h Q := by
  obtain ⟨m0, m1, m2, m3, m4⟩ := mo_mw (mo_pw5 33 (p := (814, 2, 43, 0, 7745)) rfl) rfl
  exact ja_callV (S := S) (vals := []) (n := 0) (N := 209) (T := TX12) (ci := 12) (q := 0) m0 m2 m1 m3 rfl hdd (by decide) m4.1 m4.2.1 (by decide +kernel) (by decide +kernel) (by decide) rfl (show (0 : Nat) + 1 ≤ 1 by decide) hwd hd k
abbrev mM_operators (l : Launch) (D : va_G) (cA : Nat → ClassId) (ad : Nat → Nat) (a1 : Int) (h : ja_H) (Q : Option ja_V → ja_H → Prop) : Prop := ja_M l D cA ad mo_sp mo_K 3 yX12_operators cX12_operators 5 (some .boolean) [(2, ((0 : Nat) : Int)), (0, a1)] h Q
theorem mc_operators {a1 : Int} (hdd : 3 < d) (hwd : ja_wd S ≤ 8) (hd : decode cc pc = .ok (.invokevirtual 847, 3)) (k : mM_operators l D cA ad a1 h (fun r h' => mJ l D cA ad d cc nL rt (pc + 3) L (r.toList ++ S) h' Q)) : mJ l D cA ad d cc nL rt pc L ((0, a1) :: (2, ((0 : Nat) : Int)) :: S) h Q := by
  obtain ⟨m0, m1, m2, m3, m4⟩ := mo_mw (mo_pw6 4 (p := (847, 2, 44, 0, 7749)) rfl) rfl
  exact ja_callV (S := S) (vals := [(0, a1)]) (n := 1) (N := 209) (T := TX12) (ci := 12) (q := 0) m0 m2 m1 m3 rfl hdd (by decide) m4.1 m4.2.1 (by decide +kernel) (by decide +kernel) (by decide) rfl (show (1 : Nat) + 1 ≤ 5 by decide) hwd hd k
abbrev mM_strength (l : Launch) (D : va_G) (cA : Nat → ClassId) (ad : Nat → Nat) (h : ja_H) (Q : Option ja_V → ja_H → Prop) : Prop := ja_M l D cA ad mo_sp mo_K 2 yX12_strength cX12_strength 1 (some .int) [(2, ((0 : Nat) : Int))] h Q
theorem mc_strength (hdd : 2 < d) (hwd : ja_wd S ≤ 8) (hd : decode cc pc = .ok (.invokevirtual 862, 3)) (k : mM_strength l D cA ad  h (fun r h' => mJ l D cA ad d cc nL rt (pc + 3) L (r.toList ++ S) h' Q)) : mJ l D cA ad d cc nL rt pc L ((2, ((0 : Nat) : Int)) :: S) h Q := by
  obtain ⟨m0, m1, m2, m3, m4⟩ := mo_mw (mo_pw6 9 (p := (862, 2, 45, 0, 7753)) rfl) rfl
  exact ja_callV (S := S) (vals := []) (n := 0) (N := 209) (T := TX12) (ci := 12) (q := 0) m0 m2 m1 m3 rfl hdd (by decide) m4.1 m4.2.1 (by decide +kernel) (by decide +kernel) (by decide) rfl (show (0 : Nat) + 1 ≤ 1 by decide) hwd hd k
abbrev mM_emit (l : Launch) (D : va_G) (cA : Nat → ClassId) (ad : Nat → Nat) (a1 a2 a3 : Int) (h : ja_H) (Q : Option ja_V → ja_H → Prop) : Prop := ja_M l D cA ad mo_sp mo_K 1 yX12_emit cX12_emit 4 (some .int) [(2, ((0 : Nat) : Int)), (0, a1), (0, a2), (0, a3)] h Q
theorem mc_emit {a1 a2 a3 : Int} (hdd : 1 < d) (hwd : ja_wd S ≤ 8) (hd : decode cc pc = .ok (.invokevirtual 732, 3)) (k : mM_emit l D cA ad a1 a2 a3 h (fun r h' => mJ l D cA ad d cc nL rt (pc + 3) L (r.toList ++ S) h' Q)) : mJ l D cA ad d cc nL rt pc L ((0, a3) :: (0, a2) :: (0, a1) :: (2, ((0 : Nat) : Int)) :: S) h Q := by
  obtain ⟨m0, m1, m2, m3, m4⟩ := mo_mw (mo_pw5 7 (p := (732, 2, 46, 0, 7757)) rfl) rfl
  exact ja_callV (S := S) (vals := [(0, a1), (0, a2), (0, a3)]) (n := 3) (N := 209) (T := TX12) (ci := 12) (q := 0) m0 m2 m1 m3 rfl hdd (by decide) m4.1 m4.2.1 (by decide +kernel) (by decide +kernel) (by decide) rfl (show (3 : Nat) + 1 ≤ 4 by decide) hwd hd k
abbrev mM_operand (l : Launch) (D : va_G) (cA : Nat → ClassId) (ad : Nat → Nat) (h : ja_H) (Q : Option ja_V → ja_H → Prop) : Prop := ja_M l D cA ad mo_sp mo_K 4 yX12_operand cX12_operand 4 (some .boolean) [(2, ((0 : Nat) : Int))] h Q
theorem mc_operand (hdd : 4 < d) (hwd : ja_wd S ≤ 8) (hd : decode cc pc = .ok (.invokevirtual 850, 3)) (k : mM_operand l D cA ad  h (fun r h' => mJ l D cA ad d cc nL rt (pc + 3) L (r.toList ++ S) h' Q)) : mJ l D cA ad d cc nL rt pc L ((2, ((0 : Nat) : Int)) :: S) h Q := by
  obtain ⟨m0, m1, m2, m3, m4⟩ := mo_mw (mo_pw6 5 (p := (850, 2, 47, 0, 7761)) rfl) rfl
  exact ja_callV (S := S) (vals := []) (n := 0) (N := 209) (T := TX12) (ci := 12) (q := 0) m0 m2 m1 m3 rfl hdd (by decide) m4.1 m4.2.1 (by decide +kernel) (by decide +kernel) (by decide) rfl (show (0 : Nat) + 1 ≤ 4 by decide) hwd hd k
abbrev mM_load (l : Launch) (D : va_G) (cA : Nat → ClassId) (ad : Nat → Nat) (a1 : Int) (h : ja_H) (Q : Option ja_V → ja_H → Prop) : Prop := ja_M l D cA ad mo_sp mo_K 2 yX12_load cX12_load 5 none [(2, ((0 : Nat) : Int)), (0, a1)] h Q
theorem mc_load {a1 : Int} (hdd : 2 < d) (hwd : ja_wd S ≤ 8) (hd : decode cc pc = .ok (.invokevirtual 866, 3)) (k : mM_load l D cA ad a1 h (fun r h' => mJ l D cA ad d cc nL rt (pc + 3) L (r.toList ++ S) h' Q)) : mJ l D cA ad d cc nL rt pc L ((0, a1) :: (2, ((0 : Nat) : Int)) :: S) h Q := by
  obtain ⟨m0, m1, m2, m3, m4⟩ := mo_mw (mo_pw6 10 (p := (866, 2, 48, 0, 7765)) rfl) rfl
  exact ja_callV (S := S) (vals := [(0, a1)]) (n := 1) (N := 209) (T := TX12) (ci := 12) (q := 0) m0 m2 m1 m3 rfl hdd (by decide) m4.1 m4.2.1 (by decide +kernel) (by decide +kernel) (by decide) rfl (show (1 : Nat) + 1 ≤ 5 by decide) hwd hd k
abbrev mM_want (l : Launch) (D : va_G) (cA : Nat → ClassId) (ad : Nat → Nat) (a1 a2 a3 : Int) (h : ja_H) (Q : Option ja_V → ja_H → Prop) : Prop := ja_M l D cA ad mo_sp mo_K 1 yX12_want cX12_want 4 none [(2, ((0 : Nat) : Int)), (0, a1), (0, a2), (0, a3)] h Q
theorem mc_want {a1 a2 a3 : Int} (hdd : 1 < d) (hwd : ja_wd S ≤ 8) (hd : decode cc pc = .ok (.invokevirtual 783, 3)) (k : mM_want l D cA ad a1 a2 a3 h (fun r h' => mJ l D cA ad d cc nL rt (pc + 3) L (r.toList ++ S) h' Q)) : mJ l D cA ad d cc nL rt pc L ((0, a3) :: (0, a2) :: (0, a1) :: (2, ((0 : Nat) : Int)) :: S) h Q := by
  obtain ⟨m0, m1, m2, m3, m4⟩ := mo_mw (mo_pw5 24 (p := (783, 2, 49, 0, 7769)) rfl) rfl
  exact ja_callV (S := S) (vals := [(0, a1), (0, a2), (0, a3)]) (n := 3) (N := 209) (T := TX12) (ci := 12) (q := 0) m0 m2 m1 m3 rfl hdd (by decide) m4.1 m4.2.1 (by decide +kernel) (by decide +kernel) (by decide) rfl (show (3 : Nat) + 1 ≤ 4 by decide) hwd hd k
abbrev mM_tail (l : Launch) (D : va_G) (cA : Nat → ClassId) (ad : Nat → Nat) (h : ja_H) (Q : Option ja_V → ja_H → Prop) : Prop := ja_M l D cA ad mo_sp mo_K 4 yX12_tail cX12_tail 3 (some .boolean) [(2, ((0 : Nat) : Int))] h Q
theorem mc_tail (hdd : 4 < d) (hwd : ja_wd S ≤ 8) (hd : decode cc pc = .ok (.invokevirtual 853, 3)) (k : mM_tail l D cA ad  h (fun r h' => mJ l D cA ad d cc nL rt (pc + 3) L (r.toList ++ S) h' Q)) : mJ l D cA ad d cc nL rt pc L ((2, ((0 : Nat) : Int)) :: S) h Q := by
  obtain ⟨m0, m1, m2, m3, m4⟩ := mo_mw (mo_pw6 6 (p := (853, 2, 50, 0, 7773)) rfl) rfl
  exact ja_callV (S := S) (vals := []) (n := 0) (N := 209) (T := TX12) (ci := 12) (q := 0) m0 m2 m1 m3 rfl hdd (by decide) m4.1 m4.2.1 (by decide +kernel) (by decide +kernel) (by decide) rfl (show (0 : Nat) + 1 ≤ 3 by decide) hwd hd k
abbrev mM_argument (l : Launch) (D : va_G) (cA : Nat → ClassId) (ad : Nat → Nat) (a1 : Int) (h : ja_H) (Q : Option ja_V → ja_H → Prop) : Prop := ja_M l D cA ad mo_sp mo_K 4 yX12_argument cX12_argument 2 (some .boolean) [(2, ((0 : Nat) : Int)), (0, a1)] h Q
theorem mc_argument {a1 : Int} (hdd : 4 < d) (hwd : ja_wd S ≤ 8) (hd : decode cc pc = .ok (.invokevirtual 859, 3)) (k : mM_argument l D cA ad a1 h (fun r h' => mJ l D cA ad d cc nL rt (pc + 3) L (r.toList ++ S) h' Q)) : mJ l D cA ad d cc nL rt pc L ((0, a1) :: (2, ((0 : Nat) : Int)) :: S) h Q := by
  obtain ⟨m0, m1, m2, m3, m4⟩ := mo_mw (mo_pw6 8 (p := (859, 2, 51, 0, 7777)) rfl) rfl
  exact ja_callV (S := S) (vals := [(0, a1)]) (n := 1) (N := 209) (T := TX12) (ci := 12) (q := 0) m0 m2 m1 m3 rfl hdd (by decide) m4.1 m4.2.1 (by decide +kernel) (by decide +kernel) (by decide) rfl (show (1 : Nat) + 1 ≤ 2 by decide) hwd hd k
abbrev mM_pickAct (l : Launch) (D : va_G) (cA : Nat → ClassId) (ad : Nat → Nat) (a1 a2 : Int) (h : ja_H) (Q : Option ja_V → ja_H → Prop) : Prop := ja_M l D cA ad mo_sp mo_K 6 yX12_pickAct cX12_pickAct 8 (some .boolean) [(2, ((0 : Nat) : Int)), (0, a1), (0, a2)] h Q
theorem mc_pickAct {a1 a2 : Int} (hdd : 6 < d) (hwd : ja_wd S ≤ 8) (hd : decode cc pc = .ok (.invokevirtual 801, 3)) (k : mM_pickAct l D cA ad a1 a2 h (fun r h' => mJ l D cA ad d cc nL rt (pc + 3) L (r.toList ++ S) h' Q)) : mJ l D cA ad d cc nL rt pc L ((0, a2) :: (0, a1) :: (2, ((0 : Nat) : Int)) :: S) h Q := by
  obtain ⟨m0, m1, m2, m3, m4⟩ := mo_mw (mo_pw5 29 (p := (801, 2, 52, 0, 7781)) rfl) rfl
  exact ja_callV (S := S) (vals := [(0, a1), (0, a2)]) (n := 2) (N := 209) (T := TX12) (ci := 12) (q := 0) m0 m2 m1 m3 rfl hdd (by decide) m4.1 m4.2.1 (by decide +kernel) (by decide +kernel) (by decide) rfl (show (2 : Nat) + 1 ≤ 8 by decide) hwd hd k
abbrev mM_beginsPick (l : Launch) (D : va_G) (cA : Nat → ClassId) (ad : Nat → Nat) (h : ja_H) (Q : Option ja_V → ja_H → Prop) : Prop := ja_M l D cA ad mo_sp mo_K 2 yX12_beginsPick cX12_beginsPick 3 (some .boolean) [(2, ((0 : Nat) : Int))] h Q
theorem mc_beginsPick (hdd : 2 < d) (hwd : ja_wd S ≤ 8) (hd : decode cc pc = .ok (.invokevirtual 869, 3)) (k : mM_beginsPick l D cA ad  h (fun r h' => mJ l D cA ad d cc nL rt (pc + 3) L (r.toList ++ S) h' Q)) : mJ l D cA ad d cc nL rt pc L ((2, ((0 : Nat) : Int)) :: S) h Q := by
  obtain ⟨m0, m1, m2, m3, m4⟩ := mo_mw (mo_pw6 11 (p := (869, 2, 53, 0, 7785)) rfl) rfl
  exact ja_callV (S := S) (vals := []) (n := 0) (N := 209) (T := TX12) (ci := 12) (q := 0) m0 m2 m1 m3 rfl hdd (by decide) m4.1 m4.2.1 (by decide +kernel) (by decide +kernel) (by decide) rfl (show (0 : Nat) + 1 ≤ 3 by decide) hwd hd k
abbrev mM_single (l : Launch) (D : va_G) (cA : Nat → ClassId) (ad : Nat → Nat) (h : ja_H) (Q : Option ja_V → ja_H → Prop) : Prop := ja_M l D cA ad mo_sp mo_K 5 yX12_single cX12_single 5 (some .boolean) [(2, ((0 : Nat) : Int))] h Q
theorem mc_single (hdd : 5 < d) (hwd : ja_wd S ≤ 8) (hd : decode cc pc = .ok (.invokevirtual 872, 3)) (k : mM_single l D cA ad  h (fun r h' => mJ l D cA ad d cc nL rt (pc + 3) L (r.toList ++ S) h' Q)) : mJ l D cA ad d cc nL rt pc L ((2, ((0 : Nat) : Int)) :: S) h Q := by
  obtain ⟨m0, m1, m2, m3, m4⟩ := mo_mw (mo_pw6 12 (p := (872, 2, 54, 0, 7789)) rfl) rfl
  exact ja_callV (S := S) (vals := []) (n := 0) (N := 209) (T := TX12) (ci := 12) (q := 0) m0 m2 m1 m3 rfl hdd (by decide) m4.1 m4.2.1 (by decide +kernel) (by decide +kernel) (by decide) rfl (show (0 : Nat) + 1 ≤ 5 by decide) hwd hd k
abbrev mM_use (l : Launch) (D : va_G) (cA : Nat → ClassId) (ad : Nat → Nat) (h : ja_H) (Q : Option ja_V → ja_H → Prop) : Prop := ja_M l D cA ad mo_sp mo_K 4 yX12_use cX12_use 5 (some .boolean) [(2, ((0 : Nat) : Int))] h Q
theorem mc_use (hdd : 4 < d) (hwd : ja_wd S ≤ 8) (hd : decode cc pc = .ok (.invokevirtual 891, 3)) (k : mM_use l D cA ad  h (fun r h' => mJ l D cA ad d cc nL rt (pc + 3) L (r.toList ++ S) h' Q)) : mJ l D cA ad d cc nL rt pc L ((2, ((0 : Nat) : Int)) :: S) h Q := by
  obtain ⟨m0, m1, m2, m3, m4⟩ := mo_mw (mo_pw6 18 (p := (891, 2, 55, 0, 7793)) rfl) rfl
  exact ja_callV (S := S) (vals := []) (n := 0) (N := 209) (T := TX12) (ci := 12) (q := 0) m0 m2 m1 m3 rfl hdd (by decide) m4.1 m4.2.1 (by decide +kernel) (by decide +kernel) (by decide) rfl (show (0 : Nat) + 1 ≤ 5 by decide) hwd hd k
abbrev mM_node (l : Launch) (D : va_G) (cA : Nat → ClassId) (ad : Nat → Nat) (a1 a2 a3 a4 : Int) (h : ja_H) (Q : Option ja_V → ja_H → Prop) : Prop := ja_M l D cA ad mo_sp mo_K 1 yX12_node cX12_node 6 (some .int) [(2, ((0 : Nat) : Int)), (0, a1), (0, a2), (0, a3), (0, a4)] h Q
theorem mc_node {a1 a2 a3 a4 : Int} (hdd : 1 < d) (hwd : ja_wd S ≤ 8) (hd : decode cc pc = .ok (.invokevirtual 878, 3)) (k : mM_node l D cA ad a1 a2 a3 a4 h (fun r h' => mJ l D cA ad d cc nL rt (pc + 3) L (r.toList ++ S) h' Q)) : mJ l D cA ad d cc nL rt pc L ((0, a4) :: (0, a3) :: (0, a2) :: (0, a1) :: (2, ((0 : Nat) : Int)) :: S) h Q := by
  obtain ⟨m0, m1, m2, m3, m4⟩ := mo_mw (mo_pw6 14 (p := (878, 2, 56, 0, 7797)) rfl) rfl
  exact ja_callV (S := S) (vals := [(0, a1), (0, a2), (0, a3), (0, a4)]) (n := 4) (N := 209) (T := TX12) (ci := 12) (q := 0) m0 m2 m1 m3 rfl hdd (by decide) m4.1 m4.2.1 (by decide +kernel) (by decide +kernel) (by decide) rfl (show (4 : Nat) + 1 ≤ 6 by decide) hwd hd k
abbrev mM_paramOf (l : Launch) (D : va_G) (cA : Nat → ClassId) (ad : Nat → Nat) (a1 : Int) (h : ja_H) (Q : Option ja_V → ja_H → Prop) : Prop := ja_M l D cA ad mo_sp mo_K 2 yX12_paramOf cX12_paramOf 3 (some .int) [(2, ((0 : Nat) : Int)), (0, a1)] h Q
theorem mc_paramOf {a1 : Int} (hdd : 2 < d) (hwd : ja_wd S ≤ 8) (hd : decode cc pc = .ok (.invokevirtual 885, 3)) (k : mM_paramOf l D cA ad a1 h (fun r h' => mJ l D cA ad d cc nL rt (pc + 3) L (r.toList ++ S) h' Q)) : mJ l D cA ad d cc nL rt pc L ((0, a1) :: (2, ((0 : Nat) : Int)) :: S) h Q := by
  obtain ⟨m0, m1, m2, m3, m4⟩ := mo_mw (mo_pw6 16 (p := (885, 2, 57, 0, 7801)) rfl) rfl
  exact ja_callV (S := S) (vals := [(0, a1)]) (n := 1) (N := 209) (T := TX12) (ci := 12) (q := 0) m0 m2 m1 m3 rfl hdd (by decide) m4.1 m4.2.1 (by decide +kernel) (by decide +kernel) (by decide) rfl (show (1 : Nat) + 1 ≤ 3 by decide) hwd hd k
abbrev mM_bind (l : Launch) (D : va_G) (cA : Nat → ClassId) (ad : Nat → Nat) (a1 a2 a3 : Int) (h : ja_H) (Q : Option ja_V → ja_H → Prop) : Prop := ja_M l D cA ad mo_sp mo_K 2 yX12_bind cX12_bind 4 none [(2, ((0 : Nat) : Int)), (0, a1), (0, a2), (0, a3)] h Q
theorem mc_bind {a1 a2 a3 : Int} (hdd : 2 < d) (hwd : ja_wd S ≤ 8) (hd : decode cc pc = .ok (.invokevirtual 888, 3)) (k : mM_bind l D cA ad a1 a2 a3 h (fun r h' => mJ l D cA ad d cc nL rt (pc + 3) L (r.toList ++ S) h' Q)) : mJ l D cA ad d cc nL rt pc L ((0, a3) :: (0, a2) :: (0, a1) :: (2, ((0 : Nat) : Int)) :: S) h Q := by
  obtain ⟨m0, m1, m2, m3, m4⟩ := mo_mw (mo_pw6 17 (p := (888, 2, 58, 0, 7805)) rfl) rfl
  exact ja_callV (S := S) (vals := [(0, a1), (0, a2), (0, a3)]) (n := 3) (N := 209) (T := TX12) (ci := 12) (q := 0) m0 m2 m1 m3 rfl hdd (by decide) m4.1 m4.2.1 (by decide +kernel) (by decide +kernel) (by decide) rfl (show (3 : Nat) + 1 ≤ 4 by decide) hwd hd k
abbrev mM_leaf (l : Launch) (D : va_G) (cA : Nat → ClassId) (ad : Nat → Nat) (a1 : Int) (h : ja_H) (Q : Option ja_V → ja_H → Prop) : Prop := ja_M l D cA ad mo_sp mo_K 1 yX12_leaf cX12_leaf 2 (some .boolean) [(2, ((0 : Nat) : Int)), (0, a1)] h Q
theorem mc_leaf {a1 : Int} (hdd : 1 < d) (hwd : ja_wd S ≤ 8) (hd : decode cc pc = .ok (.invokevirtual 882, 3)) (k : mM_leaf l D cA ad a1 h (fun r h' => mJ l D cA ad d cc nL rt (pc + 3) L (r.toList ++ S) h' Q)) : mJ l D cA ad d cc nL rt pc L ((0, a1) :: (2, ((0 : Nat) : Int)) :: S) h Q := by
  obtain ⟨m0, m1, m2, m3, m4⟩ := mo_mw (mo_pw6 15 (p := (882, 2, 59, 0, 7809)) rfl) rfl
  exact ja_callV (S := S) (vals := [(0, a1)]) (n := 1) (N := 209) (T := TX12) (ci := 12) (q := 0) m0 m2 m1 m3 rfl hdd (by decide) m4.1 m4.2.1 (by decide +kernel) (by decide +kernel) (by decide) rfl (show (1 : Nat) + 1 ≤ 2 by decide) hwd hd k
abbrev mM_named (l : Launch) (D : va_G) (cA : Nat → ClassId) (ad : Nat → Nat) (a1 a2 : Int) (h : ja_H) (Q : Option ja_V → ja_H → Prop) : Prop := ja_M l D cA ad mo_sp mo_K 3 yX12_named cX12_named 4 (some .int) [(2, ((0 : Nat) : Int)), (0, a1), (0, a2)] h Q
theorem mc_named {a1 a2 : Int} (hdd : 3 < d) (hwd : ja_wd S ≤ 8) (hd : decode cc pc = .ok (.invokevirtual 894, 3)) (k : mM_named l D cA ad a1 a2 h (fun r h' => mJ l D cA ad d cc nL rt (pc + 3) L (r.toList ++ S) h' Q)) : mJ l D cA ad d cc nL rt pc L ((0, a2) :: (0, a1) :: (2, ((0 : Nat) : Int)) :: S) h Q := by
  obtain ⟨m0, m1, m2, m3, m4⟩ := mo_mw (mo_pw6 19 (p := (894, 2, 60, 0, 7813)) rfl) rfl
  exact ja_callV (S := S) (vals := [(0, a1), (0, a2)]) (n := 2) (N := 209) (T := TX12) (ci := 12) (q := 0) m0 m2 m1 m3 rfl hdd (by decide) m4.1 m4.2.1 (by decide +kernel) (by decide +kernel) (by decide) rfl (show (2 : Nat) + 1 ≤ 4 by decide) hwd hd k
abbrev mM_args (l : Launch) (D : va_G) (cA : Nat → ClassId) (ad : Nat → Nat) (h : ja_H) (Q : Option ja_V → ja_H → Prop) : Prop := ja_M l D cA ad mo_sp mo_K 4 yX12_args cX12_args 4 (some .boolean) [(2, ((0 : Nat) : Int))] h Q
theorem mc_args (hdd : 4 < d) (hwd : ja_wd S ≤ 8) (hd : decode cc pc = .ok (.invokevirtual 897, 3)) (k : mM_args l D cA ad  h (fun r h' => mJ l D cA ad d cc nL rt (pc + 3) L (r.toList ++ S) h' Q)) : mJ l D cA ad d cc nL rt pc L ((2, ((0 : Nat) : Int)) :: S) h Q := by
  obtain ⟨m0, m1, m2, m3, m4⟩ := mo_mw (mo_pw6 20 (p := (897, 2, 61, 0, 7817)) rfl) rfl
  exact ja_callV (S := S) (vals := []) (n := 0) (N := 209) (T := TX12) (ci := 12) (q := 0) m0 m2 m1 m3 rfl hdd (by decide) m4.1 m4.2.1 (by decide +kernel) (by decide +kernel) (by decide) rfl (show (0 : Nat) + 1 ≤ 4 by decide) hwd hd k
abbrev mM_pattern (l : Launch) (D : va_G) (cA : Nat → ClassId) (ad : Nat → Nat) (a1 : Int) (h : ja_H) (Q : Option ja_V → ja_H → Prop) : Prop := ja_M l D cA ad mo_sp mo_K 3 yX12_pattern cX12_pattern 9 (some .boolean) [(2, ((0 : Nat) : Int)), (0, a1)] h Q
theorem mc_pattern {a1 : Int} (hdd : 3 < d) (hwd : ja_wd S ≤ 8) (hd : decode cc pc = .ok (.invokevirtual 900, 3)) (k : mM_pattern l D cA ad a1 h (fun r h' => mJ l D cA ad d cc nL rt (pc + 3) L (r.toList ++ S) h' Q)) : mJ l D cA ad d cc nL rt pc L ((0, a1) :: (2, ((0 : Nat) : Int)) :: S) h Q := by
  obtain ⟨m0, m1, m2, m3, m4⟩ := mo_mw (mo_pw6 21 (p := (900, 2, 62, 0, 7821)) rfl) rfl
  exact ja_callV (S := S) (vals := [(0, a1)]) (n := 1) (N := 209) (T := TX12) (ci := 12) (q := 0) m0 m2 m1 m3 rfl hdd (by decide) m4.1 m4.2.1 (by decide +kernel) (by decide +kernel) (by decide) rfl (show (1 : Nat) + 1 ≤ 9 by decide) hwd hd k
abbrev mM_joined (l : Launch) (D : va_G) (cA : Nat → ClassId) (ad : Nat → Nat) (a1 : Int) (h : ja_H) (Q : Option ja_V → ja_H → Prop) : Prop := ja_M l D cA ad mo_sp mo_K 2 yX12_joined cX12_joined 6 (some .boolean) [(2, ((0 : Nat) : Int)), (0, a1)] h Q
theorem mc_joined {a1 : Int} (hdd : 2 < d) (hwd : ja_wd S ≤ 8) (hd : decode cc pc = .ok (.invokevirtual 875, 3)) (k : mM_joined l D cA ad a1 h (fun r h' => mJ l D cA ad d cc nL rt (pc + 3) L (r.toList ++ S) h' Q)) : mJ l D cA ad d cc nL rt pc L ((0, a1) :: (2, ((0 : Nat) : Int)) :: S) h Q := by
  obtain ⟨m0, m1, m2, m3, m4⟩ := mo_mw (mo_pw6 13 (p := (875, 2, 63, 0, 7825)) rfl) rfl
  exact ja_callV (S := S) (vals := [(0, a1)]) (n := 1) (N := 209) (T := TX12) (ci := 12) (q := 0) m0 m2 m1 m3 rfl hdd (by decide) m4.1 m4.2.1 (by decide +kernel) (by decide +kernel) (by decide) rfl (show (1 : Nat) + 1 ≤ 6 by decide) hwd hd k
abbrev mM_stateAct (l : Launch) (D : va_G) (cA : Nat → ClassId) (ad : Nat → Nat) (a1 a2 a3 : Int) (h : ja_H) (Q : Option ja_V → ja_H → Prop) : Prop := ja_M l D cA ad mo_sp mo_K 5 yX12_stateAct cX12_stateAct 5 (some .boolean) [(2, ((0 : Nat) : Int)), (0, a1), (0, a2), (0, a3)] h Q
theorem mc_stateAct {a1 a2 a3 : Int} (hdd : 5 < d) (hwd : ja_wd S ≤ 8) (hd : decode cc pc = .ok (.invokevirtual 805, 3)) (k : mM_stateAct l D cA ad a1 a2 a3 h (fun r h' => mJ l D cA ad d cc nL rt (pc + 3) L (r.toList ++ S) h' Q)) : mJ l D cA ad d cc nL rt pc L ((0, a3) :: (0, a2) :: (0, a1) :: (2, ((0 : Nat) : Int)) :: S) h Q := by
  obtain ⟨m0, m1, m2, m3, m4⟩ := mo_mw (mo_pw5 30 (p := (805, 2, 64, 0, 7829)) rfl) rfl
  exact ja_callV (S := S) (vals := [(0, a1), (0, a2), (0, a3)]) (n := 3) (N := 209) (T := TX12) (ci := 12) (q := 0) m0 m2 m1 m3 rfl hdd (by decide) m4.1 m4.2.1 (by decide +kernel) (by decide +kernel) (by decide) rfl (show (3 : Nat) + 1 ≤ 5 by decide) hwd hd k
abbrev mM_beginsState (l : Launch) (D : va_G) (cA : Nat → ClassId) (ad : Nat → Nat) (h : ja_H) (Q : Option ja_V → ja_H → Prop) : Prop := ja_M l D cA ad mo_sp mo_K 3 yX12_beginsState cX12_beginsState 1 (some .boolean) [(2, ((0 : Nat) : Int))] h Q
theorem mc_beginsState (hdd : 3 < d) (hwd : ja_wd S ≤ 8) (hd : decode cc pc = .ok (.invokevirtual 811, 3)) (k : mM_beginsState l D cA ad  h (fun r h' => mJ l D cA ad d cc nL rt (pc + 3) L (r.toList ++ S) h' Q)) : mJ l D cA ad d cc nL rt pc L ((2, ((0 : Nat) : Int)) :: S) h Q := by
  obtain ⟨m0, m1, m2, m3, m4⟩ := mo_mw (mo_pw5 32 (p := (811, 2, 65, 0, 7833)) rfl) rfl
  exact ja_callV (S := S) (vals := []) (n := 0) (N := 209) (T := TX12) (ci := 12) (q := 0) m0 m2 m1 m3 rfl hdd (by decide) m4.1 m4.2.1 (by decide +kernel) (by decide +kernel) (by decide) rfl (show (0 : Nat) + 1 ≤ 1 by decide) hwd hd k
abbrev mM_state (l : Launch) (D : va_G) (cA : Nat → ClassId) (ad : Nat → Nat) (h : ja_H) (Q : Option ja_V → ja_H → Prop) : Prop := ja_M l D cA ad mo_sp mo_K 4 yX12_state cX12_state 3 (some .boolean) [(2, ((0 : Nat) : Int))] h Q
theorem mc_state (hdd : 4 < d) (hwd : ja_wd S ≤ 8) (hd : decode cc pc = .ok (.invokevirtual 817, 3)) (k : mM_state l D cA ad  h (fun r h' => mJ l D cA ad d cc nL rt (pc + 3) L (r.toList ++ S) h' Q)) : mJ l D cA ad d cc nL rt pc L ((2, ((0 : Nat) : Int)) :: S) h Q := by
  obtain ⟨m0, m1, m2, m3, m4⟩ := mo_mw (mo_pw5 34 (p := (817, 2, 66, 0, 7837)) rfl) rfl
  exact ja_callV (S := S) (vals := []) (n := 0) (N := 209) (T := TX12) (ci := 12) (q := 0) m0 m2 m1 m3 rfl hdd (by decide) m4.1 m4.2.1 (by decide +kernel) (by decide +kernel) (by decide) rfl (show (0 : Nat) + 1 ≤ 3 by decide) hwd hd k
abbrev mM_simple (l : Launch) (D : va_G) (cA : Nat → ClassId) (ad : Nat → Nat) (a1 : Int) (h : ja_H) (Q : Option ja_V → ja_H → Prop) : Prop := ja_M l D cA ad mo_sp mo_K 3 yX12_simple cX12_simple 2 (some .boolean) [(2, ((0 : Nat) : Int)), (0, a1)] h Q
theorem mc_simple {a1 : Int} (hdd : 3 < d) (hwd : ja_wd S ≤ 8) (hd : decode cc pc = .ok (.invokevirtual 835, 3)) (k : mM_simple l D cA ad a1 h (fun r h' => mJ l D cA ad d cc nL rt (pc + 3) L (r.toList ++ S) h' Q)) : mJ l D cA ad d cc nL rt pc L ((0, a1) :: (2, ((0 : Nat) : Int)) :: S) h Q := by
  obtain ⟨m0, m1, m2, m3, m4⟩ := mo_mw (mo_pw6 0 (p := (835, 2, 67, 0, 7841)) rfl) rfl
  exact ja_callV (S := S) (vals := [(0, a1)]) (n := 1) (N := 209) (T := TX12) (ci := 12) (q := 0) m0 m2 m1 m3 rfl hdd (by decide) m4.1 m4.2.1 (by decide +kernel) (by decide +kernel) (by decide) rfl (show (1 : Nat) + 1 ≤ 2 by decide) hwd hd k
abbrev mM_know (l : Launch) (D : va_G) (cA : Nat → ClassId) (ad : Nat → Nat) (a1 : Int) (h : ja_H) (Q : Option ja_V → ja_H → Prop) : Prop := ja_M l D cA ad mo_sp mo_K 2 yX12_know cX12_know 3 none [(2, ((0 : Nat) : Int)), (0, a1)] h Q
theorem mc_know {a1 : Int} (hdd : 2 < d) (hwd : ja_wd S ≤ 8) (hd : decode cc pc = .ok (.invokevirtual 820, 3)) (k : mM_know l D cA ad a1 h (fun r h' => mJ l D cA ad d cc nL rt (pc + 3) L (r.toList ++ S) h' Q)) : mJ l D cA ad d cc nL rt pc L ((0, a1) :: (2, ((0 : Nat) : Int)) :: S) h Q := by
  obtain ⟨m0, m1, m2, m3, m4⟩ := mo_mw (mo_pw5 35 (p := (820, 2, 68, 0, 7845)) rfl) rfl
  exact ja_callV (S := S) (vals := [(0, a1)]) (n := 1) (N := 209) (T := TX12) (ci := 12) (q := 0) m0 m2 m1 m3 rfl hdd (by decide) m4.1 m4.2.1 (by decide +kernel) (by decide +kernel) (by decide) rfl (show (1 : Nat) + 1 ≤ 3 by decide) hwd hd k
abbrev mM_evaluated (l : Launch) (D : va_G) (cA : Nat → ClassId) (ad : Nat → Nat) (h : ja_H) (Q : Option ja_V → ja_H → Prop) : Prop := ja_M l D cA ad mo_sp mo_K 3 yX12_evaluated cX12_evaluated 3 (some .boolean) [(2, ((0 : Nat) : Int))] h Q
theorem mc_evaluated (hdd : 3 < d) (hwd : ja_wd S ≤ 8) (hd : decode cc pc = .ok (.invokevirtual 823, 3)) (k : mM_evaluated l D cA ad  h (fun r h' => mJ l D cA ad d cc nL rt (pc + 3) L (r.toList ++ S) h' Q)) : mJ l D cA ad d cc nL rt pc L ((2, ((0 : Nat) : Int)) :: S) h Q := by
  obtain ⟨m0, m1, m2, m3, m4⟩ := mo_mw (mo_pw5 36 (p := (823, 2, 69, 0, 7849)) rfl) rfl
  exact ja_callV (S := S) (vals := []) (n := 0) (N := 209) (T := TX12) (ci := 12) (q := 0) m0 m2 m1 m3 rfl hdd (by decide) m4.1 m4.2.1 (by decide +kernel) (by decide +kernel) (by decide) rfl (show (0 : Nat) + 1 ≤ 3 by decide) hwd hd k
abbrev mM_assigned (l : Launch) (D : va_G) (cA : Nat → ClassId) (ad : Nat → Nat) (a1 a2 : Int) (h : ja_H) (Q : Option ja_V → ja_H → Prop) : Prop := ja_M l D cA ad mo_sp mo_K 2 yX12_assigned cX12_assigned 3 (some .boolean) [(2, ((0 : Nat) : Int)), (0, a1), (0, a2)] h Q
theorem mc_assigned {a1 a2 : Int} (hdd : 2 < d) (hwd : ja_wd S ≤ 8) (hd : decode cc pc = .ok (.invokevirtual 826, 3)) (k : mM_assigned l D cA ad a1 a2 h (fun r h' => mJ l D cA ad d cc nL rt (pc + 3) L (r.toList ++ S) h' Q)) : mJ l D cA ad d cc nL rt pc L ((0, a2) :: (0, a1) :: (2, ((0 : Nat) : Int)) :: S) h Q := by
  obtain ⟨m0, m1, m2, m3, m4⟩ := mo_mw (mo_pw5 37 (p := (826, 2, 70, 0, 7853)) rfl) rfl
  exact ja_callV (S := S) (vals := [(0, a1), (0, a2)]) (n := 2) (N := 209) (T := TX12) (ci := 12) (q := 0) m0 m2 m1 m3 rfl hdd (by decide) m4.1 m4.2.1 (by decide +kernel) (by decide +kernel) (by decide) rfl (show (2 : Nat) + 1 ≤ 3 by decide) hwd hd k
abbrev mM_otherwise (l : Launch) (D : va_G) (cA : Nat → ClassId) (ad : Nat → Nat) (a1 : Int) (h : ja_H) (Q : Option ja_V → ja_H → Prop) : Prop := ja_M l D cA ad mo_sp mo_K 3 yX12_otherwise cX12_otherwise 5 (some .boolean) [(2, ((0 : Nat) : Int)), (0, a1)] h Q
theorem mc_otherwise {a1 : Int} (hdd : 3 < d) (hwd : ja_wd S ≤ 8) (hd : decode cc pc = .ok (.invokevirtual 829, 3)) (k : mM_otherwise l D cA ad a1 h (fun r h' => mJ l D cA ad d cc nL rt (pc + 3) L (r.toList ++ S) h' Q)) : mJ l D cA ad d cc nL rt pc L ((0, a1) :: (2, ((0 : Nat) : Int)) :: S) h Q := by
  obtain ⟨m0, m1, m2, m3, m4⟩ := mo_mw (mo_pw5 38 (p := (829, 2, 71, 0, 7857)) rfl) rfl
  exact ja_callV (S := S) (vals := [(0, a1)]) (n := 1) (N := 209) (T := TX12) (ci := 12) (q := 0) m0 m2 m1 m3 rfl hdd (by decide) m4.1 m4.2.1 (by decide +kernel) (by decide +kernel) (by decide) rfl (show (1 : Nat) + 1 ≤ 5 by decide) hwd hd k
abbrev mM_tried (l : Launch) (D : va_G) (cA : Nat → ClassId) (ad : Nat → Nat) (a1 : Int) (h : ja_H) (Q : Option ja_V → ja_H → Prop) : Prop := ja_M l D cA ad mo_sp mo_K 4 yX12_tried cX12_tried 8 (some .boolean) [(2, ((0 : Nat) : Int)), (0, a1)] h Q
theorem mc_tried {a1 : Int} (hdd : 4 < d) (hwd : ja_wd S ≤ 8) (hd : decode cc pc = .ok (.invokevirtual 832, 3)) (k : mM_tried l D cA ad a1 h (fun r h' => mJ l D cA ad d cc nL rt (pc + 3) L (r.toList ++ S) h' Q)) : mJ l D cA ad d cc nL rt pc L ((0, a1) :: (2, ((0 : Nat) : Int)) :: S) h Q := by
  obtain ⟨m0, m1, m2, m3, m4⟩ := mo_mw (mo_pw5 39 (p := (832, 2, 72, 0, 7861)) rfl) rfl
  exact ja_callV (S := S) (vals := [(0, a1)]) (n := 1) (N := 209) (T := TX12) (ci := 12) (q := 0) m0 m2 m1 m3 rfl hdd (by decide) m4.1 m4.2.1 (by decide +kernel) (by decide +kernel) (by decide) rfl (show (1 : Nat) + 1 ≤ 8 by decide) hwd hd k
abbrev mM_aspectItem (l : Launch) (D : va_G) (cA : Nat → ClassId) (ad : Nat → Nat) (h : ja_H) (Q : Option ja_V → ja_H → Prop) : Prop := ja_M l D cA ad mo_sp mo_K 13 yX12_aspectItem cX12_aspectItem 3 (some .boolean) [(2, ((0 : Nat) : Int))] h Q
theorem mc_aspectItem (hdd : 13 < d) (hwd : ja_wd S ≤ 8) (hd : decode cc pc = .ok (.invokevirtual 736, 3)) (k : mM_aspectItem l D cA ad  h (fun r h' => mJ l D cA ad d cc nL rt (pc + 3) L (r.toList ++ S) h' Q)) : mJ l D cA ad d cc nL rt pc L ((2, ((0 : Nat) : Int)) :: S) h Q := by
  obtain ⟨m0, m1, m2, m3, m4⟩ := mo_mw (mo_pw5 8 (p := (736, 2, 73, 0, 7865)) rfl) rfl
  exact ja_callV (S := S) (vals := []) (n := 0) (N := 209) (T := TX12) (ci := 12) (q := 0) m0 m2 m1 m3 rfl hdd (by decide) m4.1 m4.2.1 (by decide +kernel) (by decide +kernel) (by decide) rfl (show (0 : Nat) + 1 ≤ 3 by decide) hwd hd k
abbrev mM_word (l : Launch) (D : va_G) (cA : Nat → ClassId) (ad : Nat → Nat) (a1 : Int) (h : ja_H) (Q : Option ja_V → ja_H → Prop) : Prop := ja_M l D cA ad mo_sp mo_K 3 yX12_word cX12_word 2 (some .boolean) [(2, ((0 : Nat) : Int)), (0, a1)] h Q
theorem mc_word {a1 : Int} (hdd : 3 < d) (hwd : ja_wd S ≤ 8) (hd : decode cc pc = .ok (.invokevirtual 763, 3)) (k : mM_word l D cA ad a1 h (fun r h' => mJ l D cA ad d cc nL rt (pc + 3) L (r.toList ++ S) h' Q)) : mJ l D cA ad d cc nL rt pc L ((0, a1) :: (2, ((0 : Nat) : Int)) :: S) h Q := by
  obtain ⟨m0, m1, m2, m3, m4⟩ := mo_mw (mo_pw5 17 (p := (763, 2, 74, 0, 7869)) rfl) rfl
  exact ja_callV (S := S) (vals := [(0, a1)]) (n := 1) (N := 209) (T := TX12) (ci := 12) (q := 0) m0 m2 m1 m3 rfl hdd (by decide) m4.1 m4.2.1 (by decide +kernel) (by decide +kernel) (by decide) rfl (show (1 : Nat) + 1 ≤ 2 by decide) hwd hd k
abbrev mM_part (l : Launch) (D : va_G) (cA : Nat → ClassId) (ad : Nat → Nat) (h : ja_H) (Q : Option ja_V → ja_H → Prop) : Prop := ja_M l D cA ad mo_sp mo_K 12 yX12_part cX12_part 1 (some .boolean) [(2, ((0 : Nat) : Int))] h Q
theorem mc_part (hdd : 12 < d) (hwd : ja_wd S ≤ 8) (hd : decode cc pc = .ok (.invokevirtual 766, 3)) (k : mM_part l D cA ad  h (fun r h' => mJ l D cA ad d cc nL rt (pc + 3) L (r.toList ++ S) h' Q)) : mJ l D cA ad d cc nL rt pc L ((2, ((0 : Nat) : Int)) :: S) h Q := by
  obtain ⟨m0, m1, m2, m3, m4⟩ := mo_mw (mo_pw5 18 (p := (766, 2, 75, 0, 7873)) rfl) rfl
  exact ja_callV (S := S) (vals := []) (n := 0) (N := 209) (T := TX12) (ci := 12) (q := 0) m0 m2 m1 m3 rfl hdd (by decide) m4.1 m4.2.1 (by decide +kernel) (by decide +kernel) (by decide) rfl (show (0 : Nat) + 1 ≤ 1 by decide) hwd hd k
abbrev mM_aspectField (l : Launch) (D : va_G) (cA : Nat → ClassId) (ad : Nat → Nat) (h : ja_H) (Q : Option ja_V → ja_H → Prop) : Prop := ja_M l D cA ad mo_sp mo_K 4 yX12_aspectField cX12_aspectField 4 (some .boolean) [(2, ((0 : Nat) : Int))] h Q
theorem mc_aspectField (hdd : 4 < d) (hwd : ja_wd S ≤ 8) (hd : decode cc pc = .ok (.invokevirtual 769, 3)) (k : mM_aspectField l D cA ad  h (fun r h' => mJ l D cA ad d cc nL rt (pc + 3) L (r.toList ++ S) h' Q)) : mJ l D cA ad d cc nL rt pc L ((2, ((0 : Nat) : Int)) :: S) h Q := by
  obtain ⟨m0, m1, m2, m3, m4⟩ := mo_mw (mo_pw5 19 (p := (769, 2, 76, 0, 7877)) rfl) rfl
  exact ja_callV (S := S) (vals := []) (n := 0) (N := 209) (T := TX12) (ci := 12) (q := 0) m0 m2 m1 m3 rfl hdd (by decide) m4.1 m4.2.1 (by decide +kernel) (by decide +kernel) (by decide) rfl (show (0 : Nat) + 1 ≤ 4 by decide) hwd hd k
abbrev mM_told (l : Launch) (D : va_G) (cA : Nat → ClassId) (ad : Nat → Nat) (h : ja_H) (Q : Option ja_V → ja_H → Prop) : Prop := ja_M l D cA ad mo_sp mo_K 11 yX12_told cX12_told 2 (some .boolean) [(2, ((0 : Nat) : Int))] h Q
theorem mc_told (hdd : 11 < d) (hwd : ja_wd S ≤ 8) (hd : decode cc pc = .ok (.invokevirtual 771, 3)) (k : mM_told l D cA ad  h (fun r h' => mJ l D cA ad d cc nL rt (pc + 3) L (r.toList ++ S) h' Q)) : mJ l D cA ad d cc nL rt pc L ((2, ((0 : Nat) : Int)) :: S) h Q := by
  obtain ⟨m0, m1, m2, m3, m4⟩ := mo_mw (mo_pw5 20 (p := (771, 2, 77, 0, 7881)) rfl) rfl
  exact ja_callV (S := S) (vals := []) (n := 0) (N := 209) (T := TX12) (ci := 12) (q := 0) m0 m2 m1 m3 rfl hdd (by decide) m4.1 m4.2.1 (by decide +kernel) (by decide +kernel) (by decide) rfl (show (0 : Nat) + 1 ≤ 2 by decide) hwd hd k
abbrev mM_pick (l : Launch) (D : va_G) (cA : Nat → ClassId) (ad : Nat → Nat) (h : ja_H) (Q : Option ja_V → ja_H → Prop) : Prop := ja_M l D cA ad mo_sp mo_K 9 yX12_pick cX12_pick 3 (some .boolean) [(2, ((0 : Nat) : Int))] h Q
theorem mc_pick (hdd : 9 < d) (hwd : ja_wd S ≤ 8) (hd : decode cc pc = .ok (.invokevirtual 774, 3)) (k : mM_pick l D cA ad  h (fun r h' => mJ l D cA ad d cc nL rt (pc + 3) L (r.toList ++ S) h' Q)) : mJ l D cA ad d cc nL rt pc L ((2, ((0 : Nat) : Int)) :: S) h Q := by
  obtain ⟨m0, m1, m2, m3, m4⟩ := mo_mw (mo_pw5 21 (p := (774, 2, 78, 0, 7885)) rfl) rfl
  exact ja_callV (S := S) (vals := []) (n := 0) (N := 209) (T := TX12) (ci := 12) (q := 0) m0 m2 m1 m3 rfl hdd (by decide) m4.1 m4.2.1 (by decide +kernel) (by decide +kernel) (by decide) rfl (show (0 : Nat) + 1 ≤ 3 by decide) hwd hd k
abbrev mM_pickTree (l : Launch) (D : va_G) (cA : Nat → ClassId) (ad : Nat → Nat) (h : ja_H) (Q : Option ja_V → ja_H → Prop) : Prop := ja_M l D cA ad mo_sp mo_K 8 yX12_pickTree cX12_pickTree 1 (some .boolean) [(2, ((0 : Nat) : Int))] h Q
theorem mc_pickTree (hdd : 8 < d) (hwd : ja_wd S ≤ 8) (hd : decode cc pc = .ok (.invokevirtual 787, 3)) (k : mM_pickTree l D cA ad  h (fun r h' => mJ l D cA ad d cc nL rt (pc + 3) L (r.toList ++ S) h' Q)) : mJ l D cA ad d cc nL rt pc L ((2, ((0 : Nat) : Int)) :: S) h Q := by
  obtain ⟨m0, m1, m2, m3, m4⟩ := mo_mw (mo_pw5 25 (p := (787, 2, 79, 0, 7889)) rfl) rfl
  exact ja_callV (S := S) (vals := []) (n := 0) (N := 209) (T := TX12) (ci := 12) (q := 0) m0 m2 m1 m3 rfl hdd (by decide) m4.1 m4.2.1 (by decide +kernel) (by decide +kernel) (by decide) rfl (show (0 : Nat) + 1 ≤ 1 by decide) hwd hd k
abbrev mM_advice (l : Launch) (D : va_G) (cA : Nat → ClassId) (ad : Nat → Nat) (h : ja_H) (Q : Option ja_V → ja_H → Prop) : Prop := ja_M l D cA ad mo_sp mo_K 9 yX12_advice cX12_advice 4 (some .boolean) [(2, ((0 : Nat) : Int))] h Q
theorem mc_advice (hdd : 9 < d) (hwd : ja_wd S ≤ 8) (hd : decode cc pc = .ok (.invokevirtual 777, 3)) (k : mM_advice l D cA ad  h (fun r h' => mJ l D cA ad d cc nL rt (pc + 3) L (r.toList ++ S) h' Q)) : mJ l D cA ad d cc nL rt pc L ((2, ((0 : Nat) : Int)) :: S) h Q := by
  obtain ⟨m0, m1, m2, m3, m4⟩ := mo_mw (mo_pw5 22 (p := (777, 2, 80, 0, 7893)) rfl) rfl
  exact ja_callV (S := S) (vals := []) (n := 0) (N := 209) (T := TX12) (ci := 12) (q := 0) m0 m2 m1 m3 rfl hdd (by decide) m4.1 m4.2.1 (by decide +kernel) (by decide +kernel) (by decide) rfl (show (0 : Nat) + 1 ≤ 4 by decide) hwd hd k
abbrev mM_bar (l : Launch) (D : va_G) (cA : Nat → ClassId) (ad : Nat → Nat) (h : ja_H) (Q : Option ja_V → ja_H → Prop) : Prop := ja_M l D cA ad mo_sp mo_K 9 yX12_bar cX12_bar 2 (some .boolean) [(2, ((0 : Nat) : Int))] h Q
theorem mc_bar (hdd : 9 < d) (hwd : ja_wd S ≤ 8) (hd : decode cc pc = .ok (.invokevirtual 780, 3)) (k : mM_bar l D cA ad  h (fun r h' => mJ l D cA ad d cc nL rt (pc + 3) L (r.toList ++ S) h' Q)) : mJ l D cA ad d cc nL rt pc L ((2, ((0 : Nat) : Int)) :: S) h Q := by
  obtain ⟨m0, m1, m2, m3, m4⟩ := mo_mw (mo_pw5 23 (p := (780, 2, 81, 0, 7897)) rfl) rfl
  exact ja_callV (S := S) (vals := []) (n := 0) (N := 209) (T := TX12) (ci := 12) (q := 0) m0 m2 m1 m3 rfl hdd (by decide) m4.1 m4.2.1 (by decide +kernel) (by decide +kernel) (by decide) rfl (show (0 : Nat) + 1 ≤ 2 by decide) hwd hd k
abbrev mM_finish (l : Launch) (D : va_G) (cA : Nat → ClassId) (ad : Nat → Nat) (h : ja_H) (Q : Option ja_V → ja_H → Prop) : Prop := ja_M l D cA ad mo_sp mo_K 7 yX12_finish cX12_finish 4 none [(2, ((0 : Nat) : Int))] h Q
theorem mc_finish (hdd : 7 < d) (hwd : ja_wd S ≤ 8) (hd : decode cc pc = .ok (.invokevirtual 638, 3)) (k : mM_finish l D cA ad  h (fun r h' => mJ l D cA ad d cc nL rt (pc + 3) L (r.toList ++ S) h' Q)) : mJ l D cA ad d cc nL rt pc L ((2, ((0 : Nat) : Int)) :: S) h Q := by
  obtain ⟨m0, m1, m2, m3, m4⟩ := mo_mw (mo_pw4 16 (p := (638, 2, 82, 0, 7901)) rfl) rfl
  exact ja_callV (S := S) (vals := []) (n := 0) (N := 209) (T := TX12) (ci := 12) (q := 0) m0 m2 m1 m3 rfl hdd (by decide) m4.1 m4.2.1 (by decide +kernel) (by decide +kernel) (by decide) rfl (show (0 : Nat) + 1 ≤ 4 by decide) hwd hd k
abbrev mM_twiceTold (l : Launch) (D : va_G) (cA : Nat → ClassId) (ad : Nat → Nat) (h : ja_H) (Q : Option ja_V → ja_H → Prop) : Prop := ja_M l D cA ad mo_sp mo_K 3 yX12_twiceTold cX12_twiceTold 4 none [(2, ((0 : Nat) : Int))] h Q
theorem mc_twiceTold (hdd : 3 < d) (hwd : ja_wd S ≤ 8) (hd : decode cc pc = .ok (.invokevirtual 918, 3)) (k : mM_twiceTold l D cA ad  h (fun r h' => mJ l D cA ad d cc nL rt (pc + 3) L (r.toList ++ S) h' Q)) : mJ l D cA ad d cc nL rt pc L ((2, ((0 : Nat) : Int)) :: S) h Q := by
  obtain ⟨m0, m1, m2, m3, m4⟩ := mo_mw (mo_pw6 27 (p := (918, 2, 83, 0, 7905)) rfl) rfl
  exact ja_callV (S := S) (vals := []) (n := 0) (N := 209) (T := TX12) (ci := 12) (q := 0) m0 m2 m1 m3 rfl hdd (by decide) m4.1 m4.2.1 (by decide +kernel) (by decide +kernel) (by decide) rfl (show (0 : Nat) + 1 ≤ 4 by decide) hwd hd k
abbrev mM_classOf (l : Launch) (D : va_G) (cA : Nat → ClassId) (ad : Nat → Nat) (a1 : Int) (h : ja_H) (Q : Option ja_V → ja_H → Prop) : Prop := ja_M l D cA ad mo_sp mo_K 2 yX12_classOf cX12_classOf 3 (some .int) [(2, ((0 : Nat) : Int)), (0, a1)] h Q
theorem mc_classOf {a1 : Int} (hdd : 2 < d) (hwd : ja_wd S ≤ 8) (hd : decode cc pc = .ok (.invokevirtual 903, 3)) (k : mM_classOf l D cA ad a1 h (fun r h' => mJ l D cA ad d cc nL rt (pc + 3) L (r.toList ++ S) h' Q)) : mJ l D cA ad d cc nL rt pc L ((0, a1) :: (2, ((0 : Nat) : Int)) :: S) h Q := by
  obtain ⟨m0, m1, m2, m3, m4⟩ := mo_mw (mo_pw6 22 (p := (903, 2, 84, 0, 7909)) rfl) rfl
  exact ja_callV (S := S) (vals := [(0, a1)]) (n := 1) (N := 209) (T := TX12) (ci := 12) (q := 0) m0 m2 m1 m3 rfl hdd (by decide) m4.1 m4.2.1 (by decide +kernel) (by decide +kernel) (by decide) rfl (show (1 : Nat) + 1 ≤ 3 by decide) hwd hd k
abbrev mM_aspectOf (l : Launch) (D : va_G) (cA : Nat → ClassId) (ad : Nat → Nat) (a1 : Int) (h : ja_H) (Q : Option ja_V → ja_H → Prop) : Prop := ja_M l D cA ad mo_sp mo_K 2 yX12_aspectOf cX12_aspectOf 3 (some .int) [(2, ((0 : Nat) : Int)), (0, a1)] h Q
theorem mc_aspectOf {a1 : Int} (hdd : 2 < d) (hwd : ja_wd S ≤ 8) (hd : decode cc pc = .ok (.invokevirtual 906, 3)) (k : mM_aspectOf l D cA ad a1 h (fun r h' => mJ l D cA ad d cc nL rt (pc + 3) L (r.toList ++ S) h' Q)) : mJ l D cA ad d cc nL rt pc L ((0, a1) :: (2, ((0 : Nat) : Int)) :: S) h Q := by
  obtain ⟨m0, m1, m2, m3, m4⟩ := mo_mw (mo_pw6 23 (p := (906, 2, 85, 0, 7913)) rfl) rfl
  exact ja_callV (S := S) (vals := [(0, a1)]) (n := 1) (N := 209) (T := TX12) (ci := 12) (q := 0) m0 m2 m1 m3 rfl hdd (by decide) m4.1 m4.2.1 (by decide +kernel) (by decide +kernel) (by decide) rfl (show (1 : Nat) + 1 ≤ 3 by decide) hwd hd k
abbrev mM_wanted (l : Launch) (D : va_G) (cA : Nat → ClassId) (ad : Nat → Nat) (h : ja_H) (Q : Option ja_V → ja_H → Prop) : Prop := ja_M l D cA ad mo_sp mo_K 3 yX12_wanted cX12_wanted 5 none [(2, ((0 : Nat) : Int))] h Q
theorem mc_wanted (hdd : 3 < d) (hwd : ja_wd S ≤ 8) (hd : decode cc pc = .ok (.invokevirtual 921, 3)) (k : mM_wanted l D cA ad  h (fun r h' => mJ l D cA ad d cc nL rt (pc + 3) L (r.toList ++ S) h' Q)) : mJ l D cA ad d cc nL rt pc L ((2, ((0 : Nat) : Int)) :: S) h Q := by
  obtain ⟨m0, m1, m2, m3, m4⟩ := mo_mw (mo_pw6 28 (p := (921, 2, 86, 0, 7917)) rfl) rfl
  exact ja_callV (S := S) (vals := []) (n := 0) (N := 209) (T := TX12) (ci := 12) (q := 0) m0 m2 m1 m3 rfl hdd (by decide) m4.1 m4.2.1 (by decide +kernel) (by decide +kernel) (by decide) rfl (show (0 : Nat) + 1 ≤ 5 by decide) hwd hd k
abbrev mM_aspectFieldOf (l : Launch) (D : va_G) (cA : Nat → ClassId) (ad : Nat → Nat) (a1 a2 : Int) (h : ja_H) (Q : Option ja_V → ja_H → Prop) : Prop := ja_M l D cA ad mo_sp mo_K 1 yX12_aspectFieldOf cX12_aspectFieldOf 4 (some .int) [(2, ((0 : Nat) : Int)), (0, a1), (0, a2)] h Q
theorem mc_aspectFieldOf {a1 a2 : Int} (hdd : 1 < d) (hwd : ja_wd S ≤ 8) (hd : decode cc pc = .ok (.invokevirtual 909, 3)) (k : mM_aspectFieldOf l D cA ad a1 a2 h (fun r h' => mJ l D cA ad d cc nL rt (pc + 3) L (r.toList ++ S) h' Q)) : mJ l D cA ad d cc nL rt pc L ((0, a2) :: (0, a1) :: (2, ((0 : Nat) : Int)) :: S) h Q := by
  obtain ⟨m0, m1, m2, m3, m4⟩ := mo_mw (mo_pw6 24 (p := (909, 2, 87, 0, 7937)) rfl) rfl
  exact ja_callV (S := S) (vals := [(0, a1), (0, a2)]) (n := 2) (N := 209) (T := TX12) (ci := 12) (q := 0) m0 m2 m1 m3 rfl hdd (by decide) m4.1 m4.2.1 (by decide +kernel) (by decide +kernel) (by decide) rfl (show (2 : Nat) + 1 ≤ 4 by decide) hwd hd k
abbrev mM_parents (l : Launch) (D : va_G) (cA : Nat → ClassId) (ad : Nat → Nat) (h : ja_H) (Q : Option ja_V → ja_H → Prop) : Prop := ja_M l D cA ad mo_sp mo_K 4 yX12_parents cX12_parents 3 none [(2, ((0 : Nat) : Int))] h Q
theorem mc_parents (hdd : 4 < d) (hwd : ja_wd S ≤ 8) (hd : decode cc pc = .ok (.invokevirtual 924, 3)) (k : mM_parents l D cA ad  h (fun r h' => mJ l D cA ad d cc nL rt (pc + 3) L (r.toList ++ S) h' Q)) : mJ l D cA ad d cc nL rt pc L ((2, ((0 : Nat) : Int)) :: S) h Q := by
  obtain ⟨m0, m1, m2, m3, m4⟩ := mo_mw (mo_pw6 29 (p := (924, 2, 88, 0, 7941)) rfl) rfl
  exact ja_callV (S := S) (vals := []) (n := 0) (N := 209) (T := TX12) (ci := 12) (q := 0) m0 m2 m1 m3 rfl hdd (by decide) m4.1 m4.2.1 (by decide +kernel) (by decide +kernel) (by decide) rfl (show (0 : Nat) + 1 ≤ 3 by decide) hwd hd k
abbrev mM_under (l : Launch) (D : va_G) (cA : Nat → ClassId) (ad : Nat → Nat) (a1 a2 : Int) (h : ja_H) (Q : Option ja_V → ja_H → Prop) : Prop := ja_M l D cA ad mo_sp mo_K 3 yX12_under cX12_under 4 none [(2, ((0 : Nat) : Int)), (0, a1), (0, a2)] h Q
theorem mc_under {a1 a2 : Int} (hdd : 3 < d) (hwd : ja_wd S ≤ 8) (hd : decode cc pc = .ok (.invokevirtual 912, 3)) (k : mM_under l D cA ad a1 a2 h (fun r h' => mJ l D cA ad d cc nL rt (pc + 3) L (r.toList ++ S) h' Q)) : mJ l D cA ad d cc nL rt pc L ((0, a2) :: (0, a1) :: (2, ((0 : Nat) : Int)) :: S) h Q := by
  obtain ⟨m0, m1, m2, m3, m4⟩ := mo_mw (mo_pw6 25 (p := (912, 2, 89, 0, 7945)) rfl) rfl
  exact ja_callV (S := S) (vals := [(0, a1), (0, a2)]) (n := 2) (N := 209) (T := TX12) (ci := 12) (q := 0) m0 m2 m1 m3 rfl hdd (by decide) m4.1 m4.2.1 (by decide +kernel) (by decide +kernel) (by decide) rfl (show (2 : Nat) + 1 ≤ 4 by decide) hwd hd k
abbrev mM_isAbove (l : Launch) (D : va_G) (cA : Nat → ClassId) (ad : Nat → Nat) (a1 a2 : Int) (h : ja_H) (Q : Option ja_V → ja_H → Prop) : Prop := ja_M l D cA ad mo_sp mo_K 1 yX12_isAbove cX12_isAbove 4 (some .boolean) [(2, ((0 : Nat) : Int)), (0, a1), (0, a2)] h Q
theorem mc_isAbove {a1 a2 : Int} (hdd : 1 < d) (hwd : ja_wd S ≤ 8) (hd : decode cc pc = .ok (.invokevirtual 915, 3)) (k : mM_isAbove l D cA ad a1 a2 h (fun r h' => mJ l D cA ad d cc nL rt (pc + 3) L (r.toList ++ S) h' Q)) : mJ l D cA ad d cc nL rt pc L ((0, a2) :: (0, a1) :: (2, ((0 : Nat) : Int)) :: S) h Q := by
  obtain ⟨m0, m1, m2, m3, m4⟩ := mo_mw (mo_pw6 26 (p := (915, 2, 90, 0, 7949)) rfl) rfl
  exact ja_callV (S := S) (vals := [(0, a1), (0, a2)]) (n := 2) (N := 209) (T := TX12) (ci := 12) (q := 0) m0 m2 m1 m3 rfl hdd (by decide) m4.1 m4.2.1 (by decide +kernel) (by decide +kernel) (by decide) rfl (show (2 : Nat) + 1 ≤ 4 by decide) hwd hd k
abbrev mM_layFields (l : Launch) (D : va_G) (cA : Nat → ClassId) (ad : Nat → Nat) (h : ja_H) (Q : Option ja_V → ja_H → Prop) : Prop := ja_M l D cA ad mo_sp mo_K 2 yX12_layFields cX12_layFields 7 none [(2, ((0 : Nat) : Int))] h Q
theorem mc_layFields (hdd : 2 < d) (hwd : ja_wd S ≤ 8) (hd : decode cc pc = .ok (.invokevirtual 927, 3)) (k : mM_layFields l D cA ad  h (fun r h' => mJ l D cA ad d cc nL rt (pc + 3) L (r.toList ++ S) h' Q)) : mJ l D cA ad d cc nL rt pc L ((2, ((0 : Nat) : Int)) :: S) h Q := by
  obtain ⟨m0, m1, m2, m3, m4⟩ := mo_mw (mo_pw6 30 (p := (927, 2, 91, 0, 7953)) rfl) rfl
  exact ja_callV (S := S) (vals := []) (n := 0) (N := 209) (T := TX12) (ci := 12) (q := 0) m0 m2 m1 m3 rfl hdd (by decide) m4.1 m4.2.1 (by decide +kernel) (by decide +kernel) (by decide) rfl (show (0 : Nat) + 1 ≤ 7 by decide) hwd hd k
abbrev mM_layNodes (l : Launch) (D : va_G) (cA : Nat → ClassId) (ad : Nat → Nat) (h : ja_H) (Q : Option ja_V → ja_H → Prop) : Prop := ja_M l D cA ad mo_sp mo_K 5 yX12_layNodes cX12_layNodes 6 none [(2, ((0 : Nat) : Int))] h Q
theorem mc_layNodes (hdd : 5 < d) (hwd : ja_wd S ≤ 8) (hd : decode cc pc = .ok (.invokevirtual 930, 3)) (k : mM_layNodes l D cA ad  h (fun r h' => mJ l D cA ad d cc nL rt (pc + 3) L (r.toList ++ S) h' Q)) : mJ l D cA ad d cc nL rt pc L ((2, ((0 : Nat) : Int)) :: S) h Q := by
  obtain ⟨m0, m1, m2, m3, m4⟩ := mo_mw (mo_pw6 31 (p := (930, 2, 92, 0, 7957)) rfl) rfl
  exact ja_callV (S := S) (vals := []) (n := 0) (N := 209) (T := TX12) (ci := 12) (q := 0) m0 m2 m1 m3 rfl hdd (by decide) m4.1 m4.2.1 (by decide +kernel) (by decide +kernel) (by decide) rfl (show (0 : Nat) + 1 ≤ 6 by decide) hwd hd k
abbrev mM_typeMatches (l : Launch) (D : va_G) (cA : Nat → ClassId) (ad : Nat → Nat) (a1 a2 : Int) (h : ja_H) (Q : Option ja_V → ja_H → Prop) : Prop := ja_M l D cA ad mo_sp mo_K 4 yX12_typeMatches cX12_typeMatches 7 (some .boolean) [(2, ((0 : Nat) : Int)), (0, a1), (0, a2)] h Q
theorem mc_typeMatches {a1 a2 : Int} (hdd : 4 < d) (hwd : ja_wd S ≤ 8) (hd : decode cc pc = .ok (.invokevirtual 945, 3)) (k : mM_typeMatches l D cA ad a1 a2 h (fun r h' => mJ l D cA ad d cc nL rt (pc + 3) L (r.toList ++ S) h' Q)) : mJ l D cA ad d cc nL rt pc L ((0, a2) :: (0, a1) :: (2, ((0 : Nat) : Int)) :: S) h Q := by
  obtain ⟨m0, m1, m2, m3, m4⟩ := mo_mw (mo_pw6 36 (p := (945, 2, 93, 0, 7961)) rfl) rfl
  exact ja_callV (S := S) (vals := [(0, a1), (0, a2)]) (n := 2) (N := 209) (T := TX12) (ci := 12) (q := 0) m0 m2 m1 m3 rfl hdd (by decide) m4.1 m4.2.1 (by decide +kernel) (by decide +kernel) (by decide) rfl (show (2 : Nat) + 1 ≤ 7 by decide) hwd hd k
abbrev mM_goesName (l : Launch) (D : va_G) (cA : Nat → ClassId) (ad : Nat → Nat) (a1 a2 : Int) (h : ja_H) (Q : Option ja_V → ja_H → Prop) : Prop := ja_M l D cA ad mo_sp mo_K 3 yX12_goesName cX12_goesName 3 (some .boolean) [(2, ((0 : Nat) : Int)), (0, a1), (0, a2)] h Q
theorem mc_goesName {a1 a2 : Int} (hdd : 3 < d) (hwd : ja_wd S ≤ 8) (hd : decode cc pc = .ok (.invokevirtual 942, 3)) (k : mM_goesName l D cA ad a1 a2 h (fun r h' => mJ l D cA ad d cc nL rt (pc + 3) L (r.toList ++ S) h' Q)) : mJ l D cA ad d cc nL rt pc L ((0, a2) :: (0, a1) :: (2, ((0 : Nat) : Int)) :: S) h Q := by
  obtain ⟨m0, m1, m2, m3, m4⟩ := mo_mw (mo_pw6 35 (p := (942, 2, 94, 0, 7965)) rfl) rfl
  exact ja_callV (S := S) (vals := [(0, a1), (0, a2)]) (n := 2) (N := 209) (T := TX12) (ci := 12) (q := 0) m0 m2 m1 m3 rfl hdd (by decide) m4.1 m4.2.1 (by decide +kernel) (by decide +kernel) (by decide) rfl (show (2 : Nat) + 1 ≤ 3 by decide) hwd hd k
abbrev mM_goes (l : Launch) (D : va_G) (cA : Nat → ClassId) (ad : Nat → Nat) (a1 a2 a3 a4 : Int) (h : ja_H) (Q : Option ja_V → ja_H → Prop) : Prop := ja_M l D cA ad mo_sp mo_K 1 yX12_goes cX12_goes 9 (some .boolean) [(2, ((0 : Nat) : Int)), (0, a1), (0, a2), (0, a3), (0, a4)] h Q
theorem mc_goes {a1 a2 a3 a4 : Int} (hdd : 1 < d) (hwd : ja_wd S ≤ 8) (hd : decode cc pc = .ok (.invokevirtual 939, 3)) (k : mM_goes l D cA ad a1 a2 a3 a4 h (fun r h' => mJ l D cA ad d cc nL rt (pc + 3) L (r.toList ++ S) h' Q)) : mJ l D cA ad d cc nL rt pc L ((0, a4) :: (0, a3) :: (0, a2) :: (0, a1) :: (2, ((0 : Nat) : Int)) :: S) h Q := by
  obtain ⟨m0, m1, m2, m3, m4⟩ := mo_mw (mo_pw6 34 (p := (939, 2, 95, 0, 7969)) rfl) rfl
  exact ja_callV (S := S) (vals := [(0, a1), (0, a2), (0, a3), (0, a4)]) (n := 4) (N := 209) (T := TX12) (ci := 12) (q := 0) m0 m2 m1 m3 rfl hdd (by decide) m4.1 m4.2.1 (by decide +kernel) (by decide +kernel) (by decide) rfl (show (4 : Nat) + 1 ≤ 9 by decide) hwd hd k
abbrev mM_layOrder (l : Launch) (D : va_G) (cA : Nat → ClassId) (ad : Nat → Nat) (h : ja_H) (Q : Option ja_V → ja_H → Prop) : Prop := ja_M l D cA ad mo_sp mo_K 3 yX12_layOrder cX12_layOrder 5 none [(2, ((0 : Nat) : Int))] h Q
theorem mc_layOrder (hdd : 3 < d) (hwd : ja_wd S ≤ 8) (hd : decode cc pc = .ok (.invokevirtual 933, 3)) (k : mM_layOrder l D cA ad  h (fun r h' => mJ l D cA ad d cc nL rt (pc + 3) L (r.toList ++ S) h' Q)) : mJ l D cA ad d cc nL rt pc L ((2, ((0 : Nat) : Int)) :: S) h Q := by
  obtain ⟨m0, m1, m2, m3, m4⟩ := mo_mw (mo_pw6 32 (p := (933, 2, 96, 0, 7973)) rfl) rfl
  exact ja_callV (S := S) (vals := []) (n := 0) (N := 209) (T := TX12) (ci := 12) (q := 0) m0 m2 m1 m3 rfl hdd (by decide) m4.1 m4.2.1 (by decide +kernel) (by decide +kernel) (by decide) rfl (show (0 : Nat) + 1 ≤ 5 by decide) hwd hd k
abbrev mM_foresee (l : Launch) (D : va_G) (cA : Nat → ClassId) (ad : Nat → Nat) (a1 : Int) (h : ja_H) (Q : Option ja_V → ja_H → Prop) : Prop := ja_M l D cA ad mo_sp mo_K 6 yX12_foresee cX12_foresee 8 none [(2, ((0 : Nat) : Int)), (0, a1)] h Q
theorem mc_foresee {a1 : Int} (hdd : 6 < d) (hwd : ja_wd S ≤ 8) (hd : decode cc pc = .ok (.invokevirtual 936, 3)) (k : mM_foresee l D cA ad a1 h (fun r h' => mJ l D cA ad d cc nL rt (pc + 3) L (r.toList ++ S) h' Q)) : mJ l D cA ad d cc nL rt pc L ((0, a1) :: (2, ((0 : Nat) : Int)) :: S) h Q := by
  obtain ⟨m0, m1, m2, m3, m4⟩ := mo_mw (mo_pw6 33 (p := (936, 2, 97, 0, 7977)) rfl) rfl
  exact ja_callV (S := S) (vals := [(0, a1)]) (n := 1) (N := 209) (T := TX12) (ci := 12) (q := 0) m0 m2 m1 m3 rfl hdd (by decide) m4.1 m4.2.1 (by decide +kernel) (by decide +kernel) (by decide) rfl (show (1 : Nat) + 1 ≤ 8 by decide) hwd hd k
abbrev mM_aheadOf (l : Launch) (D : va_G) (cA : Nat → ClassId) (ad : Nat → Nat) (a1 a2 : Int) (h : ja_H) (Q : Option ja_V → ja_H → Prop) : Prop := ja_M l D cA ad mo_sp mo_K 5 yX12_aheadOf cX12_aheadOf 9 (some .int) [(2, ((0 : Nat) : Int)), (0, a1), (0, a2)] h Q
theorem mc_aheadOf {a1 a2 : Int} (hdd : 5 < d) (hwd : ja_wd S ≤ 8) (hd : decode cc pc = .ok (.invokevirtual 969, 3)) (k : mM_aheadOf l D cA ad a1 a2 h (fun r h' => mJ l D cA ad d cc nL rt (pc + 3) L (r.toList ++ S) h' Q)) : mJ l D cA ad d cc nL rt pc L ((0, a2) :: (0, a1) :: (2, ((0 : Nat) : Int)) :: S) h Q := by
  obtain ⟨m0, m1, m2, m3, m4⟩ := mo_mw (mo_pw7 3 (p := (969, 2, 98, 0, 7981)) rfl) rfl
  exact ja_callV (S := S) (vals := [(0, a1), (0, a2)]) (n := 2) (N := 209) (T := TX12) (ci := 12) (q := 0) m0 m2 m1 m3 rfl hdd (by decide) m4.1 m4.2.1 (by decide +kernel) (by decide +kernel) (by decide) rfl (show (2 : Nat) + 1 ≤ 9 by decide) hwd hd k
abbrev mM_namedAhead (l : Launch) (D : va_G) (cA : Nat → ClassId) (ad : Nat → Nat) (a1 a2 : Int) (h : ja_H) (Q : Option ja_V → ja_H → Prop) : Prop := ja_M l D cA ad mo_sp mo_K 4 yX12_namedAhead cX12_namedAhead 6 (some .int) [(2, ((0 : Nat) : Int)), (0, a1), (0, a2)] h Q
theorem mc_namedAhead {a1 a2 : Int} (hdd : 4 < d) (hwd : ja_wd S ≤ 8) (hd : decode cc pc = .ok (.invokevirtual 957, 3)) (k : mM_namedAhead l D cA ad a1 a2 h (fun r h' => mJ l D cA ad d cc nL rt (pc + 3) L (r.toList ++ S) h' Q)) : mJ l D cA ad d cc nL rt pc L ((0, a2) :: (0, a1) :: (2, ((0 : Nat) : Int)) :: S) h Q := by
  obtain ⟨m0, m1, m2, m3, m4⟩ := mo_mw (mo_pw6 39 (p := (957, 2, 99, 0, 7985)) rfl) rfl
  exact ja_callV (S := S) (vals := [(0, a1), (0, a2)]) (n := 2) (N := 209) (T := TX12) (ci := 12) (q := 0) m0 m2 m1 m3 rfl hdd (by decide) m4.1 m4.2.1 (by decide +kernel) (by decide +kernel) (by decide) rfl (show (2 : Nat) + 1 ≤ 6 by decide) hwd hd k
abbrev mM_withinAhead (l : Launch) (D : va_G) (cA : Nat → ClassId) (ad : Nat → Nat) (a1 a2 : Int) (h : ja_H) (Q : Option ja_V → ja_H → Prop) : Prop := ja_M l D cA ad mo_sp mo_K 4 yX12_withinAhead cX12_withinAhead 7 (some .int) [(2, ((0 : Nat) : Int)), (0, a1), (0, a2)] h Q
theorem mc_withinAhead {a1 a2 : Int} (hdd : 4 < d) (hwd : ja_wd S ≤ 8) (hd : decode cc pc = .ok (.invokevirtual 960, 3)) (k : mM_withinAhead l D cA ad a1 a2 h (fun r h' => mJ l D cA ad d cc nL rt (pc + 3) L (r.toList ++ S) h' Q)) : mJ l D cA ad d cc nL rt pc L ((0, a2) :: (0, a1) :: (2, ((0 : Nat) : Int)) :: S) h Q := by
  obtain ⟨m0, m1, m2, m3, m4⟩ := mo_mw (mo_pw7 0 (p := (960, 2, 100, 0, 7989)) rfl) rfl
  exact ja_callV (S := S) (vals := [(0, a1), (0, a2)]) (n := 2) (N := 209) (T := TX12) (ci := 12) (q := 0) m0 m2 m1 m3 rfl hdd (by decide) m4.1 m4.2.1 (by decide +kernel) (by decide +kernel) (by decide) rfl (show (2 : Nat) + 1 ≤ 7 by decide) hwd hd k
abbrev mM_goesWord (l : Launch) (D : va_G) (cA : Nat → ClassId) (ad : Nat → Nat) (a1 a2 a3 : Int) (h : ja_H) (Q : Option ja_V → ja_H → Prop) : Prop := ja_M l D cA ad mo_sp mo_K 3 yX12_goesWord cX12_goesWord 7 (some .boolean) [(2, ((0 : Nat) : Int)), (0, a1), (1, a2), (0, a3)] h Q
theorem mc_goesWord {a1 a2 a3 : Int} (hdd : 3 < d) (hwd : ja_wd S ≤ 8) (hd : decode cc pc = .ok (.invokevirtual 950, 3)) (k : mM_goesWord l D cA ad a1 a2 a3 h (fun r h' => mJ l D cA ad d cc nL rt (pc + 3) L (r.toList ++ S) h' Q)) : mJ l D cA ad d cc nL rt pc L ((0, a3) :: (1, a2) :: (0, a1) :: (2, ((0 : Nat) : Int)) :: S) h Q := by
  obtain ⟨m0, m1, m2, m3, m4⟩ := mo_mw (mo_pw6 37 (p := (950, 2, 101, 0, 7994)) rfl) rfl
  exact ja_callV (S := S) (vals := [(0, a1), (1, a2), (0, a3)]) (n := 3) (N := 209) (T := TX12) (ci := 12) (q := 0) m0 m2 m1 m3 rfl hdd (by decide) m4.1 m4.2.1 (by decide +kernel) (by decide +kernel) (by decide) rfl (show (4 : Nat) + 1 ≤ 7 by decide) hwd hd k
abbrev mM_selfAhead (l : Launch) (D : va_G) (cA : Nat → ClassId) (ad : Nat → Nat) (a1 a2 : Int) (h : ja_H) (Q : Option ja_V → ja_H → Prop) : Prop := ja_M l D cA ad mo_sp mo_K 2 yX12_selfAhead cX12_selfAhead 5 (some .int) [(2, ((0 : Nat) : Int)), (0, a1), (0, a2)] h Q
theorem mc_selfAhead {a1 a2 : Int} (hdd : 2 < d) (hwd : ja_wd S ≤ 8) (hd : decode cc pc = .ok (.invokevirtual 963, 3)) (k : mM_selfAhead l D cA ad a1 a2 h (fun r h' => mJ l D cA ad d cc nL rt (pc + 3) L (r.toList ++ S) h' Q)) : mJ l D cA ad d cc nL rt pc L ((0, a2) :: (0, a1) :: (2, ((0 : Nat) : Int)) :: S) h Q := by
  obtain ⟨m0, m1, m2, m3, m4⟩ := mo_mw (mo_pw7 1 (p := (963, 2, 102, 0, 7998)) rfl) rfl
  exact ja_callV (S := S) (vals := [(0, a1), (0, a2)]) (n := 2) (N := 209) (T := TX12) (ci := 12) (q := 0) m0 m2 m1 m3 rfl hdd (by decide) m4.1 m4.2.1 (by decide +kernel) (by decide +kernel) (by decide) rfl (show (2 : Nat) + 1 ≤ 5 by decide) hwd hd k
abbrev mM_standsIn (l : Launch) (D : va_G) (cA : Nat → ClassId) (ad : Nat → Nat) (a1 : Int) (h : ja_H) (Q : Option ja_V → ja_H → Prop) : Prop := ja_M l D cA ad mo_sp mo_K 1 yX12_standsIn cX12_standsIn 2 (some .int) [(2, ((0 : Nat) : Int)), (0, a1)] h Q
theorem mc_standsIn {a1 : Int} (hdd : 1 < d) (hwd : ja_wd S ≤ 8) (hd : decode cc pc = .ok (.invokevirtual 954, 3)) (k : mM_standsIn l D cA ad a1 h (fun r h' => mJ l D cA ad d cc nL rt (pc + 3) L (r.toList ++ S) h' Q)) : mJ l D cA ad d cc nL rt pc L ((0, a1) :: (2, ((0 : Nat) : Int)) :: S) h Q := by
  obtain ⟨m0, m1, m2, m3, m4⟩ := mo_mw (mo_pw6 38 (p := (954, 2, 103, 0, 8002)) rfl) rfl
  exact ja_callV (S := S) (vals := [(0, a1)]) (n := 1) (N := 209) (T := TX12) (ci := 12) (q := 0) m0 m2 m1 m3 rfl hdd (by decide) m4.1 m4.2.1 (by decide +kernel) (by decide +kernel) (by decide) rfl (show (1 : Nat) + 1 ≤ 2 by decide) hwd hd k
abbrev mM_argsAhead (l : Launch) (D : va_G) (cA : Nat → ClassId) (ad : Nat → Nat) (a1 a2 : Int) (h : ja_H) (Q : Option ja_V → ja_H → Prop) : Prop := ja_M l D cA ad mo_sp mo_K 1 yX12_argsAhead cX12_argsAhead 5 (some .int) [(2, ((0 : Nat) : Int)), (0, a1), (0, a2)] h Q
theorem mc_argsAhead {a1 a2 : Int} (hdd : 1 < d) (hwd : ja_wd S ≤ 8) (hd : decode cc pc = .ok (.invokevirtual 966, 3)) (k : mM_argsAhead l D cA ad a1 a2 h (fun r h' => mJ l D cA ad d cc nL rt (pc + 3) L (r.toList ++ S) h' Q)) : mJ l D cA ad d cc nL rt pc L ((0, a2) :: (0, a1) :: (2, ((0 : Nat) : Int)) :: S) h Q := by
  obtain ⟨m0, m1, m2, m3, m4⟩ := mo_mw (mo_pw7 2 (p := (966, 2, 104, 0, 8006)) rfl) rfl
  exact ja_callV (S := S) (vals := [(0, a1), (0, a2)]) (n := 2) (N := 209) (T := TX12) (ci := 12) (q := 0) m0 m2 m1 m3 rfl hdd (by decide) m4.1 m4.2.1 (by decide +kernel) (by decide +kernel) (by decide) rfl (show (2 : Nat) + 1 ≤ 5 by decide) hwd hd k
abbrev mM_lineOf (l : Launch) (D : va_G) (cA : Nat → ClassId) (ad : Nat → Nat) (a1 : Int) (h : ja_H) (Q : Option ja_V → ja_H → Prop) : Prop := ja_M l D cA ad mo_sp mo_K 1 yX12_lineOf cX12_lineOf 4 (some .int) [(2, ((0 : Nat) : Int)), (0, a1)] h Q
theorem mc_lineOf {a1 : Int} (hdd : 1 < d) (hwd : ja_wd S ≤ 8) (hd : decode cc pc = .ok (.invokevirtual 641, 3)) (k : mM_lineOf l D cA ad a1 h (fun r h' => mJ l D cA ad d cc nL rt (pc + 3) L (r.toList ++ S) h' Q)) : mJ l D cA ad d cc nL rt pc L ((0, a1) :: (2, ((0 : Nat) : Int)) :: S) h Q := by
  obtain ⟨m0, m1, m2, m3, m4⟩ := mo_mw (mo_pw4 17 (p := (641, 2, 105, 0, 8010)) rfl) rfl
  exact ja_callV (S := S) (vals := [(0, a1)]) (n := 1) (N := 209) (T := TX12) (ci := 12) (q := 0) m0 m2 m1 m3 rfl hdd (by decide) m4.1 m4.2.1 (by decide +kernel) (by decide +kernel) (by decide) rfl (show (1 : Nat) + 1 ≤ 4 by decide) hwd hd k
abbrev mM_fault (l : Launch) (D : va_G) (cA : Nat → ClassId) (ad : Nat → Nat) (a1 : Int) (h : ja_H) (Q : Option ja_V → ja_H → Prop) : Prop := ja_M l D cA ad mo_sp mo_K 1 yX12_fault cX12_fault 2 (some .int) [(2, ((0 : Nat) : Int)), (0, a1)] h Q
abbrev mM_count (l : Launch) (D : va_G) (cA : Nat → ClassId) (ad : Nat → Nat) (a1 : Int) (h : ja_H) (Q : Option ja_V → ja_H → Prop) : Prop := ja_M l D cA ad mo_sp mo_K 1 yX12_count cX12_count 2 (some .int) [(2, ((0 : Nat) : Int)), (0, a1)] h Q
abbrev mM_point (l : Launch) (D : va_G) (cA : Nat → ClassId) (ad : Nat → Nat) (a1 a2 : Int) (h : ja_H) (Q : Option ja_V → ja_H → Prop) : Prop := ja_M l D cA ad mo_sp mo_K 1 yX12_point cX12_point 3 (some .int) [(2, ((0 : Nat) : Int)), (0, a1), (0, a2)] h Q
abbrev mM_meets (l : Launch) (D : va_G) (cA : Nat → ClassId) (ad : Nat → Nat) (a1 a2 a3 : Int) (h : ja_H) (Q : Option ja_V → ja_H → Prop) : Prop := ja_M l D cA ad mo_sp mo_K 1 yX12_meets cX12_meets 4 (some .int) [(2, ((0 : Nat) : Int)), (0, a1), (0, a2), (0, a3)] h Q
abbrev mM_finding (l : Launch) (D : va_G) (cA : Nat → ClassId) (ad : Nat → Nat) (a1 a2 : Int) (h : ja_H) (Q : Option ja_V → ja_H → Prop) : Prop := ja_M l D cA ad mo_sp mo_K 1 yX12_finding cX12_finding 3 (some .int) [(2, ((0 : Nat) : Int)), (0, a1), (0, a2)] h Q
abbrev mM_ordered (l : Launch) (D : va_G) (cA : Nat → ClassId) (ad : Nat → Nat) (a1 : Int) (h : ja_H) (Q : Option ja_V → ja_H → Prop) : Prop := ja_M l D cA ad mo_sp mo_K 1 yX12_ordered cX12_ordered 2 (some .int) [(2, ((0 : Nat) : Int)), (0, a1)] h Q
abbrev mM_above (l : Launch) (D : va_G) (cA : Nat → ClassId) (ad : Nat → Nat) (a1 : Int) (h : ja_H) (Q : Option ja_V → ja_H → Prop) : Prop := ja_M l D cA ad mo_sp mo_K 1 yX12_above cX12_above 2 (some .int) [(2, ((0 : Nat) : Int)), (0, a1)] h Q
abbrev mM_begin (l : Launch) (D : va_G) (cA : Nat → ClassId) (ad : Nat → Nat) (a1 : Int) (h : ja_H) (Q : Option ja_V → ja_H → Prop) : Prop := ja_M l D cA ad mo_sp mo_K 3 yX12_begin cX12_begin 3 (some .int) [(2, ((0 : Nat) : Int)), (0, a1)] h Q
abbrev mM_pushBody (l : Launch) (D : va_G) (cA : Nat → ClassId) (ad : Nat → Nat) (a1 a2 a3 : Int) (h : ja_H) (Q : Option ja_V → ja_H → Prop) : Prop := ja_M l D cA ad mo_sp mo_K 2 yX12_pushBody cX12_pushBody 6 (some .int) [(2, ((0 : Nat) : Int)), (0, a1), (0, a2), (0, a3)] h Q
theorem mc_pushBody {a1 a2 a3 : Int} (hdd : 2 < d) (hwd : ja_wd S ≤ 8) (hd : decode cc pc = .ok (.invokevirtual 1018, 3)) (k : mM_pushBody l D cA ad a1 a2 a3 h (fun r h' => mJ l D cA ad d cc nL rt (pc + 3) L (r.toList ++ S) h' Q)) : mJ l D cA ad d cc nL rt pc L ((0, a3) :: (0, a2) :: (0, a1) :: (2, ((0 : Nat) : Int)) :: S) h Q := by
  obtain ⟨m0, m1, m2, m3, m4⟩ := mo_mw (mo_pw7 20 (p := (1018, 2, 114, 0, 8046)) rfl) rfl
  exact ja_callV (S := S) (vals := [(0, a1), (0, a2), (0, a3)]) (n := 3) (N := 209) (T := TX12) (ci := 12) (q := 0) m0 m2 m1 m3 rfl hdd (by decide) m4.1 m4.2.1 (by decide +kernel) (by decide +kernel) (by decide) rfl (show (3 : Nat) + 1 ≤ 6 by decide) hwd hd k
abbrev mM_push (l : Launch) (D : va_G) (cA : Nat → ClassId) (ad : Nat → Nat) (a1 : Int) (h : ja_H) (Q : Option ja_V → ja_H → Prop) : Prop := ja_M l D cA ad mo_sp mo_K 1 yX12_push cX12_push 3 (some .int) [(2, ((0 : Nat) : Int)), (0, a1)] h Q
theorem mc_push {a1 : Int} (hdd : 1 < d) (hwd : ja_wd S ≤ 8) (hd : decode cc pc = .ok (.invokevirtual 1021, 3)) (k : mM_push l D cA ad a1 h (fun r h' => mJ l D cA ad d cc nL rt (pc + 3) L (r.toList ++ S) h' Q)) : mJ l D cA ad d cc nL rt pc L ((0, a1) :: (2, ((0 : Nat) : Int)) :: S) h Q := by
  obtain ⟨m0, m1, m2, m3, m4⟩ := mo_mw (mo_pw7 21 (p := (1021, 2, 115, 0, 8050)) rfl) rfl
  exact ja_callV (S := S) (vals := [(0, a1)]) (n := 1) (N := 209) (T := TX12) (ci := 12) (q := 0) m0 m2 m1 m3 rfl hdd (by decide) m4.1 m4.2.1 (by decide +kernel) (by decide +kernel) (by decide) rfl (show (1 : Nat) + 1 ≤ 3 by decide) hwd hd k
abbrev mM_run (l : Launch) (D : va_G) (cA : Nat → ClassId) (ad : Nat → Nat) (a1 : Int) (h : ja_H) (Q : Option ja_V → ja_H → Prop) : Prop := ja_M l D cA ad mo_sp mo_K 14 yX12_run cX12_run 6 (some .int) [(2, ((0 : Nat) : Int)), (0, a1)] h Q
abbrev mM_rest (l : Launch) (D : va_G) (cA : Nat → ClassId) (ad : Nat → Nat) (h : ja_H) (Q : Option ja_V → ja_H → Prop) : Prop := ja_M l D cA ad mo_sp mo_K 13 yX12_rest cX12_rest 3 none [(2, ((0 : Nat) : Int))] h Q
theorem mc_rest (hdd : 13 < d) (hwd : ja_wd S ≤ 8) (hd : decode cc pc = .ok (.invokevirtual 1033, 3)) (k : mM_rest l D cA ad  h (fun r h' => mJ l D cA ad d cc nL rt (pc + 3) L (r.toList ++ S) h' Q)) : mJ l D cA ad d cc nL rt pc L ((2, ((0 : Nat) : Int)) :: S) h Q := by
  obtain ⟨m0, m1, m2, m3, m4⟩ := mo_mw (mo_pw7 25 (p := (1033, 2, 117, 0, 8058)) rfl) rfl
  exact ja_callV (S := S) (vals := []) (n := 0) (N := 209) (T := TX12) (ci := 12) (q := 0) m0 m2 m1 m3 rfl hdd (by decide) m4.1 m4.2.1 (by decide +kernel) (by decide +kernel) (by decide) rfl (show (0 : Nat) + 1 ≤ 3 by decide) hwd hd k
abbrev mM_act (l : Launch) (D : va_G) (cA : Nat → ClassId) (ad : Nat → Nat) (a1 : Int) (h : ja_H) (Q : Option ja_V → ja_H → Prop) : Prop := ja_M l D cA ad mo_sp mo_K 12 yX12_act cX12_act 9 none [(2, ((0 : Nat) : Int)), (0, a1)] h Q
theorem mc_act {a1 : Int} (hdd : 12 < d) (hwd : ja_wd S ≤ 8) (hd : decode cc pc = .ok (.invokevirtual 1069, 3)) (k : mM_act l D cA ad a1 h (fun r h' => mJ l D cA ad d cc nL rt (pc + 3) L (r.toList ++ S) h' Q)) : mJ l D cA ad d cc nL rt pc L ((0, a1) :: (2, ((0 : Nat) : Int)) :: S) h Q := by
  obtain ⟨m0, m1, m2, m3, m4⟩ := mo_mw (mo_pw7 37 (p := (1069, 2, 118, 0, 8062)) rfl) rfl
  exact ja_callV (S := S) (vals := [(0, a1)]) (n := 1) (N := 209) (T := TX12) (ci := 12) (q := 0) m0 m2 m1 m3 rfl hdd (by decide) m4.1 m4.2.1 (by decide +kernel) (by decide +kernel) (by decide) rfl (show (1 : Nat) + 1 ≤ 9 by decide) hwd hd k
abbrev mM_methodIn (l : Launch) (D : va_G) (cA : Nat → ClassId) (ad : Nat → Nat) (a1 a2 : Int) (h : ja_H) (Q : Option ja_V → ja_H → Prop) : Prop := ja_M l D cA ad mo_sp mo_K 2 yX12_methodIn cX12_methodIn 5 (some .int) [(2, ((0 : Nat) : Int)), (0, a1), (0, a2)] h Q
theorem mc_methodIn {a1 a2 : Int} (hdd : 2 < d) (hwd : ja_wd S ≤ 8) (hd : decode cc pc = .ok (.invokevirtual 1082, 3)) (k : mM_methodIn l D cA ad a1 a2 h (fun r h' => mJ l D cA ad d cc nL rt (pc + 3) L (r.toList ++ S) h' Q)) : mJ l D cA ad d cc nL rt pc L ((0, a2) :: (0, a1) :: (2, ((0 : Nat) : Int)) :: S) h Q := by
  obtain ⟨m0, m1, m2, m3, m4⟩ := mo_mw (mo_pw8 1 (p := (1082, 2, 119, 0, 8066)) rfl) rfl
  exact ja_callV (S := S) (vals := [(0, a1), (0, a2)]) (n := 2) (N := 209) (T := TX12) (ci := 12) (q := 0) m0 m2 m1 m3 rfl hdd (by decide) m4.1 m4.2.1 (by decide +kernel) (by decide +kernel) (by decide) rfl (show (2 : Nat) + 1 ≤ 5 by decide) hwd hd k
abbrev mM_fails (l : Launch) (D : va_G) (cA : Nat → ClassId) (ad : Nat → Nat) (a1 : Int) (h : ja_H) (Q : Option ja_V → ja_H → Prop) : Prop := ja_M l D cA ad mo_sp mo_K 1 yX12_fails cX12_fails 2 none [(2, ((0 : Nat) : Int)), (0, a1)] h Q
theorem mc_fails {a1 : Int} (hdd : 1 < d) (hwd : ja_wd S ≤ 8) (hd : decode cc pc = .ok (.invokevirtual 1072, 3)) (k : mM_fails l D cA ad a1 h (fun r h' => mJ l D cA ad d cc nL rt (pc + 3) L (r.toList ++ S) h' Q)) : mJ l D cA ad d cc nL rt pc L ((0, a1) :: (2, ((0 : Nat) : Int)) :: S) h Q := by
  obtain ⟨m0, m1, m2, m3, m4⟩ := mo_mw (mo_pw7 38 (p := (1072, 2, 120, 0, 8070)) rfl) rfl
  exact ja_callV (S := S) (vals := [(0, a1)]) (n := 1) (N := 209) (T := TX12) (ci := 12) (q := 0) m0 m2 m1 m3 rfl hdd (by decide) m4.1 m4.2.1 (by decide +kernel) (by decide +kernel) (by decide) rfl (show (1 : Nat) + 1 ≤ 2 by decide) hwd hd k
abbrev mM_reach (l : Launch) (D : va_G) (cA : Nat → ClassId) (ad : Nat → Nat) (a1 a2 a3 a4 : Int) (h : ja_H) (Q : Option ja_V → ja_H → Prop) : Prop := ja_M l D cA ad mo_sp mo_K 10 yX12_reach cX12_reach 7 none [(2, ((0 : Nat) : Int)), (0, a1), (0, a2), (0, a3), (0, a4)] h Q
theorem mc_reach {a1 a2 a3 a4 : Int} (hdd : 10 < d) (hwd : ja_wd S ≤ 8) (hd : decode cc pc = .ok (.invokevirtual 1085, 3)) (k : mM_reach l D cA ad a1 a2 a3 a4 h (fun r h' => mJ l D cA ad d cc nL rt (pc + 3) L (r.toList ++ S) h' Q)) : mJ l D cA ad d cc nL rt pc L ((0, a4) :: (0, a3) :: (0, a2) :: (0, a1) :: (2, ((0 : Nat) : Int)) :: S) h Q := by
  obtain ⟨m0, m1, m2, m3, m4⟩ := mo_mw (mo_pw8 2 (p := (1085, 2, 121, 0, 8074)) rfl) rfl
  exact ja_callV (S := S) (vals := [(0, a1), (0, a2), (0, a3), (0, a4)]) (n := 4) (N := 209) (T := TX12) (ci := 12) (q := 0) m0 m2 m1 m3 rfl hdd (by decide) m4.1 m4.2.1 (by decide +kernel) (by decide +kernel) (by decide) rfl (show (4 : Nat) + 1 ≤ 7 by decide) hwd hd k
abbrev mM_hold (l : Launch) (D : va_G) (cA : Nat → ClassId) (ad : Nat → Nat) (a1 : Int) (h : ja_H) (Q : Option ja_V → ja_H → Prop) : Prop := ja_M l D cA ad mo_sp mo_K 9 yX12_hold cX12_hold 7 none [(2, ((0 : Nat) : Int)), (0, a1)] h Q
theorem mc_hold {a1 : Int} (hdd : 9 < d) (hwd : ja_wd S ≤ 8) (hd : decode cc pc = .ok (.invokevirtual 1076, 3)) (k : mM_hold l D cA ad a1 h (fun r h' => mJ l D cA ad d cc nL rt (pc + 3) L (r.toList ++ S) h' Q)) : mJ l D cA ad d cc nL rt pc L ((0, a1) :: (2, ((0 : Nat) : Int)) :: S) h Q := by
  obtain ⟨m0, m1, m2, m3, m4⟩ := mo_mw (mo_pw7 39 (p := (1076, 2, 122, 0, 8078)) rfl) rfl
  exact ja_callV (S := S) (vals := [(0, a1)]) (n := 1) (N := 209) (T := TX12) (ci := 12) (q := 0) m0 m2 m1 m3 rfl hdd (by decide) m4.1 m4.2.1 (by decide +kernel) (by decide +kernel) (by decide) rfl (show (1 : Nat) + 1 ≤ 7 by decide) hwd hd k
abbrev mM_isHeld (l : Launch) (D : va_G) (cA : Nat → ClassId) (ad : Nat → Nat) (a1 a2 : Int) (h : ja_H) (Q : Option ja_V → ja_H → Prop) : Prop := ja_M l D cA ad mo_sp mo_K 8 yX12_isHeld cX12_isHeld 4 (some .boolean) [(2, ((0 : Nat) : Int)), (0, a1), (0, a2)] h Q
theorem mc_isHeld {a1 a2 : Int} (hdd : 8 < d) (hwd : ja_wd S ≤ 8) (hd : decode cc pc = .ok (.invokevirtual 1132, 3)) (k : mM_isHeld l D cA ad a1 a2 h (fun r h' => mJ l D cA ad d cc nL rt (pc + 3) L (r.toList ++ S) h' Q)) : mJ l D cA ad d cc nL rt pc L ((0, a2) :: (0, a1) :: (2, ((0 : Nat) : Int)) :: S) h Q := by
  obtain ⟨m0, m1, m2, m3, m4⟩ := mo_mw (mo_pw8 17 (p := (1132, 2, 123, 0, 8082)) rfl) rfl
  exact ja_callV (S := S) (vals := [(0, a1), (0, a2)]) (n := 2) (N := 209) (T := TX12) (ci := 12) (q := 0) m0 m2 m1 m3 rfl hdd (by decide) m4.1 m4.2.1 (by decide +kernel) (by decide +kernel) (by decide) rfl (show (2 : Nat) + 1 ≤ 4 by decide) hwd hd k
abbrev mM_ask (l : Launch) (D : va_G) (cA : Nat → ClassId) (ad : Nat → Nat) (a1 a2 : Int) (h : ja_H) (Q : Option ja_V → ja_H → Prop) : Prop := ja_M l D cA ad mo_sp mo_K 1 yX12_ask cX12_ask 3 none [(2, ((0 : Nat) : Int)), (0, a1), (0, a2)] h Q
theorem mc_ask {a1 a2 : Int} (hdd : 1 < d) (hwd : ja_wd S ≤ 8) (hd : decode cc pc = .ok (.invokevirtual 1138, 3)) (k : mM_ask l D cA ad a1 a2 h (fun r h' => mJ l D cA ad d cc nL rt (pc + 3) L (r.toList ++ S) h' Q)) : mJ l D cA ad d cc nL rt pc L ((0, a2) :: (0, a1) :: (2, ((0 : Nat) : Int)) :: S) h Q := by
  obtain ⟨m0, m1, m2, m3, m4⟩ := mo_mw (mo_pw8 19 (p := (1138, 2, 124, 0, 8086)) rfl) rfl
  exact ja_callV (S := S) (vals := [(0, a1), (0, a2)]) (n := 2) (N := 209) (T := TX12) (ci := 12) (q := 0) m0 m2 m1 m3 rfl hdd (by decide) m4.1 m4.2.1 (by decide +kernel) (by decide +kernel) (by decide) rfl (show (2 : Nat) + 1 ≤ 3 by decide) hwd hd k
abbrev mM_first (l : Launch) (D : va_G) (cA : Nat → ClassId) (ad : Nat → Nat) (a1 : Int) (h : ja_H) (Q : Option ja_V → ja_H → Prop) : Prop := ja_M l D cA ad mo_sp mo_K 7 yX12_first cX12_first 7 none [(2, ((0 : Nat) : Int)), (0, a1)] h Q
theorem mc_first {a1 : Int} (hdd : 7 < d) (hwd : ja_wd S ≤ 8) (hd : decode cc pc = .ok (.invokevirtual 1141, 3)) (k : mM_first l D cA ad a1 h (fun r h' => mJ l D cA ad d cc nL rt (pc + 3) L (r.toList ++ S) h' Q)) : mJ l D cA ad d cc nL rt pc L ((0, a1) :: (2, ((0 : Nat) : Int)) :: S) h Q := by
  obtain ⟨m0, m1, m2, m3, m4⟩ := mo_mw (mo_pw8 20 (p := (1141, 2, 125, 0, 8090)) rfl) rfl
  exact ja_callV (S := S) (vals := [(0, a1)]) (n := 1) (N := 209) (T := TX12) (ci := 12) (q := 0) m0 m2 m1 m3 rfl hdd (by decide) m4.1 m4.2.1 (by decide +kernel) (by decide +kernel) (by decide) rfl (show (1 : Nat) + 1 ≤ 7 by decide) hwd hd k
abbrev mM_answer (l : Launch) (D : va_G) (cA : Nat → ClassId) (ad : Nat → Nat) (a1 : Int) (h : ja_H) (Q : Option ja_V → ja_H → Prop) : Prop := ja_M l D cA ad mo_sp mo_K 1 yX12_answer cX12_answer 2 none [(2, ((0 : Nat) : Int)), (0, a1)] h Q
theorem mc_answer {a1 : Int} (hdd : 1 < d) (hwd : ja_wd S ≤ 8) (hd : decode cc pc = .ok (.invokevirtual 1150, 3)) (k : mM_answer l D cA ad a1 h (fun r h' => mJ l D cA ad d cc nL rt (pc + 3) L (r.toList ++ S) h' Q)) : mJ l D cA ad d cc nL rt pc L ((0, a1) :: (2, ((0 : Nat) : Int)) :: S) h Q := by
  obtain ⟨m0, m1, m2, m3, m4⟩ := mo_mw (mo_pw8 23 (p := (1150, 2, 126, 0, 8094)) rfl) rfl
  exact ja_callV (S := S) (vals := [(0, a1)]) (n := 1) (N := 209) (T := TX12) (ci := 12) (q := 0) m0 m2 m1 m3 rfl hdd (by decide) m4.1 m4.2.1 (by decide +kernel) (by decide +kernel) (by decide) rfl (show (1 : Nat) + 1 ≤ 2 by decide) hwd hd k
abbrev mM_isLeaf (l : Launch) (D : va_G) (cA : Nat → ClassId) (ad : Nat → Nat) (a1 a2 : Int) (h : ja_H) (Q : Option ja_V → ja_H → Prop) : Prop := ja_M l D cA ad mo_sp mo_K 6 yX12_isLeaf cX12_isLeaf 7 (some .boolean) [(2, ((0 : Nat) : Int)), (0, a1), (0, a2)] h Q
theorem mc_isLeaf {a1 a2 : Int} (hdd : 6 < d) (hwd : ja_wd S ≤ 8) (hd : decode cc pc = .ok (.invokevirtual 1154, 3)) (k : mM_isLeaf l D cA ad a1 a2 h (fun r h' => mJ l D cA ad d cc nL rt (pc + 3) L (r.toList ++ S) h' Q)) : mJ l D cA ad d cc nL rt pc L ((0, a2) :: (0, a1) :: (2, ((0 : Nat) : Int)) :: S) h Q := by
  obtain ⟨m0, m1, m2, m3, m4⟩ := mo_mw (mo_pw8 24 (p := (1154, 2, 127, 0, 8099)) rfl) rfl
  exact ja_callV (S := S) (vals := [(0, a1), (0, a2)]) (n := 2) (N := 209) (T := TX12) (ci := 12) (q := 0) m0 m2 m1 m3 rfl hdd (by decide) m4.1 m4.2.1 (by decide +kernel) (by decide +kernel) (by decide) rfl (show (2 : Nat) + 1 ≤ 7 by decide) hwd hd k
abbrev mM_meetsName (l : Launch) (D : va_G) (cA : Nat → ClassId) (ad : Nat → Nat) (a1 a2 a3 a4 : Int) (h : ja_H) (Q : Option ja_V → ja_H → Prop) : Prop := ja_M l D cA ad mo_sp mo_K 2 yX12_meetsName cX12_meetsName 6 (some .boolean) [(2, ((0 : Nat) : Int)), (0, a1), (0, a2), (0, a3), (0, a4)] h Q
theorem mc_meetsName {a1 a2 a3 a4 : Int} (hdd : 2 < d) (hwd : ja_wd S ≤ 8) (hd : decode cc pc = .ok (.invokevirtual 1160, 3)) (k : mM_meetsName l D cA ad a1 a2 a3 a4 h (fun r h' => mJ l D cA ad d cc nL rt (pc + 3) L (r.toList ++ S) h' Q)) : mJ l D cA ad d cc nL rt pc L ((0, a4) :: (0, a3) :: (0, a2) :: (0, a1) :: (2, ((0 : Nat) : Int)) :: S) h Q := by
  obtain ⟨m0, m1, m2, m3, m4⟩ := mo_mw (mo_pw8 26 (p := (1160, 2, 128, 0, 8103)) rfl) rfl
  exact ja_callV (S := S) (vals := [(0, a1), (0, a2), (0, a3), (0, a4)]) (n := 4) (N := 209) (T := TX12) (ci := 12) (q := 0) m0 m2 m1 m3 rfl hdd (by decide) m4.1 m4.2.1 (by decide +kernel) (by decide +kernel) (by decide) rfl (show (4 : Nat) + 1 ≤ 6 by decide) hwd hd k
abbrev mM_isOf (l : Launch) (D : va_G) (cA : Nat → ClassId) (ad : Nat → Nat) (a1 a2 a3 : Int) (h : ja_H) (Q : Option ja_V → ja_H → Prop) : Prop := ja_M l D cA ad mo_sp mo_K 1 yX12_isOf cX12_isOf 4 (some .boolean) [(2, ((0 : Nat) : Int)), (0, a1), (0, a2), (0, a3)] h Q
theorem mc_isOf {a1 a2 a3 : Int} (hdd : 1 < d) (hwd : ja_wd S ≤ 8) (hd : decode cc pc = .ok (.invokevirtual 1105, 3)) (k : mM_isOf l D cA ad a1 a2 a3 h (fun r h' => mJ l D cA ad d cc nL rt (pc + 3) L (r.toList ++ S) h' Q)) : mJ l D cA ad d cc nL rt pc L ((0, a3) :: (0, a2) :: (0, a1) :: (2, ((0 : Nat) : Int)) :: S) h Q := by
  obtain ⟨m0, m1, m2, m3, m4⟩ := mo_mw (mo_pw8 8 (p := (1105, 2, 129, 0, 8107)) rfl) rfl
  exact ja_callV (S := S) (vals := [(0, a1), (0, a2), (0, a3)]) (n := 3) (N := 209) (T := TX12) (ci := 12) (q := 0) m0 m2 m1 m3 rfl hdd (by decide) m4.1 m4.2.1 (by decide +kernel) (by decide +kernel) (by decide) rfl (show (3 : Nat) + 1 ≤ 4 by decide) hwd hd k
abbrev mM_isIf (l : Launch) (D : va_G) (cA : Nat → ClassId) (ad : Nat → Nat) (a1 : Int) (h : ja_H) (Q : Option ja_V → ja_H → Prop) : Prop := ja_M l D cA ad mo_sp mo_K 4 yX12_isIf cX12_isIf 8 (some .boolean) [(2, ((0 : Nat) : Int)), (0, a1)] h Q
theorem mc_isIf {a1 : Int} (hdd : 4 < d) (hwd : ja_wd S ≤ 8) (hd : decode cc pc = .ok (.invokevirtual 1163, 3)) (k : mM_isIf l D cA ad a1 h (fun r h' => mJ l D cA ad d cc nL rt (pc + 3) L (r.toList ++ S) h' Q)) : mJ l D cA ad d cc nL rt pc L ((0, a1) :: (2, ((0 : Nat) : Int)) :: S) h Q := by
  obtain ⟨m0, m1, m2, m3, m4⟩ := mo_mw (mo_pw8 27 (p := (1163, 2, 130, 0, 8111)) rfl) rfl
  exact ja_callV (S := S) (vals := [(0, a1)]) (n := 1) (N := 209) (T := TX12) (ci := 12) (q := 0) m0 m2 m1 m3 rfl hdd (by decide) m4.1 m4.2.1 (by decide +kernel) (by decide +kernel) (by decide) rfl (show (1 : Nat) + 1 ≤ 8 by decide) hwd hd k
abbrev mM_ePut (l : Launch) (D : va_G) (cA : Nat → ClassId) (ad : Nat → Nat) (a1 a2 : Int) (h : ja_H) (Q : Option ja_V → ja_H → Prop) : Prop := ja_M l D cA ad mo_sp mo_K 1 yX12_ePut cX12_ePut 3 none [(2, ((0 : Nat) : Int)), (0, a1), (0, a2)] h Q
theorem mc_ePut {a1 a2 : Int} (hdd : 1 < d) (hwd : ja_wd S ≤ 8) (hd : decode cc pc = .ok (.invokevirtual 1172, 3)) (k : mM_ePut l D cA ad a1 a2 h (fun r h' => mJ l D cA ad d cc nL rt (pc + 3) L (r.toList ++ S) h' Q)) : mJ l D cA ad d cc nL rt pc L ((0, a2) :: (0, a1) :: (2, ((0 : Nat) : Int)) :: S) h Q := by
  obtain ⟨m0, m1, m2, m3, m4⟩ := mo_mw (mo_pw8 30 (p := (1172, 2, 131, 0, 8115)) rfl) rfl
  exact ja_callV (S := S) (vals := [(0, a1), (0, a2)]) (n := 2) (N := 209) (T := TX12) (ci := 12) (q := 0) m0 m2 m1 m3 rfl hdd (by decide) m4.1 m4.2.1 (by decide +kernel) (by decide +kernel) (by decide) rfl (show (2 : Nat) + 1 ≤ 3 by decide) hwd hd k
abbrev mM_heldAt (l : Launch) (D : va_G) (cA : Nat → ClassId) (ad : Nat → Nat) (a1 a2 a3 : Int) (h : ja_H) (Q : Option ja_V → ja_H → Prop) : Prop := ja_M l D cA ad mo_sp mo_K 1 yX12_heldAt cX12_heldAt 4 (some .int) [(2, ((0 : Nat) : Int)), (0, a1), (0, a2), (0, a3)] h Q
theorem mc_heldAt {a1 a2 a3 : Int} (hdd : 1 < d) (hwd : ja_wd S ≤ 8) (hd : decode cc pc = .ok (.invokevirtual 1102, 3)) (k : mM_heldAt l D cA ad a1 a2 a3 h (fun r h' => mJ l D cA ad d cc nL rt (pc + 3) L (r.toList ++ S) h' Q)) : mJ l D cA ad d cc nL rt pc L ((0, a3) :: (0, a2) :: (0, a1) :: (2, ((0 : Nat) : Int)) :: S) h Q := by
  obtain ⟨m0, m1, m2, m3, m4⟩ := mo_mw (mo_pw8 7 (p := (1102, 2, 132, 0, 8119)) rfl) rfl
  exact ja_callV (S := S) (vals := [(0, a1), (0, a2), (0, a3)]) (n := 3) (N := 209) (T := TX12) (ci := 12) (q := 0) m0 m2 m1 m3 rfl hdd (by decide) m4.1 m4.2.1 (by decide +kernel) (by decide +kernel) (by decide) rfl (show (3 : Nat) + 1 ≤ 4 by decide) hwd hd k
abbrev mM_isTrue (l : Launch) (D : va_G) (cA : Nat → ClassId) (ad : Nat → Nat) (a1 a2 : Int) (h : ja_H) (Q : Option ja_V → ja_H → Prop) : Prop := ja_M l D cA ad mo_sp mo_K 1 yX12_isTrue cX12_isTrue 2 (some .boolean) [(0, a1), (0, a2)] h Q
theorem mc_isTrue {a1 a2 : Int} (hdd : 1 < d) (hwd : ja_wd S ≤ 8) (hd : decode cc pc = .ok (.invokestatic 1111, 3)) (k : mM_isTrue l D cA ad a1 a2 h (fun r h' => mJ l D cA ad d cc nL rt (pc + 3) L (r.toList ++ S) h' Q)) : mJ l D cA ad d cc nL rt pc L ((0, a2) :: (0, a1) :: S) h Q := by
  obtain ⟨m0, m1, m2, m3, m4⟩ := mo_mw (mo_pw8 10 (p := (1111, 2, 133, 0, 8123)) rfl) rfl
  exact ja_callS (S := S) (vals := [(0, a1), (0, a2)]) (n := 2) m0 m2 m1 m3 rfl hdd (by decide) m4 (show (2 : Nat) ≤ 2 by decide) hwd hd k
abbrev mM_asWhole (l : Launch) (D : va_G) (cA : Nat → ClassId) (ad : Nat → Nat) (a1 : Int) (h : ja_H) (Q : Option ja_V → ja_H → Prop) : Prop := ja_M l D cA ad mo_sp mo_K 1 yX12_asWhole cX12_asWhole 1 (some .int) [(0, a1)] h Q
theorem mc_asWhole {a1 : Int} (hdd : 1 < d) (hwd : ja_wd S ≤ 8) (hd : decode cc pc = .ok (.invokestatic 1098, 3)) (k : mM_asWhole l D cA ad a1 h (fun r h' => mJ l D cA ad d cc nL rt (pc + 3) L (r.toList ++ S) h' Q)) : mJ l D cA ad d cc nL rt pc L ((0, a1) :: S) h Q := by
  obtain ⟨m0, m1, m2, m3, m4⟩ := mo_mw (mo_pw8 6 (p := (1098, 2, 134, 0, 8126)) rfl) rfl
  exact ja_callS (S := S) (vals := [(0, a1)]) (n := 1) m0 m2 m1 m3 rfl hdd (by decide) m4 (show (1 : Nat) ≤ 1 by decide) hwd hd k
abbrev mM_ifWord (l : Launch) (D : va_G) (cA : Nat → ClassId) (ad : Nat → Nat) (a1 : Int) (h : ja_H) (Q : Option ja_V → ja_H → Prop) : Prop := ja_M l D cA ad mo_sp mo_K 3 yX12_ifWord cX12_ifWord 7 none [(2, ((0 : Nat) : Int)), (0, a1)] h Q
theorem mc_ifWord {a1 : Int} (hdd : 3 < d) (hwd : ja_wd S ≤ 8) (hd : decode cc pc = .ok (.invokevirtual 1175, 3)) (k : mM_ifWord l D cA ad a1 h (fun r h' => mJ l D cA ad d cc nL rt (pc + 3) L (r.toList ++ S) h' Q)) : mJ l D cA ad d cc nL rt pc L ((0, a1) :: (2, ((0 : Nat) : Int)) :: S) h Q := by
  obtain ⟨m0, m1, m2, m3, m4⟩ := mo_mw (mo_pw8 31 (p := (1175, 2, 135, 0, 8129)) rfl) rfl
  exact ja_callV (S := S) (vals := [(0, a1)]) (n := 1) (N := 209) (T := TX12) (ci := 12) (q := 0) m0 m2 m1 m3 rfl hdd (by decide) m4.1 m4.2.1 (by decide +kernel) (by decide +kernel) (by decide) rfl (show (1 : Nat) + 1 ≤ 7 by decide) hwd hd k
abbrev mM_both (l : Launch) (D : va_G) (cA : Nat → ClassId) (ad : Nat → Nat) (a1 a2 a3 : Int) (h : ja_H) (Q : Option ja_V → ja_H → Prop) : Prop := ja_M l D cA ad mo_sp mo_K 2 yX12_both cX12_both 3 (some .int) [(0, a1), (0, a2), (0, a3)] h Q
theorem mc_both {a1 a2 a3 : Int} (hdd : 2 < d) (hwd : ja_wd S ≤ 8) (hd : decode cc pc = .ok (.invokestatic 1123, 3)) (k : mM_both l D cA ad a1 a2 a3 h (fun r h' => mJ l D cA ad d cc nL rt (pc + 3) L (r.toList ++ S) h' Q)) : mJ l D cA ad d cc nL rt pc L ((0, a3) :: (0, a2) :: (0, a1) :: S) h Q := by
  obtain ⟨m0, m1, m2, m3, m4⟩ := mo_mw (mo_pw8 14 (p := (1123, 2, 136, 0, 8133)) rfl) rfl
  exact ja_callS (S := S) (vals := [(0, a1), (0, a2), (0, a3)]) (n := 3) m0 m2 m1 m3 rfl hdd (by decide) m4 (show (3 : Nat) ≤ 3 by decide) hwd hd k
abbrev mM_next (l : Launch) (D : va_G) (cA : Nat → ClassId) (ad : Nat → Nat) (a1 : Int) (h : ja_H) (Q : Option ja_V → ja_H → Prop) : Prop := ja_M l D cA ad mo_sp mo_K 2 yX12_next cX12_next 6 none [(2, ((0 : Nat) : Int)), (0, a1)] h Q
theorem mc_next {a1 : Int} (hdd : 2 < d) (hwd : ja_wd S ≤ 8) (hd : decode cc pc = .ok (.invokevirtual 1144, 3)) (k : mM_next l D cA ad a1 h (fun r h' => mJ l D cA ad d cc nL rt (pc + 3) L (r.toList ++ S) h' Q)) : mJ l D cA ad d cc nL rt pc L ((0, a1) :: (2, ((0 : Nat) : Int)) :: S) h Q := by
  obtain ⟨m0, m1, m2, m3, m4⟩ := mo_mw (mo_pw8 21 (p := (1144, 2, 137, 0, 8136)) rfl) rfl
  exact ja_callV (S := S) (vals := [(0, a1)]) (n := 1) (N := 209) (T := TX12) (ci := 12) (q := 0) m0 m2 m1 m3 rfl hdd (by decide) m4.1 m4.2.1 (by decide +kernel) (by decide +kernel) (by decide) rfl (show (1 : Nat) + 1 ≤ 6 by decide) hwd hd k
abbrev mM_undo (l : Launch) (D : va_G) (cA : Nat → ClassId) (ad : Nat → Nat) (a1 : Int) (h : ja_H) (Q : Option ja_V → ja_H → Prop) : Prop := ja_M l D cA ad mo_sp mo_K 1 yX12_undo cX12_undo 4 none [(2, ((0 : Nat) : Int)), (0, a1)] h Q
theorem mc_undo {a1 : Int} (hdd : 1 < d) (hwd : ja_wd S ≤ 8) (hd : decode cc pc = .ok (.invokevirtual 1157, 3)) (k : mM_undo l D cA ad a1 h (fun r h' => mJ l D cA ad d cc nL rt (pc + 3) L (r.toList ++ S) h' Q)) : mJ l D cA ad d cc nL rt pc L ((0, a1) :: (2, ((0 : Nat) : Int)) :: S) h Q := by
  obtain ⟨m0, m1, m2, m3, m4⟩ := mo_mw (mo_pw8 25 (p := (1157, 2, 138, 0, 8140)) rfl) rfl
  exact ja_callV (S := S) (vals := [(0, a1)]) (n := 1) (N := 209) (T := TX12) (ci := 12) (q := 0) m0 m2 m1 m3 rfl hdd (by decide) m4.1 m4.2.1 (by decide +kernel) (by decide +kernel) (by decide) rfl (show (1 : Nat) + 1 ≤ 4 by decide) hwd hd k
abbrev mM_make (l : Launch) (D : va_G) (cA : Nat → ClassId) (ad : Nat → Nat) (a1 a2 : Int) (h : ja_H) (Q : Option ja_V → ja_H → Prop) : Prop := ja_M l D cA ad mo_sp mo_K 11 yX12_make cX12_make 8 none [(2, ((0 : Nat) : Int)), (0, a1), (0, a2)] h Q
theorem mc_make {a1 a2 : Int} (hdd : 11 < d) (hwd : ja_wd S ≤ 8) (hd : decode cc pc = .ok (.invokevirtual 1089, 3)) (k : mM_make l D cA ad a1 a2 h (fun r h' => mJ l D cA ad d cc nL rt (pc + 3) L (r.toList ++ S) h' Q)) : mJ l D cA ad d cc nL rt pc L ((0, a2) :: (0, a1) :: (2, ((0 : Nat) : Int)) :: S) h Q := by
  obtain ⟨m0, m1, m2, m3, m4⟩ := mo_mw (mo_pw8 3 (p := (1089, 2, 139, 0, 8144)) rfl) rfl
  exact ja_callV (S := S) (vals := [(0, a1), (0, a2)]) (n := 2) (N := 209) (T := TX12) (ci := 12) (q := 0) m0 m2 m1 m3 rfl hdd (by decide) m4.1 m4.2.1 (by decide +kernel) (by decide +kernel) (by decide) rfl (show (2 : Nat) + 1 ≤ 8 by decide) hwd hd k
abbrev mM_initIn (l : Launch) (D : va_G) (cA : Nat → ClassId) (ad : Nat → Nat) (a1 : Int) (h : ja_H) (Q : Option ja_V → ja_H → Prop) : Prop := ja_M l D cA ad mo_sp mo_K 2 yX12_initIn cX12_initIn 4 (some .int) [(2, ((0 : Nat) : Int)), (0, a1)] h Q
theorem mc_initIn {a1 : Int} (hdd : 2 < d) (hwd : ja_wd S ≤ 8) (hd : decode cc pc = .ok (.invokevirtual 1095, 3)) (k : mM_initIn l D cA ad a1 h (fun r h' => mJ l D cA ad d cc nL rt (pc + 3) L (r.toList ++ S) h' Q)) : mJ l D cA ad d cc nL rt pc L ((0, a1) :: (2, ((0 : Nat) : Int)) :: S) h Q := by
  obtain ⟨m0, m1, m2, m3, m4⟩ := mo_mw (mo_pw8 5 (p := (1095, 2, 140, 0, 8148)) rfl) rfl
  exact ja_callV (S := S) (vals := [(0, a1)]) (n := 1) (N := 209) (T := TX12) (ci := 12) (q := 0) m0 m2 m1 m3 rfl hdd (by decide) m4.1 m4.2.1 (by decide +kernel) (by decide +kernel) (by decide) rfl (show (1 : Nat) + 1 ≤ 4 by decide) hwd hd k
abbrev mM_isInit (l : Launch) (D : va_G) (cA : Nat → ClassId) (ad : Nat → Nat) (a1 : Int) (h : ja_H) (Q : Option ja_V → ja_H → Prop) : Prop := ja_M l D cA ad mo_sp mo_K 1 yX12_isInit cX12_isInit 3 (some .boolean) [(2, ((0 : Nat) : Int)), (0, a1)] h Q
theorem mc_isInit {a1 : Int} (hdd : 1 < d) (hwd : ja_wd S ≤ 8) (hd : decode cc pc = .ok (.invokevirtual 1079, 3)) (k : mM_isInit l D cA ad a1 h (fun r h' => mJ l D cA ad d cc nL rt (pc + 3) L (r.toList ++ S) h' Q)) : mJ l D cA ad d cc nL rt pc L ((0, a1) :: (2, ((0 : Nat) : Int)) :: S) h Q := by
  obtain ⟨m0, m1, m2, m3, m4⟩ := mo_mw (mo_pw8 0 (p := (1079, 2, 141, 0, 8152)) rfl) rfl
  exact ja_callV (S := S) (vals := [(0, a1)]) (n := 1) (N := 209) (T := TX12) (ci := 12) (q := 0) m0 m2 m1 m3 rfl hdd (by decide) m4.1 m4.2.1 (by decide +kernel) (by decide +kernel) (by decide) rfl (show (1 : Nat) + 1 ≤ 3 by decide) hwd hd k
abbrev mM_result (l : Launch) (D : va_G) (cA : Nat → ClassId) (ad : Nat → Nat) (a1 a2 : Int) (h : ja_H) (Q : Option ja_V → ja_H → Prop) : Prop := ja_M l D cA ad mo_sp mo_K 1 yX12_result cX12_result 3 none [(2, ((0 : Nat) : Int)), (0, a1), (0, a2)] h Q
theorem mc_result {a1 a2 : Int} (hdd : 1 < d) (hwd : ja_wd S ≤ 8) (hd : decode cc pc = .ok (.invokevirtual 1051, 3)) (k : mM_result l D cA ad a1 a2 h (fun r h' => mJ l D cA ad d cc nL rt (pc + 3) L (r.toList ++ S) h' Q)) : mJ l D cA ad d cc nL rt pc L ((0, a2) :: (0, a1) :: (2, ((0 : Nat) : Int)) :: S) h Q := by
  obtain ⟨m0, m1, m2, m3, m4⟩ := mo_mw (mo_pw7 31 (p := (1051, 2, 142, 0, 8156)) rfl) rfl
  exact ja_callV (S := S) (vals := [(0, a1), (0, a2)]) (n := 2) (N := 209) (T := TX12) (ci := 12) (q := 0) m0 m2 m1 m3 rfl hdd (by decide) m4.1 m4.2.1 (by decide +kernel) (by decide +kernel) (by decide) rfl (show (2 : Nat) + 1 ≤ 3 by decide) hwd hd k
abbrev mM_fieldIn (l : Launch) (D : va_G) (cA : Nat → ClassId) (ad : Nat → Nat) (a1 a2 : Int) (h : ja_H) (Q : Option ja_V → ja_H → Prop) : Prop := ja_M l D cA ad mo_sp mo_K 2 yX12_fieldIn cX12_fieldIn 6 (some .int) [(2, ((0 : Nat) : Int)), (0, a1), (0, a2)] h Q
theorem mc_fieldIn {a1 a2 : Int} (hdd : 2 < d) (hwd : ja_wd S ≤ 8) (hd : decode cc pc = .ok (.invokevirtual 1092, 3)) (k : mM_fieldIn l D cA ad a1 a2 h (fun r h' => mJ l D cA ad d cc nL rt (pc + 3) L (r.toList ++ S) h' Q)) : mJ l D cA ad d cc nL rt pc L ((0, a2) :: (0, a1) :: (2, ((0 : Nat) : Int)) :: S) h Q := by
  obtain ⟨m0, m1, m2, m3, m4⟩ := mo_mw (mo_pw8 4 (p := (1092, 2, 143, 0, 8160)) rfl) rfl
  exact ja_callV (S := S) (vals := [(0, a1), (0, a2)]) (n := 2) (N := 209) (T := TX12) (ci := 12) (q := 0) m0 m2 m1 m3 rfl hdd (by decide) m4.1 m4.2.1 (by decide +kernel) (by decide +kernel) (by decide) rfl (show (2 : Nat) + 1 ≤ 6 by decide) hwd hd k
abbrev mM_beginAdvice (l : Launch) (D : va_G) (cA : Nat → ClassId) (ad : Nat → Nat) (a1 : Int) (h : ja_H) (Q : Option ja_V → ja_H → Prop) : Prop := ja_M l D cA ad mo_sp mo_K 3 yX12_beginAdvice cX12_beginAdvice 7 none [(2, ((0 : Nat) : Int)), (0, a1)] h Q
theorem mc_beginAdvice {a1 : Int} (hdd : 3 < d) (hwd : ja_wd S ≤ 8) (hd : decode cc pc = .ok (.invokevirtual 1066, 3)) (k : mM_beginAdvice l D cA ad a1 h (fun r h' => mJ l D cA ad d cc nL rt (pc + 3) L (r.toList ++ S) h' Q)) : mJ l D cA ad d cc nL rt pc L ((0, a1) :: (2, ((0 : Nat) : Int)) :: S) h Q := by
  obtain ⟨m0, m1, m2, m3, m4⟩ := mo_mw (mo_pw7 36 (p := (1066, 2, 144, 0, 8164)) rfl) rfl
  exact ja_callV (S := S) (vals := [(0, a1)]) (n := 1) (N := 209) (T := TX12) (ci := 12) (q := 0) m0 m2 m1 m3 rfl hdd (by decide) m4.1 m4.2.1 (by decide +kernel) (by decide +kernel) (by decide) rfl (show (1 : Nat) + 1 ≤ 7 by decide) hwd hd k
abbrev mM_deliver (l : Launch) (D : va_G) (cA : Nat → ClassId) (ad : Nat → Nat) (h : ja_H) (Q : Option ja_V → ja_H → Prop) : Prop := ja_M l D cA ad mo_sp mo_K 5 yX12_deliver cX12_deliver 2 none [(2, ((0 : Nat) : Int))] h Q
theorem mc_deliver (hdd : 5 < d) (hwd : ja_wd S ≤ 8) (hd : decode cc pc = .ok (.invokevirtual 1036, 3)) (k : mM_deliver l D cA ad  h (fun r h' => mJ l D cA ad d cc nL rt (pc + 3) L (r.toList ++ S) h' Q)) : mJ l D cA ad d cc nL rt pc L ((2, ((0 : Nat) : Int)) :: S) h Q := by
  obtain ⟨m0, m1, m2, m3, m4⟩ := mo_mw (mo_pw7 26 (p := (1036, 2, 145, 0, 8168)) rfl) rfl
  exact ja_callV (S := S) (vals := []) (n := 0) (N := 209) (T := TX12) (ci := 12) (q := 0) m0 m2 m1 m3 rfl hdd (by decide) m4.1 m4.2.1 (by decide +kernel) (by decide +kernel) (by decide) rfl (show (0 : Nat) + 1 ≤ 2 by decide) hwd hd k
abbrev mM_raise (l : Launch) (D : va_G) (cA : Nat → ClassId) (ad : Nat → Nat) (a1 : Int) (h : ja_H) (Q : Option ja_V → ja_H → Prop) : Prop := ja_M l D cA ad mo_sp mo_K 2 yX12_raise cX12_raise 3 none [(2, ((0 : Nat) : Int)), (0, a1)] h Q
theorem mc_raise {a1 : Int} (hdd : 2 < d) (hwd : ja_wd S ≤ 8) (hd : decode cc pc = .ok (.invokevirtual 1042, 3)) (k : mM_raise l D cA ad a1 h (fun r h' => mJ l D cA ad d cc nL rt (pc + 3) L (r.toList ++ S) h' Q)) : mJ l D cA ad d cc nL rt pc L ((0, a1) :: (2, ((0 : Nat) : Int)) :: S) h Q := by
  obtain ⟨m0, m1, m2, m3, m4⟩ := mo_mw (mo_pw7 28 (p := (1042, 2, 146, 0, 8172)) rfl) rfl
  exact ja_callV (S := S) (vals := [(0, a1)]) (n := 1) (N := 209) (T := TX12) (ci := 12) (q := 0) m0 m2 m1 m3 rfl hdd (by decide) m4.1 m4.2.1 (by decide +kernel) (by decide +kernel) (by decide) rfl (show (1 : Nat) + 1 ≤ 3 by decide) hwd hd k
abbrev mM_put (l : Launch) (D : va_G) (cA : Nat → ClassId) (ad : Nat → Nat) (a1 a2 : Int) (h : ja_H) (Q : Option ja_V → ja_H → Prop) : Prop := ja_M l D cA ad mo_sp mo_K 1 yX12_put cX12_put 3 none [(2, ((0 : Nat) : Int)), (0, a1), (0, a2)] h Q
theorem mc_put {a1 a2 : Int} (hdd : 1 < d) (hwd : ja_wd S ≤ 8) (hd : decode cc pc = .ok (.invokevirtual 1045, 3)) (k : mM_put l D cA ad a1 a2 h (fun r h' => mJ l D cA ad d cc nL rt (pc + 3) L (r.toList ++ S) h' Q)) : mJ l D cA ad d cc nL rt pc L ((0, a2) :: (0, a1) :: (2, ((0 : Nat) : Int)) :: S) h Q := by
  obtain ⟨m0, m1, m2, m3, m4⟩ := mo_mw (mo_pw7 29 (p := (1045, 2, 147, 0, 8192)) rfl) rfl
  exact ja_callV (S := S) (vals := [(0, a1), (0, a2)]) (n := 2) (N := 209) (T := TX12) (ci := 12) (q := 0) m0 m2 m1 m3 rfl hdd (by decide) m4.1 m4.2.1 (by decide +kernel) (by decide +kernel) (by decide) rfl (show (2 : Nat) + 1 ≤ 3 by decide) hwd hd k
abbrev mM_leave (l : Launch) (D : va_G) (cA : Nat → ClassId) (ad : Nat → Nat) (h : ja_H) (Q : Option ja_V → ja_H → Prop) : Prop := ja_M l D cA ad mo_sp mo_K 1 yX12_leave cX12_leave 1 none [(2, ((0 : Nat) : Int))] h Q
theorem mc_leave (hdd : 1 < d) (hwd : ja_wd S ≤ 8) (hd : decode cc pc = .ok (.invokevirtual 1054, 3)) (k : mM_leave l D cA ad  h (fun r h' => mJ l D cA ad d cc nL rt (pc + 3) L (r.toList ++ S) h' Q)) : mJ l D cA ad d cc nL rt pc L ((2, ((0 : Nat) : Int)) :: S) h Q := by
  obtain ⟨m0, m1, m2, m3, m4⟩ := mo_mw (mo_pw7 32 (p := (1054, 2, 148, 0, 8196)) rfl) rfl
  exact ja_callV (S := S) (vals := []) (n := 0) (N := 209) (T := TX12) (ci := 12) (q := 0) m0 m2 m1 m3 rfl hdd (by decide) m4.1 m4.2.1 (by decide +kernel) (by decide +kernel) (by decide) rfl (show (0 : Nat) + 1 ≤ 1 by decide) hwd hd k
abbrev mM_deliverRest (l : Launch) (D : va_G) (cA : Nat → ClassId) (ad : Nat → Nat) (a1 : Int) (h : ja_H) (Q : Option ja_V → ja_H → Prop) : Prop := ja_M l D cA ad mo_sp mo_K 4 yX12_deliverRest cX12_deliverRest 5 none [(2, ((0 : Nat) : Int)), (0, a1)] h Q
theorem mc_deliverRest {a1 : Int} (hdd : 4 < d) (hwd : ja_wd S ≤ 8) (hd : decode cc pc = .ok (.invokevirtual 1048, 3)) (k : mM_deliverRest l D cA ad a1 h (fun r h' => mJ l D cA ad d cc nL rt (pc + 3) L (r.toList ++ S) h' Q)) : mJ l D cA ad d cc nL rt pc L ((0, a1) :: (2, ((0 : Nat) : Int)) :: S) h Q := by
  obtain ⟨m0, m1, m2, m3, m4⟩ := mo_mw (mo_pw7 30 (p := (1048, 2, 149, 0, 8200)) rfl) rfl
  exact ja_callV (S := S) (vals := [(0, a1)]) (n := 1) (N := 209) (T := TX12) (ci := 12) (q := 0) m0 m2 m1 m3 rfl hdd (by decide) m4.1 m4.2.1 (by decide +kernel) (by decide +kernel) (by decide) rfl (show (1 : Nat) + 1 ≤ 5 by decide) hwd hd k
abbrev mM_takeArgs (l : Launch) (D : va_G) (cA : Nat → ClassId) (ad : Nat → Nat) (a1 : Int) (h : ja_H) (Q : Option ja_V → ja_H → Prop) : Prop := ja_M l D cA ad mo_sp mo_K 1 yX12_takeArgs cX12_takeArgs 3 none [(2, ((0 : Nat) : Int)), (0, a1)] h Q
theorem mc_takeArgs {a1 : Int} (hdd : 1 < d) (hwd : ja_wd S ≤ 8) (hd : decode cc pc = .ok (.invokevirtual 1063, 3)) (k : mM_takeArgs l D cA ad a1 h (fun r h' => mJ l D cA ad d cc nL rt (pc + 3) L (r.toList ++ S) h' Q)) : mJ l D cA ad d cc nL rt pc L ((0, a1) :: (2, ((0 : Nat) : Int)) :: S) h Q := by
  obtain ⟨m0, m1, m2, m3, m4⟩ := mo_mw (mo_pw7 35 (p := (1063, 2, 150, 0, 8204)) rfl) rfl
  exact ja_callV (S := S) (vals := [(0, a1)]) (n := 1) (N := 209) (T := TX12) (ci := 12) (q := 0) m0 m2 m1 m3 rfl hdd (by decide) m4.1 m4.2.1 (by decide +kernel) (by decide +kernel) (by decide) rfl (show (1 : Nat) + 1 ≤ 3 by decide) hwd hd k
abbrev mM_execute (l : Launch) (D : va_G) (cA : Nat → ClassId) (ad : Nat → Nat) (a1 a2 : Int) (h : ja_H) (Q : Option ja_V → ja_H → Prop) : Prop := ja_M l D cA ad mo_sp mo_K 12 yX12_execute cX12_execute 6 none [(2, ((0 : Nat) : Int)), (0, a1), (0, a2)] h Q
theorem mc_execute {a1 a2 : Int} (hdd : 12 < d) (hwd : ja_wd S ≤ 8) (hd : decode cc pc = .ok (.invokevirtual 1039, 3)) (k : mM_execute l D cA ad a1 a2 h (fun r h' => mJ l D cA ad d cc nL rt (pc + 3) L (r.toList ++ S) h' Q)) : mJ l D cA ad d cc nL rt pc L ((0, a2) :: (0, a1) :: (2, ((0 : Nat) : Int)) :: S) h Q := by
  obtain ⟨m0, m1, m2, m3, m4⟩ := mo_mw (mo_pw7 27 (p := (1039, 2, 151, 0, 8208)) rfl) rfl
  exact ja_callV (S := S) (vals := [(0, a1), (0, a2)]) (n := 2) (N := 209) (T := TX12) (ci := 12) (q := 0) m0 m2 m1 m3 rfl hdd (by decide) m4.1 m4.2.1 (by decide +kernel) (by decide +kernel) (by decide) rfl (show (2 : Nat) + 1 ≤ 6 by decide) hwd hd k
abbrev mM_binary (l : Launch) (D : va_G) (cA : Nat → ClassId) (ad : Nat → Nat) (a1 : Int) (h : ja_H) (Q : Option ja_V → ja_H → Prop) : Prop := ja_M l D cA ad mo_sp mo_K 3 yX12_binary cX12_binary 6 none [(2, ((0 : Nat) : Int)), (0, a1)] h Q
theorem mc_binary {a1 : Int} (hdd : 3 < d) (hwd : ja_wd S ≤ 8) (hd : decode cc pc = .ok (.invokevirtual 1108, 3)) (k : mM_binary l D cA ad a1 h (fun r h' => mJ l D cA ad d cc nL rt (pc + 3) L (r.toList ++ S) h' Q)) : mJ l D cA ad d cc nL rt pc L ((0, a1) :: (2, ((0 : Nat) : Int)) :: S) h Q := by
  obtain ⟨m0, m1, m2, m3, m4⟩ := mo_mw (mo_pw8 9 (p := (1108, 2, 152, 0, 8212)) rfl) rfl
  exact ja_callV (S := S) (vals := [(0, a1)]) (n := 1) (N := 209) (T := TX12) (ci := 12) (q := 0) m0 m2 m1 m3 rfl hdd (by decide) m4.1 m4.2.1 (by decide +kernel) (by decide +kernel) (by decide) rfl (show (1 : Nat) + 1 ≤ 6 by decide) hwd hd k
abbrev mM_pointWord (l : Launch) (D : va_G) (cA : Nat → ClassId) (ad : Nat → Nat) (a1 a2 : Int) (h : ja_H) (Q : Option ja_V → ja_H → Prop) : Prop := ja_M l D cA ad mo_sp mo_K 11 yX12_pointWord cX12_pointWord 7 none [(2, ((0 : Nat) : Int)), (0, a1), (0, a2)] h Q
theorem mc_pointWord {a1 a2 : Int} (hdd : 11 < d) (hwd : ja_wd S ≤ 8) (hd : decode cc pc = .ok (.invokevirtual 1114, 3)) (k : mM_pointWord l D cA ad a1 a2 h (fun r h' => mJ l D cA ad d cc nL rt (pc + 3) L (r.toList ++ S) h' Q)) : mJ l D cA ad d cc nL rt pc L ((0, a2) :: (0, a1) :: (2, ((0 : Nat) : Int)) :: S) h Q := by
  obtain ⟨m0, m1, m2, m3, m4⟩ := mo_mw (mo_pw8 11 (p := (1114, 2, 153, 0, 8216)) rfl) rfl
  exact ja_callV (S := S) (vals := [(0, a1), (0, a2)]) (n := 2) (N := 209) (T := TX12) (ci := 12) (q := 0) m0 m2 m1 m3 rfl hdd (by decide) m4.1 m4.2.1 (by decide +kernel) (by decide +kernel) (by decide) rfl (show (2 : Nat) + 1 ≤ 7 by decide) hwd hd k
abbrev mM_go (l : Launch) (D : va_G) (cA : Nat → ClassId) (ad : Nat → Nat) (a1 a2 : Int) (h : ja_H) (Q : Option ja_V → ja_H → Prop) : Prop := ja_M l D cA ad mo_sp mo_K 2 yX12_go cX12_go 6 none [(2, ((0 : Nat) : Int)), (0, a1), (0, a2)] h Q
theorem mc_go {a1 a2 : Int} (hdd : 2 < d) (hwd : ja_wd S ≤ 8) (hd : decode cc pc = .ok (.invokevirtual 1117, 3)) (k : mM_go l D cA ad a1 a2 h (fun r h' => mJ l D cA ad d cc nL rt (pc + 3) L (r.toList ++ S) h' Q)) : mJ l D cA ad d cc nL rt pc L ((0, a2) :: (0, a1) :: (2, ((0 : Nat) : Int)) :: S) h Q := by
  obtain ⟨m0, m1, m2, m3, m4⟩ := mo_mw (mo_pw8 12 (p := (1117, 2, 154, 0, 8220)) rfl) rfl
  exact ja_callV (S := S) (vals := [(0, a1), (0, a2)]) (n := 2) (N := 209) (T := TX12) (ci := 12) (q := 0) m0 m2 m1 m3 rfl hdd (by decide) m4.1 m4.2.1 (by decide +kernel) (by decide +kernel) (by decide) rfl (show (2 : Nat) + 1 ≤ 6 by decide) hwd hd k
abbrev mM_flowWord (l : Launch) (D : va_G) (cA : Nat → ClassId) (ad : Nat → Nat) (a1 a2 : Int) (h : ja_H) (Q : Option ja_V → ja_H → Prop) : Prop := ja_M l D cA ad mo_sp mo_K 2 yX12_flowWord cX12_flowWord 9 none [(2, ((0 : Nat) : Int)), (0, a1), (0, a2)] h Q
theorem mc_flowWord {a1 a2 : Int} (hdd : 2 < d) (hwd : ja_wd S ≤ 8) (hd : decode cc pc = .ok (.invokevirtual 1120, 3)) (k : mM_flowWord l D cA ad a1 a2 h (fun r h' => mJ l D cA ad d cc nL rt (pc + 3) L (r.toList ++ S) h' Q)) : mJ l D cA ad d cc nL rt pc L ((0, a2) :: (0, a1) :: (2, ((0 : Nat) : Int)) :: S) h Q := by
  obtain ⟨m0, m1, m2, m3, m4⟩ := mo_mw (mo_pw8 13 (p := (1120, 2, 155, 0, 8224)) rfl) rfl
  exact ja_callV (S := S) (vals := [(0, a1), (0, a2)]) (n := 2) (N := 209) (T := TX12) (ci := 12) (q := 0) m0 m2 m1 m3 rfl hdd (by decide) m4.1 m4.2.1 (by decide +kernel) (by decide +kernel) (by decide) rfl (show (2 : Nat) + 1 ≤ 9 by decide) hwd hd k
abbrev mM_told_ (l : Launch) (D : va_G) (cA : Nat → ClassId) (ad : Nat → Nat) (a1 : Int) (h : ja_H) (Q : Option ja_V → ja_H → Prop) : Prop := ja_M l D cA ad mo_sp mo_K 1 yX12_told_ cX12_told_ 2 (some .int) [(2, ((0 : Nat) : Int)), (0, a1)] h Q
abbrev mM_output (l : Launch) (D : va_G) (cA : Nat → ClassId) (ad : Nat → Nat) (a1 a2 : Int) (h : ja_H) (Q : Option ja_V → ja_H → Prop) : Prop := ja_M l D cA ad mo_sp mo_K 2 yX12_output cX12_output 3 (some .int) [(2, ((0 : Nat) : Int)), (0, a1), (0, a2)] h Q
abbrev mM_tell (l : Launch) (D : va_G) (cA : Nat → ClassId) (ad : Nat → Nat) (a1 a2 a3 : Int) (h : ja_H) (Q : Option ja_V → ja_H → Prop) : Prop := ja_M l D cA ad mo_sp mo_K 1 yX12_tell cX12_tell 3 (some .int) [(0, a1), (0, a2), (0, a3)] h Q
theorem mc_tell {a1 a2 a3 : Int} (hdd : 1 < d) (hwd : ja_wd S ≤ 8) (hd : decode cc pc = .ok (.invokestatic 1178, 3)) (k : mM_tell l D cA ad a1 a2 a3 h (fun r h' => mJ l D cA ad d cc nL rt (pc + 3) L (r.toList ++ S) h' Q)) : mJ l D cA ad d cc nL rt pc L ((0, a3) :: (0, a2) :: (0, a1) :: S) h Q := by
  obtain ⟨m0, m1, m2, m3, m4⟩ := mo_mw (mo_pw8 32 (p := (1178, 2, 158, 0, 8236)) rfl) rfl
  exact ja_callS (S := S) (vals := [(0, a1), (0, a2), (0, a3)]) (n := 3) m0 m2 m1 m3 rfl hdd (by decide) m4 (show (3 : Nat) ≤ 3 by decide) hwd hd k
abbrev mM_failure (l : Launch) (D : va_G) (cA : Nat → ClassId) (ad : Nat → Nat) (a1 : Int) (h : ja_H) (Q : Option ja_V → ja_H → Prop) : Prop := ja_M l D cA ad mo_sp mo_K 2 yX12_failure cX12_failure 2 (some .int) [(2, ((0 : Nat) : Int)), (0, a1)] h Q
abbrev mM_row (l : Launch) (D : va_G) (cA : Nat → ClassId) (ad : Nat → Nat) (a1 a2 : Int) (h : ja_H) (Q : Option ja_V → ja_H → Prop) : Prop := ja_M l D cA ad mo_sp mo_K 1 yX12_row cX12_row 3 (some .int) [(2, ((0 : Nat) : Int)), (0, a1), (0, a2)] h Q
abbrev mM_object (l : Launch) (D : va_G) (cA : Nat → ClassId) (ad : Nat → Nat) (a1 a2 a3 : Int) (h : ja_H) (Q : Option ja_V → ja_H → Prop) : Prop := ja_M l D cA ad mo_sp mo_K 2 yX12_object cX12_object 6 (some .int) [(2, ((0 : Nat) : Int)), (0, a1), (0, a2), (0, a3)] h Q
abbrev mM_held (l : Launch) (D : va_G) (cA : Nat → ClassId) (ad : Nat → Nat) (a1 a2 a3 a4 : Int) (h : ja_H) (Q : Option ja_V → ja_H → Prop) : Prop := ja_M l D cA ad mo_sp mo_K 2 yX12_held cX12_held 7 (some .int) [(2, ((0 : Nat) : Int)), (0, a1), (0, a2), (0, a3), (0, a4)] h Q
end
