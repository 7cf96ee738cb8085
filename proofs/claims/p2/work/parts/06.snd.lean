/-! the checker's soundness, first part: what its values mean -/
section JX
variable {l : Launch} {D : va_G} {cA : Nat → ClassId} {ad : Nat → Nat} {sp : ja_S} {K d : Nat} {own : String} {cc : ByteArray} {nL : Nat} {rt : Option FieldType} {pc : Nat} {L : List (Nat × ja_V)} {S : List ja_V} {h : ja_H} {Q : Option ja_V → ja_H → Prop}
theorem ja_norm {x : Int} (v : Int) (hv : Int32.ofInt x = Int32.ofInt v) (k : ja_J l D cA ad sp K d own cc nL rt pc L ((0, v) :: S) h Q) : ja_J l D cA ad sp K d own cc nL rt pc L ((0, x) :: S) h Q := by
  intro p e s m args below meth c H locs ls hx hb hml hr hown hts hnw hlt hlk hK hP hi hS hl
  have := k p e s m args below meth c H locs ls hx hb hml hr hown hts hnw hlt hlk hK hP hi hS hl
  have e1 : ja_c ad (0, x) = ja_c ad (0, v) := congrArg Value.int hv
  rw [List.map_cons, e1]
  exact this
theorem ja_iincv {i : Nat} {n x : Int} (v : Int) {L2 : List (Nat × ja_V)} (hd : decode cc pc = .ok (.iinc i n, 3)) (hg : ja_g L i = some (0, x)) (hn : i < nL) (hv : Int32.ofInt (x + n) = Int32.ofInt v) (hL : ja_st i (0, v) L = L2) (k : ja_J l D cA ad sp K d own cc nL rt (pc + 3) L2 S h Q) : ja_J l D cA ad sp K d own cc nL rt pc L S h Q := by
  intro p e s m args below meth c H locs ls hx hb hml hr hown hts hnw hlt hlk hK hP hi hS hl
  subst hL
  obtain ⟨k0, hk0⟩ := ja_place (ad := ad) hg
  exact lv_iinc (v := Int32.ofInt v) hx hb hd hl hk0 (by rw [← hv]; exact (Int32.ofInt_add x n).symm) hn (ja_stm ad i (0, v) L) (fun ls2 hl2 => k p e s m args below meth c H locs ls2 hx hb hml hr hown hts hnw hlt hlk hK hP hi hS hl2)
end JX
theorem ck_ffirst {α : Type} (p P : α → Bool) (l : List α) {q : α} (h : l.find? p = some q) (hP : P q = true) : (l.filter P).find? p = some q := by
  induction l with
  | nil => cases h
  | cons a l ih =>
    rw [List.find?_cons] at h
    by_cases hp : p a = true
    · rw [hp] at h
      cases h
      rw [List.filter_cons, if_pos hP, List.find?_cons, hp]
    · have hp' : p a = false := by simpa using hp
      rw [hp'] at h
      rw [List.filter_cons]
      split
      · rw [List.find?_cons, hp']; exact ih h
      · exact ih h
theorem ck_fkey {β : Type} (P : Nat → Bool) (l : List (Nat × β)) (j : Nat) : (l.filter (fun q => P q.1)).find? (fun q => q.1 == j) = if P j = true then l.find? (fun q => q.1 == j) else none := by
  induction l with
  | nil => simp
  | cons a l ih =>
    rw [List.filter_cons]
    by_cases hj : a.1 = j
    · subst hj
      by_cases hP : P a.1 = true
      · rw [if_pos hP, if_pos hP]; simp
      · rw [if_neg hP, if_neg hP, ih, if_neg hP]
    · have hj' : (a.1 == j) = false := by simpa using hj
      split
      · rw [List.find?_cons, List.find?_cons, hj']; exact ih
      · rw [List.find?_cons, hj']; exact ih
def ck_in0 (E : Nat → Int) (a : ck_v) (v : ja_V) : Prop :=
  (a.1 = 0 ∧ v.1 = 0 ∧ a.2.1.1 ≤ v.2 ∧ v.2 ≤ a.2.1.2 ∧ ja_r v.2 ∧ (∀ i, a.2.2.2.1.1 = i + 1 → v.2 = E i + a.2.2.2.1.2) ∧ (a.2.2.2.2 = 1 → v.2 ≠ 0)) ∨ (a.1 = 1 ∧ v.1 = 1) ∨ (a.1 = 2 ∧ v = (2, a.2.1.1))
abbrev ck_F : Type := Nat → Option ja_V
/-- what stands at a place: a local, or a field of a cell -/
def ck_at (L : List (Nat × ja_V)) (h : ja_H) : ck_F := fun i => if i < 1000 then ja_g L i else some (0, h ((i - 1000) / 256) ((i - 1000) % 256))
def ck_in (E : Nat → Int) (L : ck_F) (a : ck_v) (v : ja_V) : Prop := ck_in0 E a v ∧ ∀ i, a.2.2.1 = i + 1 → L i = some v ∧ v.1 = 0
def ck_gL (E : Nat → Int) (A : ck_L) (L : ck_F) : Prop := ∀ i a, ck_g A i = some a → ∃ v, L i = some v ∧ ck_in0 E a v
def ck_gS (E : Nat → Int) (L : ck_F) : List ck_v → List ja_V → Prop
  | [], [] => True
  | a :: as, v :: vs => ck_in E L a v ∧ ck_gS E L as vs
  | _, _ => False
theorem ck_in0_o {E : Nat → Int} {a : ck_v} {v : ja_V} {o : Nat} (h : ck_in0 E a v) : ck_in0 E (ck_o a o) v := h
theorem ck_in_0 {E : Nat → Int} {L : ck_F} {a : ck_v} {v : ja_V} (h : ck_in0 E a v) : ck_in E L (ck_o a 0) v := ⟨h, fun i q => (by cases q)⟩
theorem ck_int {E : Nat → Int} {a : ck_v} {v : ja_V} (h : ck_in0 E a v) (ha : a.1 = 0) : ∃ x, v = (0, x) ∧ a.2.1.1 ≤ x ∧ x ≤ a.2.1.2 ∧ ja_r x ∧ (∀ i, a.2.2.2.1.1 = i + 1 → x = E i + a.2.2.2.1.2) ∧ (a.2.2.2.2 = 1 → x ≠ 0) := by
  rcases h with h | h | h
  · obtain ⟨t, x⟩ := v
    obtain ⟨-, h0, h1⟩ := h
    cases h0
    exact ⟨x, rfl, h1⟩
  · rw [h.1] at ha; cases ha
  · rw [h.1] at ha; cases ha
theorem ck_long {E : Nat → Int} {a : ck_v} {v : ja_V} (h : ck_in0 E a v) (ha : a.1 = 1) : ∃ x, v = (1, x) := by
  rcases h with h | h | h
  · rw [h.1] at ha; cases ha
  · obtain ⟨t, x⟩ := v
    obtain ⟨-, h0⟩ := h
    cases h0
    exact ⟨x, rfl⟩
  · rw [h.1] at ha; cases ha
theorem ck_ref2 {E : Nat → Int} {a : ck_v} {v : ja_V} (h : ck_in0 E a v) (ha : a.1 = 2) : v = (2, a.2.1.1) := by
  rcases h with h | h | h
  · rw [h.1] at ha; cases ha
  · rw [h.1] at ha; cases ha
  · exact h.2
theorem ck_tag {E : Nat → Int} {a : ck_v} {v : ja_V} (h : ck_in0 E a v) : a.1 = v.1 := by
  rcases h with h | h | h
  · rw [h.1, h.2.1]
  · rw [h.1, h.2]
  · rw [h.1, h.2]
theorem ck_mk {E : Nat → Int} {L : ck_F} {lo hi x : Int} (h1 : lo ≤ x) (h2 : x ≤ hi) (hr : ja_r x) : ck_in E L (ck_i lo hi) (0, x) :=
  ⟨Or.inl ⟨rfl, rfl, h1, h2, hr, fun i q => (by cases q), fun q => (by cases q)⟩, fun i q => (by cases q)⟩
theorem ck_mkT {E : Nat → Int} {L : ck_F} {x : Int} (hr : ja_r x) : ck_in E L ck_top (0, x) := ck_mk hr.1 hr.2 hr
theorem ck_mkL {E : Nat → Int} {L : ck_F} {x : Int} : ck_in E L ck_lg (1, x) := ⟨Or.inr (Or.inl ⟨rfl, rfl⟩), fun i q => (by cases q)⟩
theorem ck_mkR {E : Nat → Int} {L : ck_F} {t : Nat} : ck_in E L (ck_rf t) (2, (t : Int)) := ⟨Or.inr (Or.inr ⟨rfl, rfl⟩), fun i q => (by cases q)⟩
def ck_w32 (x : Int) : Int := (Int32.ofInt x).toInt
theorem ck_w32r (x : Int) : ja_r (ck_w32 x) := by
  have h1 := Int32.le_toInt (Int32.ofInt x)
  have h2 := Int32.toInt_lt (Int32.ofInt x)
  exact ⟨by unfold ck_w32; omega, by unfold ck_w32; omega⟩
theorem ck_w32e (x : Int) : Int32.ofInt x = Int32.ofInt (ck_w32 x) := (Int32.ofInt_toInt _).symm
theorem ck_ofr (z : Int32) : ja_r z.toInt := by
  have h1 := Int32.le_toInt z
  have h2 := Int32.toInt_lt z
  exact ⟨by omega, by omega⟩
/-- a sum, difference, product that may pass the ints: there is an int that it is -/
theorem ck_normx {E : Nat → Int} {L : ck_F} {lo hi x : Int} (h1 : lo ≤ x) (h2 : x ≤ hi) : ∃ v, Int32.ofInt x = Int32.ofInt v ∧ ck_in E L (ck_norm lo hi) (0, v) := by
  unfold ck_norm
  split
  · next hf =>
    simp only [ck_fits, Bool.and_eq_true, decide_eq_true_eq] at hf
    exact ⟨x, rfl, ck_mk h1 h2 ⟨by omega, by omega⟩⟩
  · exact ⟨ck_w32 x, ck_w32e x, ck_mkT (ck_w32r x)⟩
theorem ck_sub1_ok {E E2 : Nat → Int} {L2 : ck_F} {a b : ck_v} {v : ja_V} (hs : ck_sub1 a b = true) (h : ck_in0 E a v) : ck_in E2 L2 b v := by
  simp only [ck_sub1, Bool.and_eq_true, Bool.or_eq_true, beq_iff_eq, decide_eq_true_eq] at hs
  obtain ⟨⟨⟨⟨⟨⟨e1, e2⟩, e3⟩, e4⟩, e5⟩, e6⟩, e7⟩ := hs
  refine ⟨?_, fun i q => by rw [e2] at q; cases q⟩
  rcases h with h | h | h
  · obtain ⟨g0, g1, g2, g3, g4, -, -⟩ := h
    exact Or.inl ⟨by rw [← e1, g0], g1, by omega, by omega, g4, fun i q => (by rw [e3] at q; cases q), fun q => (by rw [e4] at q; cases q)⟩
  · exact Or.inr (Or.inl ⟨by rw [← e1, h.1], h.2⟩)
  · have e8 : a.2.1.1 = b.2.1.1 := by
      rcases e7 with (q | q) | q
      · rw [h.1] at q; cases q
      · rw [h.1] at q; cases q
      · exact q.2
    exact Or.inr (Or.inr ⟨by rw [← e1, h.1], by rw [h.2, e8]⟩)
theorem ck_subS_ok {E E2 : Nat → Int} {L L2 : ck_F} : ∀ {as bs : List ck_v} {vs : List ja_V}, ck_subS as bs = true → ck_gS E L as vs → ck_gS E2 L2 bs vs
  | [], [], [], _, _ => trivial
  | a :: as, b :: bs, v :: vs, hs, h => by
    simp only [ck_subS, Bool.and_eq_true] at hs
    exact ⟨ck_sub1_ok hs.1 h.1.1, ck_subS_ok hs.2 h.2⟩
  | [], b :: bs, _, hs, _ => by cases hs
  | a :: as, [], _, hs, _ => by cases hs
  | [], [], v :: vs, _, h => h.elim
  | a :: as, b :: bs, [], _, h => h.elim
theorem ck_subL_ok {E E2 : Nat → Int} {A B : ck_L} {L : ck_F} (hs : ck_subL A B = true) (h : ck_gL E A L) : ck_gL E2 B L := by
  intro i b hb
  unfold ck_g at hb
  rw [Option.map_eq_some_iff] at hb
  obtain ⟨q, hq, rfl⟩ := hb
  have h1 := List.mem_of_find?_eq_some hq
  have h2 : q.1 = i := by simpa using List.find?_some hq
  have h3 := List.all_eq_true.mp hs q h1
  split at h3
  · next a ha =>
    rw [h2] at ha
    obtain ⟨v, g1, g2⟩ := h i a ha
    exact ⟨v, g1, (ck_sub1_ok (L2 := fun _ => none) h3 g2).1⟩
  · cases h3
theorem ck_jg {L : List (Nat × ja_V)} {i : Nat} {v : ja_V} {P : Nat × ja_V → Bool} (h : ja_g L i = some v) (hP : P (i, v) = true) : ja_g (L.filter P) i = some v := by
  unfold ja_g at h ⊢
  rw [Option.map_eq_some_iff] at h
  obtain ⟨q, hq, rfl⟩ := h
  have h2 : q.1 = i := by simpa using List.find?_some hq
  rw [ck_ffirst _ P L hq (by rw [← h2] at hP; exact hP)]
  rfl
theorem ck_jst {L : List (Nat × ja_V)} {i j : Nat} {v w : ja_V} (h : ja_g L j = some v) (hj : j ≠ i) (hw : ¬ (j + 1 = i ∧ v.1 = 1)) : ja_g (ja_st i w L) j = some v := by
  have e : ja_g (ja_st i w L) j = ja_g (L.filter (fun q => !(q.1 == i) && !(q.1 + 1 == i && q.2.1 == 1))) j := by
    unfold ja_g ja_st
    rw [List.find?_cons, show ((i, w).1 == j) = false by simpa using Ne.symm hj]
  rw [e]
  refine ck_jg h ?_
  simp only [Bool.and_eq_true, Bool.not_eq_true', beq_eq_false_iff_ne, Bool.and_eq_false_iff, ne_eq]
  refine ⟨hj, ?_⟩
  by_cases h1 : j + 1 = i
  · exact Or.inr fun q => hw ⟨h1, q⟩
  · exact Or.inl h1
theorem ck_jst2 {L : List (Nat × ja_V)} {i j : Nat} {v w : ja_V} (h : ja_g L j = some v) (hj : j ≠ i) (hj2 : j ≠ i + 1) (hw : ¬ (j + 1 = i ∧ v.1 = 1)) : ja_g (ja_st2 i w L) j = some v := by
  have e : ja_g (ja_st2 i w L) j = ja_g (L.filter (fun q => !(q.1 == i) && (!(q.1 == i + 1) && !(q.1 + 1 == i && q.2.1 == 1)))) j := by
    unfold ja_g ja_st2
    rw [List.find?_cons, show ((i, w).1 == j) = false by simpa using Ne.symm hj]
  rw [e]
  refine ck_jg h ?_
  simp only [Bool.and_eq_true, Bool.not_eq_true', beq_eq_false_iff_ne, Bool.and_eq_false_iff, ne_eq]
  refine ⟨hj, hj2, ?_⟩
  by_cases h1 : j + 1 = i
  · exact Or.inr fun q => hw ⟨h1, q⟩
  · exact Or.inl h1
theorem ck_jsame {L : List (Nat × ja_V)} {i : Nat} {w : ja_V} : ja_g (ja_st i w L) i = some w := by
  unfold ja_g ja_st
  rw [List.find?_cons, show ((i, w).1 == i) = true by simp]
  rfl
theorem ck_jsame2 {L : List (Nat × ja_V)} {i : Nat} {w : ja_V} : ja_g (ja_st2 i w L) i = some w := by
  unfold ja_g ja_st2
  rw [List.find?_cons, show ((i, w).1 == i) = true by simp]
  rfl
theorem ck_wide_f {A : ck_L} {j : Nat} {a : ck_v} (h : ck_g A j = some a) (hw : ck_wide A j = false) : a.1 ≠ 1 := by
  unfold ck_wide at hw
  rw [h] at hw
  simpa using hw
theorem ck_at_lo {L : List (Nat × ja_V)} {h : ja_H} {i : Nat} (hi : i < 1000) : ck_at L h i = ja_g L i := if_pos hi
theorem ck_at_hi {L : List (Nat × ja_V)} {h : ja_H} {i : Nat} (hi : ¬ i < 1000) : ck_at L h i = some (0, h ((i - 1000) / 256) ((i - 1000) % 256)) := if_neg hi
theorem ck_ast {L : List (Nat × ja_V)} {h : ja_H} {i j : Nat} {v w : ja_V} (hi : i < 900) (g : ck_at L h j = some v) (hj : j ≠ i) (hw : ¬ (j + 1 = i ∧ v.1 = 1)) : ck_at (ja_st i w L) h j = some v := by
  rcases Nat.lt_or_ge j 1000 with q | q
  · rw [ck_at_lo q] at g ⊢
    exact ck_jst g hj hw
  · rw [ck_at_hi (by omega)] at g ⊢
    exact g
theorem ck_ast2 {L : List (Nat × ja_V)} {h : ja_H} {i j : Nat} {v w : ja_V} (hi : i < 900) (g : ck_at L h j = some v) (hj : j ≠ i) (hj2 : j ≠ i + 1) (hw : ¬ (j + 1 = i ∧ v.1 = 1)) : ck_at (ja_st2 i w L) h j = some v := by
  rcases Nat.lt_or_ge j 1000 with q | q
  · rw [ck_at_lo q] at g ⊢
    exact ck_jst2 g hj hj2 hw
  · rw [ck_at_hi (by omega)] at g ⊢
    exact g
theorem ck_stL {E : Nat → Int} {A : ck_L} {L : List (Nat × ja_V)} {hh : ja_H} {i : Nat} {a : ck_v} {w : ja_V} (hi : i < 900) (h : ck_gL E A (ck_at L hh)) (ha : ck_in0 E a w) : ck_gL E (ck_st i a A) (ck_at (ja_st i w L) hh) := by
  intro j b hb
  by_cases hj : j = i
  · subst hj
    have e : ck_g (ck_st j a A) j = some (ck_o a 0) := by
      unfold ck_g ck_st
      rw [List.find?_cons, show ((j, ck_o a 0).1 == j) = true by simp]
      rfl
    rw [e] at hb
    cases hb
    exact ⟨w, (ck_at_lo (by omega)).trans ck_jsame, ha⟩
  · have e : ck_g (ck_st i a A) j = ck_g (A.filter (fun q => (fun k => !(k == i) && !(k + 1 == i && ck_wide A k)) q.1)) j := by
      unfold ck_g ck_st
      rw [List.find?_cons, show ((i, ck_o a 0).1 == j) = false by simpa using Ne.symm hj]
    rw [e] at hb
    have hk := ck_fkey (fun k => !(k == i) && !(k + 1 == i && ck_wide A k)) A j
    unfold ck_g at hb
    rw [hk] at hb
    split at hb
    · next hp =>
      obtain ⟨v, g1, g2⟩ := h j b hb
      refine ⟨v, ck_ast hi g1 hj (fun z => ?_), g2⟩
      simp only [Bool.and_eq_true, Bool.not_eq_true', Bool.and_eq_false_iff, beq_eq_false_iff_ne, ne_eq] at hp
      rcases hp.2 with q | q
      · exact q z.1
      · exact ck_wide_f hb q ((ck_tag g2).trans z.2)
    · cases hb
theorem ck_stL2 {E : Nat → Int} {A : ck_L} {L : List (Nat × ja_V)} {hh : ja_H} {i : Nat} {a : ck_v} {w : ja_V} (hi : i < 900) (h : ck_gL E A (ck_at L hh)) (ha : ck_in0 E a w) : ck_gL E (ck_st2 i a A) (ck_at (ja_st2 i w L) hh) := by
  intro j b hb
  by_cases hj : j = i
  · subst hj
    have e : ck_g (ck_st2 j a A) j = some (ck_o a 0) := by
      unfold ck_g ck_st2
      rw [List.find?_cons, show ((j, ck_o a 0).1 == j) = true by simp]
      rfl
    rw [e] at hb
    cases hb
    exact ⟨w, (ck_at_lo (by omega)).trans ck_jsame2, ha⟩
  · have e : ck_g (ck_st2 i a A) j = ck_g (A.filter (fun q => (fun k => !(k == i) && (!(k == i + 1) && !(k + 1 == i && ck_wide A k))) q.1)) j := by
      unfold ck_g ck_st2
      rw [List.find?_cons, show ((i, ck_o a 0).1 == j) = false by simpa using Ne.symm hj]
    rw [e] at hb
    have hk := ck_fkey (fun k => !(k == i) && (!(k == i + 1) && !(k + 1 == i && ck_wide A k))) A j
    unfold ck_g at hb
    rw [hk] at hb
    split at hb
    · next hp =>
      obtain ⟨v, g1, g2⟩ := h j b hb
      simp only [Bool.and_eq_true, Bool.not_eq_true', Bool.and_eq_false_iff, beq_eq_false_iff_ne, ne_eq] at hp
      refine ⟨v, ck_ast2 hi g1 hj hp.2.1 (fun z => ?_), g2⟩
      rcases hp.2.2 with q | q
      · exact q z.1
      · exact ck_wide_f hb q ((ck_tag g2).trans z.2)
    · cases hb
theorem ck_dropS {E : Nat → Int} {L L2 : ck_F} {i : Nat} (hk : ∀ j v, j ≠ i → j ≠ i + 1 → L j = some v → v.1 = 0 → L2 j = some v) : ∀ {as : List ck_v} {vs : List ja_V}, ck_gS E L as vs → ck_gS E L2 (ck_drop i as) vs
  | [], [], _ => trivial
  | a :: as, v :: vs, h => by
    refine ⟨?_, ck_dropS hk h.2⟩
    show ck_in E L2 (if a.2.2.1 == i + 1 || a.2.2.1 == i + 2 then ck_o a 0 else a) v
    split
    · exact ck_in_0 h.1.1
    · next hp =>
      simp only [Bool.or_eq_true, beq_iff_eq, not_or] at hp
      refine ⟨h.1.1, fun j q => ?_⟩
      obtain ⟨g1, g2⟩ := h.1.2 j q
      exact ⟨hk j v (fun z => hp.1 (by rw [q, z])) (fun z => hp.2 (by rw [q, z])) g1 g2, g2⟩
  | [], v :: vs, h => h.elim
  | a :: as, [], h => h.elim
theorem ck_dropJ {E : Nat → Int} {L : List (Nat × ja_V)} {hh : ja_H} {i : Nat} {w : ja_V} {as : List ck_v} {vs : List ja_V} (hi : i < 900) (h : ck_gS E (ck_at L hh) as vs) : ck_gS E (ck_at (ja_st i w L) hh) (ck_drop i as) vs :=
  ck_dropS (fun j v h1 h2 g1 g2 => ck_ast hi g1 h1 (fun z => by rw [g2] at z; cases z.2)) h
theorem ck_dropJ2 {E : Nat → Int} {L : List (Nat × ja_V)} {hh : ja_H} {i : Nat} {w : ja_V} {as : List ck_v} {vs : List ja_V} (hi : i < 900) (h : ck_gS E (ck_at L hh) as vs) : ck_gS E (ck_at (ja_st2 i w L) hh) (ck_drop i as) vs :=
  ck_dropS (fun j v h1 h2 g1 g2 => ck_ast2 hi g1 h1 h2 (fun z => by rw [g2] at z; cases z.2)) h
