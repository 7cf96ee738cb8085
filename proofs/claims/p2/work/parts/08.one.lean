/-! the checker's soundness: one instruction -/
def ck_il (sp : ja_S) (k j : Nat) : Bool := if (sp k).1.1 < 13 then (sp k).2 j == 0 else decide ((sp k).1.1 ≤ 102)
def ck_fi (sp : ja_S) (fi : Nat → Nat → Int × Int) (k j : Nat) : Int × Int := if (sp k).1.1 < 13 then fi k j else fi k 0
def ck_W (sp : ja_S) (fi : Nat → Nat → Int × Int) (K : Nat) (pr : Nat × Nat) (v0 : Int) (h : ja_H) : Prop := (∀ k j, k < K → j < (sp k).1.2 → ck_il sp k j = true → (ck_fi sp fi k j).1 ≤ h k j ∧ h k j ≤ (ck_fi sp fi k j).2) ∧ h pr.1 pr.2 = v0
def ck_G (sp : ja_S) (fi : Nat → Nat → Int × Int) (K : Nat) : Prop := (∀ k j, -2147483648 ≤ (fi k j).1 ∧ (fi k j).2 ≤ 2147483647) ∧ ∀ k, k < K → (sp k).1.1 < 13 → ∃ r, ja_cl[(sp k).1.1]? = some r ∧ r.2.2 = (sp k).1.2
def ck_mok (M : ck_M) : Prop := Cond.code M.1 M.2.1 M.2.2.1.1 M.2.2.1.2 ∈ ja_B ∧ Cond.initialized M.1.cls ∈ ja_B ∧ (M.1.cls ≠ "java/lang/invoke/MethodHandle" ∧ M.1.cls ≠ "java/lang/invoke/VarHandle" ∧ (parseMethodDescriptor M.1.desc).map (fun d => d.parameters.length) = some M.2.2.2.1.2.1 ∧ plainName M.1.cls = true) ∧
  (if M.2.2.2.1.2.2 = true then Cond.static M.1 ∈ ja_B else Cond.instanceMethod M.1 ∈ ja_B ∧ Cond.selects M.1.cls M.1 M.1 ∈ ja_B ∧ ∃ T N, ja_cl[M.2.2.2.1.1]? = some (M.1.cls, T, N))
def ck_pok (mt : Nat → ck_M) (own : String) (p : ck_P) : Prop :=
  (p.2.1 = 0 → ∃ r, ja_cl[p.2.2.1]? = some r ∧ Cond.fieldLink own p.1 (r.2.1 p.2.2.2.1).1 (r.2.1 p.2.2.2.1).2.1 (r.2.1 p.2.2.2.1).2.2.1 ∈ ja_B) ∧
  (p.2.1 = 1 → ∃ r, ja_cl[p.2.2.1]? = some r ∧ Cond.fieldLinkNest own p.1 (r.2.1 p.2.2.2.1).1 (r.2.1 p.2.2.2.1).2.1 (r.2.1 p.2.2.2.1).2.2.1 "WeaveHouse" ∈ lw_tbl) ∧
  (p.2.1 = 2 → Cond.methodLink own p.1 (mt p.2.2.1).1 ∈ ja_B ∧ ck_mok (mt p.2.2.1)) ∧
  (p.2.1 = 3 → Cond.methodLink own p.1 Lib.Math.max.name ∈ ja_B)
def ck_kok (own : String) (p : ck_K) : Prop := (p.2.1 = 0 → Cond.constant own p.1 (Int32.ofInt p.2.2.1) ∈ ja_B) ∧ (p.2.1 = 1 → ∃ v : Int64, Cond.constantLong own p.1 v ∈ ja_B)
def ck_rok (ret : Option ck_v) (r : Option ja_V) : Prop := match ret, r with
  | some a, some v => ck_in (fun _ => 0) (fun _ => none) a v
  | none, none => True
  | _, _ => False
/-- a row of the method table holds: the method, called so, answers so and leaves the world as it is typed -/
def ck_H (l : Launch) (D : va_G) (cA : Nat → ClassId) (ad : Nat → Nat) (sp : ja_S) (fi : Nat → Nat → Int × Int) (K : Nat) (pr : Nat × Nat) (v0 : Int) (M : ck_M) (s : ck_S) : Prop :=
  ∀ (vals : List ja_V) (h : ja_H), ck_gS (fun _ => 0) (fun _ => none) s.2.1 vals → ck_W sp fi K pr v0 h → ja_M l D cA ad sp K s.1 M.1 M.2.1 M.2.2.1.1 M.2.2.1.2 vals h (fun r h' => ck_rok s.2.2.1 r ∧ ck_W sp fi K pr v0 h')
theorem ck_cons {E : Nat → Int} {L : ck_F} {a : ck_v} {as : List ck_v} {S : List ja_V} (h : ck_gS E L (a :: as) S) : ∃ v vs, S = v :: vs ∧ ck_in E L a v ∧ ck_gS E L as vs := by
  cases S with
  | nil => exact h.elim
  | cons v vs => exact ⟨v, vs, rfl, h.1, h.2⟩
theorem ck_nil {E : Nat → Int} {L : ck_F} {S : List ja_V} (h : ck_gS E L [] S) : S = [] := by
  cases S with
  | nil => rfl
  | cons v vs => exact h.elim
theorem ck_fi_r {sp : ja_S} {fi : Nat → Nat → Int × Int} {K : Nat} (G : ck_G sp fi K) (k j : Nat) : -2147483648 ≤ (ck_fi sp fi k j).1 ∧ (ck_fi sp fi k j).2 ≤ 2147483647 := by
  unfold ck_fi
  split
  · exact G.1 k j
  · exact G.1 k 0
theorem ck_W_up {sp : ja_S} {fi : Nat → Nat → Int × Int} {K : Nat} {pr : Nat × Nat} {v0 : Int} {h : ja_H} {q j : Nat} {x : Int} (W : ck_W sp fi K pr v0 h) (hx : ck_il sp q j = true → (ck_fi sp fi q j).1 ≤ x ∧ x ≤ (ck_fi sp fi q j).2) (hp : ¬ (q = pr.1 ∧ j = pr.2)) : ck_W sp fi K pr v0 (ja_up h q j x) := by
  refine ⟨fun k i hk hi hil => ?_, ?_⟩
  · unfold ja_up
    split
    · next e =>
      obtain ⟨rfl, rfl⟩ := e
      exact hx hil
    · exact W.1 k i hk hi hil
  · unfold ja_up
    rw [if_neg (fun e => hp ⟨e.1.symm, e.2.symm⟩)]
    exact W.2
theorem ck_gmap {F : Nat × ck_v → Nat × ck_v} (hF : ∀ q, (F q).1 = q.1) (A : ck_L) (j : Nat) : ck_g (A.map F) j = (A.find? (fun q => q.1 == j)).map (fun q => (F q).2) := by
  unfold ck_g
  rw [List.find?_map]
  have e : (fun q : Nat × ck_v => q.1 == j) ∘ F = fun q => q.1 == j := by funext q; simp [hF]
  rw [e]
  cases A.find? (fun q => q.1 == j) <;> rfl
theorem ck_cut_ok {E : Nat → Int} {a : ck_v} {x lo hi : Int} {nz : Nat} (h : ck_in0 E a (0, x)) (h1 : lo ≤ x) (h2 : x ≤ hi) (h3 : nz = 1 → x ≠ 0) : ck_in0 E (ck_cut a lo hi nz) (0, x) := by
  rcases h with h | h | h
  · obtain ⟨g0, g1, g2, g3, g4, g5, g6⟩ := h
    refine Or.inl ⟨g0, rfl, ?_, ?_, g4, g5, ?_⟩
    · show (if a.2.1.1 < lo then lo else a.2.1.1) ≤ x
      split
      · exact h1
      · exact g2
    · show x ≤ (if hi < a.2.1.2 then hi else a.2.1.2)
      split
      · exact h2
      · exact g3
    · show (if nz == 1 then 1 else a.2.2.2.2) = 1 → x ≠ 0
      split
      · next e => exact fun _ => h3 (by simpa using e)
      · exact g6
  · cases h.2
  · cases h.2
theorem ck_cut_ne {E : Nat → Int} {a : ck_v} {x lo hi : Int} {nz : Nat} (h : ck_in0 E a (0, x)) (h1 : lo ≤ x) (h2 : x ≤ hi) : ck_emp (ck_cut a lo hi nz) = false := by
  obtain ⟨x', e, g2, g3, -⟩ := ck_int h (ck_tag h)
  cases e
  unfold ck_emp ck_cut
  simp only [decide_eq_false_iff_not]
  split <;> split <;> omega
theorem ck_refL {E : Nat → Int} {A : ck_L} {L : ck_F} {a : ck_v} {x lo hi : Int} {nz : Nat} (hL : ck_gL E A L) (ha : ck_in E L a (0, x)) (h1 : lo ≤ x) (h2 : x ≤ hi) (h3 : nz = 1 → x ≠ 0) : ck_gL E (ck_ref A a lo hi nz) L := by
  unfold ck_ref
  split
  · exact hL
  · next i ho =>
    intro j b hb
    rw [ck_gmap (by intro q; split <;> rfl)] at hb
    rw [Option.map_eq_some_iff] at hb
    obtain ⟨q, hq, rfl⟩ := hb
    have hj : q.1 = j := by simpa using List.find?_some hq
    have hg : ck_g A j = some q.2 := by unfold ck_g; rw [hq]; rfl
    obtain ⟨v, g1, g2⟩ := hL j q.2 hg
    refine ⟨v, g1, ?_⟩
    split
    · next hc =>
      simp only [Bool.and_eq_true, beq_iff_eq] at hc
      have hv : v = (0, x) := by
        have g3 := (ha.2 i ho).1
        rw [← hc.1, hj, g1] at g3
        exact Option.some.inj g3
      subst hv
      exact ck_cut_ok g2 h1 h2 h3
    · exact g2
theorem ck_two_ok {E : Nat → Int} {A : ck_L} {L : ck_F} {AS : List ck_v} {x y : ck_v} {a b : Int} {t : ck_v × ck_v × Nat} {pc : Nat} {f : Nat → ck_L → List ck_v → Bool}
    (hL : ck_gL E A L) (hx : ck_in E L x (0, a)) (hy : ck_in E L y (0, b)) (h1 : t.1.2.1.1 ≤ a) (h2 : a ≤ t.1.2.1.2) (h3 : t.2.1.2.1.1 ≤ b) (h4 : b ≤ t.2.1.2.1.2) (h5 : t.2.2 = 1 → a ≠ 0)
    (hc : (ck_emp (ck_cut x t.1.2.1.1 t.1.2.1.2 0) || ck_emp (ck_cut y t.2.1.2.1.1 t.2.1.2.1.2 0) || f pc (ck_ref (ck_ref A x t.1.2.1.1 t.1.2.1.2 t.2.2) y t.2.1.2.1.1 t.2.1.2.1.2 0) AS) = true) :
    ∃ A2, ck_gL E A2 L ∧ f pc A2 AS = true := by
  rw [ck_cut_ne hx.1 h1 h2, ck_cut_ne hy.1 h3 h4] at hc
  exact ⟨_, ck_refL (nz := 0) (ck_refL hL hx h1 h2 h5) hy h3 h4 (fun q => by cases q), by simpa using hc⟩
theorem ck_lt_ok {x y : ck_v} {a b : Int} (h : a < b) (hx1 : x.2.1.1 ≤ a) (hx2 : a ≤ x.2.1.2) (hy1 : y.2.1.1 ≤ b) (hy2 : b ≤ y.2.1.2) : (ck_lt x y).1.2.1.1 ≤ a ∧ a ≤ (ck_lt x y).1.2.1.2 ∧ (ck_lt x y).2.1.2.1.1 ≤ b ∧ b ≤ (ck_lt x y).2.1.2.1.2 ∧ ((ck_lt x y).2.2 = 1 → a ≠ 0) := by
  refine ⟨hx1, ?_, ?_, hy2, fun q => by cases q⟩
  · show a ≤ y.2.1.2 - 1; omega
  · show x.2.1.1 + 1 ≤ b; omega
theorem ck_le_ok {x y : ck_v} {a b : Int} (h : a ≤ b) (hx1 : x.2.1.1 ≤ a) (hx2 : a ≤ x.2.1.2) (hy1 : y.2.1.1 ≤ b) (hy2 : b ≤ y.2.1.2) : (ck_le x y).1.2.1.1 ≤ a ∧ a ≤ (ck_le x y).1.2.1.2 ∧ (ck_le x y).2.1.2.1.1 ≤ b ∧ b ≤ (ck_le x y).2.1.2.1.2 ∧ ((ck_le x y).2.2 = 1 → a ≠ 0) := by
  refine ⟨hx1, ?_, ?_, hy2, fun q => by cases q⟩
  · show a ≤ y.2.1.2; omega
  · show x.2.1.1 ≤ b; omega
theorem ck_eq_ok {x y : ck_v} {a b : Int} (h : a = b) (hx1 : x.2.1.1 ≤ a) (hx2 : a ≤ x.2.1.2) (hy1 : y.2.1.1 ≤ b) (hy2 : b ≤ y.2.1.2) : (ck_eq x y).1.2.1.1 ≤ a ∧ a ≤ (ck_eq x y).1.2.1.2 ∧ (ck_eq x y).2.1.2.1.1 ≤ b ∧ b ≤ (ck_eq x y).2.1.2.1.2 ∧ ((ck_eq x y).2.2 = 1 → a ≠ 0) := by
  subst h
  exact ⟨hy1, hy2, hx1, hx2, fun q => by cases q⟩
theorem ck_ne_ok {x y : ck_v} {a b : Int} (h : ¬ a = b) (hx1 : x.2.1.1 ≤ a) (hx2 : a ≤ x.2.1.2) (hy1 : y.2.1.1 ≤ b) (hy2 : b ≤ y.2.1.2) : (ck_ne x y).1.2.1.1 ≤ a ∧ a ≤ (ck_ne x y).1.2.1.2 ∧ (ck_ne x y).2.1.2.1.1 ≤ b ∧ b ≤ (ck_ne x y).2.1.2.1.2 ∧ ((ck_ne x y).2.2 = 1 → a ≠ 0) := by
  unfold ck_ne
  split
  · next e =>
    simp only [decide_eq_true_eq] at e
    refine ⟨?_, ?_, hy1, hy2, ?_⟩
    · show (if x.2.1.1 = y.2.1.1 then x.2.1.1 + 1 else x.2.1.1) ≤ a
      split <;> omega
    · show a ≤ (if x.2.1.2 = y.2.1.1 then x.2.1.2 - 1 else x.2.1.2)
      split <;> omega
    · show (if y.2.1.1 = 0 then 1 else 0) = 1 → a ≠ 0
      split
      · intro _; omega
      · intro q; cases q
  · exact ⟨hx1, hx2, hy1, hy2, fun q => by cases q⟩
theorem ck_sw_ok {p : ck_v × ck_v × Nat} {a b : Int} (h : p.1.2.1.1 ≤ b ∧ b ≤ p.1.2.1.2 ∧ p.2.1.2.1.1 ≤ a ∧ a ≤ p.2.1.2.1.2) : (ck_sw p).1.2.1.1 ≤ a ∧ a ≤ (ck_sw p).1.2.1.2 ∧ (ck_sw p).2.1.2.1.1 ≤ b ∧ b ≤ (ck_sw p).2.1.2.1.2 ∧ ((ck_sw p).2.2 = 1 → a ≠ 0) :=
  ⟨h.2.2.1, h.2.2.2, h.1, h.2.1, fun q => by cases q⟩
theorem ck_mulb {a b p q r s x y : Int} (ha : a ≤ x) (hb : x ≤ b) (hp : p ≤ y) (hq : y ≤ q) : min (min (a * p) (a * q)) (min (b * p) (b * q)) ≤ x * y ∧ x * y ≤ max (max (a * p) (a * q)) (max (b * p) (b * q)) := by
  have m1 : min (a * y) (b * y) ≤ x * y ∧ x * y ≤ max (a * y) (b * y) := by
    rcases Int.le_total 0 y with h | h
    · have e1 := Int.mul_le_mul_of_nonneg_right ha h
      have e2 := Int.mul_le_mul_of_nonneg_right hb h
      omega
    · have e1 := Int.mul_le_mul_of_nonpos_right ha h
      have e2 := Int.mul_le_mul_of_nonpos_right hb h
      omega
  have m2 : ∀ z : Int, min (z * p) (z * q) ≤ z * y ∧ z * y ≤ max (z * p) (z * q) := by
    intro z
    rcases Int.le_total 0 z with h | h
    · have e1 := Int.mul_le_mul_of_nonneg_left hp h
      have e2 := Int.mul_le_mul_of_nonneg_left hq h
      omega
    · have e1 := Int.mul_le_mul_of_nonpos_left h hp
      have e2 := Int.mul_le_mul_of_nonpos_left h hq
      omega
  have h1 := m2 a
  have h2 := m2 b
  omega
theorem ck_and_ok {E : Nat → Int} {L : ck_F} {x y : ck_v} {a b : Int} (hx1 : x.2.1.1 ≤ a) (hx2 : a ≤ x.2.1.2) (hra : ja_r a) (hy1 : y.2.1.1 ≤ b) (hy2 : b ≤ y.2.1.2) (hrb : ja_r b) : ck_in E L (ck_and x y) (0, (Int32.ofInt a &&& Int32.ofInt b).toInt) := by
  have key : ∀ z w : Int32, 0 ≤ w.toInt → 0 ≤ (z &&& w).toInt ∧ (z &&& w).toInt ≤ w.toInt := by
    intro z w hw
    have e1 : (z &&& w).toInt = (z &&& w).toBitVec.toInt := rfl
    have e2 : w.toInt = w.toBitVec.toInt := rfl
    have e3 : (z &&& w).toBitVec = z.toBitVec &&& w.toBitVec := rfl
    rw [e2] at hw
    rw [e1, e3, e2]
    have hm : w.toBitVec.msb = false := by
      cases hq : w.toBitVec.msb with
      | false => rfl
      | true =>
        have := BitVec.toInt_neg_iff.mpr (by have := BitVec.msb_eq_true_iff_two_mul_ge.mp hq; omega : 2 ^ 32 ≤ 2 * w.toBitVec.toNat)
        omega
    have hm2 : (z.toBitVec &&& w.toBitVec).msb = false := by rw [BitVec.msb_and, hm, Bool.and_false]
    rw [BitVec.toInt_eq_toNat_of_msb hm2, BitVec.toInt_eq_toNat_of_msb hm, BitVec.toNat_and]
    have := Nat.and_le_right (n := z.toBitVec.toNat) (m := w.toBitVec.toNat)
    omega
  have ea := ja_in hra.1 hra.2
  have eb := ja_in hrb.1 hrb.2
  have hr := ck_ofr (Int32.ofInt a &&& Int32.ofInt b)
  unfold ck_and
  split
  · next h =>
    simp only [decide_eq_true_eq] at h
    have := key (Int32.ofInt a) (Int32.ofInt b) (by rw [eb]; omega)
    rw [eb] at this
    exact ck_mk this.1 (by omega) hr
  · split
    · next h =>
      simp only [decide_eq_true_eq] at h
      have := key (Int32.ofInt b) (Int32.ofInt a) (by rw [ea]; omega)
      rw [ea, Int32.and_comm] at this
      exact ck_mk this.1 (by omega) hr
    · exact ck_mkT hr
theorem ck_keepL_ok {E : Nat → Int} {A : ck_L} {G G2 : ck_F} {P : Nat → Bool} (hL : ck_gL E A G) (hk : ∀ i v, P i = true → G i = some v → G2 i = some v) : ck_gL E (ck_keepL P A) G2 := by
  intro j b hb
  unfold ck_keepL ck_g at hb
  rw [ck_fkey P A j] at hb
  split at hb
  · next hp =>
    obtain ⟨v, g1, g2⟩ := hL j b hb
    exact ⟨v, hk j v hp g1, g2⟩
  · cases hb
theorem ck_keepS_ok {E : Nat → Int} {G G2 : ck_F} {P : Nat → Bool} (hk : ∀ i v, P i = true → G i = some v → G2 i = some v) : ∀ {as : List ck_v} {vs : List ja_V}, ck_gS E G as vs → ck_gS E G2 (ck_keepS P as) vs
  | [], [], _ => trivial
  | a :: as, v :: vs, h => by
    refine ⟨?_, ck_keepS_ok hk h.2⟩
    show ck_in E G2 (if a.2.2.1 == 0 || P (a.2.2.1 - 1) then a else ck_o a 0) v
    split
    · next hp =>
      refine ⟨h.1.1, fun j q => ?_⟩
      obtain ⟨g1, g2⟩ := h.1.2 j q
      refine ⟨hk j v ?_ g1, g2⟩
      simp only [Bool.or_eq_true, beq_iff_eq] at hp
      rcases hp with hp | hp
      · omega
      · rw [q] at hp; exact hp
    · exact ck_in_0 h.1.1
  | [], v :: vs, h => h.elim
  | a :: as, [], h => h.elim
theorem ck_kF {L : List (Nat × ja_V)} {h h2 : ja_H} : ∀ i v, ck_noF i = true → ck_at L h i = some v → ck_at L h2 i = some v := by
  intro i v hp g
  have hi : i < 1000 := by
    unfold ck_noF at hp
    rwa [Nat.blt_eq] at hp
  rw [ck_at_lo hi] at g ⊢
  exact g
theorem ck_kK {L : List (Nat × ja_V)} {h : ja_H} {k j : Nat} {x : Int} (hj : j < 256) : ∀ i v, ck_noK (ck_key k j) i = true → ck_at L h i = some v → ck_at L (ja_up h k j x) i = some v := by
  intro i v hp g
  have hi : i ≠ ck_key k j := by simpa [ck_noK] using hp
  rcases Nat.lt_or_ge i 1000 with q | q
  · rw [ck_at_lo q] at g ⊢
    exact g
  · rw [ck_at_hi (by omega)] at g ⊢
    have e : ja_up h k j x ((i - 1000) / 256) ((i - 1000) % 256) = h ((i - 1000) / 256) ((i - 1000) % 256) := by
      unfold ja_up
      rw [if_neg]
      rintro ⟨e1, e2⟩
      apply hi
      unfold ck_key
      omega
    rw [e]
    exact g
theorem ck_kC {L : List (Nat × ja_V)} {h : ja_H} {c j : Nat} {x : Int} : ∀ i v, ck_noC c i = true → ck_at L h i = some v → ck_at L (ja_up h c j x) i = some v := by
  intro i v hp g
  rcases Nat.lt_or_ge i 1000 with q | q
  · rw [ck_at_lo q] at g ⊢
    exact g
  · rw [ck_at_hi (by omega)] at g ⊢
    have hc : (i - 1000) / 256 ≠ c := by
      unfold ck_noC at hp
      simp only [Bool.or_eq_true, Nat.blt_eq, Bool.not_eq_true', beq_eq_false_iff_ne, ne_eq] at hp
      rcases hp with z | z
      · omega
      · exact z
    have e : ja_up h c j x ((i - 1000) / 256) ((i - 1000) % 256) = h ((i - 1000) / 256) ((i - 1000) % 256) := by
      unfold ja_up
      rw [if_neg (fun z => hc z.1)]
    rw [e]
    exact g
theorem ck_at_key {L : List (Nat × ja_V)} {h : ja_H} {k j : Nat} (hj : j < 256) : ck_at L h (ck_key k j) = some (0, h k j) := by
  have h1 : ¬ ck_key k j < 1000 := by unfold ck_key; omega
  rw [ck_at_hi h1]
  have e1 : (ck_key k j - 1000) / 256 = k := by unfold ck_key; omega
  have e2 : (ck_key k j - 1000) % 256 = j := by unfold ck_key; omega
  rw [e1, e2]
theorem ck_insL {E : Nat → Int} {A : ck_L} {G : ck_F} {i : Nat} {a : ck_v} {v : ja_V} (hL : ck_gL E A G) (hg : G i = some v) (ha : ck_in0 E a v) : ck_gL E ((i, a) :: A) G := by
  intro j b hb
  unfold ck_g at hb
  rw [List.find?_cons] at hb
  by_cases hj : i = j
  · subst hj
    simp only [beq_self_eq_true, Option.map_some, Option.some.injEq] at hb
    subst hb
    exact ⟨v, hg, ha⟩
  · have e : (i == j) = false := by simpa using hj
    simp only [e] at hb
    exact hL j b hb
