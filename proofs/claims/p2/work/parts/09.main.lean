/-! the checker's soundness: its step -/
theorem ck_cmpb (x y : Int64) : -1 ≤ (lg_cmp x y).toInt ∧ (lg_cmp x y).toInt ≤ 1 := by
  unfold lg_cmp
  split
  · decide
  · split <;> decide
theorem ck_look (l : List (Int × Int)) (d x : Int) : Op.lookupswitch.offset l d x = d ∨ ∃ q ∈ l, Op.lookupswitch.offset l d x = q.2 := by
  induction l with
  | nil => exact Or.inl rfl
  | cons a l ih =>
    unfold Op.lookupswitch.offset
    split
    · exact Or.inr ⟨a, List.mem_cons_self, rfl⟩
    · rcases ih with e | ⟨q, hq, e⟩
      · exact Or.inl e
      · exact Or.inr ⟨q, List.mem_cons_of_mem _ hq, e⟩
theorem ck_fv_ok {E : Nat → Int} {L : ck_F} {sp : ja_S} {fi : Nat → Nat → Int × Int} {K : Nat} {pr : Nat × Nat} {v0 : Int} {h : ja_H} {k j : Nat} (G : ck_G sp fi K) (W : ck_W sp fi K pr v0 h) (hk : k < K) (hkd : (sp k).1.1 < 13) (hj : j < (sp k).1.2) : ck_in E L (ck_fv sp fi k j) (ja_fx sp h k j) := by
  unfold ck_fv ja_fx
  generalize e : (sp k).2 j = c
  match c, e with
  | 0, e =>
    have h1 := W.1 k j hk hj (by unfold ck_il; rw [if_pos hkd, e]; rfl)
    have h2 := G.1 k j
    unfold ck_fi at h1
    rw [if_pos hkd] at h1
    exact ck_mk h1.1 h1.2 ⟨by omega, by omega⟩
  | 1, e => exact ck_mkL
  | t + 2, e => exact ck_mkR
theorem ck_rd {sp : ja_S} {fi : Nat → Nat → Int × Int} {K : Nat} {pr : Nat × Nat} {v0 : Int} {h : ja_H} {q kd : Nat} {b : Int} (G : ck_G sp fi K) (W : ck_W sp fi K pr v0 h) (hk : q < K) (hkd : (sp q).1.1 = kd) (h0 : 0 ≤ b) (h1 : b < ((sp q).1.2 : Int)) (k1 : 13 ≤ kd) (k2 : kd ≤ 102) : (fi q 0).1 ≤ h q b.toNat ∧ h q b.toNat ≤ (fi q 0).2 ∧ ja_r (h q b.toNat) := by
  have e := W.1 q b.toNat hk (by omega) (by unfold ck_il; rw [if_neg (by omega)]; simp only [decide_eq_true_eq]; omega)
  unfold ck_fi at e
  rw [if_neg (by omega)] at e
  have h2 := G.1 q 0
  exact ⟨e.1, e.2, ⟨by omega, by omega⟩⟩
theorem ck_prA {sp : ja_S} {pr : Nat × Nat} {q j kd : Nat} (hp : (sp pr.1).1.1 < 13) (hk : (sp q).1.1 = kd) (h : 13 ≤ kd) : ¬ (q = pr.1 ∧ j = pr.2) := by
  rintro ⟨rfl, -⟩
  omega
theorem ck_arr_ok {E : Nat → Int} {L : ck_F} {sp : ja_S} {K : Nat} {q i : ck_v} {vq vi : ja_V} {kd : Nat} (hc : ck_arr sp K q i kd = true) (hq : ck_in E L q vq) (hi : ck_in E L i vi) :
    ∃ b, vi = (0, b) ∧ vq = (2, (q.2.1.1.toNat : Int)) ∧ q.2.1.1.toNat < K ∧ 0 ≤ b ∧ (b < ((sp q.2.1.1.toNat).1.2 : Int) ∧ (sp q.2.1.1.toNat).1.2 < 2147483648) ∧ (sp q.2.1.1.toNat).1.1 = kd := by
  simp only [ck_arr, Bool.and_eq_true, beq_iff_eq, decide_eq_true_eq] at hc
  obtain ⟨⟨⟨⟨⟨⟨⟨c1, c2⟩, c3⟩, c4⟩, c5⟩, c6⟩, c7⟩, c8⟩ := hc
  obtain ⟨b, rfl, b1, b2, -⟩ := ck_int hi.1 c5
  exact ⟨b, rfl, by rw [ck_ref2 hq.1 c1, Int.toNat_of_nonneg c2], c3, by omega, ⟨by omega, c8⟩, c4⟩
theorem ck_app {E : Nat → Int} {L : ck_F} : ∀ {a1 a2 : List ck_v} {vs : List ja_V}, ck_gS E L (a1 ++ a2) vs → ∃ v1 v2, vs = v1 ++ v2 ∧ ck_gS E L a1 v1 ∧ ck_gS E L a2 v2
  | [], a2, vs, h => ⟨[], vs, rfl, trivial, h⟩
  | a :: a1, a2, vs, h => by
    obtain ⟨v, ws, rfl, h1, h2⟩ := ck_cons (as := a1 ++ a2) h
    obtain ⟨v1, v2, rfl, g1, g2⟩ := ck_app h2
    exact ⟨v :: v1, v2, rfl, ⟨h1, g1⟩, g2⟩
theorem ck_join {E : Nat → Int} {L : ck_F} : ∀ {a1 a2 : List ck_v} {v1 v2 : List ja_V}, ck_gS E L a1 v1 → ck_gS E L a2 v2 → ck_gS E L (a1 ++ a2) (v1 ++ v2)
  | [], a2, v1, v2, h1, h2 => by have e := ck_nil h1; subst e; exact h2
  | a :: a1, a2, v1, v2, h1, h2 => by
    obtain ⟨v, ws, rfl, g1, g2⟩ := ck_cons h1
    exact ⟨g1, ck_join g2 h2⟩
theorem ck_rev {E : Nat → Int} {L : ck_F} : ∀ {as : List ck_v} {vs : List ja_V}, ck_gS E L as vs → ck_gS E L as.reverse vs.reverse
  | [], vs, h => by have e := ck_nil h; subst e; trivial
  | a :: as, vs, h => by
    obtain ⟨v, ws, rfl, g1, g2⟩ := ck_cons h
    rw [List.reverse_cons, List.reverse_cons]
    exact ck_join (ck_rev g2) ⟨g1, trivial⟩
theorem ck_len_eq {E : Nat → Int} {L : ck_F} : ∀ {as : List ck_v} {vs : List ja_V}, ck_gS E L as vs → vs.length = as.length
  | [], vs, h => by have e := ck_nil h; subst e; rfl
  | a :: as, vs, h => by
    obtain ⟨v, ws, rfl, g1, g2⟩ := ck_cons h
    rw [List.length_cons, List.length_cons, ck_len_eq g2]
theorem ck_wd_eq {E : Nat → Int} {L : ck_F} : ∀ {as : List ck_v} {vs : List ja_V}, ck_gS E L as vs → ja_wd vs = ck_wd as
  | [], vs, h => by have e := ck_nil h; subst e; rfl
  | a :: as, vs, h => by
    obtain ⟨v, ws, rfl, g1, g2⟩ := ck_cons h
    have e1 := ck_wd_eq g2
    have e2 := ck_tag g1.1
    simp only [ja_wd, ck_wd, List.map_cons, List.sum_cons] at e1 ⊢
    rw [e1, e2]
theorem ck_ret_in {E : Nat → Int} {L : ck_F} {ret : Option ck_v} {r : Option ja_V} (h0 : ck_ret0 ret = true) (h : ck_rok ret r) {AS : List ck_v} {S : List ja_V} (hS : ck_gS E L AS S) : ck_gS E L (ret.toList ++ AS) (r.toList ++ S) := by
  cases ret with
  | none =>
    cases r with
    | none => exact hS
    | some v => exact h.elim
  | some a =>
    cases r with
    | none => exact h.elim
    | some v =>
      simp only [ck_ret0, Bool.and_eq_true, beq_iff_eq] at h0
      refine ⟨⟨?_, fun i q => by rw [h0.1] at q; cases q⟩, hS⟩
      rcases h.1 with g | g | g
      · obtain ⟨g0, g1, g2, g3, g4, -, g6⟩ := g
        exact Or.inl ⟨g0, g1, g2, g3, g4, fun i q => (by rw [h0.2] at q; cases q), g6⟩
      · exact Or.inr (Or.inl g)
      · exact Or.inr (Or.inr g)
theorem ja_mono {l : Launch} {D : va_G} {cA : Nat → ClassId} {ad : Nat → Nat} {sp : ja_S} {K d : Nat} {own : String} {cc : ByteArray} {nL : Nat} {rt : Option FieldType} {pc : Nat} {L : List (Nat × ja_V)} {S : List ja_V} {h : ja_H} {Q Q2 : Option ja_V → ja_H → Prop} (hq : ∀ r h, Q r h → Q2 r h) (k : ja_J l D cA ad sp K d own cc nL rt pc L S h Q) : ja_J l D cA ad sp K d own cc nL rt pc L S h Q2 := by
  intro p e s m args below meth c H locs ls hx hb hml hr hown hts hnw hlt hlk hK hP hi hS hl T hT X
  obtain ⟨t, h1, o, h2, h3, h4, h5⟩ := k p e s m args below meth c H locs ls hx hb hml hr hown hts hnw hlt hlk hK hP hi hS hl T hT X
  obtain ⟨r, h', e1, e2, e3, e4⟩ := h4
  exact ⟨t, h1, o, h2, h3, ⟨r, h', e1, hq r h' e2, e3, e4⟩, h5⟩
theorem ck_sel_ok {ss : Nat → List ck_S} {hn : Nat → Nat × Int} {d mid : Nat} {as : List ck_v} {s : ck_S} (h : ck_sel ss hn d mid as = some s) : s ∈ ss mid ∧ s.1 < d ∧ ck_subS as s.2.1 = true := by
  unfold ck_sel at h
  split at h
  · have s2 := List.find?_some h
    simp only [Bool.and_eq_true, decide_eq_true_eq] at s2
    exact ⟨List.mem_of_find?_eq_some h, s2⟩
  · split at h
    · next s' hs =>
      split at h
      · next e =>
        cases h
        simp only [Bool.and_eq_true, decide_eq_true_eq] at e
        exact ⟨List.mem_of_getElem? hs, e⟩
      · cases h
    · cases h
section CC
variable {l : Launch} {D : va_G} {cA : Nat → ClassId} {ad : Nat → Nat} {sp : ja_S} {fi : Nat → Nat → Int × Int} {K : Nat} {mt : Nat → ck_M} {ss : Nat → List ck_S} {hn : Nat → Nat × Int} {pr : Nat × Nat} {own : String} {cc : ByteArray} {nL : Nat} {rt : Option FieldType} {d : Nat} {v0 : Int} {Q : Option ja_V → ja_H → Prop} {E : Nat → Int}
theorem ck_call_v (G : ck_G sp fi K) (hss : ∀ mid s, s ∈ ss mid → s.1 < d → ck_H l D cA ad sp fi K pr v0 (mt mid) s)
    {f : Nat → ck_L → List ck_v → Bool} (hf : ∀ pc A AS, f pc A AS = true → ∀ L S h, ck_gL E A (ck_at L h) → ck_gS E (ck_at L h) AS S → ck_W sp fi K pr v0 h → ja_J l D cA ad sp K d own cc nL rt pc L S h Q)
    {p : ck_P} {idx pc : Nat} (hm : Cond.methodLink own idx (mt p.2.2.1).1 ∈ ja_B ∧ ck_mok (mt p.2.2.1)) {A : ck_L} {AS : List ck_v} (hd : decode cc pc = .ok (.invokevirtual idx, 3)) (hc : ck_call sp K mt ss hn d f pc A AS p false = true)
    {L : List (Nat × ja_V)} {S : List ja_V} {h : ja_H} (hL : ck_gL E A (ck_at L h)) (hS : ck_gS E (ck_at L h) AS S) (hW : ck_W sp fi K pr v0 h) : ja_J l D cA ad sp K d own cc nL rt pc L S h Q := by
  unfold ck_call at hc
  simp only [Bool.and_eq_true, beq_iff_eq, decide_eq_true_eq, Bool.false_eq_true, if_false] at hc
  obtain ⟨⟨⟨c1, c2⟩, c3⟩, c4⟩ := hc
  rw [← List.take_append_drop (mt p.2.2.1).2.2.2.1.2.1 AS] at hS
  obtain ⟨v1, v2, rfl, g1, g2⟩ := ck_app hS
  generalize hS1 : AS.drop (mt p.2.2.1).2.2.2.1.2.1 = S1 at c4 g2
  cases S1 with
  | nil => cases c4
  | cons q S2 =>
    obtain ⟨vq, rest, rfl, iq, g3⟩ := ck_cons g2
    simp only [Bool.and_eq_true, beq_iff_eq, decide_eq_true_eq] at c4
    obtain ⟨⟨⟨⟨⟨⟨⟨d1, d2⟩, d3⟩, d4⟩, d5⟩, d6⟩, d7⟩, d8⟩ := c4
    have hv : vq = (2, (q.2.1.1.toNat : Int)) := by rw [ck_ref2 iq.1 d1, Int.toNat_of_nonneg d2]
    subst hv
    have gv := ck_rev g1
    split at d8
    · next s hs =>
      simp only [Bool.and_eq_true] at d8
      obtain ⟨s1, s2⟩ := ck_sel_ok hs
      have hM := hss p.2.2.1 s s1 s2.1 ((2, (q.2.1.1.toNat : Int)) :: v1.reverse) h (ck_subS_ok s2.2 (E := E) (L := ck_at L h) ⟨iq, gv⟩) hW
      obtain ⟨m1, m2, m3, m4⟩ := hm.2
      rw [c2] at m4
      simp only [Bool.false_eq_true, if_false] at m4
      obtain ⟨m4, m5, T, N, m6⟩ := m4
      obtain ⟨r2, hr2, hN⟩ := G.2 _ d3 (by rw [d4]; exact d5)
      rw [d4, m6] at hr2
      cases hr2
      have hsp : (sp q.2.1.1.toNat).1 = ((mt p.2.2.1).2.2.2.1.1, N) := Prod.ext d4 hN.symm
      have hw1 := ck_wd_eq gv
      have hw2 := ck_wd_eq g3
      have hl1 := ck_len_eq gv
      have kk := ja_callV (S := rest) (Q := Q) (own := own) (L := L) (vals := v1.reverse) (n := (mt p.2.2.1).2.2.2.1.2.1) hm.1 m2 m1 ⟨m3.1, m3.2.1, m3.2.2.1, m3.2.2.2⟩ (by rw [hl1, c1]) s2.1 c3 m4 m5 d3 hsp (by omega) m6 (by rw [hw1]; exact d6) (by rw [hw2]; exact d7) hd
        (ja_mono (fun r h' hr => hf _ _ _ d8.2 L _ h' (ck_keepL_ok hL ck_kF) (ck_ret_in d8.1 hr.1 (ck_keepS_ok ck_kF g3)) hr.2) hM)
      rw [List.reverse_reverse] at kk
      exact kk
    · cases d8
theorem ck_call_s (hss : ∀ mid s, s ∈ ss mid → s.1 < d → ck_H l D cA ad sp fi K pr v0 (mt mid) s)
    {f : Nat → ck_L → List ck_v → Bool} (hf : ∀ pc A AS, f pc A AS = true → ∀ L S h, ck_gL E A (ck_at L h) → ck_gS E (ck_at L h) AS S → ck_W sp fi K pr v0 h → ja_J l D cA ad sp K d own cc nL rt pc L S h Q)
    {p : ck_P} {idx pc : Nat} (hm : Cond.methodLink own idx (mt p.2.2.1).1 ∈ ja_B ∧ ck_mok (mt p.2.2.1)) {A : ck_L} {AS : List ck_v} (hd : decode cc pc = .ok (.invokestatic idx, 3)) (hc : ck_call sp K mt ss hn d f pc A AS p true = true)
    {L : List (Nat × ja_V)} {S : List ja_V} {h : ja_H} (hL : ck_gL E A (ck_at L h)) (hS : ck_gS E (ck_at L h) AS S) (hW : ck_W sp fi K pr v0 h) : ja_J l D cA ad sp K d own cc nL rt pc L S h Q := by
  unfold ck_call at hc
  simp only [Bool.and_eq_true, beq_iff_eq, decide_eq_true_eq, if_true] at hc
  obtain ⟨⟨⟨c1, c2⟩, c3⟩, ⟨d6, d7⟩, d8⟩ := hc
  rw [← List.take_append_drop (mt p.2.2.1).2.2.2.1.2.1 AS] at hS
  obtain ⟨v1, v2, rfl, g1, g3⟩ := ck_app hS
  have gv := ck_rev g1
  split at d8
  · next s hs =>
    simp only [Bool.and_eq_true] at d8
    obtain ⟨s1, s2⟩ := ck_sel_ok hs
    have hM := hss p.2.2.1 s s1 s2.1 v1.reverse h (ck_subS_ok s2.2 (E := E) (L := ck_at L h) gv) hW
    obtain ⟨m1, m2, m3, m4⟩ := hm.2
    rw [c2] at m4
    simp only [if_true] at m4
    have hw1 := ck_wd_eq gv
    have hw2 := ck_wd_eq g3
    have hl1 := ck_len_eq gv
    have kk := ja_callS (S := v2) (Q := Q) (own := own) (L := L) (vals := v1.reverse) (n := (mt p.2.2.1).2.2.2.1.2.1) hm.1 m2 m1 ⟨m3.1, m3.2.1, m3.2.2.1, m3.2.2.2⟩ (by rw [hl1, c1]) s2.1 c3 m4 (by rw [hw1]; exact d6) (by rw [hw2]; exact d7) hd
      (ja_mono (fun r h' hr => hf _ _ _ d8.2 L _ h' (ck_keepL_ok hL ck_kF) (ck_ret_in d8.1 hr.1 (ck_keepS_ok ck_kF g3)) hr.2) hM)
    rw [List.reverse_reverse] at kk
    exact kk
  · cases d8
end CC
theorem ck_one_ok {l : Launch} {D : va_G} {cA : Nat → ClassId} {ad : Nat → Nat} {sp : ja_S} {fi : Nat → Nat → Int × Int} {K : Nat} {mt : Nat → ck_M} {pf : Nat → Nat → Option ck_P} {kl : Nat → List ck_K} {ss : Nat → List ck_S} {hn : Nat → Nat × Int} {pr : Nat × Nat} {ci : Nat} {own : String} {cc : ByteArray} {nL : Nat} {rt : Option FieldType} {d : Nat} {ret : Option ck_v} {v0 : Int} {Q : Option ja_V → ja_H → Prop} {E : Nat → Int}
    (G : ck_G sp fi K) (hpA : (sp pr.1).1.1 < 13) (hpl : ∀ idx p, pf ci idx = some p → p.1 = idx ∧ ck_pok mt own p) (hkl : ∀ p ∈ kl ci, ck_kok own p) (hss : ∀ mid s, s ∈ ss mid → s.1 < d → ck_H l D cA ad sp fi K pr v0 (mt mid) s)
    {f : Nat → ck_L → List ck_v → Bool} (hf : ∀ pc A AS, f pc A AS = true → ∀ L S h, ck_gL E A (ck_at L h) → ck_gS E (ck_at L h) AS S → ck_W sp fi K pr v0 h → ja_J l D cA ad sp K d own cc nL rt pc L S h Q)
    (hQ : ∀ r h, ck_rok ret r → ck_W sp fi K pr v0 h → Q r h)
    {i : Instr} {len pc : Nat} {A : ck_L} {AS : List ck_v} (hd : decode cc pc = .ok (i, len)) (hlen : (ck_len i == 0 || len == ck_len i) = true) (hc : ck_one sp fi K mt pf kl ss hn pr ci nL rt d ret f pc A AS i = true)
    {L : List (Nat × ja_V)} {S : List ja_V} {h : ja_H} (hL : ck_gL E A (ck_at L h)) (hS : ck_gS E (ck_at L h) AS S) (hW : ck_W sp fi K pr v0 h) : ja_J l D cA ad sp K d own cc nL rt pc L S h Q := by
  unfold ck_one at hc
  split at hc

  · rename_i v
    have hl : len = 1 := by simpa [ck_len] using hlen
    subst hl
    simp only [Bool.and_eq_true, Bool.or_eq_true, Bool.not_eq_true', beq_iff_eq, beq_eq_false_iff_ne, decide_eq_true_eq, ne_eq] at hc
    obtain ⟨⟨c1, c2⟩, c3⟩ := hc
    exact ja_iconst hd (hf _ _ _ c3 L _ h hL ⟨ck_mk (Int.le_refl _) (Int.le_refl _) ⟨by omega, by omega⟩, hS⟩ hW)
  · rename_i v
    have hl : len = 2 := by simpa [ck_len] using hlen
    subst hl
    simp only [Bool.and_eq_true, Bool.or_eq_true, Bool.not_eq_true', beq_iff_eq, beq_eq_false_iff_ne, decide_eq_true_eq, ne_eq] at hc
    obtain ⟨⟨⟨c1, c2⟩, c3⟩, c4⟩ := hc
    exact ja_bipush v hd c3 (hf _ _ _ c4 L _ h hL ⟨ck_mk (Int.le_refl _) (Int.le_refl _) ⟨by omega, by omega⟩, hS⟩ hW)
  · rename_i v
    have hl : len = 3 := by simpa [ck_len] using hlen
    subst hl
    simp only [Bool.and_eq_true, Bool.or_eq_true, Bool.not_eq_true', beq_iff_eq, beq_eq_false_iff_ne, decide_eq_true_eq, ne_eq] at hc
    obtain ⟨⟨⟨c1, c2⟩, c3⟩, c4⟩ := hc
    exact ja_sipush v hd c3 (hf _ _ _ c4 L _ h hL ⟨ck_mk (Int.le_refl _) (Int.le_refl _) ⟨by omega, by omega⟩, hS⟩ hW)
  · rename_i v
    have hl : len = 1 := by simpa [ck_len] using hlen
    subst hl
    simp only [Bool.and_eq_true, Bool.or_eq_true, Bool.not_eq_true', beq_iff_eq, beq_eq_false_iff_ne, decide_eq_true_eq, ne_eq] at hc
    obtain ⟨c1, c2⟩ := hc
    exact ja_lconst _ hd c1 (hf _ _ _ c2 L _ h hL ⟨ck_mkL, hS⟩ hW)
  · rename_i idx
    have hl : len = 2 := by simpa [ck_len] using hlen
    subst hl
    split at hc
    · next p hp =>
      simp only [ck_fits, Bool.and_eq_true, decide_eq_true_eq] at hc
      obtain ⟨⟨c1, c2⟩, c3⟩ := hc
      have h1 := List.mem_of_find?_eq_some hp
      have h2 := List.find?_some hp
      simp only [Bool.and_eq_true, beq_iff_eq] at h2
      have h3 := (hkl p h1).1 h2.2
      rw [h2.1] at h3
      exact ja_ldc p.2.2.1 h3 hd rfl (hf _ _ _ c3 L _ h hL ⟨ck_mk (Int.le_refl _) (Int.le_refl _) ⟨c1, c2⟩, hS⟩ hW)
    · cases hc
  · rename_i idx
    have hl : len = 3 := by simpa [ck_len] using hlen
    subst hl
    split at hc
    · next p hp =>
      have h1 := List.mem_of_find?_eq_some hp
      have h2 := List.find?_some hp
      simp only [Bool.and_eq_true, beq_iff_eq] at h2
      obtain ⟨v, h3⟩ := (hkl p h1).2 h2.2
      rw [h2.1] at h3
      exact ja_ldc2 v.toInt h3 hd (Int64.ofInt_toInt v).symm (hf _ _ _ hc L _ h hL ⟨ck_mkL, hS⟩ hW)
    · cases hc
  · rename_i k
    have hl : len = 1 := by simpa [ck_len] using hlen
    subst hl
    split at hc
    · next a ha =>
      simp only [Bool.and_eq_true, Bool.or_eq_true, Bool.not_eq_true', beq_iff_eq, beq_eq_false_iff_ne, decide_eq_true_eq, ne_eq] at hc
      obtain ⟨c1, c2⟩ := hc
      have hk : (k : Nat) < 900 := by have := k.isLt; omega
      obtain ⟨v, g1, g2⟩ := hL _ a ha
      have g0 : ja_g L k = some v := (ck_at_lo (by omega)).symm.trans g1
      obtain ⟨x, rfl, -⟩ := ck_int g2 c1
      have hin : ck_in E (ck_at L h) (ck_o a ((k : Nat) + 1)) (0, x) := ⟨g2, fun j q => ⟨by rw [← Nat.succ.inj (show (k : Nat) + 1 = j + 1 from q)]; exact g1, rfl⟩⟩
      exact ja_iload_n hd rfl g0 (hf _ _ _ c2 L _ h hL ⟨hin, hS⟩ hW)
    · cases hc
  · rename_i k
    have hl : len = 2 := by simpa [ck_len] using hlen
    subst hl
    split at hc
    · next a ha =>
      simp only [Bool.and_eq_true, Bool.or_eq_true, Bool.not_eq_true', beq_iff_eq, beq_eq_false_iff_ne, decide_eq_true_eq, ne_eq] at hc
      obtain ⟨⟨hk, c1⟩, c2⟩ := hc
      obtain ⟨v, g1, g2⟩ := hL _ a ha
      have g0 : ja_g L k = some v := (ck_at_lo (by omega)).symm.trans g1
      obtain ⟨x, rfl, -⟩ := ck_int g2 c1
      have hin : ck_in E (ck_at L h) (ck_o a ((k : Nat) + 1)) (0, x) := ⟨g2, fun j q => ⟨by rw [← Nat.succ.inj (show (k : Nat) + 1 = j + 1 from q)]; exact g1, rfl⟩⟩
      exact ja_iload hd g0 (hf _ _ _ c2 L _ h hL ⟨hin, hS⟩ hW)
    · cases hc
  · rename_i k
    have hl : len = 1 := by simpa [ck_len] using hlen
    subst hl
    split at hc
    · next a ha =>
      simp only [Bool.and_eq_true, Bool.or_eq_true, Bool.not_eq_true', beq_iff_eq, beq_eq_false_iff_ne, decide_eq_true_eq, ne_eq] at hc
      obtain ⟨c1, c2⟩ := hc
      have hk : (k : Nat) < 900 := by have := k.isLt; omega
      obtain ⟨v, g1, g2⟩ := hL _ a ha
      have g0 : ja_g L k = some v := (ck_at_lo (by omega)).symm.trans g1
      obtain ⟨x, rfl⟩ := ck_long g2 c1
      exact ja_lload_n hd rfl g0 (hf _ _ _ c2 L _ h hL ⟨ck_mkL, hS⟩ hW)
    · cases hc
  · rename_i k
    have hl : len = 2 := by simpa [ck_len] using hlen
    subst hl
    split at hc
    · next a ha =>
      simp only [Bool.and_eq_true, Bool.or_eq_true, Bool.not_eq_true', beq_iff_eq, beq_eq_false_iff_ne, decide_eq_true_eq, ne_eq] at hc
      obtain ⟨⟨hk, c1⟩, c2⟩ := hc
      obtain ⟨v, g1, g2⟩ := hL _ a ha
      have g0 : ja_g L k = some v := (ck_at_lo (by omega)).symm.trans g1
      obtain ⟨x, rfl⟩ := ck_long g2 c1
      exact ja_lload hd g0 (hf _ _ _ c2 L _ h hL ⟨ck_mkL, hS⟩ hW)
    · cases hc
  · rename_i k
    have hl : len = 1 := by simpa [ck_len] using hlen
    subst hl
    split at hc
    · next a ha =>
      simp only [Bool.and_eq_true, Bool.or_eq_true, Bool.not_eq_true', beq_iff_eq, beq_eq_false_iff_ne, decide_eq_true_eq, ne_eq] at hc
      obtain ⟨c1, c2⟩ := hc
      have hk : (k : Nat) < 900 := by have := k.isLt; omega
      obtain ⟨v, g1, g2⟩ := hL _ a ha
      have g0 : ja_g L k = some v := (ck_at_lo (by omega)).symm.trans g1
      have e2 := ck_ref2 g2 c1
      subst e2
      exact ja_aload_n hd rfl g0 (hf _ _ _ c2 L _ h hL ⟨⟨Or.inr (Or.inr ⟨rfl, rfl⟩), fun j q => (by cases q)⟩, hS⟩ hW)
    · cases hc
  · rename_i k
    have hl : len = 2 := by simpa [ck_len] using hlen
    subst hl
    split at hc
    · next a ha =>
      simp only [Bool.and_eq_true, Bool.or_eq_true, Bool.not_eq_true', beq_iff_eq, beq_eq_false_iff_ne, decide_eq_true_eq, ne_eq] at hc
      obtain ⟨⟨hk, c1⟩, c2⟩ := hc
      obtain ⟨v, g1, g2⟩ := hL _ a ha
      have g0 : ja_g L k = some v := (ck_at_lo (by omega)).symm.trans g1
      have e2 := ck_ref2 g2 c1
      subst e2
      exact ja_aload hd g0 (hf _ _ _ c2 L _ h hL ⟨⟨Or.inr (Or.inr ⟨rfl, rfl⟩), fun j q => (by cases q)⟩, hS⟩ hW)
    · cases hc
  · rename_i k a S1
    have hl : len = 1 := by simpa [ck_len] using hlen
    subst hl
    simp only [Bool.and_eq_true, Bool.or_eq_true, Bool.not_eq_true', beq_iff_eq, beq_eq_false_iff_ne, decide_eq_true_eq, ne_eq] at hc
    obtain ⟨⟨c1, c2⟩, c3⟩ := hc
    have hk : (k : Nat) < 900 := by have := k.isLt; omega
    obtain ⟨v1, vs1, rfl, i1, hS1⟩ := ck_cons hS
    obtain ⟨x, rfl, -⟩ := ck_int i1.1 c1
    exact ja_istore_n hd rfl c2 rfl (hf _ _ _ c3 _ _ h (ck_stL hk hL i1.1) (ck_dropJ hk hS1) hW)
  · rename_i k a S1
    have hl : len = 2 := by simpa [ck_len] using hlen
    subst hl
    simp only [Bool.and_eq_true, Bool.or_eq_true, Bool.not_eq_true', beq_iff_eq, beq_eq_false_iff_ne, decide_eq_true_eq, ne_eq] at hc
    obtain ⟨⟨⟨c1, c2⟩, hk⟩, c3⟩ := hc
    obtain ⟨v1, vs1, rfl, i1, hS1⟩ := ck_cons hS
    obtain ⟨x, rfl, -⟩ := ck_int i1.1 c1
    exact ja_istore hd c2 rfl (hf _ _ _ c3 _ _ h (ck_stL hk hL i1.1) (ck_dropJ hk hS1) hW)
  · rename_i k a S1
    have hl : len = 1 := by simpa [ck_len] using hlen
    subst hl
    simp only [Bool.and_eq_true, Bool.or_eq_true, Bool.not_eq_true', beq_iff_eq, beq_eq_false_iff_ne, decide_eq_true_eq, ne_eq] at hc
    obtain ⟨⟨c1, c2⟩, c3⟩ := hc
    have hk : (k : Nat) < 900 := by have := k.isLt; omega
    obtain ⟨v1, vs1, rfl, i1, hS1⟩ := ck_cons hS
    have e2 := ck_ref2 i1.1 c1
    subst e2
    exact ja_astore_n hd rfl c2 rfl (hf _ _ _ c3 _ _ h (ck_stL hk hL i1.1) (ck_dropJ hk hS1) hW)
  · rename_i k a S1
    have hl : len = 2 := by simpa [ck_len] using hlen
    subst hl
    simp only [Bool.and_eq_true, Bool.or_eq_true, Bool.not_eq_true', beq_iff_eq, beq_eq_false_iff_ne, decide_eq_true_eq, ne_eq] at hc
    obtain ⟨⟨⟨c1, c2⟩, hk⟩, c3⟩ := hc
    obtain ⟨v1, vs1, rfl, i1, hS1⟩ := ck_cons hS
    have e2 := ck_ref2 i1.1 c1
    subst e2
    exact ja_astore hd c2 rfl (hf _ _ _ c3 _ _ h (ck_stL hk hL i1.1) (ck_dropJ hk hS1) hW)
  · rename_i k a S1
    have hl : len = 1 := by simpa [ck_len] using hlen
    subst hl
    simp only [Bool.and_eq_true, Bool.or_eq_true, Bool.not_eq_true', beq_iff_eq, beq_eq_false_iff_ne, decide_eq_true_eq, ne_eq] at hc
    obtain ⟨⟨c1, c2⟩, c3⟩ := hc
    have hk : (k : Nat) < 900 := by have := k.isLt; omega
    obtain ⟨v1, vs1, rfl, i1, hS1⟩ := ck_cons hS
    obtain ⟨x, rfl⟩ := ck_long i1.1 c1
    exact ja_lstore_n hd rfl c2 rfl (hf _ _ _ c3 _ _ h (ck_stL2 hk hL i1.1) (ck_dropJ2 hk hS1) hW)
  · rename_i k a S1
    have hl : len = 2 := by simpa [ck_len] using hlen
    subst hl
    simp only [Bool.and_eq_true, Bool.or_eq_true, Bool.not_eq_true', beq_iff_eq, beq_eq_false_iff_ne, decide_eq_true_eq, ne_eq] at hc
    obtain ⟨⟨⟨c1, c2⟩, hk⟩, c3⟩ := hc
    obtain ⟨v1, vs1, rfl, i1, hS1⟩ := ck_cons hS
    obtain ⟨x, rfl⟩ := ck_long i1.1 c1
    exact ja_lstore hd c2 rfl (hf _ _ _ c3 _ _ h (ck_stL2 hk hL i1.1) (ck_dropJ2 hk hS1) hW)
  · rename_i k n
    have hl : len = 3 := by simpa [ck_len] using hlen
    subst hl
    split at hc
    · next a ha =>
      simp only [Bool.and_eq_true, beq_iff_eq, decide_eq_true_eq] at hc
      obtain ⟨⟨⟨c1, c2⟩, hk⟩, c3⟩ := hc
      obtain ⟨v, g1, g2⟩ := hL _ a ha
      obtain ⟨x, rfl, b1, b2, b3, b4, b5⟩ := ck_int g2 c1
      have g0 : ja_g L k = some (0, x) := (ck_at_lo (by omega)).symm.trans g1
      split at c3
      · next hfit =>
        simp only [ck_fits, Bool.and_eq_true, decide_eq_true_eq] at hfit
        have hin : ck_in0 E (0, (a.2.1.1 + n, a.2.1.2 + n), 0, (a.2.2.2.1.1, a.2.2.2.1.2 + n), 0) (0, x + n) := Or.inl ⟨rfl, rfl, by show a.2.1.1 + n ≤ x + n; omega, by show x + n ≤ a.2.1.2 + n; omega, ⟨by show _ ≤ x + n; omega, by show x + n ≤ _; omega⟩, fun j q => (by have e := b4 j q; show x + n = E j + (a.2.2.2.1.2 + n); omega), fun q => (by cases q)⟩
        exact ja_iinc hd g0 c2 rfl (hf _ _ _ c3 _ _ h (ck_stL hk hL hin) (ck_dropJ hk hS) hW)
      · exact ja_iincv (ck_w32 (x + n)) hd g0 c2 (ck_w32e _) rfl (hf _ _ _ c3 _ _ h (ck_stL hk hL (ck_mkT (L := ck_at L h) (ck_w32r _)).1) (ck_dropJ hk hS) hW)
    · cases hc
  · rename_i y x S1
    have hl : len = 1 := by simpa [ck_len] using hlen
    subst hl
    simp only [Bool.and_eq_true, Bool.or_eq_true, Bool.not_eq_true', beq_iff_eq, beq_eq_false_iff_ne, decide_eq_true_eq, ne_eq] at hc
    obtain ⟨⟨c1, c2⟩, c3⟩ := hc
    obtain ⟨v2, vs1, rfl, i2, hS1⟩ := ck_cons hS
    obtain ⟨v1, vs2, rfl, i1, hS2⟩ := ck_cons hS1
    obtain ⟨b, rfl, b1, b2, b3, -, b5⟩ := ck_int i2.1 c2
    obtain ⟨a, rfl, a1, a2, a3, -⟩ := ck_int i1.1 c1
    obtain ⟨v, e, hin⟩ := ck_normx (E := E) (L := ck_at L h) (lo := x.2.1.1 + y.2.1.1) (hi := x.2.1.2 + y.2.1.2) (x := a + b) (by omega) (by omega)
    exact ja_iadd hd (ja_norm v e (hf _ _ _ c3 L _ h hL ⟨hin, hS2⟩ hW))
  · rename_i y x S1
    have hl : len = 1 := by simpa [ck_len] using hlen
    subst hl
    simp only [Bool.and_eq_true, Bool.or_eq_true, Bool.not_eq_true', beq_iff_eq, beq_eq_false_iff_ne, decide_eq_true_eq, ne_eq] at hc
    obtain ⟨⟨c1, c2⟩, c3⟩ := hc
    obtain ⟨v2, vs1, rfl, i2, hS1⟩ := ck_cons hS
    obtain ⟨v1, vs2, rfl, i1, hS2⟩ := ck_cons hS1
    obtain ⟨b, rfl, b1, b2, b3, -, b5⟩ := ck_int i2.1 c2
    obtain ⟨a, rfl, a1, a2, a3, -⟩ := ck_int i1.1 c1
    obtain ⟨v, e, hin⟩ := ck_normx (E := E) (L := ck_at L h) (lo := x.2.1.1 - y.2.1.2) (hi := x.2.1.2 - y.2.1.1) (x := a - b) (by omega) (by omega)
    exact ja_isub hd (ja_norm v e (hf _ _ _ c3 L _ h hL ⟨hin, hS2⟩ hW))
  · rename_i y x S1
    have hl : len = 1 := by simpa [ck_len] using hlen
    subst hl
    simp only [Bool.and_eq_true, Bool.or_eq_true, Bool.not_eq_true', beq_iff_eq, beq_eq_false_iff_ne, decide_eq_true_eq, ne_eq] at hc
    obtain ⟨⟨c1, c2⟩, c3⟩ := hc
    obtain ⟨v2, vs1, rfl, i2, hS1⟩ := ck_cons hS
    obtain ⟨v1, vs2, rfl, i1, hS2⟩ := ck_cons hS1
    obtain ⟨b, rfl, b1, b2, b3, -, b5⟩ := ck_int i2.1 c2
    obtain ⟨a, rfl, a1, a2, a3, -⟩ := ck_int i1.1 c1
    have hm := ck_mulb a1 a2 b1 b2 (r := 0) (s := 0)
    obtain ⟨v, e, hin⟩ := ck_normx (E := E) (L := ck_at L h) (lo := (ck_mulr x y).1) (hi := (ck_mulr x y).2) (x := a * b) hm.1 hm.2
    exact ja_imul hd (ja_norm v e (hf _ _ _ c3 L _ h hL ⟨hin, hS2⟩ hW))
  · rename_i x S1
    have hl : len = 1 := by simpa [ck_len] using hlen
    subst hl
    simp only [Bool.and_eq_true, Bool.or_eq_true, Bool.not_eq_true', beq_iff_eq, beq_eq_false_iff_ne, decide_eq_true_eq, ne_eq] at hc
    obtain ⟨c1, c3⟩ := hc
    obtain ⟨v1, vs1, rfl, i1, hS1⟩ := ck_cons hS
    obtain ⟨a, rfl, a1, a2, a3, -⟩ := ck_int i1.1 c1
    obtain ⟨v, e, hin⟩ := ck_normx (E := E) (L := ck_at L h) (lo := -x.2.1.2) (hi := -x.2.1.1) (x := -a) (by omega) (by omega)
    exact ja_ineg hd (ja_norm v e (hf _ _ _ c3 L _ h hL ⟨hin, hS1⟩ hW))
  · rename_i y x S1
    have hl : len = 1 := by simpa [ck_len] using hlen
    subst hl
    simp only [Bool.and_eq_true, Bool.or_eq_true, Bool.not_eq_true', beq_iff_eq, beq_eq_false_iff_ne, decide_eq_true_eq, ne_eq] at hc
    obtain ⟨⟨c1, c2⟩, c3⟩ := hc
    obtain ⟨v2, vs1, rfl, i2, hS1⟩ := ck_cons hS
    obtain ⟨v1, vs2, rfl, i1, hS2⟩ := ck_cons hS1
    obtain ⟨b, rfl, b1, b2, b3, -, b5⟩ := ck_int i2.1 c2
    obtain ⟨a, rfl, a1, a2, a3, -⟩ := ck_int i1.1 c1
    exact ja_iand _ hd (Int32.ofInt_toInt _).symm (hf _ _ _ c3 L _ h hL ⟨ck_and_ok a1 a2 a3 b1 b2 b3, hS2⟩ hW)
  · rename_i y x S1
    have hl : len = 1 := by simpa [ck_len] using hlen
    subst hl
    simp only [Bool.and_eq_true, Bool.or_eq_true, Bool.not_eq_true', beq_iff_eq, beq_eq_false_iff_ne, decide_eq_true_eq, ne_eq] at hc
    obtain ⟨⟨c1, c2⟩, c3⟩ := hc
    obtain ⟨v2, vs1, rfl, i2, hS1⟩ := ck_cons hS
    obtain ⟨v1, vs2, rfl, i1, hS2⟩ := ck_cons hS1
    obtain ⟨b, rfl, b1, b2, b3, -, b5⟩ := ck_int i2.1 c2
    obtain ⟨a, rfl, a1, a2, a3, -⟩ := ck_int i1.1 c1
    exact ja_ior _ hd (Int32.ofInt_toInt _).symm (hf _ _ _ c3 L _ h hL ⟨ck_mkT (ck_ofr _), hS2⟩ hW)
  · rename_i y x S1
    have hl : len = 1 := by simpa [ck_len] using hlen
    subst hl
    simp only [Bool.and_eq_true, Bool.or_eq_true, Bool.not_eq_true', beq_iff_eq, beq_eq_false_iff_ne, decide_eq_true_eq, ne_eq] at hc
    obtain ⟨⟨c1, c2⟩, c3⟩ := hc
    obtain ⟨v2, vs1, rfl, i2, hS1⟩ := ck_cons hS
    obtain ⟨v1, vs2, rfl, i1, hS2⟩ := ck_cons hS1
    obtain ⟨b, rfl, b1, b2, b3, -, b5⟩ := ck_int i2.1 c2
    obtain ⟨a, rfl, a1, a2, a3, -⟩ := ck_int i1.1 c1
    exact ja_ixor _ hd (Int32.ofInt_toInt _).symm (hf _ _ _ c3 L _ h hL ⟨ck_mkT (ck_ofr _), hS2⟩ hW)
  · rename_i y x S1
    have hl : len = 1 := by simpa [ck_len] using hlen
    subst hl
    simp only [Bool.and_eq_true, Bool.or_eq_true, Bool.not_eq_true', beq_iff_eq, beq_eq_false_iff_ne, decide_eq_true_eq, ne_eq] at hc
    obtain ⟨⟨c1, c2⟩, c3⟩ := hc
    obtain ⟨v2, vs1, rfl, i2, hS1⟩ := ck_cons hS
    obtain ⟨v1, vs2, rfl, i1, hS2⟩ := ck_cons hS1
    obtain ⟨b, rfl, b1, b2, b3, -, b5⟩ := ck_int i2.1 c2
    obtain ⟨a, rfl, a1, a2, a3, -⟩ := ck_int i1.1 c1
    exact ja_ishl _ hd (Int32.ofInt_toInt _).symm (hf _ _ _ c3 L _ h hL ⟨ck_mkT (ck_ofr _), hS2⟩ hW)
  · rename_i y x S1
    have hl : len = 1 := by simpa [ck_len] using hlen
    subst hl
    simp only [Bool.and_eq_true, Bool.or_eq_true, Bool.not_eq_true', beq_iff_eq, beq_eq_false_iff_ne, decide_eq_true_eq, ne_eq] at hc
    obtain ⟨⟨c1, c2⟩, c3⟩ := hc
    obtain ⟨v2, vs1, rfl, i2, hS1⟩ := ck_cons hS
    obtain ⟨v1, vs2, rfl, i1, hS2⟩ := ck_cons hS1
    obtain ⟨b, rfl, b1, b2, b3, -, b5⟩ := ck_int i2.1 c2
    obtain ⟨a, rfl, a1, a2, a3, -⟩ := ck_int i1.1 c1
    exact ja_ishr _ hd (Int32.ofInt_toInt _).symm (hf _ _ _ c3 L _ h hL ⟨ck_mkT (ck_ofr _), hS2⟩ hW)
  · rename_i y x S1
    have hl : len = 1 := by simpa [ck_len] using hlen
    subst hl
    simp only [Bool.and_eq_true, Bool.or_eq_true, Bool.not_eq_true', beq_iff_eq, beq_eq_false_iff_ne, decide_eq_true_eq, ne_eq] at hc
    obtain ⟨⟨⟨c1, c2⟩, c4⟩, c3⟩ := hc
    obtain ⟨v2, vs1, rfl, i2, hS1⟩ := ck_cons hS
    obtain ⟨v1, vs2, rfl, i1, hS2⟩ := ck_cons hS1
    obtain ⟨b, rfl, b1, b2, b3, -, b5⟩ := ck_int i2.1 c2
    obtain ⟨a, rfl, a1, a2, a3, -⟩ := ck_int i1.1 c1
    have hb0 : b ≠ 0 := by
      rcases c4 with q | q
      · exact b5 q
      · omega
    exact ja_idiv _ hd (fun q => hb0 ((ja_eq b3 ja_r0).mp q)) (Int32.ofInt_toInt _).symm (hf _ _ _ c3 L _ h hL ⟨ck_mkT (ck_ofr _), hS2⟩ hW)
  · rename_i y x S1
    have hl : len = 1 := by simpa [ck_len] using hlen
    subst hl
    simp only [Bool.and_eq_true, Bool.or_eq_true, Bool.not_eq_true', beq_iff_eq, beq_eq_false_iff_ne, decide_eq_true_eq, ne_eq] at hc
    obtain ⟨⟨⟨c1, c2⟩, c4⟩, c3⟩ := hc
    obtain ⟨v2, vs1, rfl, i2, hS1⟩ := ck_cons hS
    obtain ⟨v1, vs2, rfl, i1, hS2⟩ := ck_cons hS1
    obtain ⟨b, rfl, b1, b2, b3, -, b5⟩ := ck_int i2.1 c2
    obtain ⟨a, rfl, a1, a2, a3, -⟩ := ck_int i1.1 c1
    have hb0 : b ≠ 0 := by
      rcases c4 with q | q
      · exact b5 q
      · omega
    exact ja_irem _ hd (fun q => hb0 ((ja_eq b3 ja_r0).mp q)) (Int32.ofInt_toInt _).symm (hf _ _ _ c3 L _ h hL ⟨ck_mkT (ck_ofr _), hS2⟩ hW)
  · rename_i y x S1
    have hl : len = 1 := by simpa [ck_len] using hlen
    subst hl
    simp only [Bool.and_eq_true, Bool.or_eq_true, Bool.not_eq_true', beq_iff_eq, beq_eq_false_iff_ne, decide_eq_true_eq, ne_eq] at hc
    obtain ⟨⟨c1, c2⟩, c3⟩ := hc
    obtain ⟨v2, vs1, rfl, i2, hS1⟩ := ck_cons hS
    obtain ⟨v1, vs2, rfl, i1, hS2⟩ := ck_cons hS1
    obtain ⟨b, rfl⟩ := ck_long i2.1 c2
    obtain ⟨a, rfl⟩ := ck_long i1.1 c1
    exact ja_lor _ hd (Int64.ofInt_toInt _).symm (hf _ _ _ c3 L _ h hL ⟨ck_mkL, hS2⟩ hW)
  · rename_i y x S1
    have hl : len = 1 := by simpa [ck_len] using hlen
    subst hl
    simp only [Bool.and_eq_true, Bool.or_eq_true, Bool.not_eq_true', beq_iff_eq, beq_eq_false_iff_ne, decide_eq_true_eq, ne_eq] at hc
    obtain ⟨⟨c1, c2⟩, c3⟩ := hc
    obtain ⟨v2, vs1, rfl, i2, hS1⟩ := ck_cons hS
    obtain ⟨v1, vs2, rfl, i1, hS2⟩ := ck_cons hS1
    obtain ⟨b, rfl⟩ := ck_long i2.1 c2
    obtain ⟨a, rfl⟩ := ck_long i1.1 c1
    exact ja_land _ hd (Int64.ofInt_toInt _).symm (hf _ _ _ c3 L _ h hL ⟨ck_mkL, hS2⟩ hW)
  · rename_i y x S1
    have hl : len = 1 := by simpa [ck_len] using hlen
    subst hl
    simp only [Bool.and_eq_true, Bool.or_eq_true, Bool.not_eq_true', beq_iff_eq, beq_eq_false_iff_ne, decide_eq_true_eq, ne_eq] at hc
    obtain ⟨⟨c1, c2⟩, c3⟩ := hc
    obtain ⟨v2, vs1, rfl, i2, hS1⟩ := ck_cons hS
    obtain ⟨v1, vs2, rfl, i1, hS2⟩ := ck_cons hS1
    obtain ⟨b, rfl, -⟩ := ck_int i2.1 c2
    obtain ⟨a, rfl⟩ := ck_long i1.1 c1
    exact ja_lushr _ hd (Int64.ofInt_toInt _).symm (hf _ _ _ c3 L _ h hL ⟨ck_mkL, hS2⟩ hW)
  · rename_i y x S1
    have hl : len = 1 := by simpa [ck_len] using hlen
    subst hl
    simp only [Bool.and_eq_true, Bool.or_eq_true, Bool.not_eq_true', beq_iff_eq, beq_eq_false_iff_ne, decide_eq_true_eq, ne_eq] at hc
    obtain ⟨⟨c1, c2⟩, c3⟩ := hc
    obtain ⟨v2, vs1, rfl, i2, hS1⟩ := ck_cons hS
    obtain ⟨v1, vs2, rfl, i1, hS2⟩ := ck_cons hS1
    obtain ⟨b, rfl, -⟩ := ck_int i2.1 c2
    obtain ⟨a, rfl⟩ := ck_long i1.1 c1
    exact ja_lshl _ hd (Int64.ofInt_toInt _).symm (hf _ _ _ c3 L _ h hL ⟨ck_mkL, hS2⟩ hW)
  · rename_i x S1
    have hl : len = 1 := by simpa [ck_len] using hlen
    subst hl
    simp only [Bool.and_eq_true, Bool.or_eq_true, Bool.not_eq_true', beq_iff_eq, beq_eq_false_iff_ne, decide_eq_true_eq, ne_eq] at hc
    obtain ⟨c1, c3⟩ := hc
    obtain ⟨v1, vs1, rfl, i1, hS1⟩ := ck_cons hS
    obtain ⟨a, rfl, -⟩ := ck_int i1.1 c1
    exact ja_i2l _ hd (Int64.ofInt_toInt _).symm (hf _ _ _ c3 L _ h hL ⟨ck_mkL, hS1⟩ hW)
  · rename_i x S1
    have hl : len = 1 := by simpa [ck_len] using hlen
    subst hl
    simp only [Bool.and_eq_true, Bool.or_eq_true, Bool.not_eq_true', beq_iff_eq, beq_eq_false_iff_ne, decide_eq_true_eq, ne_eq] at hc
    obtain ⟨c1, c3⟩ := hc
    obtain ⟨v1, vs1, rfl, i1, hS1⟩ := ck_cons hS
    obtain ⟨a, rfl⟩ := ck_long i1.1 c1
    exact ja_l2i _ hd (Int32.ofInt_toInt _).symm (hf _ _ _ c3 L _ h hL ⟨ck_mkT (ck_ofr _), hS1⟩ hW)
  · rename_i x S1
    have hl : len = 1 := by simpa [ck_len] using hlen
    subst hl
    simp only [Bool.and_eq_true, Bool.or_eq_true, Bool.not_eq_true', beq_iff_eq, beq_eq_false_iff_ne, decide_eq_true_eq, ne_eq] at hc
    obtain ⟨c1, c3⟩ := hc
    obtain ⟨v1, vs1, rfl, i1, hS1⟩ := ck_cons hS
    obtain ⟨a, rfl, -⟩ := ck_int i1.1 c1
    exact ja_i2b _ hd (Int32.ofInt_toInt _).symm (hf _ _ _ c3 L _ h hL ⟨ck_mkT (ck_ofr _), hS1⟩ hW)
  · rename_i y x S1
    have hl : len = 1 := by simpa [ck_len] using hlen
    subst hl
    simp only [Bool.and_eq_true, Bool.or_eq_true, Bool.not_eq_true', beq_iff_eq, beq_eq_false_iff_ne, decide_eq_true_eq, ne_eq] at hc
    obtain ⟨⟨c1, c2⟩, c3⟩ := hc
    obtain ⟨v2, vs1, rfl, i2, hS1⟩ := ck_cons hS
    obtain ⟨v1, vs2, rfl, i1, hS2⟩ := ck_cons hS1
    obtain ⟨b, rfl⟩ := ck_long i2.1 c2
    obtain ⟨a, rfl⟩ := ck_long i1.1 c1
    have hb := ck_cmpb (Int64.ofInt a) (Int64.ofInt b)
    exact ja_lcmp _ hd (Int32.ofInt_toInt _).symm (hf _ _ _ c3 L _ h hL ⟨ck_mk hb.1 hb.2 (ck_ofr _), hS2⟩ hW)
  · rename_i x S1
    have hl : len = 1 := by simpa [ck_len] using hlen
    subst hl
    simp only [Bool.and_eq_true, Bool.or_eq_true, Bool.not_eq_true', beq_iff_eq, beq_eq_false_iff_ne, decide_eq_true_eq, ne_eq] at hc
    obtain ⟨c1, c3⟩ := hc
    obtain ⟨v1, vs1, rfl, i1, hS1⟩ := ck_cons hS
    have t1 : v1.1 ≠ 1 := fun z => c1 ((ck_tag i1.1).trans z)
    exact ja_pop hd t1 (hf _ _ _ c3 L _ h hL hS1 hW)
  · rename_i x S1
    have hl : len = 1 := by simpa [ck_len] using hlen
    subst hl
    simp only [Bool.and_eq_true, Bool.or_eq_true, Bool.not_eq_true', beq_iff_eq, beq_eq_false_iff_ne, decide_eq_true_eq, ne_eq] at hc
    obtain ⟨c1, c3⟩ := hc
    obtain ⟨v1, vs1, rfl, i1, hS1⟩ := ck_cons hS
    exact ja_pop2 hd ((ck_tag i1.1).symm.trans c1) (hf _ _ _ c3 L _ h hL hS1 hW)
  · rename_i x S1
    have hl : len = 1 := by simpa [ck_len] using hlen
    subst hl
    simp only [Bool.and_eq_true, Bool.or_eq_true, Bool.not_eq_true', beq_iff_eq, beq_eq_false_iff_ne, decide_eq_true_eq, ne_eq] at hc
    obtain ⟨c1, c3⟩ := hc
    obtain ⟨v1, vs1, rfl, i1, hS1⟩ := ck_cons hS
    have t1 : v1.1 ≠ 1 := fun z => c1 ((ck_tag i1.1).trans z)
    exact ja_dup hd t1 (hf _ _ _ c3 L _ h hL ⟨i1, i1, hS1⟩ hW)
  · rename_i x y S1
    have hl : len = 1 := by simpa [ck_len] using hlen
    subst hl
    simp only [Bool.and_eq_true, Bool.or_eq_true, Bool.not_eq_true', beq_iff_eq, beq_eq_false_iff_ne, decide_eq_true_eq, ne_eq] at hc
    obtain ⟨⟨c2, c1⟩, c3⟩ := hc
    obtain ⟨v2, vs1, rfl, i2, hS1⟩ := ck_cons hS
    obtain ⟨v1, vs2, rfl, i1, hS2⟩ := ck_cons hS1
    have t2 : v2.1 ≠ 1 := fun z => c2 ((ck_tag i2.1).trans z)
    have t1 : v1.1 ≠ 1 := fun z => c1 ((ck_tag i1.1).trans z)
    exact ja_dup2 hd t2 t1 (hf _ _ _ c3 L _ h hL ⟨i2, i1, i2, i1, hS2⟩ hW)
  · rename_i x y S1
    have hl : len = 1 := by simpa [ck_len] using hlen
    subst hl
    simp only [Bool.and_eq_true, Bool.or_eq_true, Bool.not_eq_true', beq_iff_eq, beq_eq_false_iff_ne, decide_eq_true_eq, ne_eq] at hc
    obtain ⟨⟨c2, c1⟩, c3⟩ := hc
    obtain ⟨v2, vs1, rfl, i2, hS1⟩ := ck_cons hS
    obtain ⟨v1, vs2, rfl, i1, hS2⟩ := ck_cons hS1
    have t2 : v2.1 ≠ 1 := fun z => c2 ((ck_tag i2.1).trans z)
    have t1 : v1.1 ≠ 1 := fun z => c1 ((ck_tag i1.1).trans z)
    exact ja_dup_x1 hd t2 t1 (hf _ _ _ c3 L _ h hL ⟨i2, i1, i2, hS2⟩ hW)
  · rename_i off
    have hl : len = 3 := by simpa [ck_len] using hlen
    subst hl
    simp only [Bool.and_eq_true, Bool.or_eq_true, Bool.not_eq_true', beq_iff_eq, beq_eq_false_iff_ne, decide_eq_true_eq, ne_eq] at hc
    obtain ⟨c1, c3⟩ := hc
    exact ja_goto _ hd (Int.toNat_of_nonneg c1).symm (hf _ _ _ c3 L _ h hL hS hW)
  · rename_i c off x S1
    have hl : len = 3 := by simpa [ck_len] using hlen
    subst hl
    simp only [ck_two, Bool.and_eq_true, beq_iff_eq, decide_eq_true_eq] at hc
    obtain ⟨c1, ⟨c4, c5⟩, c6⟩ := hc
    obtain ⟨v1, vs1, rfl, i1, hS1⟩ := ck_cons hS
    obtain ⟨a, rfl, a1, a2, a3, -⟩ := ck_int i1.1 c1
    have i2 : ck_in E (ck_at L h) (ck_i 0 0) (0, 0) := ck_mk (Int.le_refl _) (Int.le_refl _) ja_r0
    have b1 : (ck_i 0 0).2.1.1 ≤ 0 := Int.le_refl _
    have b2 : 0 ≤ (ck_i 0 0).2.1.2 := Int.le_refl _
    obtain ⟨y, hy⟩ : ∃ y, y = ck_i 0 0 := ⟨_, rfl⟩
    rw [← hy] at i2 b1 b2 c5 c6
    cases c
    · refine ja_if_eq _ hd c4 a3 (fun q => ?_) (fun q => ?_)
      · have w := ck_eq_ok (x := x) (y := y) q a1 a2 b1 b2
        obtain ⟨A2, hA2, hf2⟩ := ck_two_ok (t := ck_eq x y) hL i1 i2 w.1 w.2.1 w.2.2.1 w.2.2.2.1 w.2.2.2.2 c5
        exact hf _ _ _ hf2 L _ h hA2 hS1 hW
      · have w := ck_ne_ok (x := x) (y := y) q a1 a2 b1 b2
        obtain ⟨A2, hA2, hf2⟩ := ck_two_ok (t := ck_ne x y) hL i1 i2 w.1 w.2.1 w.2.2.1 w.2.2.2.1 w.2.2.2.2 c6
        exact hf _ _ _ hf2 L _ h hA2 hS1 hW
    · refine ja_if_ne _ hd c4 a3 (fun q => ?_) (fun q => ?_)
      · have w := ck_ne_ok (x := x) (y := y) q a1 a2 b1 b2
        obtain ⟨A2, hA2, hf2⟩ := ck_two_ok (t := ck_ne x y) hL i1 i2 w.1 w.2.1 w.2.2.1 w.2.2.2.1 w.2.2.2.2 c5
        exact hf _ _ _ hf2 L _ h hA2 hS1 hW
      · have w := ck_eq_ok (x := x) (y := y) q a1 a2 b1 b2
        obtain ⟨A2, hA2, hf2⟩ := ck_two_ok (t := ck_eq x y) hL i1 i2 w.1 w.2.1 w.2.2.1 w.2.2.2.1 w.2.2.2.2 c6
        exact hf _ _ _ hf2 L _ h hA2 hS1 hW
    · refine ja_if_lt _ hd c4 a3 (fun q => ?_) (fun q => ?_)
      · have w := ck_lt_ok (x := x) (y := y) q a1 a2 b1 b2
        obtain ⟨A2, hA2, hf2⟩ := ck_two_ok (t := ck_lt x y) hL i1 i2 w.1 w.2.1 w.2.2.1 w.2.2.2.1 w.2.2.2.2 c5
        exact hf _ _ _ hf2 L _ h hA2 hS1 hW
      · have z := ck_le_ok (x := y) (y := x) (by omega) b1 b2 a1 a2
        have w := ck_sw_ok (p := ck_le y x) ⟨z.1, z.2.1, z.2.2.1, z.2.2.2.1⟩
        obtain ⟨A2, hA2, hf2⟩ := ck_two_ok (t := ck_sw (ck_le y x)) hL i1 i2 w.1 w.2.1 w.2.2.1 w.2.2.2.1 w.2.2.2.2 c6
        exact hf _ _ _ hf2 L _ h hA2 hS1 hW
    · refine ja_if_ge _ hd c4 a3 (fun q => ?_) (fun q => ?_)
      · have z := ck_le_ok (x := y) (y := x) q b1 b2 a1 a2
        have w := ck_sw_ok (p := ck_le y x) ⟨z.1, z.2.1, z.2.2.1, z.2.2.2.1⟩
        obtain ⟨A2, hA2, hf2⟩ := ck_two_ok (t := ck_sw (ck_le y x)) hL i1 i2 w.1 w.2.1 w.2.2.1 w.2.2.2.1 w.2.2.2.2 c5
        exact hf _ _ _ hf2 L _ h hA2 hS1 hW
      · have w := ck_lt_ok (x := x) (y := y) (by omega) a1 a2 b1 b2
        obtain ⟨A2, hA2, hf2⟩ := ck_two_ok (t := ck_lt x y) hL i1 i2 w.1 w.2.1 w.2.2.1 w.2.2.2.1 w.2.2.2.2 c6
        exact hf _ _ _ hf2 L _ h hA2 hS1 hW
    · refine ja_if_gt _ hd c4 a3 (fun q => ?_) (fun q => ?_)
      · have z := ck_lt_ok (x := y) (y := x) q b1 b2 a1 a2
        have w := ck_sw_ok (p := ck_lt y x) ⟨z.1, z.2.1, z.2.2.1, z.2.2.2.1⟩
        obtain ⟨A2, hA2, hf2⟩ := ck_two_ok (t := ck_sw (ck_lt y x)) hL i1 i2 w.1 w.2.1 w.2.2.1 w.2.2.2.1 w.2.2.2.2 c5
        exact hf _ _ _ hf2 L _ h hA2 hS1 hW
      · have w := ck_le_ok (x := x) (y := y) (by omega) a1 a2 b1 b2
        obtain ⟨A2, hA2, hf2⟩ := ck_two_ok (t := ck_le x y) hL i1 i2 w.1 w.2.1 w.2.2.1 w.2.2.2.1 w.2.2.2.2 c6
        exact hf _ _ _ hf2 L _ h hA2 hS1 hW
    · refine ja_if_le _ hd c4 a3 (fun q => ?_) (fun q => ?_)
      · have w := ck_le_ok (x := x) (y := y) q a1 a2 b1 b2
        obtain ⟨A2, hA2, hf2⟩ := ck_two_ok (t := ck_le x y) hL i1 i2 w.1 w.2.1 w.2.2.1 w.2.2.2.1 w.2.2.2.2 c5
        exact hf _ _ _ hf2 L _ h hA2 hS1 hW
      · have z := ck_lt_ok (x := y) (y := x) (by omega) b1 b2 a1 a2
        have w := ck_sw_ok (p := ck_lt y x) ⟨z.1, z.2.1, z.2.2.1, z.2.2.2.1⟩
        obtain ⟨A2, hA2, hf2⟩ := ck_two_ok (t := ck_sw (ck_lt y x)) hL i1 i2 w.1 w.2.1 w.2.2.1 w.2.2.2.1 w.2.2.2.2 c6
        exact hf _ _ _ hf2 L _ h hA2 hS1 hW
  · rename_i c off y x S1
    have hl : len = 3 := by simpa [ck_len] using hlen
    subst hl
    simp only [ck_two, Bool.and_eq_true, beq_iff_eq, decide_eq_true_eq] at hc
    obtain ⟨⟨c1, c2⟩, ⟨c4, c5⟩, c6⟩ := hc
    obtain ⟨v2, vs1, rfl, i2, hS1⟩ := ck_cons hS
    obtain ⟨v1, vs2, rfl, i1, hS2⟩ := ck_cons hS1
    obtain ⟨b, rfl, b1, b2, b3, -, b5⟩ := ck_int i2.1 c2
    obtain ⟨a, rfl, a1, a2, a3, -⟩ := ck_int i1.1 c1
    cases c
    · refine ja_icmp_eq _ hd c4 a3 b3 (fun q => ?_) (fun q => ?_)
      · have w := ck_eq_ok (x := x) (y := y) q a1 a2 b1 b2
        obtain ⟨A2, hA2, hf2⟩ := ck_two_ok (t := ck_eq x y) hL i1 i2 w.1 w.2.1 w.2.2.1 w.2.2.2.1 w.2.2.2.2 c5
        exact hf _ _ _ hf2 L _ h hA2 hS2 hW
      · have w := ck_ne_ok (x := x) (y := y) q a1 a2 b1 b2
        obtain ⟨A2, hA2, hf2⟩ := ck_two_ok (t := ck_ne x y) hL i1 i2 w.1 w.2.1 w.2.2.1 w.2.2.2.1 w.2.2.2.2 c6
        exact hf _ _ _ hf2 L _ h hA2 hS2 hW
    · refine ja_icmp_ne _ hd c4 a3 b3 (fun q => ?_) (fun q => ?_)
      · have w := ck_ne_ok (x := x) (y := y) q a1 a2 b1 b2
        obtain ⟨A2, hA2, hf2⟩ := ck_two_ok (t := ck_ne x y) hL i1 i2 w.1 w.2.1 w.2.2.1 w.2.2.2.1 w.2.2.2.2 c5
        exact hf _ _ _ hf2 L _ h hA2 hS2 hW
      · have w := ck_eq_ok (x := x) (y := y) q a1 a2 b1 b2
        obtain ⟨A2, hA2, hf2⟩ := ck_two_ok (t := ck_eq x y) hL i1 i2 w.1 w.2.1 w.2.2.1 w.2.2.2.1 w.2.2.2.2 c6
        exact hf _ _ _ hf2 L _ h hA2 hS2 hW
    · refine ja_icmp_lt _ hd c4 a3 b3 (fun q => ?_) (fun q => ?_)
      · have w := ck_lt_ok (x := x) (y := y) q a1 a2 b1 b2
        obtain ⟨A2, hA2, hf2⟩ := ck_two_ok (t := ck_lt x y) hL i1 i2 w.1 w.2.1 w.2.2.1 w.2.2.2.1 w.2.2.2.2 c5
        exact hf _ _ _ hf2 L _ h hA2 hS2 hW
      · have z := ck_le_ok (x := y) (y := x) (by omega) b1 b2 a1 a2
        have w := ck_sw_ok (p := ck_le y x) ⟨z.1, z.2.1, z.2.2.1, z.2.2.2.1⟩
        obtain ⟨A2, hA2, hf2⟩ := ck_two_ok (t := ck_sw (ck_le y x)) hL i1 i2 w.1 w.2.1 w.2.2.1 w.2.2.2.1 w.2.2.2.2 c6
        exact hf _ _ _ hf2 L _ h hA2 hS2 hW
    · refine ja_icmp_ge _ hd c4 a3 b3 (fun q => ?_) (fun q => ?_)
      · have z := ck_le_ok (x := y) (y := x) q b1 b2 a1 a2
        have w := ck_sw_ok (p := ck_le y x) ⟨z.1, z.2.1, z.2.2.1, z.2.2.2.1⟩
        obtain ⟨A2, hA2, hf2⟩ := ck_two_ok (t := ck_sw (ck_le y x)) hL i1 i2 w.1 w.2.1 w.2.2.1 w.2.2.2.1 w.2.2.2.2 c5
        exact hf _ _ _ hf2 L _ h hA2 hS2 hW
      · have w := ck_lt_ok (x := x) (y := y) (by omega) a1 a2 b1 b2
        obtain ⟨A2, hA2, hf2⟩ := ck_two_ok (t := ck_lt x y) hL i1 i2 w.1 w.2.1 w.2.2.1 w.2.2.2.1 w.2.2.2.2 c6
        exact hf _ _ _ hf2 L _ h hA2 hS2 hW
    · refine ja_icmp_gt _ hd c4 a3 b3 (fun q => ?_) (fun q => ?_)
      · have z := ck_lt_ok (x := y) (y := x) q b1 b2 a1 a2
        have w := ck_sw_ok (p := ck_lt y x) ⟨z.1, z.2.1, z.2.2.1, z.2.2.2.1⟩
        obtain ⟨A2, hA2, hf2⟩ := ck_two_ok (t := ck_sw (ck_lt y x)) hL i1 i2 w.1 w.2.1 w.2.2.1 w.2.2.2.1 w.2.2.2.2 c5
        exact hf _ _ _ hf2 L _ h hA2 hS2 hW
      · have w := ck_le_ok (x := x) (y := y) (by omega) a1 a2 b1 b2
        obtain ⟨A2, hA2, hf2⟩ := ck_two_ok (t := ck_le x y) hL i1 i2 w.1 w.2.1 w.2.2.1 w.2.2.2.1 w.2.2.2.2 c6
        exact hf _ _ _ hf2 L _ h hA2 hS2 hW
    · refine ja_icmp_le _ hd c4 a3 b3 (fun q => ?_) (fun q => ?_)
      · have w := ck_le_ok (x := x) (y := y) q a1 a2 b1 b2
        obtain ⟨A2, hA2, hf2⟩ := ck_two_ok (t := ck_le x y) hL i1 i2 w.1 w.2.1 w.2.2.1 w.2.2.2.1 w.2.2.2.2 c5
        exact hf _ _ _ hf2 L _ h hA2 hS2 hW
      · have z := ck_lt_ok (x := y) (y := x) (by omega) b1 b2 a1 a2
        have w := ck_sw_ok (p := ck_lt y x) ⟨z.1, z.2.1, z.2.2.1, z.2.2.2.1⟩
        obtain ⟨A2, hA2, hf2⟩ := ck_two_ok (t := ck_sw (ck_lt y x)) hL i1 i2 w.1 w.2.1 w.2.2.1 w.2.2.2.1 w.2.2.2.2 c6
        exact hf _ _ _ hf2 L _ h hA2 hS2 hW
  · rename_i dflt lo hi offs x S1
    simp only [Bool.and_eq_true, beq_iff_eq, decide_eq_true_eq] at hc
    obtain ⟨⟨⟨⟨c1, c2⟩, c3⟩, c4⟩, c5⟩ := hc
    obtain ⟨v1, vs1, rfl, i1, hS1⟩ := ck_cons hS
    obtain ⟨a, rfl, a1, a2, a3, -⟩ := ck_int i1.1 c1
    by_cases ho : a < lo ∨ hi < a
    · exact ja_tableOut _ hd a3 ho (Int.toNat_of_nonneg c2).symm (hf _ _ _ c3 L _ h hL hS1 hW)
    · have hlt : (a - lo).toNat < offs.size := by omega
      have e1 : offs[(a - lo).toNat]? = some offs[(a - lo).toNat] := Array.getElem?_eq_getElem hlt
      have e2 := List.all_eq_true.mp c5 offs[(a - lo).toNat] (Array.getElem_mem_toList hlt)
      simp only [Bool.and_eq_true, decide_eq_true_eq] at e2
      exact ja_tableIn _ hd a3 (by omega) (by omega) e1 (Int.toNat_of_nonneg e2.1).symm (hf _ _ _ e2.2 L _ h hL hS1 hW)
  · rename_i dflt ps x S1
    simp only [Bool.and_eq_true, beq_iff_eq] at hc
    obtain ⟨⟨⟨⟨c1, c2⟩, c3⟩, c4⟩, c5⟩ := hc
    simp only [decide_eq_true_eq] at c3
    obtain ⟨v1, vs1, rfl, i1, hS1⟩ := ck_cons hS
    obtain ⟨a, rfl, a1, a2, a3, -⟩ := ck_int i1.1 c1
    rcases ck_look ps.toList dflt a with e | ⟨q, hq, e⟩
    · exact ja_lookup _ _ hd c2 a3 e (Int.toNat_of_nonneg c3).symm (hf _ _ _ c4 L _ h hL hS1 hW)
    · have e2 := List.all_eq_true.mp c5 q hq
      simp only [Bool.and_eq_true, decide_eq_true_eq] at e2
      exact ja_lookup _ _ hd c2 a3 e (Int.toNat_of_nonneg e2.1).symm (hf _ _ _ e2.2 L _ h hL hS1 hW)
  · rename_i idx q S1
    have hl : len = 3 := by simpa [ck_len] using hlen
    subst hl
    split at hc
    · next p hp =>
      simp only [Bool.and_eq_true, beq_iff_eq, decide_eq_true_eq] at hc
      obtain ⟨⟨⟨⟨⟨⟨⟨⟨c1, c2⟩, c3⟩, c4⟩, c5⟩, c6⟩, c7⟩, c9⟩, c8⟩ := hc
      obtain ⟨hp2, hp1⟩ := hpl idx p hp
      obtain ⟨v1, vs1, rfl, i1, hS1⟩ := ck_cons hS
      obtain ⟨r2, hr2, hN⟩ := G.2 _ c3 (by rw [c5]; exact c6)
      rw [c5] at hr2
      have hsp : (sp q.2.1.1.toNat).1 = (p.2.2.1, r2.2.2) := by rw [hN, ← c5]
      have hjj : p.2.2.2.1 < r2.2.2 := by rw [hN]; exact c7
      have hv : v1 = (2, (q.2.1.1.toNat : Int)) := by rw [ck_ref2 i1.1 c1, Int.toNat_of_nonneg c2]
      subst hv
      have hin := ck_fv_ok (E := E) (L := ck_at L h) G hW c3 (by rw [c5]; exact c6) c7
      have kk : ja_J l D cA ad sp K d own cc nL rt (pc + 3) L (ja_fx sp h q.2.1.1.toNat p.2.2.2.1 :: vs1) h Q := by
        split at c8
        · next hz =>
          have hfx : ja_fx sp h q.2.1.1.toNat p.2.2.2.1 = (0, h q.2.1.1.toNat p.2.2.2.1) := by unfold ja_fx; rw [hz]
          rw [hfx] at hin ⊢
          have hat := ck_at_key (L := L) (h := h) (k := q.2.1.1.toNat) c9
          split at c8
          · next a ha =>
            simp only [Bool.and_eq_true, beq_iff_eq] at c8
            obtain ⟨v, g1, g2⟩ := hL _ a ha
            rw [hat] at g1
            cases g1
            have hin2 : ck_in E (ck_at L h) (ck_o a (ck_key q.2.1.1.toNat p.2.2.2.1 + 1)) (0, h q.2.1.1.toNat p.2.2.2.1) := ⟨g2, fun j z => ⟨by rw [← Nat.succ.inj (show ck_key q.2.1.1.toNat p.2.2.2.1 + 1 = j + 1 from z)]; exact hat, rfl⟩⟩
            exact hf _ _ _ c8.2 L _ h hL ⟨hin2, hS1⟩ hW
          · have hin2 : ck_in E (ck_at L h) (ck_o (ck_fv sp fi q.2.1.1.toNat p.2.2.2.1) (ck_key q.2.1.1.toNat p.2.2.2.1 + 1)) (0, h q.2.1.1.toNat p.2.2.2.1) := ⟨hin.1, fun j z => ⟨by rw [← Nat.succ.inj (show ck_key q.2.1.1.toNat p.2.2.2.1 + 1 = j + 1 from z)]; exact hat, rfl⟩⟩
            exact hf _ _ _ c8 L _ h (ck_insL hL hat hin.1) ⟨hin2, hS1⟩ hW
        · exact hf _ _ _ c8 L _ h hL ⟨hin, hS1⟩ hW
      rcases (show p.2.1 = 0 ∨ p.2.1 = 1 by omega) with e | e
      · obtain ⟨r, hr, hw⟩ := hp1.1 e
        rw [hr2] at hr; cases hr
        rw [hp2] at hw
        exact ja_get (C := r2.1) (T := r2.2.1) c3 hsp (by omega) hr2 hjj (cl_in hr2) hw hd kk
      · obtain ⟨r, hr, hw⟩ := hp1.2.1 e
        rw [hr2] at hr; cases hr
        rw [hp2] at hw
        exact ja_getN (C := r2.1) (T := r2.2.1) c3 hsp (by omega) hr2 hjj (cl_in hr2) hw hd kk
    · cases hc
  · rename_i idx x q S1
    have hl : len = 3 := by simpa [ck_len] using hlen
    subst hl
    split at hc
    · next p hp =>
      simp only [Bool.and_eq_true, Bool.not_eq_true', beq_iff_eq, decide_eq_true_eq] at hc
      obtain ⟨⟨⟨⟨⟨⟨⟨⟨⟨⟨⟨c1, c2⟩, c3⟩, c4⟩, c5⟩, c6⟩, c7⟩, c9⟩, c10⟩, c11⟩, c12⟩, c8⟩ := hc
      obtain ⟨hp2, hp1⟩ := hpl idx p hp
      obtain ⟨v2, vs1, rfl, i2, hS1⟩ := ck_cons hS
      obtain ⟨v1, vs2, rfl, i1, hS2⟩ := ck_cons hS1
      obtain ⟨r2, hr2, hN⟩ := G.2 _ c3 (by rw [c5]; exact c6)
      rw [c5] at hr2
      have hsp : (sp q.2.1.1.toNat).1 = (p.2.2.1, r2.2.2) := by rw [hN, ← c5]
      have hjj : p.2.2.2.1 < r2.2.2 := by rw [hN]; exact c7
      have hv : v1 = (2, (q.2.1.1.toNat : Int)) := by rw [ck_ref2 i1.1 c1, Int.toNat_of_nonneg c2]
      subst hv
      obtain ⟨ty, ht1, ht2, ht3⟩ := cl_ty hr2
      have hfin : (r2.2.1 p.2.2.2.1).2.2.2 = false := by
        unfold ck_fin at c10
        rw [hr2] at c10
        exact c10
      have hty : ck_ty p.2.2.1 p.2.2.2.1 = some (ty p.2.2.2.1) := by unfold ck_ty; rw [ht1]; rfl
      have hpr : ¬ (q.2.1.1.toNat = pr.1 ∧ p.2.2.2.1 = pr.2) := by
        intro z
        rw [Bool.and_eq_false_iff] at c11
        simp only [beq_eq_false_iff_ne, ne_eq] at c11
        rcases c11 with u | u
        · exact u z.1
        · exact u z.2
      split at c9
      · next hz =>
        simp only [Bool.and_eq_true, Bool.or_eq_true, beq_iff_eq, decide_eq_true_eq] at c9
        obtain ⟨⟨⟨d1, d2⟩, d3⟩, d4⟩ := c9
        obtain ⟨a, rfl, a1, a2, a3, -⟩ := ck_int i2.1 d1
        have hW2 : ck_W sp fi K pr v0 (ja_up h q.2.1.1.toNat p.2.2.2.1 a) := ck_W_up hW (fun _ => by unfold ck_fi; rw [if_pos (by rw [c5]; exact c6)]; exact ⟨by omega, by omega⟩) hpr
        rw [if_pos (by rw [hz])] at c8
        have hat : ck_at L (ja_up h q.2.1.1.toNat p.2.2.2.1 a) (ck_key q.2.1.1.toNat p.2.2.2.1) = some (0, a) := by
          rw [ck_at_key c12]
          unfold ja_up
          rw [if_pos ⟨rfl, rfl⟩]
        have kk := hf _ _ _ c8 L _ _ (ck_insL (ck_keepL_ok hL (ck_kK c12)) hat (ck_in0_o i2.1)) (ck_keepS_ok (ck_kK c12) hS2) hW2
        rcases d4 with d4 | d4
        · have hti : ty p.2.2.2.1 = .int := Option.some.inj (hty.symm.trans d4)
          rcases (show p.2.1 = 0 ∨ p.2.1 = 1 by omega) with e | e
          · obtain ⟨r, hr, hw⟩ := hp1.1 e
            rw [hr2] at hr; cases hr
            rw [hp2] at hw
            exact ja_putI (C := r2.1) (T := r2.2.1) c3 hsp (by omega) hr2 hjj (cl_in hr2) ty ht2 ht3 hfin hz hti hw hd kk
          · obtain ⟨r, hr, hw⟩ := hp1.2.1 e
            rw [hr2] at hr; cases hr
            rw [hp2] at hw
            exact ja_putNI (C := r2.1) (T := r2.2.1) c3 hsp (by omega) hr2 hjj (cl_in hr2) ty ht2 ht3 hfin hz hti hw hd kk
        · obtain ⟨⟨d5, d6⟩, d7⟩ := d4
          have hti : ty p.2.2.2.1 = .boolean := Option.some.inj (hty.symm.trans d5)
          have h01 : a = 0 ∨ a = 1 := by omega
          rcases (show p.2.1 = 0 ∨ p.2.1 = 1 by omega) with e | e
          · obtain ⟨r, hr, hw⟩ := hp1.1 e
            rw [hr2] at hr; cases hr
            rw [hp2] at hw
            exact ja_putZ (C := r2.1) (T := r2.2.1) c3 hsp (by omega) hr2 hjj (cl_in hr2) ty ht2 ht3 hfin hz hti h01 hw hd kk
          · obtain ⟨r, hr, hw⟩ := hp1.2.1 e
            rw [hr2] at hr; cases hr
            rw [hp2] at hw
            exact ja_putNZ (C := r2.1) (T := r2.2.1) c3 hsp (by omega) hr2 hjj (cl_in hr2) ty ht2 ht3 hfin hz hti h01 hw hd kk
      · next hz =>
        simp only [Bool.and_eq_true, beq_iff_eq, decide_eq_true_eq] at c9
        obtain ⟨a, rfl⟩ := ck_long i2.1 c9.1
        have hti : ty p.2.2.2.1 = .long := Option.some.inj (hty.symm.trans c9.2)
        have hW2 : ck_W sp fi K pr v0 (ja_up h q.2.1.1.toNat p.2.2.2.1 a) := ck_W_up hW (fun z => by unfold ck_il at z; rw [if_pos (by rw [c5]; exact c6), hz] at z; cases z) hpr
        rw [if_neg (by rw [hz]; decide)] at c8
        have kk := hf _ _ _ c8 L _ _ (ck_keepL_ok hL (ck_kK c12)) (ck_keepS_ok (ck_kK c12) hS2) hW2
        rcases (show p.2.1 = 0 ∨ p.2.1 = 1 by omega) with e | e
        · obtain ⟨r, hr, hw⟩ := hp1.1 e
          rw [hr2] at hr; cases hr
          rw [hp2] at hw
          exact ja_putJ (C := r2.1) (T := r2.2.1) c3 hsp (by omega) hr2 hjj (cl_in hr2) ty ht2 ht3 hfin hz hti hw hd kk
        · obtain ⟨r, hr, hw⟩ := hp1.2.1 e
          rw [hr2] at hr; cases hr
          rw [hp2] at hw
          exact ja_putNJ (C := r2.1) (T := r2.2.1) c3 hsp (by omega) hr2 hjj (cl_in hr2) ty ht2 ht3 hfin hz hti hw hd kk
      · cases c9
    · cases hc
  · rename_i i q S1
    have hl : len = 1 := by simpa [ck_len] using hlen
    subst hl
    simp only [Bool.and_eq_true] at hc
    obtain ⟨c1, c2⟩ := hc
    obtain ⟨vi, vs1, rfl, i2, hS1⟩ := ck_cons hS
    obtain ⟨vq, vs2, rfl, i1, hS2⟩ := ck_cons hS1
    obtain ⟨b, rfl, e1, e2, e3, e4, e5⟩ := ck_arr_ok c1 i1 i2
    subst e1
    have hb := ck_rd G hW e2 e5 e3 e4.1 (by omega) (by omega)
    exact ja_iald e2 (Prod.ext e5 rfl) e4.2 e3 e4.1 hd (hf _ _ _ c2 L _ h hL ⟨ck_mk hb.1 hb.2.1 hb.2.2, hS2⟩ hW)
  · rename_i i q S1
    have hl : len = 1 := by simpa [ck_len] using hlen
    subst hl
    simp only [Bool.and_eq_true, Bool.or_eq_true] at hc
    obtain ⟨c0, c2⟩ := hc
    obtain ⟨vi, vs1, rfl, i2, hS1⟩ := ck_cons hS
    obtain ⟨vq, vs2, rfl, i1, hS2⟩ := ck_cons hS1
    rcases c0 with c1 | c1
    · obtain ⟨b, rfl, e1, e2, e3, e4, e5⟩ := ck_arr_ok c1 i1 i2
      subst e1
      have hb := ck_rd G hW e2 e5 e3 e4.1 (by omega) (by omega)
      exact ja_bald e2 (Prod.ext e5 rfl) e4.2 e3 e4.1 hd (hf _ _ _ c2 L _ h hL ⟨ck_mk hb.1 hb.2.1 hb.2.2, hS2⟩ hW)
    · obtain ⟨b, rfl, e1, e2, e3, e4, e5⟩ := ck_arr_ok c1 i1 i2
      subst e1
      have hb := ck_rd G hW e2 e5 e3 e4.1 (by omega) (by omega)
      exact ja_zald e2 (Prod.ext e5 rfl) e4.2 e3 e4.1 hd (hf _ _ _ c2 L _ h hL ⟨ck_mk hb.1 hb.2.1 hb.2.2, hS2⟩ hW)
  · rename_i i q S1
    have hl : len = 1 := by simpa [ck_len] using hlen
    subst hl
    simp only [Bool.and_eq_true] at hc
    obtain ⟨c1, c2⟩ := hc
    obtain ⟨vi, vs1, rfl, i2, hS1⟩ := ck_cons hS
    obtain ⟨vq, vs2, rfl, i1, hS2⟩ := ck_cons hS1
    obtain ⟨b, rfl, e1, e2, e3, e4, e5⟩ := ck_arr_ok c1 i1 i2
    subst e1
    exact ja_lald e2 (Prod.ext e5 rfl) e4.2 e3 e4.1 hd (hf _ _ _ c2 L _ h hL ⟨ck_mkL, hS2⟩ hW)
  · rename_i x i q S1
    have hl : len = 1 := by simpa [ck_len] using hlen
    subst hl
    simp only [Bool.and_eq_true, beq_iff_eq, decide_eq_true_eq] at hc
    obtain ⟨⟨⟨⟨c0, c1⟩, c3⟩, c4⟩, c2⟩ := hc
    obtain ⟨vx, vs1, rfl, i3, hS1⟩ := ck_cons hS
    obtain ⟨vi, vs2, rfl, i2, hS2⟩ := ck_cons hS1
    obtain ⟨vq, vs3, rfl, i1, hS3⟩ := ck_cons hS2
    obtain ⟨b, rfl, e1, e2, e3, e4, e5⟩ := ck_arr_ok c1 i1 i2
    subst e1
    obtain ⟨a, rfl, a1, a2, a3, -⟩ := ck_int i3.1 c0
    have hW2 := ck_W_up (q := q.2.1.1.toNat) (j := b.toNat) (x := a) hW (fun _ => by unfold ck_fi; rw [if_neg (by omega)]; exact ⟨by omega, by omega⟩) (ck_prA hpA e5 (by omega))
    exact ja_iast e2 (Prod.ext e5 rfl) e4.2 e3 e4.1 hd (hf _ _ _ c2 L _ _ (ck_keepL_ok hL ck_kC) (ck_keepS_ok ck_kC hS3) hW2)
  · rename_i x i q S1
    have hl : len = 1 := by simpa [ck_len] using hlen
    subst hl
    simp only [Bool.and_eq_true, beq_iff_eq, decide_eq_true_eq] at hc
    obtain ⟨⟨c0, c1⟩, c2⟩ := hc
    obtain ⟨vx, vs1, rfl, i3, hS1⟩ := ck_cons hS
    obtain ⟨vi, vs2, rfl, i2, hS2⟩ := ck_cons hS1
    obtain ⟨vq, vs3, rfl, i1, hS3⟩ := ck_cons hS2
    obtain ⟨b, rfl, e1, e2, e3, e4, e5⟩ := ck_arr_ok c1 i1 i2
    subst e1
    obtain ⟨a, rfl⟩ := ck_long i3.1 c0
    have hW2 := ck_W_up (q := q.2.1.1.toNat) (j := b.toNat) (x := a) hW (fun z => by unfold ck_il at z; rw [if_neg (by omega)] at z; simp only [decide_eq_true_eq] at z; omega) (ck_prA hpA e5 (by omega))
    exact ja_last e2 (Prod.ext e5 rfl) e4.2 e3 e4.1 hd (hf _ _ _ c2 L _ _ (ck_keepL_ok hL ck_kC) (ck_keepS_ok ck_kC hS3) hW2)
  · rename_i q S1
    have hl : len = 1 := by simpa [ck_len] using hlen
    subst hl
    simp only [Bool.and_eq_true, beq_iff_eq, decide_eq_true_eq] at hc
    obtain ⟨⟨⟨⟨⟨⟨c1, c2⟩, c3⟩, c4⟩, c5⟩, c6⟩, c7⟩ := hc
    obtain ⟨v1, vs1, rfl, i1, hS1⟩ := ck_cons hS
    have hv : v1 = (2, (q.2.1.1.toNat : Int)) := by rw [ck_ref2 i1.1 c1, Int.toNat_of_nonneg c2]
    subst hv
    exact ja_alen (kd := (sp q.2.1.1.toNat).1.1) (n := (sp q.2.1.1.toNat).1.2) c3 rfl (by omega) hd (hf _ _ _ c7 L _ h hL ⟨ck_mk (Int.le_refl _) (Int.le_refl _) ⟨by omega, by omega⟩, hS1⟩ hW)
  · rename_i x
    have hl : len = 1 := by simpa [ck_len] using hlen
    subst hl
    simp only [Bool.and_eq_true, beq_iff_eq] at hc
    obtain ⟨c1, c2⟩ := hc
    obtain ⟨v1, vs1, rfl, i1, hS1⟩ := ck_cons hS
    have hz := ck_nil hS1
    subst hz
    obtain ⟨a, rfl, a1, a2, a3, -⟩ := ck_int i1.1 c1
    split at c2
    · next r =>
      simp only [Bool.and_eq_true, Bool.or_eq_true, decide_eq_true_eq] at c2
      have hq := hQ (some (0, a)) h (ck_sub1_ok c2.1 i1.1) hW
      rcases c2.2 with e | e
      · exact ja_ireturn hd e hq
      · exact ja_zreturn hd e.1.1 (by omega) hq
    · cases c2
  · rename_i x
    have hl : len = 1 := by simpa [ck_len] using hlen
    subst hl
    simp only [Bool.and_eq_true, beq_iff_eq] at hc
    obtain ⟨c1, c2⟩ := hc
    obtain ⟨v1, vs1, rfl, i1, hS1⟩ := ck_cons hS
    have hz := ck_nil hS1
    subst hz
    obtain ⟨a, rfl⟩ := ck_long i1.1 c1
    split at c2
    · next r =>
      simp only [Bool.and_eq_true, decide_eq_true_eq] at c2
      exact ja_lreturn hd c2.2 (hQ (some (1, a)) h (ck_sub1_ok c2.1 i1.1) hW)
    · cases c2
  · have hl : len = 1 := by simpa [ck_len] using hlen
    subst hl
    simp only [Bool.and_eq_true, decide_eq_true_eq] at hc
    have hz := ck_nil hS
    subst hz
    have hn : ret = none := by simpa using hc.1
    exact ja_return hd hc.2 (hQ none h (by rw [hn]; trivial) hW)
  · rename_i idx
    have hl : len = 3 := by simpa [ck_len] using hlen
    subst hl
    split at hc
    · next p hp =>
      simp only [Bool.and_eq_true, decide_eq_true_eq] at hc
      obtain ⟨hp2, hp1⟩ := hpl idx p hp
      have hm := hp1.2.2.1 hc.1
      rw [hp2] at hm
      exact ck_call_v G hss hf hm hd hc.2 hL hS hW
    · cases hc
  · rename_i idx
    have hl : len = 3 := by simpa [ck_len] using hlen
    subst hl
    split at hc
    · next p hp =>
      simp only [Bool.and_eq_true, Bool.or_eq_true, decide_eq_true_eq] at hc
      obtain ⟨hp2, hp1⟩ := hpl idx p hp
      rcases hc with hc | hc
      · have hm := hp1.2.2.1 hc.1
        rw [hp2] at hm
        exact ck_call_s hss hf hm hd hc.2 hL hS hW
      · obtain ⟨⟨c0, c1⟩, c2⟩ := hc
        have hm := hp1.2.2.2 c0
        rw [hp2] at hm
        split at c2
        · next y x S2 =>
          simp only [Bool.and_eq_true, beq_iff_eq, decide_eq_true_eq] at c2
          obtain ⟨⟨⟨d1, d2⟩, d3⟩, d4⟩ := c2
          obtain ⟨v2, vs1, rfl, i2, hS1⟩ := ck_cons hS
          obtain ⟨v1, vs2, rfl, i1, hS2⟩ := ck_cons hS1
          obtain ⟨b, rfl, -⟩ := ck_int i2.1 d2
          obtain ⟨a, rfl, -⟩ := ck_int i1.1 d1
          exact ja_mmax _ hm cl_mm.1 cl_mm.2.1 cl_mm.2.2 c1 (by rw [ck_wd_eq hS2]; exact d3) hd (Int32.ofInt_toInt _).symm (hf _ _ _ d4 L _ h hL ⟨ck_mkT (ck_ofr _), hS2⟩ hW)
        · cases c2
    · cases hc
  · cases hc
