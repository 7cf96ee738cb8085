/-! the checker for methods that may throw: its step (part 09 turned), its run -/
section CX
variable {l : Launch} {D : va_G} {cA : Nat → ClassId} {ad : Nat → Nat} {sp : ja_S} {fi : Nat → Nat → Int × Int} {K : Nat} {mt : Nat → ck_M} {ss : Nat → List ck_S} {hn : Nat → Nat × Int} {pr : Nat × Nat} {own : String} {cc : ByteArray} {nL : Nat} {rt : Option FieldType} {d : Nat} {v0 : Int} {Q : Option ja_V → ja_H → Prop} {E : Nat → Int}
theorem cx_call_v (G : ck_G sp fi K) (hss : ∀ mid s, s ∈ ss mid → s.1 < d → ck_H l D cA ad sp fi K pr v0 (mt mid) s)
    {f : Nat → ck_L → List ck_v → Bool} (hf : ∀ pc A AS, f pc A AS = true → ∀ L S h, ck_gL E A (ck_at L h) → ck_gS E (ck_at L h) AS S → ck_W sp fi K pr v0 h → jx_J l D cA ad sp K d own cc nL rt pc L S h Q)
    {p : ck_P} {idx pc : Nat} (hm : Cond.methodLink own idx (mt p.2.2.1).1 ∈ ja_B ∧ ck_mok (mt p.2.2.1)) {A : ck_L} {AS : List ck_v} (hd : decode cc pc = .ok (.invokevirtual idx, 3)) (hc : ck_call sp K mt ss hn d f pc A AS p false = true)
    {L : List (Nat × ja_V)} {S : List ja_V} {h : ja_H} (hL : ck_gL E A (ck_at L h)) (hS : ck_gS E (ck_at L h) AS S) (hW : ck_W sp fi K pr v0 h) : jx_J l D cA ad sp K d own cc nL rt pc L S h Q := by
  unfold ck_call at hc
  simp only [Bool.and_eq_true, beq_iff_eq, decide_eq_true_eq, Bool.false_eq_true, if_false] at hc
  obtain ⟨⟨⟨c1, c2⟩, c3⟩, c4⟩ := hc
  rw [← List.take_append_drop (mt p.2.2.1).2.2.2.1.2.1 AS] at hS
  obtain ⟨v1, v2, rfl, g1, g2⟩ := ck_app hS
  generalize hS1 : AS.drop (mt p.2.2.1).2.2.2.1.2.1 = S1 at c4 g2
  cases S1 with
  | nil => cases c4
  | cons q S2 =>
    obtain ⟨vq, rest, rfl, iq, g3⟩ := ck_cons g2
    simp only [Bool.and_eq_true, beq_iff_eq, decide_eq_true_eq] at c4
    obtain ⟨⟨⟨⟨⟨⟨⟨d1, d2⟩, d3⟩, d4⟩, d5⟩, d6⟩, d7⟩, d8⟩ := c4
    have hv : vq = (2, (q.2.1.1.toNat : Int)) := by rw [ck_ref2 iq.1 d1, Int.toNat_of_nonneg d2]
    subst hv
    have gv := ck_rev g1
    split at d8
    · next s hs =>
      simp only [Bool.and_eq_true] at d8
      obtain ⟨s1, s2⟩ := ck_sel_ok hs
      have hM := hss p.2.2.1 s s1 s2.1 ((2, (q.2.1.1.toNat : Int)) :: v1.reverse) h (ck_subS_ok s2.2 (E := E) (L := ck_at L h) ⟨iq, gv⟩) hW
      obtain ⟨m1, m2, m3, m4⟩ := hm.2
      rw [c2] at m4
      simp only [Bool.false_eq_true, if_false] at m4
      obtain ⟨m4, m5, T, N, m6⟩ := m4
      obtain ⟨r2, hr2, hN⟩ := G.2 _ d3 (by rw [d4]; exact d5)
      rw [d4, m6] at hr2
      cases hr2
      have hsp : (sp q.2.1.1.toNat).1 = ((mt p.2.2.1).2.2.2.1.1, N) := Prod.ext d4 hN.symm
      have hw1 := ck_wd_eq gv
      have hw2 := ck_wd_eq g3
      have hl1 := ck_len_eq gv
      have kk := jx_callV (S := rest) (Q := Q) (own := own) (L := L) (vals := v1.reverse) (n := (mt p.2.2.1).2.2.2.1.2.1) hm.1 m2 m1 ⟨m3.1, m3.2.1, m3.2.2.1, m3.2.2.2⟩ (by rw [hl1, c1]) s2.1 c3 m4 m5 d3 hsp (by omega) m6 (by rw [hw1]; exact d6) (by rw [hw2]; exact d7) hd
        (ja_mono (fun r h' hr => hf _ _ _ d8.2 L _ h' (ck_keepL_ok hL ck_kF) (ck_ret_in d8.1 hr.1 (ck_keepS_ok ck_kF g3)) hr.2) hM)
      rw [List.reverse_reverse] at kk
      exact kk
    · cases d8
theorem cx_call_s (hss : ∀ mid s, s ∈ ss mid → s.1 < d → ck_H l D cA ad sp fi K pr v0 (mt mid) s)
    {f : Nat → ck_L → List ck_v → Bool} (hf : ∀ pc A AS, f pc A AS = true → ∀ L S h, ck_gL E A (ck_at L h) → ck_gS E (ck_at L h) AS S → ck_W sp fi K pr v0 h → jx_J l D cA ad sp K d own cc nL rt pc L S h Q)
    {p : ck_P} {idx pc : Nat} (hm : Cond.methodLink own idx (mt p.2.2.1).1 ∈ ja_B ∧ ck_mok (mt p.2.2.1)) {A : ck_L} {AS : List ck_v} (hd : decode cc pc = .ok (.invokestatic idx, 3)) (hc : ck_call sp K mt ss hn d f pc A AS p true = true)
    {L : List (Nat × ja_V)} {S : List ja_V} {h : ja_H} (hL : ck_gL E A (ck_at L h)) (hS : ck_gS E (ck_at L h) AS S) (hW : ck_W sp fi K pr v0 h) : jx_J l D cA ad sp K d own cc nL rt pc L S h Q := by
  unfold ck_call at hc
  simp only [Bool.and_eq_true, beq_iff_eq, decide_eq_true_eq, if_true] at hc
  obtain ⟨⟨⟨c1, c2⟩, c3⟩, ⟨d6, d7⟩, d8⟩ := hc
  rw [← List.take_append_drop (mt p.2.2.1).2.2.2.1.2.1 AS] at hS
  obtain ⟨v1, v2, rfl, g1, g3⟩ := ck_app hS
  have gv := ck_rev g1
  split at d8
  · next s hs =>
    simp only [Bool.and_eq_true] at d8
    obtain ⟨s1, s2⟩ := ck_sel_ok hs
    have hM := hss p.2.2.1 s s1 s2.1 v1.reverse h (ck_subS_ok s2.2 (E := E) (L := ck_at L h) gv) hW
    obtain ⟨m1, m2, m3, m4⟩ := hm.2
    rw [c2] at m4
    simp only [if_true] at m4
    have hw1 := ck_wd_eq gv
    have hw2 := ck_wd_eq g3
    have hl1 := ck_len_eq gv
    have kk := jx_callS (S := v2) (Q := Q) (own := own) (L := L) (vals := v1.reverse) (n := (mt p.2.2.1).2.2.2.1.2.1) hm.1 m2 m1 ⟨m3.1, m3.2.1, m3.2.2.1, m3.2.2.2⟩ (by rw [hl1, c1]) s2.1 c3 m4 (by rw [hw1]; exact d6) (by rw [hw2]; exact d7) hd
      (ja_mono (fun r h' hr => hf _ _ _ d8.2 L _ h' (ck_keepL_ok hL ck_kF) (ck_ret_in d8.1 hr.1 (ck_keepS_ok ck_kF g3)) hr.2) hM)
    rw [List.reverse_reverse] at kk
    exact kk
  · cases d8
end CX
theorem cx_one_ok {l : Launch} {D : va_G} {cA : Nat → ClassId} {ad : Nat → Nat} {sp : ja_S} {fi : Nat → Nat → Int × Int} {K : Nat} {mt : Nat → ck_M} {pf : Nat → Nat → Option ck_P} {kl : Nat → List ck_K} {ss : Nat → List ck_S} {hn : Nat → Nat × Int} {pr : Nat × Nat} {ci : Nat} {own : String} {cc : ByteArray} {nL : Nat} {rt : Option FieldType} {d : Nat} {ret : Option ck_v} {v0 : Int} {Q : Option ja_V → ja_H → Prop} {E : Nat → Int}
    (G : ck_G sp fi K) (hpA : (sp pr.1).1.1 < 13) (hpl : ∀ idx p, pf ci idx = some p → p.1 = idx ∧ ck_pok mt own p) (hkl : ∀ p ∈ kl ci, ck_kok own p) (hss : ∀ mid s, s ∈ ss mid → s.1 < d → ck_H l D cA ad sp fi K pr v0 (mt mid) s)
    {f : Nat → ck_L → List ck_v → Bool} (hf : ∀ pc A AS, f pc A AS = true → ∀ L S h, ck_gL E A (ck_at L h) → ck_gS E (ck_at L h) AS S → ck_W sp fi K pr v0 h → jx_J l D cA ad sp K d own cc nL rt pc L S h Q)
    (hQ : ∀ r h, ck_rok ret r → ck_W sp fi K pr v0 h → Q r h)
    {i : Instr} {len pc : Nat} {A : ck_L} {AS : List ck_v} (hd : decode cc pc = .ok (i, len)) (hlen : (ck_len i == 0 || len == ck_len i) = true) (hc : ck_one sp fi K mt pf kl ss hn pr ci nL rt d ret f pc A AS i = true)
    {L : List (Nat × ja_V)} {S : List ja_V} {h : ja_H} (hL : ck_gL E A (ck_at L h)) (hS : ck_gS E (ck_at L h) AS S) (hW : ck_W sp fi K pr v0 h) : jx_J l D cA ad sp K d own cc nL rt pc L S h Q := by
  unfold ck_one at hc
  split at hc

  · rename_i v
    have hl : len = 1 := by simpa [ck_len] using hlen
    subst hl
    simp only [Bool.and_eq_true, Bool.or_eq_true, Bool.not_eq_true', beq_iff_eq, beq_eq_false_iff_ne, decide_eq_true_eq, ne_eq] at hc
    obtain ⟨⟨c1, c2⟩, c3⟩ := hc
    exact jx_iconst hd (hf _ _ _ c3 L _ h hL ⟨ck_mk (Int.le_refl _) (Int.le_refl _) ⟨by omega, by omega⟩, hS⟩ hW)
  · rename_i v
    have hl : len = 2 := by simpa [ck_len] using hlen
    subst hl
    simp only [Bool.and_eq_true, Bool.or_eq_true, Bool.not_eq_true', beq_iff_eq, beq_eq_false_iff_ne, decide_eq_true_eq, ne_eq] at hc
    obtain ⟨⟨⟨c1, c2⟩, c3⟩, c4⟩ := hc
    exact jx_bipush v hd c3 (hf _ _ _ c4 L _ h hL ⟨ck_mk (Int.le_refl _) (Int.le_refl _) ⟨by omega, by omega⟩, hS⟩ hW)
  · rename_i v
    have hl : len = 3 := by simpa [ck_len] using hlen
    subst hl
    simp only [Bool.and_eq_true, Bool.or_eq_true, Bool.not_eq_true', beq_iff_eq, beq_eq_false_iff_ne, decide_eq_true_eq, ne_eq] at hc
    obtain ⟨⟨⟨c1, c2⟩, c3⟩, c4⟩ := hc
    exact jx_sipush v hd c3 (hf _ _ _ c4 L _ h hL ⟨ck_mk (Int.le_refl _) (Int.le_refl _) ⟨by omega, by omega⟩, hS⟩ hW)
  · rename_i v
    have hl : len = 1 := by simpa [ck_len] using hlen
    subst hl
    simp only [Bool.and_eq_true, Bool.or_eq_true, Bool.not_eq_true', beq_iff_eq, beq_eq_false_iff_ne, decide_eq_true_eq, ne_eq] at hc
    obtain ⟨c1, c2⟩ := hc
    exact jx_lconst _ hd c1 (hf _ _ _ c2 L _ h hL ⟨ck_mkL, hS⟩ hW)
  · rename_i idx
    have hl : len = 2 := by simpa [ck_len] using hlen
    subst hl
    split at hc
    · next p hp =>
      simp only [ck_fits, Bool.and_eq_true, decide_eq_true_eq] at hc
      obtain ⟨⟨c1, c2⟩, c3⟩ := hc
      have h1 := List.mem_of_find?_eq_some hp
      have h2 := List.find?_some hp
      simp only [Bool.and_eq_true, beq_iff_eq] at h2
      have h3 := (hkl p h1).1 h2.2
      rw [h2.1] at h3
      exact jx_ldc p.2.2.1 h3 hd rfl (hf _ _ _ c3 L _ h hL ⟨ck_mk (Int.le_refl _) (Int.le_refl _) ⟨c1, c2⟩, hS⟩ hW)
    · cases hc
  · rename_i idx
    have hl : len = 3 := by simpa [ck_len] using hlen
    subst hl
    split at hc
    · next p hp =>
      have h1 := List.mem_of_find?_eq_some hp
      have h2 := List.find?_some hp
      simp only [Bool.and_eq_true, beq_iff_eq] at h2
      obtain ⟨v, h3⟩ := (hkl p h1).2 h2.2
      rw [h2.1] at h3
      exact jx_ldc2 v.toInt h3 hd (Int64.ofInt_toInt v).symm (hf _ _ _ hc L _ h hL ⟨ck_mkL, hS⟩ hW)
    · cases hc
  · rename_i k
    have hl : len = 1 := by simpa [ck_len] using hlen
    subst hl
    split at hc
    · next a ha =>
      simp only [Bool.and_eq_true, Bool.or_eq_true, Bool.not_eq_true', beq_iff_eq, beq_eq_false_iff_ne, decide_eq_true_eq, ne_eq] at hc
      obtain ⟨c1, c2⟩ := hc
      have hk : (k : Nat) < 900 := by have := k.isLt; omega
      obtain ⟨v, g1, g2⟩ := hL _ a ha
      have g0 : ja_g L k = some v := (ck_at_lo (by omega)).symm.trans g1
      obtain ⟨x, rfl, -⟩ := ck_int g2 c1
      have hin : ck_in E (ck_at L h) (ck_o a ((k : Nat) + 1)) (0, x) := ⟨g2, fun j q => ⟨by rw [← Nat.succ.inj (show (k : Nat) + 1 = j + 1 from q)]; exact g1, rfl⟩⟩
      exact jx_iload_n hd rfl g0 (hf _ _ _ c2 L _ h hL ⟨hin, hS⟩ hW)
    · cases hc
  · rename_i k
    have hl : len = 2 := by simpa [ck_len] using hlen
    subst hl
    split at hc
    · next a ha =>
      simp only [Bool.and_eq_true, Bool.or_eq_true, Bool.not_eq_true', beq_iff_eq, beq_eq_false_iff_ne, decide_eq_true_eq, ne_eq] at hc
      obtain ⟨⟨hk, c1⟩, c2⟩ := hc
      obtain ⟨v, g1, g2⟩ := hL _ a ha
      have g0 : ja_g L k = some v := (ck_at_lo (by omega)).symm.trans g1
      obtain ⟨x, rfl, -⟩ := ck_int g2 c1
      have hin : ck_in E (ck_at L h) (ck_o a ((k : Nat) + 1)) (0, x) := ⟨g2, fun j q => ⟨by rw [← Nat.succ.inj (show (k : Nat) + 1 = j + 1 from q)]; exact g1, rfl⟩⟩
      exact jx_iload hd g0 (hf _ _ _ c2 L _ h hL ⟨hin, hS⟩ hW)
    · cases hc
  · rename_i k
    have hl : len = 1 := by simpa [ck_len] using hlen
    subst hl
    split at hc
    · next a ha =>
      simp only [Bool.and_eq_true, Bool.or_eq_true, Bool.not_eq_true', beq_iff_eq, beq_eq_false_iff_ne, decide_eq_true_eq, ne_eq] at hc
      obtain ⟨c1, c2⟩ := hc
      have hk : (k : Nat) < 900 := by have := k.isLt; omega
      obtain ⟨v, g1, g2⟩ := hL _ a ha
      have g0 : ja_g L k = some v := (ck_at_lo (by omega)).symm.trans g1
      obtain ⟨x, rfl⟩ := ck_long g2 c1
      exact jx_lload_n hd rfl g0 (hf _ _ _ c2 L _ h hL ⟨ck_mkL, hS⟩ hW)
    · cases hc
  · rename_i k
    have hl : len = 2 := by simpa [ck_len] using hlen
    subst hl
    split at hc
    · next a ha =>
      simp only [Bool.and_eq_true, Bool.or_eq_true, Bool.not_eq_true', beq_iff_eq, beq_eq_false_iff_ne, decide_eq_true_eq, ne_eq] at hc
      obtain ⟨⟨hk, c1⟩, c2⟩ := hc
      obtain ⟨v, g1, g2⟩ := hL _ a ha
      have g0 : ja_g L k = some v := (ck_at_lo (by omega)).symm.trans g1
      obtain ⟨x, rfl⟩ := ck_long g2 c1
      exact jx_lload hd g0 (hf _ _ _ c2 L _ h hL ⟨ck_mkL, hS⟩ hW)
    · cases hc
  · rename_i k
    have hl : len = 1 := by simpa [ck_len] using hlen
    subst hl
    split at hc
    · next a ha =>
      simp only [Bool.and_eq_true, Bool.or_eq_true, Bool.not_eq_true', beq_iff_eq, beq_eq_false_iff_ne, decide_eq_true_eq, ne_eq] at hc
      obtain ⟨c1, c2⟩ := hc
      have hk : (k : Nat) < 900 := by have := k.isLt; omega
      obtain ⟨v, g1, g2⟩ := hL _ a ha
      have g0 : ja_g L k = some v := (ck_at_lo (by omega)).symm.trans g1
      have e2 := ck_ref2 g2 c1
      subst e2
      exact jx_aload_n hd rfl g0 (hf _ _ _ c2 L _ h hL ⟨⟨Or.inr (Or.inr ⟨rfl, rfl⟩), fun j q => (by cases q)⟩, hS⟩ hW)
    · cases hc
  · rename_i k
    have hl : len = 2 := by simpa [ck_len] using hlen
    subst hl
    split at hc
    · next a ha =>
      simp only [Bool.and_eq_true, Bool.or_eq_true, Bool.not_eq_true', beq_iff_eq, beq_eq_false_iff_ne, decide_eq_true_eq, ne_eq] at hc
      obtain ⟨⟨hk, c1⟩, c2⟩ := hc
      obtain ⟨v, g1, g2⟩ := hL _ a ha
      have g0 : ja_g L k = some v := (ck_at_lo (by omega)).symm.trans g1
      have e2 := ck_ref2 g2 c1
      subst e2
      exact jx_aload hd g0 (hf _ _ _ c2 L _ h hL ⟨⟨Or.inr (Or.inr ⟨rfl, rfl⟩), fun j q => (by cases q)⟩, hS⟩ hW)
    · cases hc
  · rename_i k a S1
    have hl : len = 1 := by simpa [ck_len] using hlen
    subst hl
    simp only [Bool.and_eq_true, Bool.or_eq_true, Bool.not_eq_true', beq_iff_eq, beq_eq_false_iff_ne, decide_eq_true_eq, ne_eq] at hc
    obtain ⟨⟨c1, c2⟩, c3⟩ := hc
    have hk : (k : Nat) < 900 := by have := k.isLt; omega
    obtain ⟨v1, vs1, rfl, i1, hS1⟩ := ck_cons hS
    obtain ⟨x, rfl, -⟩ := ck_int i1.1 c1
    exact jx_istore_n hd rfl c2 rfl (hf _ _ _ c3 _ _ h (ck_stL hk hL i1.1) (ck_dropJ hk hS1) hW)
  · rename_i k a S1
    have hl : len = 2 := by simpa [ck_len] using hlen
    subst hl
    simp only [Bool.and_eq_true, Bool.or_eq_true, Bool.not_eq_true', beq_iff_eq, beq_eq_false_iff_ne, decide_eq_true_eq, ne_eq] at hc
    obtain ⟨⟨⟨c1, c2⟩, hk⟩, c3⟩ := hc
    obtain ⟨v1, vs1, rfl, i1, hS1⟩ := ck_cons hS
    obtain ⟨x, rfl, -⟩ := ck_int i1.1 c1
    exact jx_istore hd c2 rfl (hf _ _ _ c3 _ _ h (ck_stL hk hL i1.1) (ck_dropJ hk hS1) hW)
  · rename_i k a S1
    have hl : len = 1 := by simpa [ck_len] using hlen
    subst hl
    simp only [Bool.and_eq_true, Bool.or_eq_true, Bool.not_eq_true', beq_iff_eq, beq_eq_false_iff_ne, decide_eq_true_eq, ne_eq] at hc
    obtain ⟨⟨c1, c2⟩, c3⟩ := hc
    have hk : (k : Nat) < 900 := by have := k.isLt; omega
    obtain ⟨v1, vs1, rfl, i1, hS1⟩ := ck_cons hS
    have e2 := ck_ref2 i1.1 c1
    subst e2
    exact jx_astore_n hd rfl c2 rfl (hf _ _ _ c3 _ _ h (ck_stL hk hL i1.1) (ck_dropJ hk hS1) hW)
  · rename_i k a S1
    have hl : len = 2 := by simpa [ck_len] using hlen
    subst hl
    simp only [Bool.and_eq_true, Bool.or_eq_true, Bool.not_eq_true', beq_iff_eq, beq_eq_false_iff_ne, decide_eq_true_eq, ne_eq] at hc
    obtain ⟨⟨⟨c1, c2⟩, hk⟩, c3⟩ := hc
    obtain ⟨v1, vs1, rfl, i1, hS1⟩ := ck_cons hS
    have e2 := ck_ref2 i1.1 c1
    subst e2
    exact jx_astore hd c2 rfl (hf _ _ _ c3 _ _ h (ck_stL hk hL i1.1) (ck_dropJ hk hS1) hW)
  · rename_i k a S1
    have hl : len = 1 := by simpa [ck_len] using hlen
    subst hl
    simp only [Bool.and_eq_true, Bool.or_eq_true, Bool.not_eq_true', beq_iff_eq, beq_eq_false_iff_ne, decide_eq_true_eq, ne_eq] at hc
    obtain ⟨⟨c1, c2⟩, c3⟩ := hc
    have hk : (k : Nat) < 900 := by have := k.isLt; omega
    obtain ⟨v1, vs1, rfl, i1, hS1⟩ := ck_cons hS
    obtain ⟨x, rfl⟩ := ck_long i1.1 c1
    exact jx_lstore_n hd rfl c2 rfl (hf _ _ _ c3 _ _ h (ck_stL2 hk hL i1.1) (ck_dropJ2 hk hS1) hW)
  · rename_i k a S1
    have hl : len = 2 := by simpa [ck_len] using hlen
    subst hl
    simp only [Bool.and_eq_true, Bool.or_eq_true, Bool.not_eq_true', beq_iff_eq, beq_eq_false_iff_ne, decide_eq_true_eq, ne_eq] at hc
    obtain ⟨⟨⟨c1, c2⟩, hk⟩, c3⟩ := hc
    obtain ⟨v1, vs1, rfl, i1, hS1⟩ := ck_cons hS
    obtain ⟨x, rfl⟩ := ck_long i1.1 c1
    exact jx_lstore hd c2 rfl (hf _ _ _ c3 _ _ h (ck_stL2 hk hL i1.1) (ck_dropJ2 hk hS1) hW)
  · rename_i k n
    have hl : len = 3 := by simpa [ck_len] using hlen
    subst hl
    split at hc
    · next a ha =>
      simp only [Bool.and_eq_true, beq_iff_eq, decide_eq_true_eq] at hc
      obtain ⟨⟨⟨c1, c2⟩, hk⟩, c3⟩ := hc
      obtain ⟨v, g1, g2⟩ := hL _ a ha
      obtain ⟨x, rfl, b1, b2, b3, b4, b5⟩ := ck_int g2 c1
      have g0 : ja_g L k = some (0, x) := (ck_at_lo (by omega)).symm.trans g1
      split at c3
      · next hfit =>
        simp only [ck_fits, Bool.and_eq_true, decide_eq_true_eq] at hfit
        have hin : ck_in0 E (0, (a.2.1.1 + n, a.2.1.2 + n), 0, (a.2.2.2.1.1, a.2.2.2.1.2 + n), 0) (0, x + n) := Or.inl ⟨rfl, rfl, by show a.2.1.1 + n ≤ x + n; omega, by show x + n ≤ a.2.1.2 + n; omega, ⟨by show _ ≤ x + n; omega, by show x + n ≤ _; omega⟩, fun j q => (by have e := b4 j q; show x + n = E j + (a.2.2.2.1.2 + n); omega), fun q => (by cases q)⟩
        exact jx_iinc hd g0 c2 rfl (hf _ _ _ c3 _ _ h (ck_stL hk hL hin) (ck_dropJ hk hS) hW)
      · exact jx_iincv (ck_w32 (x + n)) hd g0 c2 (ck_w32e _) rfl (hf _ _ _ c3 _ _ h (ck_stL hk hL (ck_mkT (L := ck_at L h) (ck_w32r _)).1) (ck_dropJ hk hS) hW)
    · cases hc
  · rename_i y x S1
    have hl : len = 1 := by simpa [ck_len] using hlen
    subst hl
    simp only [Bool.and_eq_true, Bool.or_eq_true, Bool.not_eq_true', beq_iff_eq, beq_eq_false_iff_ne, decide_eq_true_eq, ne_eq] at hc
    obtain ⟨⟨c1, c2⟩, c3⟩ := hc
    obtain ⟨v2, vs1, rfl, i2, hS1⟩ := ck_cons hS
    obtain ⟨v1, vs2, rfl, i1, hS2⟩ := ck_cons hS1
    obtain ⟨b, rfl, b1, b2, b3, -, b5⟩ := ck_int i2.1 c2
    obtain ⟨a, rfl, a1, a2, a3, -⟩ := ck_int i1.1 c1
    obtain ⟨v, e, hin⟩ := ck_normx (E := E) (L := ck_at L h) (lo := x.2.1.1 + y.2.1.1) (hi := x.2.1.2 + y.2.1.2) (x := a + b) (by omega) (by omega)
    exact jx_iadd hd (jx_norm v e (hf _ _ _ c3 L _ h hL ⟨hin, hS2⟩ hW))
  · rename_i y x S1
    have hl : len = 1 := by simpa [ck_len] using hlen
    subst hl
    simp only [Bool.and_eq_true, Bool.or_eq_true, Bool.not_eq_true', beq_iff_eq, beq_eq_false_iff_ne, decide_eq_true_eq, ne_eq] at hc
    obtain ⟨⟨c1, c2⟩, c3⟩ := hc
    obtain ⟨v2, vs1, rfl, i2, hS1⟩ := ck_cons hS
    obtain ⟨v1, vs2, rfl, i1, hS2⟩ := ck_cons hS1
    obtain ⟨b, rfl, b1, b2, b3, -, b5⟩ := ck_int i2.1 c2
    obtain ⟨a, rfl, a1, a2, a3, -⟩ := ck_int i1.1 c1
    obtain ⟨v, e, hin⟩ := ck_normx (E := E) (L := ck_at L h) (lo := x.2.1.1 - y.2.1.2) (hi := x.2.1.2 - y.2.1.1) (x := a - b) (by omega) (by omega)
    exact jx_isub hd (jx_norm v e (hf _ _ _ c3 L _ h hL ⟨hin, hS2⟩ hW))
  · rename_i y x S1
    have hl : len = 1 := by simpa [ck_len] using hlen
    subst hl
    simp only [Bool.and_eq_true, Bool.or_eq_true, Bool.not_eq_true', beq_iff_eq, beq_eq_false_iff_ne, decide_eq_true_eq, ne_eq] at hc
    obtain ⟨⟨c1, c2⟩, c3⟩ := hc
    obtain ⟨v2, vs1, rfl, i2, hS1⟩ := ck_cons hS
    obtain ⟨v1, vs2, rfl, i1, hS2⟩ := ck_cons hS1
    obtain ⟨b, rfl, b1, b2, b3, -, b5⟩ := ck_int i2.1 c2
    obtain ⟨a, rfl, a1, a2, a3, -⟩ := ck_int i1.1 c1
    have hm := ck_mulb a1 a2 b1 b2 (r := 0) (s := 0)
    obtain ⟨v, e, hin⟩ := ck_normx (E := E) (L := ck_at L h) (lo := (ck_mulr x y).1) (hi := (ck_mulr x y).2) (x := a * b) hm.1 hm.2
    exact jx_imul hd (jx_norm v e (hf _ _ _ c3 L _ h hL ⟨hin, hS2⟩ hW))
  · rename_i x S1
    have hl : len = 1 := by simpa [ck_len] using hlen
    subst hl
    simp only [Bool.and_eq_true, Bool.or_eq_true, Bool.not_eq_true', beq_iff_eq, beq_eq_false_iff_ne, decide_eq_true_eq, ne_eq] at hc
    obtain ⟨c1, c3⟩ := hc
    obtain ⟨v1, vs1, rfl, i1, hS1⟩ := ck_cons hS
    obtain ⟨a, rfl, a1, a2, a3, -⟩ := ck_int i1.1 c1
    obtain ⟨v, e, hin⟩ := ck_normx (E := E) (L := ck_at L h) (lo := -x.2.1.2) (hi := -x.2.1.1) (x := -a) (by omega) (by omega)
    exact jx_ineg hd (jx_norm v e (hf _ _ _ c3 L _ h hL ⟨hin, hS1⟩ hW))
  · rename_i y x S1
    have hl : len = 1 := by simpa [ck_len] using hlen
    subst hl
    simp only [Bool.and_eq_true, Bool.or_eq_true, Bool.not_eq_true', beq_iff_eq, beq_eq_false_iff_ne, decide_eq_true_eq, ne_eq] at hc
    obtain ⟨⟨c1, c2⟩, c3⟩ := hc
    obtain ⟨v2, vs1, rfl, i2, hS1⟩ := ck_cons hS
    obtain ⟨v1, vs2, rfl, i1, hS2⟩ := ck_cons hS1
    obtain ⟨b, rfl, b1, b2, b3, -, b5⟩ := ck_int i2.1 c2
    obtain ⟨a, rfl, a1, a2, a3, -⟩ := ck_int i1.1 c1
    exact jx_iand _ hd (Int32.ofInt_toInt _).symm (hf _ _ _ c3 L _ h hL ⟨ck_and_ok a1 a2 a3 b1 b2 b3, hS2⟩ hW)
  · rename_i y x S1
    have hl : len = 1 := by simpa [ck_len] using hlen
    subst hl
    simp only [Bool.and_eq_true, Bool.or_eq_true, Bool.not_eq_true', beq_iff_eq, beq_eq_false_iff_ne, decide_eq_true_eq, ne_eq] at hc
    obtain ⟨⟨c1, c2⟩, c3⟩ := hc
    obtain ⟨v2, vs1, rfl, i2, hS1⟩ := ck_cons hS
    obtain ⟨v1, vs2, rfl, i1, hS2⟩ := ck_cons hS1
    obtain ⟨b, rfl, b1, b2, b3, -, b5⟩ := ck_int i2.1 c2
    obtain ⟨a, rfl, a1, a2, a3, -⟩ := ck_int i1.1 c1
    exact jx_ior _ hd (Int32.ofInt_toInt _).symm (hf _ _ _ c3 L _ h hL ⟨ck_mkT (ck_ofr _), hS2⟩ hW)
  · rename_i y x S1
    have hl : len = 1 := by simpa [ck_len] using hlen
    subst hl
    simp only [Bool.and_eq_true, Bool.or_eq_true, Bool.not_eq_true', beq_iff_eq, beq_eq_false_iff_ne, decide_eq_true_eq, ne_eq] at hc
    obtain ⟨⟨c1, c2⟩, c3⟩ := hc
    obtain ⟨v2, vs1, rfl, i2, hS1⟩ := ck_cons hS
    obtain ⟨v1, vs2, rfl, i1, hS2⟩ := ck_cons hS1
    obtain ⟨b, rfl, b1, b2, b3, -, b5⟩ := ck_int i2.1 c2
    obtain ⟨a, rfl, a1, a2, a3, -⟩ := ck_int i1.1 c1
    exact jx_ixor _ hd (Int32.ofInt_toInt _).symm (hf _ _ _ c3 L _ h hL ⟨ck_mkT (ck_ofr _), hS2⟩ hW)
  · rename_i y x S1
    have hl : len = 1 := by simpa [ck_len] using hlen
    subst hl
    simp only [Bool.and_eq_true, Bool.or_eq_true, Bool.not_eq_true', beq_iff_eq, beq_eq_false_iff_ne, decide_eq_true_eq, ne_eq] at hc
    obtain ⟨⟨c1, c2⟩, c3⟩ := hc
    obtain ⟨v2, vs1, rfl, i2, hS1⟩ := ck_cons hS
    obtain ⟨v1, vs2, rfl, i1, hS2⟩ := ck_cons hS1
    obtain ⟨b, rfl, b1, b2, b3, -, b5⟩ := ck_int i2.1 c2
    obtain ⟨a, rfl, a1, a2, a3, -⟩ := ck_int i1.1 c1
    exact jx_ishl _ hd (Int32.ofInt_toInt _).symm (hf _ _ _ c3 L _ h hL ⟨ck_mkT (ck_ofr _), hS2⟩ hW)
  · rename_i y x S1
    have hl : len = 1 := by simpa [ck_len] using hlen
    subst hl
    simp only [Bool.and_eq_true, Bool.or_eq_true, Bool.not_eq_true', beq_iff_eq, beq_eq_false_iff_ne, decide_eq_true_eq, ne_eq] at hc
    obtain ⟨⟨c1, c2⟩, c3⟩ := hc
    obtain ⟨v2, vs1, rfl, i2, hS1⟩ := ck_cons hS
    obtain ⟨v1, vs2, rfl, i1, hS2⟩ := ck_cons hS1
    obtain ⟨b, rfl, b1, b2, b3, -, b5⟩ := ck_int i2.1 c2
    obtain ⟨a, rfl, a1, a2, a3, -⟩ := ck_int i1.1 c1
    exact jx_ishr _ hd (Int32.ofInt_toInt _).symm (hf _ _ _ c3 L _ h hL ⟨ck_mkT (ck_ofr _), hS2⟩ hW)
  · rename_i y x S1
    have hl : len = 1 := by simpa [ck_len] using hlen
    subst hl
    simp only [Bool.and_eq_true, Bool.or_eq_true, Bool.not_eq_true', beq_iff_eq, beq_eq_false_iff_ne, decide_eq_true_eq, ne_eq] at hc
    obtain ⟨⟨⟨c1, c2⟩, c4⟩, c3⟩ := hc
    obtain ⟨v2, vs1, rfl, i2, hS1⟩ := ck_cons hS
    obtain ⟨v1, vs2, rfl, i1, hS2⟩ := ck_cons hS1
    obtain ⟨b, rfl, b1, b2, b3, -, b5⟩ := ck_int i2.1 c2
    obtain ⟨a, rfl, a1, a2, a3, -⟩ := ck_int i1.1 c1
    have hb0 : b ≠ 0 := by
      rcases c4 with q | q
      · exact b5 q
      · omega
    exact jx_idiv _ hd (fun q => hb0 ((ja_eq b3 ja_r0).mp q)) (Int32.ofInt_toInt _).symm (hf _ _ _ c3 L _ h hL ⟨ck_mkT (ck_ofr _), hS2⟩ hW)
  · rename_i y x S1
    have hl : len = 1 := by simpa [ck_len] using hlen
    subst hl
    simp only [Bool.and_eq_true, Bool.or_eq_true, Bool.not_eq_true', beq_iff_eq, beq_eq_false_iff_ne, decide_eq_true_eq, ne_eq] at hc
    obtain ⟨⟨⟨c1, c2⟩, c4⟩, c3⟩ := hc
    obtain ⟨v2, vs1, rfl, i2, hS1⟩ := ck_cons hS
    obtain ⟨v1, vs2, rfl, i1, hS2⟩ := ck_cons hS1
    obtain ⟨b, rfl, b1, b2, b3, -, b5⟩ := ck_int i2.1 c2
    obtain ⟨a, rfl, a1, a2, a3, -⟩ := ck_int i1.1 c1
    have hb0 : b ≠ 0 := by
      rcases c4 with q | q
      · exact b5 q
      · omega
    exact jx_irem _ hd (fun q => hb0 ((ja_eq b3 ja_r0).mp q)) (Int32.ofInt_toInt _).symm (hf _ _ _ c3 L _ h hL ⟨ck_mkT (ck_ofr _), hS2⟩ hW)
  · rename_i y x S1
    have hl : len = 1 := by simpa [ck_len] using hlen
    subst hl
    simp only [Bool.and_eq_true, Bool.or_eq_true, Bool.not_eq_true', beq_iff_eq, beq_eq_false_iff_ne, decide_eq_true_eq, ne_eq] at hc
    obtain ⟨⟨c1, c2⟩, c3⟩ := hc
    obtain ⟨v2, vs1, rfl, i2, hS1⟩ := ck_cons hS
    obtain ⟨v1, vs2, rfl, i1, hS2⟩ := ck_cons hS1
    obtain ⟨b, rfl⟩ := ck_long i2.1 c2
    obtain ⟨a, rfl⟩ := ck_long i1.1 c1
    exact jx_lor _ hd (Int64.ofInt_toInt _).symm (hf _ _ _ c3 L _ h hL ⟨ck_mkL, hS2⟩ hW)
  · rename_i y x S1
    have hl : len = 1 := by simpa [ck_len] using hlen
    subst hl
    simp only [Bool.and_eq_true, Bool.or_eq_true, Bool.not_eq_true', beq_iff_eq, beq_eq_false_iff_ne, decide_eq_true_eq, ne_eq] at hc
    obtain ⟨⟨c1, c2⟩, c3⟩ := hc
    obtain ⟨v2, vs1, rfl, i2, hS1⟩ := ck_cons hS
    obtain ⟨v1, vs2, rfl, i1, hS2⟩ := ck_cons hS1
    obtain ⟨b, rfl⟩ := ck_long i2.1 c2
    obtain ⟨a, rfl⟩ := ck_long i1.1 c1
    exact jx_land _ hd (Int64.ofInt_toInt _).symm (hf _ _ _ c3 L _ h hL ⟨ck_mkL, hS2⟩ hW)
  · rename_i y x S1
    have hl : len = 1 := by simpa [ck_len] using hlen
    subst hl
    simp only [Bool.and_eq_true, Bool.or_eq_true, Bool.not_eq_true', beq_iff_eq, beq_eq_false_iff_ne, decide_eq_true_eq, ne_eq] at hc
    obtain ⟨⟨c1, c2⟩, c3⟩ := hc
    obtain ⟨v2, vs1, rfl, i2, hS1⟩ := ck_cons hS
    obtain ⟨v1, vs2, rfl, i1, hS2⟩ := ck_cons hS1
    obtain ⟨b, rfl, -⟩ := ck_int i2.1 c2
    obtain ⟨a, rfl⟩ := ck_long i1.1 c1
    exact jx_lushr _ hd (Int64.ofInt_toInt _).symm (hf _ _ _ c3 L _ h hL ⟨ck_mkL, hS2⟩ hW)
  · rename_i y x S1
    have hl : len = 1 := by simpa [ck_len] using hlen
    subst hl
    simp only [Bool.and_eq_true, Bool.or_eq_true, Bool.not_eq_true', beq_iff_eq, beq_eq_false_iff_ne, decide_eq_true_eq, ne_eq] at hc
    obtain ⟨⟨c1, c2⟩, c3⟩ := hc
    obtain ⟨v2, vs1, rfl, i2, hS1⟩ := ck_cons hS
    obtain ⟨v1, vs2, rfl, i1, hS2⟩ := ck_cons hS1
    obtain ⟨b, rfl, -⟩ := ck_int i2.1 c2
    obtain ⟨a, rfl⟩ := ck_long i1.1 c1
    exact jx_lshl _ hd (Int64.ofInt_toInt _).symm (hf _ _ _ c3 L _ h hL ⟨ck_mkL, hS2⟩ hW)
  · rename_i x S1
    have hl : len = 1 := by simpa [ck_len] using hlen
    subst hl
    simp only [Bool.and_eq_true, Bool.or_eq_true, Bool.not_eq_true', beq_iff_eq, beq_eq_false_iff_ne, decide_eq_true_eq, ne_eq] at hc
    obtain ⟨c1, c3⟩ := hc
    obtain ⟨v1, vs1, rfl, i1, hS1⟩ := ck_cons hS
    obtain ⟨a, rfl, -⟩ := ck_int i1.1 c1
    exact jx_i2l _ hd (Int64.ofInt_toInt _).symm (hf _ _ _ c3 L _ h hL ⟨ck_mkL, hS1⟩ hW)
  · rename_i x S1
    have hl : len = 1 := by simpa [ck_len] using hlen
    subst hl
    simp only [Bool.and_eq_true, Bool.or_eq_true, Bool.not_eq_true', beq_iff_eq, beq_eq_false_iff_ne, decide_eq_true_eq, ne_eq] at hc
    obtain ⟨c1, c3⟩ := hc
    obtain ⟨v1, vs1, rfl, i1, hS1⟩ := ck_cons hS
    obtain ⟨a, rfl⟩ := ck_long i1.1 c1
    exact jx_l2i _ hd (Int32.ofInt_toInt _).symm (hf _ _ _ c3 L _ h hL ⟨ck_mkT (ck_ofr _), hS1⟩ hW)
  · rename_i x S1
    have hl : len = 1 := by simpa [ck_len] using hlen
    subst hl
    simp only [Bool.and_eq_true, Bool.or_eq_true, Bool.not_eq_true', beq_iff_eq, beq_eq_false_iff_ne, decide_eq_true_eq, ne_eq] at hc
    obtain ⟨c1, c3⟩ := hc
    obtain ⟨v1, vs1, rfl, i1, hS1⟩ := ck_cons hS
    obtain ⟨a, rfl, -⟩ := ck_int i1.1 c1
    exact jx_i2b _ hd (Int32.ofInt_toInt _).symm (hf _ _ _ c3 L _ h hL ⟨ck_mkT (ck_ofr _), hS1⟩ hW)
  · rename_i y x S1
    have hl : len = 1 := by simpa [ck_len] using hlen
    subst hl
    simp only [Bool.and_eq_true, Bool.or_eq_true, Bool.not_eq_true', beq_iff_eq, beq_eq_false_iff_ne, decide_eq_true_eq, ne_eq] at hc
    obtain ⟨⟨c1, c2⟩, c3⟩ := hc
    obtain ⟨v2, vs1, rfl, i2, hS1⟩ := ck_cons hS
    obtain ⟨v1, vs2, rfl, i1, hS2⟩ := ck_cons hS1
    obtain ⟨b, rfl⟩ := ck_long i2.1 c2
    obtain ⟨a, rfl⟩ := ck_long i1.1 c1
    have hb := ck_cmpb (Int64.ofInt a) (Int64.ofInt b)
    exact jx_lcmp _ hd (Int32.ofInt_toInt _).symm (hf _ _ _ c3 L _ h hL ⟨ck_mk hb.1 hb.2 (ck_ofr _), hS2⟩ hW)
  · rename_i x S1
    have hl : len = 1 := by simpa [ck_len] using hlen
    subst hl
    simp only [Bool.and_eq_true, Bool.or_eq_true, Bool.not_eq_true', beq_iff_eq, beq_eq_false_iff_ne, decide_eq_true_eq, ne_eq] at hc
    obtain ⟨c1, c3⟩ := hc
    obtain ⟨v1, vs1, rfl, i1, hS1⟩ := ck_cons hS
    have t1 : v1.1 ≠ 1 := fun z => c1 ((ck_tag i1.1).trans z)
    exact jx_pop hd t1 (hf _ _ _ c3 L _ h hL hS1 hW)
  · rename_i x S1
    have hl : len = 1 := by simpa [ck_len] using hlen
    subst hl
    simp only [Bool.and_eq_true, Bool.or_eq_true, Bool.not_eq_true', beq_iff_eq, beq_eq_false_iff_ne, decide_eq_true_eq, ne_eq] at hc
    obtain ⟨c1, c3⟩ := hc
    obtain ⟨v1, vs1, rfl, i1, hS1⟩ := ck_cons hS
    exact jx_pop2 hd ((ck_tag i1.1).symm.trans c1) (hf _ _ _ c3 L _ h hL hS1 hW)
  · rename_i x S1
    have hl : len = 1 := by simpa [ck_len] using hlen
    subst hl
    simp only [Bool.and_eq_true, Bool.or_eq_true, Bool.not_eq_true', beq_iff_eq, beq_eq_false_iff_ne, decide_eq_true_eq, ne_eq] at hc
    obtain ⟨c1, c3⟩ := hc
    obtain ⟨v1, vs1, rfl, i1, hS1⟩ := ck_cons hS
    have t1 : v1.1 ≠ 1 := fun z => c1 ((ck_tag i1.1).trans z)
    exact jx_dup hd t1 (hf _ _ _ c3 L _ h hL ⟨i1, i1, hS1⟩ hW)
  · rename_i x y S1
    have hl : len = 1 := by simpa [ck_len] using hlen
    subst hl
    simp only [Bool.and_eq_true, Bool.or_eq_true, Bool.not_eq_true', beq_iff_eq, beq_eq_false_iff_ne, decide_eq_true_eq, ne_eq] at hc
    obtain ⟨⟨c2, c1⟩, c3⟩ := hc
    obtain ⟨v2, vs1, rfl, i2, hS1⟩ := ck_cons hS
    obtain ⟨v1, vs2, rfl, i1, hS2⟩ := ck_cons hS1
    have t2 : v2.1 ≠ 1 := fun z => c2 ((ck_tag i2.1).trans z)
    have t1 : v1.1 ≠ 1 := fun z => c1 ((ck_tag i1.1).trans z)
    exact jx_dup2 hd t2 t1 (hf _ _ _ c3 L _ h hL ⟨i2, i1, i2, i1, hS2⟩ hW)
  · rename_i x y S1
    have hl : len = 1 := by simpa [ck_len] using hlen
    subst hl
    simp only [Bool.and_eq_true, Bool.or_eq_true, Bool.not_eq_true', beq_iff_eq, beq_eq_false_iff_ne, decide_eq_true_eq, ne_eq] at hc
    obtain ⟨⟨c2, c1⟩, c3⟩ := hc
    obtain ⟨v2, vs1, rfl, i2, hS1⟩ := ck_cons hS
    obtain ⟨v1, vs2, rfl, i1, hS2⟩ := ck_cons hS1
    have t2 : v2.1 ≠ 1 := fun z => c2 ((ck_tag i2.1).trans z)
    have t1 : v1.1 ≠ 1 := fun z => c1 ((ck_tag i1.1).trans z)
    exact jx_dup_x1 hd t2 t1 (hf _ _ _ c3 L _ h hL ⟨i2, i1, i2, hS2⟩ hW)
  · rename_i off
    have hl : len = 3 := by simpa [ck_len] using hlen
    subst hl
    simp only [Bool.and_eq_true, Bool.or_eq_true, Bool.not_eq_true', beq_iff_eq, beq_eq_false_iff_ne, decide_eq_true_eq, ne_eq] at hc
    obtain ⟨c1, c3⟩ := hc
    exact jx_goto _ hd (Int.toNat_of_nonneg c1).symm (hf _ _ _ c3 L _ h hL hS hW)
  · rename_i c off x S1
    have hl : len = 3 := by simpa [ck_len] using hlen
    subst hl
    simp only [ck_two, Bool.and_eq_true, beq_iff_eq, decide_eq_true_eq] at hc
    obtain ⟨c1, ⟨c4, c5⟩, c6⟩ := hc
    obtain ⟨v1, vs1, rfl, i1, hS1⟩ := ck_cons hS
    obtain ⟨a, rfl, a1, a2, a3, -⟩ := ck_int i1.1 c1
    have i2 : ck_in E (ck_at L h) (ck_i 0 0) (0, 0) := ck_mk (Int.le_refl _) (Int.le_refl _) ja_r0
    have b1 : (ck_i 0 0).2.1.1 ≤ 0 := Int.le_refl _
    have b2 : 0 ≤ (ck_i 0 0).2.1.2 := Int.le_refl _
    obtain ⟨y, hy⟩ : ∃ y, y = ck_i 0 0 := ⟨_, rfl⟩
    rw [← hy] at i2 b1 b2 c5 c6
    cases c
    · refine jx_if_eq _ hd c4 a3 (fun q => ?_) (fun q => ?_)
      · have w := ck_eq_ok (x := x) (y := y) q a1 a2 b1 b2
        obtain ⟨A2, hA2, hf2⟩ := ck_two_ok (t := ck_eq x y) hL i1 i2 w.1 w.2.1 w.2.2.1 w.2.2.2.1 w.2.2.2.2 c5
        exact hf _ _ _ hf2 L _ h hA2 hS1 hW
      · have w := ck_ne_ok (x := x) (y := y) q a1 a2 b1 b2
        obtain ⟨A2, hA2, hf2⟩ := ck_two_ok (t := ck_ne x y) hL i1 i2 w.1 w.2.1 w.2.2.1 w.2.2.2.1 w.2.2.2.2 c6
        exact hf _ _ _ hf2 L _ h hA2 hS1 hW
    · refine jx_if_ne _ hd c4 a3 (fun q => ?_) (fun q => ?_)
      · have w := ck_ne_ok (x := x) (y := y) q a1 a2 b1 b2
        obtain ⟨A2, hA2, hf2⟩ := ck_two_ok (t := ck_ne x y) hL i1 i2 w.1 w.2.1 w.2.2.1 w.2.2.2.1 w.2.2.2.2 c5
        exact hf _ _ _ hf2 L _ h hA2 hS1 hW
      · have w := ck_eq_ok (x := x) (y := y) q a1 a2 b1 b2
        obtain ⟨A2, hA2, hf2⟩ := ck_two_ok (t := ck_eq x y) hL i1 i2 w.1 w.2.1 w.2.2.1 w.2.2.2.1 w.2.2.2.2 c6
        exact hf _ _ _ hf2 L _ h hA2 hS1 hW
    · refine jx_if_lt _ hd c4 a3 (fun q => ?_) (fun q => ?_)
      · have w := ck_lt_ok (x := x) (y := y) q a1 a2 b1 b2
        obtain ⟨A2, hA2, hf2⟩ := ck_two_ok (t := ck_lt x y) hL i1 i2 w.1 w.2.1 w.2.2.1 w.2.2.2.1 w.2.2.2.2 c5
        exact hf _ _ _ hf2 L _ h hA2 hS1 hW
      · have z := ck_le_ok (x := y) (y := x) (by omega) b1 b2 a1 a2
        have w := ck_sw_ok (p := ck_le y x) ⟨z.1, z.2.1, z.2.2.1, z.2.2.2.1⟩
        obtain ⟨A2, hA2, hf2⟩ := ck_two_ok (t := ck_sw (ck_le y x)) hL i1 i2 w.1 w.2.1 w.2.2.1 w.2.2.2.1 w.2.2.2.2 c6
        exact hf _ _ _ hf2 L _ h hA2 hS1 hW
    · refine jx_if_ge _ hd c4 a3 (fun q => ?_) (fun q => ?_)
      · have z := ck_le_ok (x := y) (y := x) q b1 b2 a1 a2
        have w := ck_sw_ok (p := ck_le y x) ⟨z.1, z.2.1, z.2.2.1, z.2.2.2.1⟩
        obtain ⟨A2, hA2, hf2⟩ := ck_two_ok (t := ck_sw (ck_le y x)) hL i1 i2 w.1 w.2.1 w.2.2.1 w.2.2.2.1 w.2.2.2.2 c5
        exact hf _ _ _ hf2 L _ h hA2 hS1 hW
      · have w := ck_lt_ok (x := x) (y := y) (by omega) a1 a2 b1 b2
        obtain ⟨A2, hA2, hf2⟩ := ck_two_ok (t := ck_lt x y) hL i1 i2 w.1 w.2.1 w.2.2.1 w.2.2.2.1 w.2.2.2.2 c6
        exact hf _ _ _ hf2 L _ h hA2 hS1 hW
    · refine jx_if_gt _ hd c4 a3 (fun q => ?_) (fun q => ?_)
      · have z := ck_lt_ok (x := y) (y := x) q b1 b2 a1 a2
        have w := ck_sw_ok (p := ck_lt y x) ⟨z.1, z.2.1, z.2.2.1, z.2.2.2.1⟩
        obtain ⟨A2, hA2, hf2⟩ := ck_two_ok (t := ck_sw (ck_lt y x)) hL i1 i2 w.1 w.2.1 w.2.2.1 w.2.2.2.1 w.2.2.2.2 c5
        exact hf _ _ _ hf2 L _ h hA2 hS1 hW
      · have w := ck_le_ok (x := x) (y := y) (by omega) a1 a2 b1 b2
        obtain ⟨A2, hA2, hf2⟩ := ck_two_ok (t := ck_le x y) hL i1 i2 w.1 w.2.1 w.2.2.1 w.2.2.2.1 w.2.2.2.2 c6
        exact hf _ _ _ hf2 L _ h hA2 hS1 hW
    · refine jx_if_le _ hd c4 a3 (fun q => ?_) (fun q => ?_)
      · have w := ck_le_ok (x := x) (y := y) q a1 a2 b1 b2
        obtain ⟨A2, hA2, hf2⟩ := ck_two_ok (t := ck_le x y) hL i1 i2 w.1 w.2.1 w.2.2.1 w.2.2.2.1 w.2.2.2.2 c5
        exact hf _ _ _ hf2 L _ h hA2 hS1 hW
      · have z := ck_lt_ok (x := y) (y := x) (by omega) b1 b2 a1 a2
        have w := ck_sw_ok (p := ck_lt y x) ⟨z.1, z.2.1, z.2.2.1, z.2.2.2.1⟩
        obtain ⟨A2, hA2, hf2⟩ := ck_two_ok (t := ck_sw (ck_lt y x)) hL i1 i2 w.1 w.2.1 w.2.2.1 w.2.2.2.1 w.2.2.2.2 c6
        exact hf _ _ _ hf2 L _ h hA2 hS1 hW
  · rename_i c off y x S1
    have hl : len = 3 := by simpa [ck_len] using hlen
    subst hl
    simp only [ck_two, Bool.and_eq_true, beq_iff_eq, decide_eq_true_eq] at hc
    obtain ⟨⟨c1, c2⟩, ⟨c4, c5⟩, c6⟩ := hc
    obtain ⟨v2, vs1, rfl, i2, hS1⟩ := ck_cons hS
    obtain ⟨v1, vs2, rfl, i1, hS2⟩ := ck_cons hS1
    obtain ⟨b, rfl, b1, b2, b3, -, b5⟩ := ck_int i2.1 c2
    obtain ⟨a, rfl, a1, a2, a3, -⟩ := ck_int i1.1 c1
    cases c
    · refine jx_icmp_eq _ hd c4 a3 b3 (fun q => ?_) (fun q => ?_)
      · have w := ck_eq_ok (x := x) (y := y) q a1 a2 b1 b2
        obtain ⟨A2, hA2, hf2⟩ := ck_two_ok (t := ck_eq x y) hL i1 i2 w.1 w.2.1 w.2.2.1 w.2.2.2.1 w.2.2.2.2 c5
        exact hf _ _ _ hf2 L _ h hA2 hS2 hW
      · have w := ck_ne_ok (x := x) (y := y) q a1 a2 b1 b2
        obtain ⟨A2, hA2, hf2⟩ := ck_two_ok (t := ck_ne x y) hL i1 i2 w.1 w.2.1 w.2.2.1 w.2.2.2.1 w.2.2.2.2 c6
        exact hf _ _ _ hf2 L _ h hA2 hS2 hW
    · refine jx_icmp_ne _ hd c4 a3 b3 (fun q => ?_) (fun q => ?_)
      · have w := ck_ne_ok (x := x) (y := y) q a1 a2 b1 b2
        obtain ⟨A2, hA2, hf2⟩ := ck_two_ok (t := ck_ne x y) hL i1 i2 w.1 w.2.1 w.2.2.1 w.2.2.2.1 w.2.2.2.2 c5
        exact hf _ _ _ hf2 L _ h hA2 hS2 hW
      · have w := ck_eq_ok (x := x) (y := y) q a1 a2 b1 b2
        obtain ⟨A2, hA2, hf2⟩ := ck_two_ok (t := ck_eq x y) hL i1 i2 w.1 w.2.1 w.2.2.1 w.2.2.2.1 w.2.2.2.2 c6
        exact hf _ _ _ hf2 L _ h hA2 hS2 hW
    · refine jx_icmp_lt _ hd c4 a3 b3 (fun q => ?_) (fun q => ?_)
      · have w := ck_lt_ok (x := x) (y := y) q a1 a2 b1 b2
        obtain ⟨A2, hA2, hf2⟩ := ck_two_ok (t := ck_lt x y) hL i1 i2 w.1 w.2.1 w.2.2.1 w.2.2.2.1 w.2.2.2.2 c5
        exact hf _ _ _ hf2 L _ h hA2 hS2 hW
      · have z := ck_le_ok (x := y) (y := x) (by omega) b1 b2 a1 a2
        have w := ck_sw_ok (p := ck_le y x) ⟨z.1, z.2.1, z.2.2.1, z.2.2.2.1⟩
        obtain ⟨A2, hA2, hf2⟩ := ck_two_ok (t := ck_sw (ck_le y x)) hL i1 i2 w.1 w.2.1 w.2.2.1 w.2.2.2.1 w.2.2.2.2 c6
        exact hf _ _ _ hf2 L _ h hA2 hS2 hW
    · refine jx_icmp_ge _ hd c4 a3 b3 (fun q => ?_) (fun q => ?_)
      · have z := ck_le_ok (x := y) (y := x) q b1 b2 a1 a2
        have w := ck_sw_ok (p := ck_le y x) ⟨z.1, z.2.1, z.2.2.1, z.2.2.2.1⟩
        obtain ⟨A2, hA2, hf2⟩ := ck_two_ok (t := ck_sw (ck_le y x)) hL i1 i2 w.1 w.2.1 w.2.2.1 w.2.2.2.1 w.2.2.2.2 c5
        exact hf _ _ _ hf2 L _ h hA2 hS2 hW
      · have w := ck_lt_ok (x := x) (y := y) (by omega) a1 a2 b1 b2
        obtain ⟨A2, hA2, hf2⟩ := ck_two_ok (t := ck_lt x y) hL i1 i2 w.1 w.2.1 w.2.2.1 w.2.2.2.1 w.2.2.2.2 c6
        exact hf _ _ _ hf2 L _ h hA2 hS2 hW
    · refine jx_icmp_gt _ hd c4 a3 b3 (fun q => ?_) (fun q => ?_)
      · have z := ck_lt_ok (x := y) (y := x) q b1 b2 a1 a2
        have w := ck_sw_ok (p := ck_lt y x) ⟨z.1, z.2.1, z.2.2.1, z.2.2.2.1⟩
        obtain ⟨A2, hA2, hf2⟩ := ck_two_ok (t := ck_sw (ck_lt y x)) hL i1 i2 w.1 w.2.1 w.2.2.1 w.2.2.2.1 w.2.2.2.2 c5
        exact hf _ _ _ hf2 L _ h hA2 hS2 hW
      · have w := ck_le_ok (x := x) (y := y) (by omega) a1 a2 b1 b2
        obtain ⟨A2, hA2, hf2⟩ := ck_two_ok (t := ck_le x y) hL i1 i2 w.1 w.2.1 w.2.2.1 w.2.2.2.1 w.2.2.2.2 c6
        exact hf _ _ _ hf2 L _ h hA2 hS2 hW
    · refine jx_icmp_le _ hd c4 a3 b3 (fun q => ?_) (fun q => ?_)
      · have w := ck_le_ok (x := x) (y := y) q a1 a2 b1 b2
        obtain ⟨A2, hA2, hf2⟩ := ck_two_ok (t := ck_le x y) hL i1 i2 w.1 w.2.1 w.2.2.1 w.2.2.2.1 w.2.2.2.2 c5
        exact hf _ _ _ hf2 L _ h hA2 hS2 hW
      · have z := ck_lt_ok (x := y) (y := x) (by omega) b1 b2 a1 a2
        have w := ck_sw_ok (p := ck_lt y x) ⟨z.1, z.2.1, z.2.2.1, z.2.2.2.1⟩
        obtain ⟨A2, hA2, hf2⟩ := ck_two_ok (t := ck_sw (ck_lt y x)) hL i1 i2 w.1 w.2.1 w.2.2.1 w.2.2.2.1 w.2.2.2.2 c6
        exact hf _ _ _ hf2 L _ h hA2 hS2 hW
  · rename_i dflt lo hi offs x S1
    simp only [Bool.and_eq_true, beq_iff_eq, decide_eq_true_eq] at hc
    obtain ⟨⟨⟨⟨c1, c2⟩, c3⟩, c4⟩, c5⟩ := hc
    obtain ⟨v1, vs1, rfl, i1, hS1⟩ := ck_cons hS
    obtain ⟨a, rfl, a1, a2, a3, -⟩ := ck_int i1.1 c1
    by_cases ho : a < lo ∨ hi < a
    · exact jx_tableOut _ hd a3 ho (Int.toNat_of_nonneg c2).symm (hf _ _ _ c3 L _ h hL hS1 hW)
    · have hlt : (a - lo).toNat < offs.size := by omega
      have e1 : offs[(a - lo).toNat]? = some offs[(a - lo).toNat] := Array.getElem?_eq_getElem hlt
      have e2 := List.all_eq_true.mp c5 offs[(a - lo).toNat] (Array.getElem_mem_toList hlt)
      simp only [Bool.and_eq_true, decide_eq_true_eq] at e2
      exact jx_tableIn _ hd a3 (by omega) (by omega) e1 (Int.toNat_of_nonneg e2.1).symm (hf _ _ _ e2.2 L _ h hL hS1 hW)
  · rename_i dflt ps x S1
    simp only [Bool.and_eq_true, beq_iff_eq] at hc
    obtain ⟨⟨⟨⟨c1, c2⟩, c3⟩, c4⟩, c5⟩ := hc
    simp only [decide_eq_true_eq] at c3
    obtain ⟨v1, vs1, rfl, i1, hS1⟩ := ck_cons hS
    obtain ⟨a, rfl, a1, a2, a3, -⟩ := ck_int i1.1 c1
    rcases ck_look ps.toList dflt a with e | ⟨q, hq, e⟩
    · exact jx_lookup _ _ hd c2 a3 e (Int.toNat_of_nonneg c3).symm (hf _ _ _ c4 L _ h hL hS1 hW)
    · have e2 := List.all_eq_true.mp c5 q hq
      simp only [Bool.and_eq_true, decide_eq_true_eq] at e2
      exact jx_lookup _ _ hd c2 a3 e (Int.toNat_of_nonneg e2.1).symm (hf _ _ _ e2.2 L _ h hL hS1 hW)
  · rename_i idx q S1
    have hl : len = 3 := by simpa [ck_len] using hlen
    subst hl
    split at hc
    · next p hp =>
      simp only [Bool.and_eq_true, beq_iff_eq, decide_eq_true_eq] at hc
      obtain ⟨⟨⟨⟨⟨⟨⟨⟨c1, c2⟩, c3⟩, c4⟩, c5⟩, c6⟩, c7⟩, c9⟩, c8⟩ := hc
      obtain ⟨hp2, hp1⟩ := hpl idx p hp
      obtain ⟨v1, vs1, rfl, i1, hS1⟩ := ck_cons hS
      obtain ⟨r2, hr2, hN⟩ := G.2 _ c3 (by rw [c5]; exact c6)
      rw [c5] at hr2
      have hsp : (sp q.2.1.1.toNat).1 = (p.2.2.1, r2.2.2) := by rw [hN, ← c5]
      have hjj : p.2.2.2.1 < r2.2.2 := by rw [hN]; exact c7
      have hv : v1 = (2, (q.2.1.1.toNat : Int)) := by rw [ck_ref2 i1.1 c1, Int.toNat_of_nonneg c2]
      subst hv
      have hin := ck_fv_ok (E := E) (L := ck_at L h) G hW c3 (by rw [c5]; exact c6) c7
      have kk : jx_J l D cA ad sp K d own cc nL rt (pc + 3) L (ja_fx sp h q.2.1.1.toNat p.2.2.2.1 :: vs1) h Q := by
        split at c8
        · next hz =>
          have hfx : ja_fx sp h q.2.1.1.toNat p.2.2.2.1 = (0, h q.2.1.1.toNat p.2.2.2.1) := by unfold ja_fx; rw [hz]
          rw [hfx] at hin ⊢
          have hat := ck_at_key (L := L) (h := h) (k := q.2.1.1.toNat) c9
          split at c8
          · next a ha =>
            simp only [Bool.and_eq_true, beq_iff_eq] at c8
            obtain ⟨v, g1, g2⟩ := hL _ a ha
            rw [hat] at g1
            cases g1
            have hin2 : ck_in E (ck_at L h) (ck_o a (ck_key q.2.1.1.toNat p.2.2.2.1 + 1)) (0, h q.2.1.1.toNat p.2.2.2.1) := ⟨g2, fun j z => ⟨by rw [← Nat.succ.inj (show ck_key q.2.1.1.toNat p.2.2.2.1 + 1 = j + 1 from z)]; exact hat, rfl⟩⟩
            exact hf _ _ _ c8.2 L _ h hL ⟨hin2, hS1⟩ hW
          · have hin2 : ck_in E (ck_at L h) (ck_o (ck_fv sp fi q.2.1.1.toNat p.2.2.2.1) (ck_key q.2.1.1.toNat p.2.2.2.1 + 1)) (0, h q.2.1.1.toNat p.2.2.2.1) := ⟨hin.1, fun j z => ⟨by rw [← Nat.succ.inj (show ck_key q.2.1.1.toNat p.2.2.2.1 + 1 = j + 1 from z)]; exact hat, rfl⟩⟩
            exact hf _ _ _ c8 L _ h (ck_insL hL hat hin.1) ⟨hin2, hS1⟩ hW
        · exact hf _ _ _ c8 L _ h hL ⟨hin, hS1⟩ hW
      rcases (show p.2.1 = 0 ∨ p.2.1 = 1 by omega) with e | e
      · obtain ⟨r, hr, hw⟩ := hp1.1 e
        rw [hr2] at hr; cases hr
        rw [hp2] at hw
        exact jx_get (C := r2.1) (T := r2.2.1) c3 hsp (by omega) hr2 hjj (cl_in hr2) hw hd kk
      · obtain ⟨r, hr, hw⟩ := hp1.2.1 e
        rw [hr2] at hr; cases hr
        rw [hp2] at hw
        exact jx_getN (C := r2.1) (T := r2.2.1) c3 hsp (by omega) hr2 hjj (cl_in hr2) hw hd kk
    · cases hc
  · rename_i idx x q S1
    have hl : len = 3 := by simpa [ck_len] using hlen
    subst hl
    split at hc
    · next p hp =>
      simp only [Bool.and_eq_true, Bool.not_eq_true', beq_iff_eq, decide_eq_true_eq] at hc
      obtain ⟨⟨⟨⟨⟨⟨⟨⟨⟨⟨⟨c1, c2⟩, c3⟩, c4⟩, c5⟩, c6⟩, c7⟩, c9⟩, c10⟩, c11⟩, c12⟩, c8⟩ := hc
      obtain ⟨hp2, hp1⟩ := hpl idx p hp
      obtain ⟨v2, vs1, rfl, i2, hS1⟩ := ck_cons hS
      obtain ⟨v1, vs2, rfl, i1, hS2⟩ := ck_cons hS1
      obtain ⟨r2, hr2, hN⟩ := G.2 _ c3 (by rw [c5]; exact c6)
      rw [c5] at hr2
      have hsp : (sp q.2.1.1.toNat).1 = (p.2.2.1, r2.2.2) := by rw [hN, ← c5]
      have hjj : p.2.2.2.1 < r2.2.2 := by rw [hN]; exact c7
      have hv : v1 = (2, (q.2.1.1.toNat : Int)) := by rw [ck_ref2 i1.1 c1, Int.toNat_of_nonneg c2]
      subst hv
      obtain ⟨ty, ht1, ht2, ht3⟩ := cl_ty hr2
      have hfin : (r2.2.1 p.2.2.2.1).2.2.2 = false := by
        unfold ck_fin at c10
        rw [hr2] at c10
        exact c10
      have hty : ck_ty p.2.2.1 p.2.2.2.1 = some (ty p.2.2.2.1) := by unfold ck_ty; rw [ht1]; rfl
      have hpr : ¬ (q.2.1.1.toNat = pr.1 ∧ p.2.2.2.1 = pr.2) := by
        intro z
        rw [Bool.and_eq_false_iff] at c11
        simp only [beq_eq_false_iff_ne, ne_eq] at c11
        rcases c11 with u | u
        · exact u z.1
        · exact u z.2
      split at c9
      · next hz =>
        simp only [Bool.and_eq_true, Bool.or_eq_true, beq_iff_eq, decide_eq_true_eq] at c9
        obtain ⟨⟨⟨d1, d2⟩, d3⟩, d4⟩ := c9
        obtain ⟨a, rfl, a1, a2, a3, -⟩ := ck_int i2.1 d1
        have hW2 : ck_W sp fi K pr v0 (ja_up h q.2.1.1.toNat p.2.2.2.1 a) := ck_W_up hW (fun _ => by unfold ck_fi; rw [if_pos (by rw [c5]; exact c6)]; exact ⟨by omega, by omega⟩) hpr
        rw [if_pos (by rw [hz])] at c8
        have hat : ck_at L (ja_up h q.2.1.1.toNat p.2.2.2.1 a) (ck_key q.2.1.1.toNat p.2.2.2.1) = some (0, a) := by
          rw [ck_at_key c12]
          unfold ja_up
          rw [if_pos ⟨rfl, rfl⟩]
        have kk := hf _ _ _ c8 L _ _ (ck_insL (ck_keepL_ok hL (ck_kK c12)) hat (ck_in0_o i2.1)) (ck_keepS_ok (ck_kK c12) hS2) hW2
        rcases d4 with d4 | d4
        · have hti : ty p.2.2.2.1 = .int := Option.some.inj (hty.symm.trans d4)
          rcases (show p.2.1 = 0 ∨ p.2.1 = 1 by omega) with e | e
          · obtain ⟨r, hr, hw⟩ := hp1.1 e
            rw [hr2] at hr; cases hr
            rw [hp2] at hw
            exact jx_putI (C := r2.1) (T := r2.2.1) c3 hsp (by omega) hr2 hjj (cl_in hr2) ty ht2 ht3 hfin hz hti hw hd kk
          · obtain ⟨r, hr, hw⟩ := hp1.2.1 e
            rw [hr2] at hr; cases hr
            rw [hp2] at hw
            exact jx_putNI (C := r2.1) (T := r2.2.1) c3 hsp (by omega) hr2 hjj (cl_in hr2) ty ht2 ht3 hfin hz hti hw hd kk
        · obtain ⟨⟨d5, d6⟩, d7⟩ := d4
          have hti : ty p.2.2.2.1 = .boolean := Option.some.inj (hty.symm.trans d5)
          have h01 : a = 0 ∨ a = 1 := by omega
          rcases (show p.2.1 = 0 ∨ p.2.1 = 1 by omega) with e | e
          · obtain ⟨r, hr, hw⟩ := hp1.1 e
            rw [hr2] at hr; cases hr
            rw [hp2] at hw
            exact jx_putZ (C := r2.1) (T := r2.2.1) c3 hsp (by omega) hr2 hjj (cl_in hr2) ty ht2 ht3 hfin hz hti h01 hw hd kk
          · obtain ⟨r, hr, hw⟩ := hp1.2.1 e
            rw [hr2] at hr; cases hr
            rw [hp2] at hw
            exact jx_putNZ (C := r2.1) (T := r2.2.1) c3 hsp (by omega) hr2 hjj (cl_in hr2) ty ht2 ht3 hfin hz hti h01 hw hd kk
      · next hz =>
        simp only [Bool.and_eq_true, beq_iff_eq, decide_eq_true_eq] at c9
        obtain ⟨a, rfl⟩ := ck_long i2.1 c9.1
        have hti : ty p.2.2.2.1 = .long := Option.some.inj (hty.symm.trans c9.2)
        have hW2 : ck_W sp fi K pr v0 (ja_up h q.2.1.1.toNat p.2.2.2.1 a) := ck_W_up hW (fun z => by unfold ck_il at z; rw [if_pos (by rw [c5]; exact c6), hz] at z; cases z) hpr
        rw [if_neg (by rw [hz]; decide)] at c8
        have kk := hf _ _ _ c8 L _ _ (ck_keepL_ok hL (ck_kK c12)) (ck_keepS_ok (ck_kK c12) hS2) hW2
        rcases (show p.2.1 = 0 ∨ p.2.1 = 1 by omega) with e | e
        · obtain ⟨r, hr, hw⟩ := hp1.1 e
          rw [hr2] at hr; cases hr
          rw [hp2] at hw
          exact jx_putJ (C := r2.1) (T := r2.2.1) c3 hsp (by omega) hr2 hjj (cl_in hr2) ty ht2 ht3 hfin hz hti hw hd kk
        · obtain ⟨r, hr, hw⟩ := hp1.2.1 e
          rw [hr2] at hr; cases hr
          rw [hp2] at hw
          exact jx_putNJ (C := r2.1) (T := r2.2.1) c3 hsp (by omega) hr2 hjj (cl_in hr2) ty ht2 ht3 hfin hz hti hw hd kk
      · cases c9
    · cases hc
  · rename_i i q S1
    have hl : len = 1 := by simpa [ck_len] using hlen
    subst hl
    simp only [Bool.and_eq_true] at hc
    obtain ⟨c1, c2⟩ := hc
    obtain ⟨vi, vs1, rfl, i2, hS1⟩ := ck_cons hS
    obtain ⟨vq, vs2, rfl, i1, hS2⟩ := ck_cons hS1
    obtain ⟨b, rfl, e1, e2, e3, e4, e5⟩ := ck_arr_ok c1 i1 i2
    subst e1
    have hb := ck_rd G hW e2 e5 e3 e4.1 (by omega) (by omega)
    exact jx_iald e2 (Prod.ext e5 rfl) e4.2 e3 e4.1 hd (hf _ _ _ c2 L _ h hL ⟨ck_mk hb.1 hb.2.1 hb.2.2, hS2⟩ hW)
  · rename_i i q S1
    have hl : len = 1 := by simpa [ck_len] using hlen
    subst hl
    simp only [Bool.and_eq_true, Bool.or_eq_true] at hc
    obtain ⟨c0, c2⟩ := hc
    obtain ⟨vi, vs1, rfl, i2, hS1⟩ := ck_cons hS
    obtain ⟨vq, vs2, rfl, i1, hS2⟩ := ck_cons hS1
    rcases c0 with c1 | c1
    · obtain ⟨b, rfl, e1, e2, e3, e4, e5⟩ := ck_arr_ok c1 i1 i2
      subst e1
      have hb := ck_rd G hW e2 e5 e3 e4.1 (by omega) (by omega)
      exact jx_bald e2 (Prod.ext e5 rfl) e4.2 e3 e4.1 hd (hf _ _ _ c2 L _ h hL ⟨ck_mk hb.1 hb.2.1 hb.2.2, hS2⟩ hW)
    · obtain ⟨b, rfl, e1, e2, e3, e4, e5⟩ := ck_arr_ok c1 i1 i2
      subst e1
      have hb := ck_rd G hW e2 e5 e3 e4.1 (by omega) (by omega)
      exact jx_zald e2 (Prod.ext e5 rfl) e4.2 e3 e4.1 hd (hf _ _ _ c2 L _ h hL ⟨ck_mk hb.1 hb.2.1 hb.2.2, hS2⟩ hW)
  · rename_i i q S1
    have hl : len = 1 := by simpa [ck_len] using hlen
    subst hl
    simp only [Bool.and_eq_true] at hc
    obtain ⟨c1, c2⟩ := hc
    obtain ⟨vi, vs1, rfl, i2, hS1⟩ := ck_cons hS
    obtain ⟨vq, vs2, rfl, i1, hS2⟩ := ck_cons hS1
    obtain ⟨b, rfl, e1, e2, e3, e4, e5⟩ := ck_arr_ok c1 i1 i2
    subst e1
    exact jx_lald e2 (Prod.ext e5 rfl) e4.2 e3 e4.1 hd (hf _ _ _ c2 L _ h hL ⟨ck_mkL, hS2⟩ hW)
  · rename_i x i q S1
    have hl : len = 1 := by simpa [ck_len] using hlen
    subst hl
    simp only [Bool.and_eq_true, beq_iff_eq, decide_eq_true_eq] at hc
    obtain ⟨⟨⟨⟨c0, c1⟩, c3⟩, c4⟩, c2⟩ := hc
    obtain ⟨vx, vs1, rfl, i3, hS1⟩ := ck_cons hS
    obtain ⟨vi, vs2, rfl, i2, hS2⟩ := ck_cons hS1
    obtain ⟨vq, vs3, rfl, i1, hS3⟩ := ck_cons hS2
    obtain ⟨b, rfl, e1, e2, e3, e4, e5⟩ := ck_arr_ok c1 i1 i2
    subst e1
    obtain ⟨a, rfl, a1, a2, a3, -⟩ := ck_int i3.1 c0
    have hW2 := ck_W_up (q := q.2.1.1.toNat) (j := b.toNat) (x := a) hW (fun _ => by unfold ck_fi; rw [if_neg (by omega)]; exact ⟨by omega, by omega⟩) (ck_prA hpA e5 (by omega))
    exact jx_iast e2 (Prod.ext e5 rfl) e4.2 e3 e4.1 hd (hf _ _ _ c2 L _ _ (ck_keepL_ok hL ck_kC) (ck_keepS_ok ck_kC hS3) hW2)
  · rename_i x i q S1
    have hl : len = 1 := by simpa [ck_len] using hlen
    subst hl
    simp only [Bool.and_eq_true, beq_iff_eq, decide_eq_true_eq] at hc
    obtain ⟨⟨c0, c1⟩, c2⟩ := hc
    obtain ⟨vx, vs1, rfl, i3, hS1⟩ := ck_cons hS
    obtain ⟨vi, vs2, rfl, i2, hS2⟩ := ck_cons hS1
    obtain ⟨vq, vs3, rfl, i1, hS3⟩ := ck_cons hS2
    obtain ⟨b, rfl, e1, e2, e3, e4, e5⟩ := ck_arr_ok c1 i1 i2
    subst e1
    obtain ⟨a, rfl⟩ := ck_long i3.1 c0
    have hW2 := ck_W_up (q := q.2.1.1.toNat) (j := b.toNat) (x := a) hW (fun z => by unfold ck_il at z; rw [if_neg (by omega)] at z; simp only [decide_eq_true_eq] at z; omega) (ck_prA hpA e5 (by omega))
    exact jx_last e2 (Prod.ext e5 rfl) e4.2 e3 e4.1 hd (hf _ _ _ c2 L _ _ (ck_keepL_ok hL ck_kC) (ck_keepS_ok ck_kC hS3) hW2)
  · rename_i q S1
    have hl : len = 1 := by simpa [ck_len] using hlen
    subst hl
    simp only [Bool.and_eq_true, beq_iff_eq, decide_eq_true_eq] at hc
    obtain ⟨⟨⟨⟨⟨⟨c1, c2⟩, c3⟩, c4⟩, c5⟩, c6⟩, c7⟩ := hc
    obtain ⟨v1, vs1, rfl, i1, hS1⟩ := ck_cons hS
    have hv : v1 = (2, (q.2.1.1.toNat : Int)) := by rw [ck_ref2 i1.1 c1, Int.toNat_of_nonneg c2]
    subst hv
    exact jx_alen (kd := (sp q.2.1.1.toNat).1.1) (n := (sp q.2.1.1.toNat).1.2) c3 rfl (by omega) hd (hf _ _ _ c7 L _ h hL ⟨ck_mk (Int.le_refl _) (Int.le_refl _) ⟨by omega, by omega⟩, hS1⟩ hW)
  · rename_i x
    have hl : len = 1 := by simpa [ck_len] using hlen
    subst hl
    simp only [Bool.and_eq_true, beq_iff_eq] at hc
    obtain ⟨c1, c2⟩ := hc
    obtain ⟨v1, vs1, rfl, i1, hS1⟩ := ck_cons hS
    have hz := ck_nil hS1
    subst hz
    obtain ⟨a, rfl, a1, a2, a3, -⟩ := ck_int i1.1 c1
    split at c2
    · next r =>
      simp only [Bool.and_eq_true, Bool.or_eq_true, decide_eq_true_eq] at c2
      have hq := hQ (some (0, a)) h (ck_sub1_ok c2.1 i1.1) hW
      rcases c2.2 with e | e
      · exact jx_ireturn hd e hq
      · exact jx_zreturn hd e.1.1 (by omega) hq
    · cases c2
  · rename_i x
    have hl : len = 1 := by simpa [ck_len] using hlen
    subst hl
    simp only [Bool.and_eq_true, beq_iff_eq] at hc
    obtain ⟨c1, c2⟩ := hc
    obtain ⟨v1, vs1, rfl, i1, hS1⟩ := ck_cons hS
    have hz := ck_nil hS1
    subst hz
    obtain ⟨a, rfl⟩ := ck_long i1.1 c1
    split at c2
    · next r =>
      simp only [Bool.and_eq_true, decide_eq_true_eq] at c2
      exact jx_lreturn hd c2.2 (hQ (some (1, a)) h (ck_sub1_ok c2.1 i1.1) hW)
    · cases c2
  · have hl : len = 1 := by simpa [ck_len] using hlen
    subst hl
    simp only [Bool.and_eq_true, decide_eq_true_eq] at hc
    have hz := ck_nil hS
    subst hz
    have hn : ret = none := by simpa using hc.1
    exact jx_return hd hc.2 (hQ none h (by rw [hn]; trivial) hW)
  · rename_i idx
    have hl : len = 3 := by simpa [ck_len] using hlen
    subst hl
    split at hc
    · next p hp =>
      simp only [Bool.and_eq_true, decide_eq_true_eq] at hc
      obtain ⟨hp2, hp1⟩ := hpl idx p hp
      have hm := hp1.2.2.1 hc.1
      rw [hp2] at hm
      exact cx_call_v G hss hf hm hd hc.2 hL hS hW
    · cases hc
  · rename_i idx
    have hl : len = 3 := by simpa [ck_len] using hlen
    subst hl
    split at hc
    · next p hp =>
      simp only [Bool.and_eq_true, Bool.or_eq_true, decide_eq_true_eq] at hc
      obtain ⟨hp2, hp1⟩ := hpl idx p hp
      rcases hc with hc | hc
      · have hm := hp1.2.2.1 hc.1
        rw [hp2] at hm
        exact cx_call_s hss hf hm hd hc.2 hL hS hW
      · obtain ⟨⟨c0, c1⟩, c2⟩ := hc
        have hm := hp1.2.2.2 c0
        rw [hp2] at hm
        split at c2
        · next y x S2 =>
          simp only [Bool.and_eq_true, beq_iff_eq, decide_eq_true_eq] at c2
          obtain ⟨⟨⟨d1, d2⟩, d3⟩, d4⟩ := c2
          obtain ⟨v2, vs1, rfl, i2, hS1⟩ := ck_cons hS
          obtain ⟨v1, vs2, rfl, i1, hS2⟩ := ck_cons hS1
          obtain ⟨b, rfl, -⟩ := ck_int i2.1 d2
          obtain ⟨a, rfl, -⟩ := ck_int i1.1 d1
          exact jx_mmax _ hm cl_mm.1 cl_mm.2.1 cl_mm.2.2 c1 (by rw [ck_wd_eq hS2]; exact d3) hd (Int32.ofInt_toInt _).symm (hf _ _ _ d4 L _ h hL ⟨ck_mkT (ck_ofr _), hS2⟩ hW)
        · cases c2
    · cases hc
  · cases hc
def cx_ex (ik ic : Nat) : Nat := if ik = 89 ∧ ic = 93 then 7 else if ik = 193 ∧ ic = 197 then 8 else if ik = 146 ∧ ic = 150 then 9 else 0
def cx_thr (dec : Nat → Option (Instr × Nat)) (own d pc : Nat) (S : List ck_v) (i : Instr) : Bool := match i, dec (pc + 4), dec (pc + 6) with
  | .new ik, some (.ldc is, _), some (.invokespecial ic, _) => decide (own = 11) && S.isEmpty && decide (6 ≤ d) && decide (dec pc = some (.new ik, 3)) && decide (dec (pc + 3) = some (.dup, 1)) && decide (dec (pc + 4) = some (.ldc is, 2)) && decide (dec (pc + 6) = some (.invokespecial ic, 3)) && decide (dec (pc + 9) = some (.athrow, 1)) && jx_L.any (fun q => q.1 == is) && decide (cx_ex ik ic ≠ 0)
  | _, _, _ => false
section CY
variable (sp : ja_S) (fi : Nat → Nat → Int × Int) (K : Nat) (mt : Nat → ck_M) (pf : Nat → Nat → Option ck_P) (kl : Nat → List ck_K) (ss : Nat → List ck_S) (hn : Nat → Nat × Int) (pr : Nat × Nat) (ci : Nat) (dec : Nat → Option (Instr × Nat)) (nL : Nat) (rt : Option FieldType) (d : Nat) (ret : Option ck_v)
def cx_run : Nat → Nat → ck_L → List ck_v → Bool
  | 0, _, _, _ => false
  | n + 1, pc, L, S => match dec pc with
    | some (i, len) => cx_thr dec ci d pc S i || ((ck_len i == 0 || len == ck_len i) && ck_one sp fi K mt pf kl ss hn pr ci nL rt d ret (cx_run n) pc L S i)
    | none => false
end CY
theorem cx_ex7 {ik ic : Nat} (h : cx_ex ik ic ≠ 0) : (ik = 89 ∧ ic = 93 ∧ cx_ex ik ic = 7) ∨ (ik = 193 ∧ ic = 197 ∧ cx_ex ik ic = 8) ∨ (ik = 146 ∧ ic = 150 ∧ cx_ex ik ic = 9) := by
  unfold cx_ex at h ⊢
  split
  · next e => exact Or.inl ⟨e.1, e.2, rfl⟩
  · next e1 =>
    rw [if_neg e1] at h
    split
    · next e => exact Or.inr (Or.inl ⟨e.1, e.2, rfl⟩)
    · next e2 =>
      rw [if_neg e2] at h
      split
      · next e => exact Or.inr (Or.inr ⟨e.1, e.2, rfl⟩)
      · next e3 => rw [if_neg e3] at h; exact absurd rfl h
theorem cx_thr_ok {l : Launch} {D : va_G} {cA : Nat → ClassId} {ad : Nat → Nat} {sp : ja_S} {K d : Nat} {own : String} {cc : ByteArray} {nL : Nat} {rt : Option FieldType} {dec : Nat → Option (Instr × Nat)} {ci pc : Nat} {i : Instr} {AS : List ck_v} {E : Nat → Int} {G : ck_F} {L : List (Nat × ja_V)} {S : List ja_V} {h : ja_H} {Q : Option ja_V → ja_H → Prop}
    (ho : ci = 11 → own = RX11) (hdec : ∀ pc e, dec pc = some e → decode cc pc = .ok e) (hc : cx_thr dec ci d pc AS i = true) (hS : ck_gS E G AS S) (hQ : ∀ r, (r = 7 ∨ r = 8 ∨ r = 9) → Q (some (r, 0)) h) : jx_J l D cA ad sp K d own cc nL rt pc L S h Q := by
  unfold cx_thr at hc
  split at hc
  · next ik is n1 ic n2 e4 e6 =>
    simp only [Bool.and_eq_true, decide_eq_true_eq, List.isEmpty_iff] at hc
    obtain ⟨⟨⟨⟨⟨⟨⟨⟨⟨c1, c2⟩, c3⟩, c4⟩, c5⟩, c6⟩, c7⟩, c8⟩, c9⟩, c10⟩ := hc
    subst c2
    have e := ck_nil hS
    subst e
    rw [ho c1]
    obtain ⟨q, hq, hi⟩ := List.any_eq_true.mp c9
    have hi : q.1 = is := eq_of_beq hi
    have hl : (is, q.2) ∈ jx_L := by rw [← hi]; exact hq
    rcases cx_ex7 c10 with ⟨rfl, rfl, -⟩ | ⟨rfl, rfl, -⟩ | ⟨rfl, rfl, -⟩
    · exact jx_thrown (r := 7) rfl (Or.inl rfl) (by decide +kernel) jx_ck7 jx_ci7 (jx_ats jx_at7 jx_ag7) hl c3 (hdec _ _ c4) (hdec _ _ c5) (hdec _ _ c6) (hdec _ _ c7) (hdec _ _ c8) (hQ 7 (by omega))
    · exact jx_thrown (r := 8) rfl (Or.inr (Or.inl rfl)) (by decide +kernel) jx_ck8 jx_ci8 (jx_ats jx_at8 jx_ag8) hl c3 (hdec _ _ c4) (hdec _ _ c5) (hdec _ _ c6) (hdec _ _ c7) (hdec _ _ c8) (hQ 8 (by omega))
    · exact jx_thrown (r := 9) rfl (Or.inr (Or.inr rfl)) (by decide +kernel) jx_ck9 jx_ci9 (jx_ats jx_at9 jx_ag9) hl c3 (hdec _ _ c4) (hdec _ _ c5) (hdec _ _ c6) (hdec _ _ c7) (hdec _ _ c8) (hQ 9 (by omega))
  · cases hc
section CZ
variable {l : Launch} {D : va_G} {cA : Nat → ClassId} {ad : Nat → Nat} {sp : ja_S} {fi : Nat → Nat → Int × Int} {K : Nat} {mt : Nat → ck_M} {pf : Nat → Nat → Option ck_P} {kl : Nat → List ck_K} {ss : Nat → List ck_S} {hn : Nat → Nat × Int} {pr : Nat × Nat} {ci : Nat} {own : String} {cc : ByteArray} {dec : Nat → Option (Instr × Nat)} {nL : Nat} {rt : Option FieldType} {d : Nat} {ret : Option ck_v} {v0 : Int} {Q : Option ja_V → ja_H → Prop}
theorem cx_run_ok (ho : ci = 11 → own = RX11) (G : ck_G sp fi K) (hpA : (sp pr.1).1.1 < 13) (hdec : ∀ pc e, dec pc = some e → decode cc pc = .ok e) (hpl : ∀ idx p, pf ci idx = some p → p.1 = idx ∧ ck_pok mt own p) (hkl : ∀ p ∈ kl ci, ck_kok own p) (hss : ∀ mid s, s ∈ ss mid → s.1 < d → ck_H l D cA ad sp fi K pr v0 (mt mid) s)
    (hQ : ∀ r h, ck_rok ret r → ck_W sp fi K pr v0 h → Q r h) (hQx : ∀ r h, (r = 7 ∨ r = 8 ∨ r = 9) → ck_W sp fi K pr v0 h → Q (some (r, 0)) h) {E : Nat → Int} :
    ∀ (n pc : Nat) (A : ck_L) (AS : List ck_v), cx_run sp fi K mt pf kl ss hn pr ci dec nL rt d ret n pc A AS = true → ∀ L S h, ck_gL E A (ck_at L h) → ck_gS E (ck_at L h) AS S → ck_W sp fi K pr v0 h → jx_J l D cA ad sp K d own cc nL rt pc L S h Q := by
  intro n
  induction n with
  | zero => intro pc A AS hr; cases hr
  | succ n ih =>
    intro pc A AS hr L S h hL hS hW
    unfold cx_run at hr
    split at hr
    · next i len hd =>
      rcases Bool.or_eq_true_iff.mp hr with hr | hr
      · exact cx_thr_ok ho hdec hr hS (fun r h9 => hQx r h h9 hW)
      · simp only [Bool.and_eq_true] at hr
        exact cx_one_ok G hpA hpl hkl hss (fun pc2 A2 AS2 hf => ih pc2 A2 AS2 hf) hQ (hdec _ _ hd) hr.1 hr.2 hL hS hW
    · cases hr
end CZ
/-- what is known of a method that may throw -/
def cx_H (l : Launch) (D : va_G) (cA : Nat → ClassId) (ad : Nat → Nat) (sp : ja_S) (fi : Nat → Nat → Int × Int) (K : Nat) (pr : Nat × Nat) (v0 : Int) (M : ck_M) (s : ck_S) : Prop :=
  ∀ (vals : List ja_V) (h : ja_H), ck_gS (fun _ => 0) (fun _ => none) s.2.1 vals → ck_W sp fi K pr v0 h → jx_M l D cA ad sp K s.1 M.1 M.2.1 M.2.2.1.1 M.2.2.1.2 vals h (fun r h' => (ck_rok s.2.2.1 r ∨ ∃ x, (x = 7 ∨ x = 8 ∨ x = 9) ∧ r = some (x, 0)) ∧ ck_W sp fi K pr v0 h')
def cx_meth (sp : ja_S) (fi : Nat → Nat → Int × Int) (K : Nat) (mt : Nat → ck_M) (pf : Nat → Nat → Option ck_P) (kl : Nat → List ck_K) (ss : Nat → List ck_S) (hn : Nat → Nat × Int) (pr : Nat × Nat) (fuel : Nat) (dec : Nat → Option (Instr × Nat)) (M : ck_M) (s : ck_S) : Bool :=
  cx_run sp fi K mt pf kl ss hn pr M.2.2.2.1.1 dec M.2.2.1.1 M.2.2.1.2 s.1 s.2.2.1 fuel 0 (ck_args 0 s.2.1) [] && decide (s.2.1.length ≤ 100)
theorem cx_meth_ok {l : Launch} {D : va_G} {cA : Nat → ClassId} {ad : Nat → Nat} {sp : ja_S} {fi : Nat → Nat → Int × Int} {K : Nat} {mt : Nat → ck_M} {pf : Nat → Nat → Option ck_P} {kl : Nat → List ck_K} {ss : Nat → List ck_S} {hn : Nat → Nat × Int} {pr : Nat × Nat} {v0 : Int} {fuel : Nat} {dec : Nat → Option (Instr × Nat)} {M : ck_M} {s : ck_S}
    (ho : M.2.2.2.1.1 = 11 → M.1.cls = RX11) (G : ck_G sp fi K) (hpA : (sp pr.1).1.1 < 13) (hdec : ∀ pc e, dec pc = some e → decode M.2.1 pc = .ok e) (hpl : ∀ idx p, pf M.2.2.2.1.1 idx = some p → p.1 = idx ∧ ck_pok mt M.1.cls p) (hkl : ∀ p ∈ kl M.2.2.2.1.1, ck_kok M.1.cls p) (hss : ∀ mid s2, s2 ∈ ss mid → s2.1 < s.1 → ck_H l D cA ad sp fi K pr v0 (mt mid) s2)
    (hc : cx_meth sp fi K mt pf kl ss hn pr fuel dec M s = true) : cx_H l D cA ad sp fi K pr v0 M s := by
  unfold cx_meth at hc
  simp only [Bool.and_eq_true, decide_eq_true_eq] at hc
  intro vals h hv hW
  exact cx_run_ok ho G hpA hdec hpl hkl hss (fun r h hr hW => ⟨Or.inl hr, hW⟩) (fun r h hr hW => ⟨Or.inr ⟨r, hr, rfl⟩, hW⟩) (E := fun _ => 0) fuel 0 _ _ hc.1 (ja_args 0 vals) [] h (fun j a ha => by
      obtain ⟨w, k1, k2⟩ := ck_args_g 0 hv j a ha
      have hj := ck_args_hi ha
      exact ⟨w, (ck_at_lo (by omega)).trans k1, k2⟩) trivial hW
