/-! tables of methods and pools, checked against the tables' words -/
def ck_own (ci : Nat) : String := match ja_cl[ci]? with
  | some r => r.1
  | none => ""
def ck_mchk (M : ck_M) : Bool :=
  decide (lw_tbl[M.2.2.2.2.1]? = some (Cond.code M.1 M.2.1 M.2.2.1.1 M.2.2.1.2)) && decide (lw_tbl[M.2.2.2.2.2.2.2]? = some (Cond.initialized M.1.cls)) &&
  decide (M.1.cls ≠ "java/lang/invoke/MethodHandle") && decide (M.1.cls ≠ "java/lang/invoke/VarHandle") && decide ((parseMethodDescriptor M.1.desc).map (fun d => d.parameters.length) = some M.2.2.2.1.2.1) && plainName M.1.cls &&
  (if M.2.2.2.1.2.2 = true then decide (lw_tbl[M.2.2.2.2.2.1]? = some (Cond.static M.1)) else decide (lw_tbl[M.2.2.2.2.2.1]? = some (Cond.instanceMethod M.1)) && decide (lw_tbl[M.2.2.2.2.2.2.1]? = some (Cond.selects M.1.cls M.1 M.1)) && decide (ck_own M.2.2.2.1.1 = M.1.cls) && decide (M.2.2.2.1.1 < 13))
theorem ck_own_at {ci : Nat} (h : ci < 13) : ∃ r, ja_cl[ci]? = some r ∧ ck_own ci = r.1 := by
  have hl : ci < ja_cl.length := h
  refine ⟨ja_cl[ci], List.getElem?_eq_getElem hl, ?_⟩
  unfold ck_own
  rw [List.getElem?_eq_getElem hl]
theorem ck_mchk_ok {M : ck_M} (h : ck_mchk M = true) : ck_mok M := by
  unfold ck_mchk at h
  simp only [Bool.and_eq_true, decide_eq_true_eq, ne_eq] at h
  obtain ⟨⟨⟨⟨⟨⟨h1, h2⟩, h3⟩, h4⟩, h5⟩, h6⟩, h7⟩ := h
  refine ⟨ja_m (List.mem_of_getElem? h1) rfl, ja_m (List.mem_of_getElem? h2) rfl, ⟨h3, h4, h5, h6⟩, ?_⟩
  split
  · next e =>
    rw [if_pos e] at h7
    simp only [decide_eq_true_eq] at h7
    exact ja_m (List.mem_of_getElem? h7) rfl
  · next e =>
    rw [if_neg e] at h7
    simp only [Bool.and_eq_true, decide_eq_true_eq] at h7
    obtain ⟨⟨⟨g1, g2⟩, g3⟩, g4⟩ := h7
    obtain ⟨r, hr, ho⟩ := ck_own_at g4
    exact ⟨ja_m (List.mem_of_getElem? g1) rfl, ja_m (List.mem_of_getElem? g2) rfl, r.2.1, r.2.2, by rw [hr, ← g3, ho]⟩
def ck_p0 (ci : Nat) (p : ck_P) : Bool := match ja_cl[p.2.2.1]? with
  | some r => decide (lw_tbl[p.2.2.2.2]? = some (Cond.fieldLink (ck_own ci) p.1 (r.2.1 p.2.2.2.1).1 (r.2.1 p.2.2.2.1).2.1 (r.2.1 p.2.2.2.1).2.2.1))
  | none => false
def ck_p1 (ci : Nat) (p : ck_P) : Bool := match ja_cl[p.2.2.1]? with
  | some r => decide (lw_tbl[p.2.2.2.2]? = some (Cond.fieldLinkNest (ck_own ci) p.1 (r.2.1 p.2.2.2.1).1 (r.2.1 p.2.2.2.1).2.1 (r.2.1 p.2.2.2.1).2.2.1 "WeaveHouse"))
  | none => false
def ck_pchk (mt : Nat → ck_M) (ci : Nat) (p : ck_P) : Bool := if p.2.1 = 0 then ck_p0 ci p else if p.2.1 = 1 then ck_p1 ci p else if p.2.1 = 2 then decide (lw_tbl[p.2.2.2.2]? = some (Cond.methodLink (ck_own ci) p.1 (mt p.2.2.1).1)) else false
theorem ck_pchk_ok {mt : Nat → ck_M} {ci : Nat} {own : String} {p : ck_P} (ho : ck_own ci = own) (hm : ∀ mid, ck_mok (mt mid)) (h : ck_pchk mt ci p = true) : ck_pok mt own p := by
  subst ho
  unfold ck_pchk at h
  split at h
  · next e =>
    refine ⟨fun _ => ?_, fun q => (by omega), fun q => (by omega)⟩
    unfold ck_p0 at h
    split at h
    · next r hr =>
      simp only [decide_eq_true_eq] at h
      exact ⟨r, hr, ja_m (List.mem_of_getElem? h) rfl⟩
    · cases h
  · split at h
    · next e0 e =>
      refine ⟨fun q => (by omega), fun _ => ?_, fun q => (by omega)⟩
      unfold ck_p1 at h
      split at h
      · next r hr =>
        simp only [decide_eq_true_eq] at h
        exact ⟨r, hr, List.mem_of_getElem? h⟩
      · cases h
    · split at h
      · next e0 e1 e =>
        refine ⟨fun q => (by omega), fun q => (by omega), fun _ => ?_⟩
        simp only [decide_eq_true_eq] at h
        exact ⟨ja_m (List.mem_of_getElem? h) rfl, hm _⟩
      · cases h
def ck_kchk (ci : Nat) (p : ck_K) : Bool := if p.2.1 = 0 then decide (lw_tbl[p.2.2.2]? = some (Cond.constant (ck_own ci) p.1 (Int32.ofInt p.2.2.1))) else if p.2.1 = 1 then decide (lw_tbl[p.2.2.2]? = some (Cond.constantLong (ck_own ci) p.1 (Int64.ofInt p.2.2.1))) else false
theorem ck_kchk_ok {ci : Nat} {own : String} {p : ck_K} (ho : ck_own ci = own) (h : ck_kchk ci p = true) : ck_kok own p := by
  subst ho
  unfold ck_kchk at h
  split at h
  · next e =>
    refine ⟨fun _ => ?_, fun q => (by omega)⟩
    simp only [decide_eq_true_eq] at h
    exact ja_m (List.mem_of_getElem? h) rfl
  · split at h
    · next e0 e =>
      refine ⟨fun q => (by omega), fun _ => ?_⟩
      simp only [decide_eq_true_eq] at h
      exact ⟨_, ja_m (List.mem_of_getElem? h) rfl⟩
    · cases h
theorem ck_pf_ok {mt : Nat → ck_M} {ci N : Nat} {own : String} {f : Nat → Option ck_P} (ho : ck_own ci = own) (hm : ∀ mid, ck_mok (mt mid)) (hN : ∀ i, N ≤ i → f i = none)
    (h : (List.range N).all (fun i => match f i with | some p => p.1 == i && ck_pchk mt ci p | none => true) = true) : ∀ i p, f i = some p → p.1 = i ∧ ck_pok mt own p := by
  intro i p hp
  have hi : i < N := by
    rcases Nat.lt_or_ge i N with q | q
    · exact q
    · rw [hN i q] at hp; cases hp
  have h1 := List.all_eq_true.mp h i (List.mem_range.mpr hi)
  rw [hp] at h1
  simp only [Bool.and_eq_true, beq_iff_eq] at h1
  exact ⟨h1.1, ck_pchk_ok ho hm h1.2⟩
theorem ck_dec_ok {cc : ByteArray} {N : Nat} {f : Nat → Option (Instr × Nat)} (hN : ∀ i, N ≤ i → f i = none)
    (h : (List.range N).all (fun pc => match f pc with | some e => decide (decode cc pc = .ok e) | none => true) = true) : ∀ pc e, f pc = some e → decode cc pc = .ok e := by
  intro i p hp
  have hi : i < N := by
    rcases Nat.lt_or_ge i N with q | q
    · exact q
    · rw [hN i q] at hp; cases hp
  have h1 := List.all_eq_true.mp h i (List.mem_range.mpr hi)
  rw [hp] at h1
  simpa using h1
