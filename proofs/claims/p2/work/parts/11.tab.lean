/-! the tables' words by their places: the list p / 256, in it the place p mod 256 -/
def ck_tbs : List (List Cond) := [k2_sels lw_privs_1, k2_sels lw_privs_2, k2_sels lw_privs_3, k2_sels lw_privs_4, k2_sels lw_privs_5, k2_sels lw_privs_6, k2_sels lw_privs_7, k2_sels lw_privs_8, k2_sels lw_privs_9, k2_sels lw_privs_10, k2_sels lw_privs_11, k2_sels lw_privs_12, k2_sels lw_privs_13, k2_sels lw_privs_14, k2_sels lw_privs_15, k2_sels lw_privs_16, k2_sels lw_privs_17, k2_sels lw_privs_18, k2_sels lw_privs_19, tables_1_1, tables_1_2, tables_1_3, tables_1_4, tables_1_5, tables_1_6, tables_1_7, tables_1_8, tables_1_9, tables_1_10, tables_1_11, tables_1_12, tables_1_13, tables_1_14]
def ck_tb (p : Nat) : Option Cond := (ck_tbs.getD (p / 256) [])[p % 256]?
theorem ck_tbp {w : Cond} (qs : List (MethodName × Nat)) (h : ∀ q ∈ qs, q ∈ lw_privs) (hw : w ∈ k2_sels qs) : w ∈ lw_tbl := by
  refine List.mem_append_left _ ?_
  obtain ⟨q, hq, rfl⟩ := List.mem_map.mp hw
  exact List.mem_map.mpr ⟨q, h q hq, rfl⟩
theorem ck_tbs_in : ∀ l ∈ ck_tbs, ∀ w ∈ l, w ∈ lw_tbl := by
  intro l hl w hw
  unfold ck_tbs at hl
  simp only [List.mem_cons, List.not_mem_nil, or_false] at hl
  rcases hl with rfl | rfl | rfl | rfl | rfl | rfl | rfl | rfl | rfl | rfl | rfl | rfl | rfl | rfl | rfl | rfl | rfl | rfl | rfl | rfl | rfl | rfl | rfl | rfl | rfl | rfl | rfl | rfl | rfl | rfl | rfl | rfl | rfl
  · exact ck_tbp _ (fun q => (fun h => List.mem_append_left _ h)) hw
  · exact ck_tbp _ (fun q => (fun h => List.mem_append_right _ (List.mem_append_left _ h))) hw
  · exact ck_tbp _ (fun q => (fun h => List.mem_append_right _ (List.mem_append_right _ (List.mem_append_left _ h)))) hw
  · exact ck_tbp _ (fun q => (fun h => List.mem_append_right _ (List.mem_append_right _ (List.mem_append_right _ (List.mem_append_left _ h))))) hw
  · exact ck_tbp _ (fun q => (fun h => List.mem_append_right _ (List.mem_append_right _ (List.mem_append_right _ (List.mem_append_right _ (List.mem_append_left _ h)))))) hw
  · exact ck_tbp _ (fun q => (fun h => List.mem_append_right _ (List.mem_append_right _ (List.mem_append_right _ (List.mem_append_right _ (List.mem_append_right _ (List.mem_append_left _ h))))))) hw
  · exact ck_tbp _ (fun q => (fun h => List.mem_append_right _ (List.mem_append_right _ (List.mem_append_right _ (List.mem_append_right _ (List.mem_append_right _ (List.mem_append_right _ (List.mem_append_left _ h)))))))) hw
  · exact ck_tbp _ (fun q => (fun h => List.mem_append_right _ (List.mem_append_right _ (List.mem_append_right _ (List.mem_append_right _ (List.mem_append_right _ (List.mem_append_right _ (List.mem_append_right _ (List.mem_append_left _ h))))))))) hw
  · exact ck_tbp _ (fun q => (fun h => List.mem_append_right _ (List.mem_append_right _ (List.mem_append_right _ (List.mem_append_right _ (List.mem_append_right _ (List.mem_append_right _ (List.mem_append_right _ (List.mem_append_right _ (List.mem_append_left _ h)))))))))) hw
  · exact ck_tbp _ (fun q => (fun h => List.mem_append_right _ (List.mem_append_right _ (List.mem_append_right _ (List.mem_append_right _ (List.mem_append_right _ (List.mem_append_right _ (List.mem_append_right _ (List.mem_append_right _ (List.mem_append_right _ (List.mem_append_left _ h))))))))))) hw
  · exact ck_tbp _ (fun q => (fun h => List.mem_append_right _ (List.mem_append_right _ (List.mem_append_right _ (List.mem_append_right _ (List.mem_append_right _ (List.mem_append_right _ (List.mem_append_right _ (List.mem_append_right _ (List.mem_append_right _ (List.mem_append_right _ (List.mem_append_left _ h)))))))))))) hw
  · exact ck_tbp _ (fun q => (fun h => List.mem_append_right _ (List.mem_append_right _ (List.mem_append_right _ (List.mem_append_right _ (List.mem_append_right _ (List.mem_append_right _ (List.mem_append_right _ (List.mem_append_right _ (List.mem_append_right _ (List.mem_append_right _ (List.mem_append_right _ (List.mem_append_left _ h))))))))))))) hw
  · exact ck_tbp _ (fun q => (fun h => List.mem_append_right _ (List.mem_append_right _ (List.mem_append_right _ (List.mem_append_right _ (List.mem_append_right _ (List.mem_append_right _ (List.mem_append_right _ (List.mem_append_right _ (List.mem_append_right _ (List.mem_append_right _ (List.mem_append_right _ (List.mem_append_right _ (List.mem_append_left _ h)))))))))))))) hw
  · exact ck_tbp _ (fun q => (fun h => List.mem_append_right _ (List.mem_append_right _ (List.mem_append_right _ (List.mem_append_right _ (List.mem_append_right _ (List.mem_append_right _ (List.mem_append_right _ (List.mem_append_right _ (List.mem_append_right _ (List.mem_append_right _ (List.mem_append_right _ (List.mem_append_right _ (List.mem_append_right _ (List.mem_append_left _ h))))))))))))))) hw
  · exact ck_tbp _ (fun q => (fun h => List.mem_append_right _ (List.mem_append_right _ (List.mem_append_right _ (List.mem_append_right _ (List.mem_append_right _ (List.mem_append_right _ (List.mem_append_right _ (List.mem_append_right _ (List.mem_append_right _ (List.mem_append_right _ (List.mem_append_right _ (List.mem_append_right _ (List.mem_append_right _ (List.mem_append_right _ (List.mem_append_left _ h)))))))))))))))) hw
  · exact ck_tbp _ (fun q => (fun h => List.mem_append_right _ (List.mem_append_right _ (List.mem_append_right _ (List.mem_append_right _ (List.mem_append_right _ (List.mem_append_right _ (List.mem_append_right _ (List.mem_append_right _ (List.mem_append_right _ (List.mem_append_right _ (List.mem_append_right _ (List.mem_append_right _ (List.mem_append_right _ (List.mem_append_right _ (List.mem_append_right _ (List.mem_append_left _ h))))))))))))))))) hw
  · exact ck_tbp _ (fun q => (fun h => List.mem_append_right _ (List.mem_append_right _ (List.mem_append_right _ (List.mem_append_right _ (List.mem_append_right _ (List.mem_append_right _ (List.mem_append_right _ (List.mem_append_right _ (List.mem_append_right _ (List.mem_append_right _ (List.mem_append_right _ (List.mem_append_right _ (List.mem_append_right _ (List.mem_append_right _ (List.mem_append_right _ (List.mem_append_right _ (List.mem_append_left _ h)))))))))))))))))) hw
  · exact ck_tbp _ (fun q => (fun h => List.mem_append_right _ (List.mem_append_right _ (List.mem_append_right _ (List.mem_append_right _ (List.mem_append_right _ (List.mem_append_right _ (List.mem_append_right _ (List.mem_append_right _ (List.mem_append_right _ (List.mem_append_right _ (List.mem_append_right _ (List.mem_append_right _ (List.mem_append_right _ (List.mem_append_right _ (List.mem_append_right _ (List.mem_append_right _ (List.mem_append_right _ (List.mem_append_left _ h))))))))))))))))))) hw
  · exact ck_tbp _ (fun q => (fun h => List.mem_append_right _ (List.mem_append_right _ (List.mem_append_right _ (List.mem_append_right _ (List.mem_append_right _ (List.mem_append_right _ (List.mem_append_right _ (List.mem_append_right _ (List.mem_append_right _ (List.mem_append_right _ (List.mem_append_right _ (List.mem_append_right _ (List.mem_append_right _ (List.mem_append_right _ (List.mem_append_right _ (List.mem_append_right _ (List.mem_append_right _ (List.mem_append_right _ (h)))))))))))))))))))) hw
  · exact List.mem_append_right _ ((fun h => List.mem_append_left _ h) hw)
  · exact List.mem_append_right _ ((fun h => List.mem_append_right _ (List.mem_append_left _ h)) hw)
  · exact List.mem_append_right _ ((fun h => List.mem_append_right _ (List.mem_append_right _ (List.mem_append_left _ h))) hw)
  · exact List.mem_append_right _ ((fun h => List.mem_append_right _ (List.mem_append_right _ (List.mem_append_right _ (List.mem_append_left _ h)))) hw)
  · exact List.mem_append_right _ ((fun h => List.mem_append_right _ (List.mem_append_right _ (List.mem_append_right _ (List.mem_append_right _ (List.mem_append_left _ h))))) hw)
  · exact List.mem_append_right _ ((fun h => List.mem_append_right _ (List.mem_append_right _ (List.mem_append_right _ (List.mem_append_right _ (List.mem_append_right _ (List.mem_append_left _ h)))))) hw)
  · exact List.mem_append_right _ ((fun h => List.mem_append_right _ (List.mem_append_right _ (List.mem_append_right _ (List.mem_append_right _ (List.mem_append_right _ (List.mem_append_right _ (List.mem_append_left _ h))))))) hw)
  · exact List.mem_append_right _ ((fun h => List.mem_append_right _ (List.mem_append_right _ (List.mem_append_right _ (List.mem_append_right _ (List.mem_append_right _ (List.mem_append_right _ (List.mem_append_right _ (List.mem_append_left _ h)))))))) hw)
  · exact List.mem_append_right _ ((fun h => List.mem_append_right _ (List.mem_append_right _ (List.mem_append_right _ (List.mem_append_right _ (List.mem_append_right _ (List.mem_append_right _ (List.mem_append_right _ (List.mem_append_right _ (List.mem_append_left _ h))))))))) hw)
  · exact List.mem_append_right _ ((fun h => List.mem_append_right _ (List.mem_append_right _ (List.mem_append_right _ (List.mem_append_right _ (List.mem_append_right _ (List.mem_append_right _ (List.mem_append_right _ (List.mem_append_right _ (List.mem_append_right _ (List.mem_append_left _ h)))))))))) hw)
  · exact List.mem_append_right _ ((fun h => List.mem_append_right _ (List.mem_append_right _ (List.mem_append_right _ (List.mem_append_right _ (List.mem_append_right _ (List.mem_append_right _ (List.mem_append_right _ (List.mem_append_right _ (List.mem_append_right _ (List.mem_append_right _ (List.mem_append_left _ h))))))))))) hw)
  · exact List.mem_append_right _ ((fun h => List.mem_append_right _ (List.mem_append_right _ (List.mem_append_right _ (List.mem_append_right _ (List.mem_append_right _ (List.mem_append_right _ (List.mem_append_right _ (List.mem_append_right _ (List.mem_append_right _ (List.mem_append_right _ (List.mem_append_right _ (List.mem_append_left _ h)))))))))))) hw)
  · exact List.mem_append_right _ ((fun h => List.mem_append_right _ (List.mem_append_right _ (List.mem_append_right _ (List.mem_append_right _ (List.mem_append_right _ (List.mem_append_right _ (List.mem_append_right _ (List.mem_append_right _ (List.mem_append_right _ (List.mem_append_right _ (List.mem_append_right _ (List.mem_append_right _ (List.mem_append_left _ h))))))))))))) hw)
  · exact List.mem_append_right _ ((fun h => List.mem_append_right _ (List.mem_append_right _ (List.mem_append_right _ (List.mem_append_right _ (List.mem_append_right _ (List.mem_append_right _ (List.mem_append_right _ (List.mem_append_right _ (List.mem_append_right _ (List.mem_append_right _ (List.mem_append_right _ (List.mem_append_right _ (List.mem_append_right _ (h)))))))))))))) hw)
theorem ck_tb_in {p : Nat} {w : Cond} (h : ck_tb p = some w) : w ∈ lw_tbl := by
  unfold ck_tb at h
  rcases Nat.lt_or_ge (p / 256) ck_tbs.length with q | q
  · rw [List.getD_eq_getElem?_getD, List.getElem?_eq_getElem q] at h
    exact ck_tbs_in _ (List.getElem_mem q) w (List.mem_of_getElem? h)
  · rw [List.getD_eq_getElem?_getD, List.getElem?_eq_none q] at h
    simp at h
def ck_beq (a b : ByteArray) : Bool := a.data.toList == b.data.toList
theorem ck_beq_ok {a b : ByteArray} (h : ck_beq a b = true) : a = b := by
  unfold ck_beq at h
  have h1 := eq_of_beq h
  cases a; cases b
  congr 1
  exact Array.toList_inj.mp h1
def ck_isCode (w : Option Cond) (y : MethodName) (c : ByteArray) (n : Nat) (r : Option FieldType) : Bool := match w with
  | some (.code y2 c2 n2 r2) => decide (y2 = y) && ck_beq c2 c && decide (n2 = n) && decide (r2 = r)
  | _ => false
theorem ck_isCode_ok {w : Option Cond} {y : MethodName} {c : ByteArray} {n : Nat} {r : Option FieldType} (h : ck_isCode w y c n r = true) : w = some (.code y c n r) := by
  unfold ck_isCode at h
  split at h
  · next y2 c2 n2 r2 =>
    simp only [Bool.and_eq_true, decide_eq_true_eq] at h
    obtain ⟨⟨⟨h1, h2⟩, h3⟩, h4⟩ := h
    rw [h1, ck_beq_ok h2, h3, h4]
  · cases h
/-! tables of methods and pools, checked against the tables' words -/
def ck_own (ci : Nat) : String := match ja_cl[ci]? with
  | some r => r.1
  | none => ""
def ck_mchk (M : ck_M) : Bool :=
  ck_isCode (ck_tb M.2.2.2.2.1) M.1 M.2.1 M.2.2.1.1 M.2.2.1.2 && decide (ck_tb (M.2.2.2.2.2.2.2) = some (Cond.initialized M.1.cls)) &&
  decide (M.1.cls ≠ "java/lang/invoke/MethodHandle") && decide (M.1.cls ≠ "java/lang/invoke/VarHandle") && decide ((parseMethodDescriptor M.1.desc).map (fun d => d.parameters.length) = some M.2.2.2.1.2.1) && plainName M.1.cls &&
  (if M.2.2.2.1.2.2 = true then decide (ck_tb (M.2.2.2.2.2.1) = some (Cond.static M.1)) else decide (ck_tb (M.2.2.2.2.2.1) = some (Cond.instanceMethod M.1)) && decide (ck_tb (M.2.2.2.2.2.2.1) = some (Cond.selects M.1.cls M.1 M.1)) && decide (ck_own M.2.2.2.1.1 = M.1.cls) && decide (M.2.2.2.1.1 < 13))
theorem ck_own_at {ci : Nat} (h : ci < 13) : ∃ r, ja_cl[ci]? = some r ∧ ck_own ci = r.1 := by
  have hl : ci < ja_cl.length := h
  refine ⟨ja_cl[ci], List.getElem?_eq_getElem hl, ?_⟩
  unfold ck_own
  rw [List.getElem?_eq_getElem hl]
theorem ck_mchk_ok {M : ck_M} (h : ck_mchk M = true) : ck_mok M := by
  unfold ck_mchk at h
  simp only [Bool.and_eq_true, decide_eq_true_eq, ne_eq] at h
  obtain ⟨⟨⟨⟨⟨⟨h1, h2⟩, h3⟩, h4⟩, h5⟩, h6⟩, h7⟩ := h
  refine ⟨ja_m (ck_tb_in (ck_isCode_ok h1)) rfl, ja_m (ck_tb_in h2) rfl, ⟨h3, h4, h5, h6⟩, ?_⟩
  split
  · next e =>
    rw [if_pos e] at h7
    simp only [decide_eq_true_eq] at h7
    exact ja_m (ck_tb_in h7) rfl
  · next e =>
    rw [if_neg e] at h7
    simp only [Bool.and_eq_true, decide_eq_true_eq] at h7
    obtain ⟨⟨⟨g1, g2⟩, g3⟩, g4⟩ := h7
    obtain ⟨r, hr, ho⟩ := ck_own_at g4
    exact ⟨ja_m (ck_tb_in g1) rfl, ja_m (ck_tb_in g2) rfl, r.2.1, r.2.2, by rw [hr, ← g3, ho]⟩
def ck_p0 (ci : Nat) (p : ck_P) : Bool := match ja_cl[p.2.2.1]? with
  | some r => decide (ck_tb (p.2.2.2.2) = some (Cond.fieldLink (ck_own ci) p.1 (r.2.1 p.2.2.2.1).1 (r.2.1 p.2.2.2.1).2.1 (r.2.1 p.2.2.2.1).2.2.1))
  | none => false
def ck_p1 (ci : Nat) (p : ck_P) : Bool := match ja_cl[p.2.2.1]? with
  | some r => decide (ck_tb (p.2.2.2.2) = some (Cond.fieldLinkNest (ck_own ci) p.1 (r.2.1 p.2.2.2.1).1 (r.2.1 p.2.2.2.1).2.1 (r.2.1 p.2.2.2.1).2.2.1 "WeaveHouse"))
  | none => false
def ck_pchk (mt : Nat → ck_M) (ci : Nat) (p : ck_P) : Bool := if p.2.1 = 0 then ck_p0 ci p else if p.2.1 = 1 then ck_p1 ci p else if p.2.1 = 2 then decide (ck_tb (p.2.2.2.2) = some (Cond.methodLink (ck_own ci) p.1 (mt p.2.2.1).1)) else if p.2.1 = 3 then decide (ck_tb (p.2.2.2.2) = some (Cond.methodLink (ck_own ci) p.1 Lib.Math.max.name)) else false
theorem ck_pchk_ok {mt : Nat → ck_M} {ci : Nat} {own : String} {p : ck_P} (ho : ck_own ci = own) (hm : ∀ mid, ck_mok (mt mid)) (h : ck_pchk mt ci p = true) : ck_pok mt own p := by
  subst ho
  unfold ck_pchk at h
  split at h
  · next e =>
    refine ⟨fun _ => ?_, fun q => (by omega), fun q => (by omega), fun q => (by omega)⟩
    unfold ck_p0 at h
    split at h
    · next r hr =>
      simp only [decide_eq_true_eq] at h
      exact ⟨r, hr, ja_m (ck_tb_in h) rfl⟩
    · cases h
  · split at h
    · next e0 e =>
      refine ⟨fun q => (by omega), fun _ => ?_, fun q => (by omega), fun q => (by omega)⟩
      unfold ck_p1 at h
      split at h
      · next r hr =>
        simp only [decide_eq_true_eq] at h
        exact ⟨r, hr, ck_tb_in h⟩
      · cases h
    · split at h
      · next e0 e1 e =>
        refine ⟨fun q => (by omega), fun q => (by omega), fun _ => ?_, fun q => (by omega)⟩
        simp only [decide_eq_true_eq] at h
        exact ⟨ja_m (ck_tb_in h) rfl, hm _⟩
      · split at h
        · next e0 e1 e2 e =>
          refine ⟨fun q => (by omega), fun q => (by omega), fun q => (by omega), fun _ => ?_⟩
          simp only [decide_eq_true_eq] at h
          exact ja_m (ck_tb_in h) rfl
        · cases h
def ck_kchk (ci : Nat) (p : ck_K) : Bool := if p.2.1 = 0 then decide (ck_tb (p.2.2.2) = some (Cond.constant (ck_own ci) p.1 (Int32.ofInt p.2.2.1))) else if p.2.1 = 1 then decide (ck_tb (p.2.2.2) = some (Cond.constantLong (ck_own ci) p.1 (Int64.ofInt p.2.2.1))) else false
theorem ck_kchk_ok {ci : Nat} {own : String} {p : ck_K} (ho : ck_own ci = own) (h : ck_kchk ci p = true) : ck_kok own p := by
  subst ho
  unfold ck_kchk at h
  split at h
  · next e =>
    refine ⟨fun _ => ?_, fun q => (by omega)⟩
    simp only [decide_eq_true_eq] at h
    exact ja_m (ck_tb_in h) rfl
  · split at h
    · next e0 e =>
      refine ⟨fun q => (by omega), fun _ => ?_⟩
      simp only [decide_eq_true_eq] at h
      exact ⟨_, ja_m (ck_tb_in h) rfl⟩
    · cases h
theorem ck_pf_ok {mt : Nat → ck_M} {ci N : Nat} {own : String} {f : Nat → Option ck_P} (ho : ck_own ci = own) (hm : ∀ mid, ck_mok (mt mid)) (hN : ∀ i, N ≤ i → f i = none)
    (h : (List.range N).all (fun i => match f i with | some p => p.1 == i && ck_pchk mt ci p | none => true) = true) : ∀ i p, f i = some p → p.1 = i ∧ ck_pok mt own p := by
  intro i p hp
  have hi : i < N := by
    rcases Nat.lt_or_ge i N with q | q
    · exact q
    · rw [hN i q] at hp; cases hp
  have h1 := List.all_eq_true.mp h i (List.mem_range.mpr hi)
  rw [hp] at h1
  simp only [Bool.and_eq_true, beq_iff_eq] at h1
  exact ⟨h1.1, ck_pchk_ok ho hm h1.2⟩
theorem ck_dec_ok {cc : ByteArray} {N : Nat} {f : Nat → Option (Instr × Nat)} (hN : ∀ i, N ≤ i → f i = none)
    (h : (List.range N).all (fun pc => match f pc with | some e => decide (decode cc pc = .ok e) | none => true) = true) : ∀ pc e, f pc = some e → decode cc pc = .ok e := by
  intro i p hp
  have hi : i < N := by
    rcases Nat.lt_or_ge i N with q | q
    · exact q
    · rw [hN i q] at hp; cases hp
  have h1 := List.all_eq_true.mp h i (List.mem_range.mpr hi)
  rw [hp] at h1
  simpa using h1
theorem ck_chunks {α : Type} {l : List α} {P : α → Bool} {n m : Nat} (hn : 0 < n) (h : ∀ k, k < m → ((l.drop (n * k)).take n).all P = true) (hl : l.length ≤ n * m) : l.all P = true := by
  rw [List.all_eq_true]
  intro x hx
  obtain ⟨i, hi, rfl⟩ := List.getElem_of_mem hx
  have h1 := Nat.div_add_mod i n
  have h2 := Nat.mod_lt i hn
  have hk : i / n < m := (Nat.div_lt_iff_lt_mul hn).mpr (by rw [Nat.mul_comm]; omega)
  refine List.all_eq_true.mp (h (i / n) hk) _ ?_
  refine List.mem_of_getElem? (i := i % n) ?_
  rw [List.getElem?_take, if_pos h2, List.getElem?_drop, h1]
  exact List.getElem?_eq_getElem hi
