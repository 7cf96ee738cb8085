/-! the checker's soundness: ranks, certificates, methods -/
def ck_V (L : ck_F) (i : Nat) : Int := match L i with
  | some v => v.2
  | none => 0
def ck_ci (V : Nat → Int) (q : Nat × Int × Nat) : Int := if q.1 = 1000 then q.2.1 else if q.2.2 = 0 then q.2.1 - V q.1 else V q.1 - q.2.1
def ck_enc (V : Nat → Int) : Nat → List (Nat × Int × Nat) → Nat
  | 0, _ => 0
  | _ + 1, [] => 0
  | T + 1, q :: r => (ck_ci V q).toNat * 8589934592 ^ T + ck_enc V T r
theorem ck_enc_lt (V : Nat → Int) : ∀ (T : Nat) (r : List (Nat × Int × Nat)), (∀ q ∈ r, 0 ≤ ck_ci V q ∧ ck_ci V q < 8589934592) → ck_enc V T r < 8589934592 ^ T
  | 0, _, _ => by simp [ck_enc]
  | T + 1, [], _ => by
    show 0 < _
    exact Nat.pow_pos (by decide)
  | T + 1, q :: r, h => by
    have h1 := ck_enc_lt V T r (fun q hq => h q (List.mem_cons_of_mem _ hq))
    have h2 := h q List.mem_cons_self
    have h3 : (ck_ci V q).toNat + 1 ≤ 8589934592 := by omega
    have h4 := Nat.mul_le_mul_right (8589934592 ^ T) h3
    show (ck_ci V q).toNat * 8589934592 ^ T + ck_enc V T r < _
    rw [Nat.pow_succ, Nat.mul_comm (8589934592 ^ T)]
    rw [Nat.add_mul, Nat.one_mul] at h4
    omega
theorem ck_enc_step {V E : Nat → Int} {T : Nat} {q q2 : Nat × Int × Nat} {r r2 : List (Nat × Int × Nat)} (h0 : 0 ≤ ck_ci V q2) (h1 : ck_ci V q2 < ck_ci E q) (h2 : ∀ q ∈ r2, 0 ≤ ck_ci V q ∧ ck_ci V q < 8589934592) : ck_enc V (T + 1) (q2 :: r2) < ck_enc E (T + 1) (q :: r) := by
  have h3 := ck_enc_lt V T r2 h2
  have h4 : (ck_ci V q2).toNat + 1 ≤ (ck_ci E q).toNat := by omega
  have h5 := Nat.mul_le_mul_right (8589934592 ^ T) h4
  rw [Nat.add_mul, Nat.one_mul] at h5
  show (ck_ci V q2).toNat * 8589934592 ^ T + ck_enc V T r2 < (ck_ci E q).toNat * 8589934592 ^ T + ck_enc E T r
  omega
theorem ck_lex_ok {E : Nat → Int} {A : ck_L} {L : ck_F} (hL : ck_gL E A L) : ∀ (T : Nat) (r r2 : List (Nat × Int × Nat)), r2.length ≤ T → (∀ q ∈ r2, 0 ≤ ck_ci (ck_V L) q ∧ ck_ci (ck_V L) q < 8589934592) → ck_lex A r r2 = true → ck_enc (ck_V L) T r2 < ck_enc E T r
  | _, [], _, _, _, h => by cases h
  | _, _ :: _, [], _, _, h => by cases h
  | 0, q :: r, q2 :: r2, hl, _, _ => by simp at hl
  | T + 1, (i, b, s) :: r, (i2, b2, s2) :: r2, hl, hb, h => by
    have hb0 := hb _ List.mem_cons_self
    have hbr : ∀ q ∈ r2, 0 ≤ ck_ci (ck_V L) q ∧ ck_ci (ck_V L) q < 8589934592 := fun q hq => hb q (List.mem_cons_of_mem _ hq)
    have hlr : r2.length ≤ T := by simpa using hl
    unfold ck_lex at h
    by_cases hi : i = 1000
    · rw [if_pos (by simpa using hi)] at h
      simp only [Bool.and_eq_true, Bool.or_eq_true, beq_iff_eq, decide_eq_true_eq] at h
      obtain ⟨e2, h⟩ := h
      subst hi; subst e2
      rcases h with h | ⟨h, h'⟩
      · exact ck_enc_step hb0.1 h hbr
      · subst h
        have := ck_lex_ok hL T r r2 hlr hbr h'
        show (ck_ci (ck_V L) (1000, b2, s2)).toNat * _ + _ < (ck_ci E (1000, b2, s)).toNat * _ + _
        have e : ck_ci (ck_V L) (1000, b2, s2) = ck_ci E (1000, b2, s) := rfl
        rw [e]
        omega
    · rw [if_neg (by simpa using hi)] at h
      simp only [Bool.and_eq_true, beq_iff_eq, decide_eq_true_eq] at h
      obtain ⟨⟨⟨e1, e2⟩, e3⟩, h⟩ := h
      subst e1; subst e2; subst e3
      split at h
      · next a ha =>
        simp only [Bool.and_eq_true, Bool.or_eq_true, beq_iff_eq, decide_eq_true_eq] at h
        obtain ⟨⟨t0, t1⟩, h⟩ := h
        obtain ⟨v, g1, g2⟩ := hL i2 a ha
        obtain ⟨x, rfl, -, -, -, hx, -⟩ := ck_int g2 t0
        have hV : ck_V L i2 = E i2 + a.2.2.2.1.2 := by
          unfold ck_V
          rw [g1]
          exact hx i2 t1
        have ec : ck_ci E (i2, b2, s2) = if s2 = 0 then b2 - E i2 else E i2 - b2 := by unfold ck_ci; rw [if_neg hi]
        have ec2 : ck_ci (ck_V L) (i2, b2, s2) = if s2 = 0 then b2 - (E i2 + a.2.2.2.1.2) else (E i2 + a.2.2.2.1.2) - b2 := by unfold ck_ci; rw [if_neg hi, hV]
        rcases h with h | ⟨h, h'⟩
        · refine ck_enc_step hb0.1 ?_ hbr
          rw [ec, ec2]
          split at h <;> split <;> omega
        · have := ck_lex_ok hL T r r2 hlr hbr h'
          show (ck_ci (ck_V L) (i2, b2, s2)).toNat * _ + _ < (ck_ci E (i2, b2, s2)).toNat * _ + _
          have e : ck_ci (ck_V L) (i2, b2, s2) = ck_ci E (i2, b2, s2) := by rw [ec, ec2, h, Int.add_zero]
          rw [e]
          omega
      · cases h
theorem ck_okb {E : Nat → Int} {c : ck_C} {L : ck_F} (hc : ck_okC c = true) (hL : ck_gL E c.2.1 L) : c.2.2.2.length ≤ 8 ∧ ∀ q ∈ c.2.2.2, 0 ≤ ck_ci (ck_V L) q ∧ ck_ci (ck_V L) q < 8589934592 := by
  unfold ck_okC at hc
  simp only [Bool.and_eq_true, decide_eq_true_eq] at hc
  obtain ⟨⟨⟨h1, h2⟩, -⟩, -⟩ := hc
  refine ⟨h1, fun q hq => ?_⟩
  have h3 := List.all_eq_true.mp h2 q hq
  unfold ck_ci
  split at h3
  · next e =>
    rw [if_pos (by simpa using e)]
    simpa using h3
  · next e =>
    rw [if_neg (by simpa using e)]
    split at h3
    · next a ha =>
      obtain ⟨v, g1, g2⟩ := hL _ a ha
      simp only [Bool.and_eq_true, beq_iff_eq] at h3
      obtain ⟨x, rfl, x1, x2, -⟩ := ck_int g2 h3.1
      have hV : ck_V L q.1 = x := by unfold ck_V; rw [g1]
      rw [hV]
      have h4 := h3.2
      split at h4
      · next e2 =>
        rw [if_pos e2]
        simp only [Bool.and_eq_true, decide_eq_true_eq] at h4
        omega
      · next e2 =>
        rw [if_neg e2]
        simp only [Bool.and_eq_true, decide_eq_true_eq] at h4
        omega
    · cases h3
section CR
variable {l : Launch} {D : va_G} {cA : Nat → ClassId} {ad : Nat → Nat} {sp : ja_S} {fi : Nat → Nat → Int × Int} {K : Nat} {mt : Nat → ck_M} {pf : Nat → Nat → Option ck_P} {kl : Nat → List ck_K} {ss : Nat → List ck_S} {hn : Nat → Nat × Int} {pr : Nat × Nat} {ci : Nat} {own : String} {cc : ByteArray} {dec : Nat → Option (Instr × Nat)} {nL : Nat} {rt : Option FieldType} {d : Nat} {ret : Option ck_v} {v0 : Int} {Q : Option ja_V → ja_H → Prop} {cs : List ck_C}
theorem ck_run_ok (G : ck_G sp fi K) (hpA : (sp pr.1).1.1 < 13) (hdec : ∀ pc e, dec pc = some e → decode cc pc = .ok e) (hpl : ∀ idx p, pf ci idx = some p → p.1 = idx ∧ ck_pok mt own p) (hkl : ∀ p ∈ kl ci, ck_kok own p) (hss : ∀ mid s, s ∈ ss mid → s.1 < d → ck_H l D cA ad sp fi K pr v0 (mt mid) s)
    (hQ : ∀ r h, ck_rok ret r → ck_W sp fi K pr v0 h → Q r h) (hok : ∀ c ∈ cs, ck_okC c = true) {E : Nat → Int} {lx : List (Nat × Int × Nat)}
    (hcs : ∀ c ∈ cs, ∀ L S h, ck_gL (fun _ => 0) c.2.1 (ck_at L h) → ck_gS (fun _ => 0) (fun _ => none) c.2.2.1 S → ck_W sp fi K pr v0 h → ck_enc (ck_V (ck_at L h)) 8 c.2.2.2 < ck_enc E 8 lx → ja_J l D cA ad sp K d own cc nL rt c.1 L S h Q) :
    ∀ (n pc : Nat) (A : ck_L) (AS : List ck_v), ck_run sp fi K mt pf kl ss hn pr ci dec nL rt d ret cs lx n pc A AS = true → ∀ L S h, ck_gL E A (ck_at L h) → ck_gS E (ck_at L h) AS S → ck_W sp fi K pr v0 h → ja_J l D cA ad sp K d own cc nL rt pc L S h Q := by
  intro n
  induction n with
  | zero => intro pc A AS hr; cases hr
  | succ n ih =>
    intro pc A AS hr L S h hL hS hW
    unfold ck_run at hr
    split at hr
    · next i len hd =>
      simp only [Bool.and_eq_true] at hr
      refine ck_one_ok G hpA hpl hkl hss ?_ hQ (hdec _ _ hd) hr.1 hr.2 hL hS hW
      intro pc2 A2 AS2 hf L2 S2 h2 hL2 hS2 hW2
      unfold ck_nx at hf
      split at hf
      · next c hcert =>
        simp only [Bool.and_eq_true] at hf
        obtain ⟨⟨f1, f2⟩, f3⟩ := hf
        have hm := List.mem_of_find?_eq_some hcert
        have hp : c.1 = pc2 := by simpa using List.find?_some hcert
        have g1 : ck_gL (fun _ => 0) c.2.1 (ck_at L2 h2) := ck_subL_ok f1 hL2
        have hb := ck_okb (hok c hm) g1
        rw [← hp]
        exact hcs c hm L2 S2 h2 g1 (ck_subS_ok f2 hS2) hW2 (ck_lex_ok hL2 8 lx c.2.2.2 hb.1 hb.2 f3)
      · exact ih pc2 A2 AS2 hf L2 S2 h2 hL2 hS2 hW2
    · cases hr
theorem ck_begin_ok {A : ck_L} {L : ck_F} (h : ck_gL (fun _ => 0) A L) : ck_gL (ck_V L) (ck_begin A) L := by
  intro j b hb
  unfold ck_begin at hb
  rw [ck_gmap (by intro q; rfl)] at hb
  rw [Option.map_eq_some_iff] at hb
  obtain ⟨q, hq, rfl⟩ := hb
  have hj : q.1 = j := by simpa using List.find?_some hq
  have hg : ck_g A j = some q.2 := by unfold ck_g; rw [hq]; rfl
  obtain ⟨v, g1, g2⟩ := h j q.2 hg
  refine ⟨v, g1, ?_⟩
  by_cases ht : q.2.1 = 0
  · obtain ⟨x, rfl, x1, x2, x3, -⟩ := ck_int g2 ht
    show ck_in0 (ck_V L) (if q.2.1 == 0 then (q.2.1, q.2.2.1, 0, (q.1 + 1, 0), 0) else q.2) (0, x)
    rw [if_pos (by simpa using ht)]
    refine Or.inl ⟨ht, rfl, x1, x2, x3, fun i hi => ?_, fun z => by cases z⟩
    have e : q.1 = i := Nat.succ.inj hi
    show x = ck_V L i + 0
    unfold ck_V
    rw [← e, hj, g1]
    exact (Int.add_zero x).symm
  · show ck_in0 (ck_V L) (if q.2.1 == 0 then (q.2.1, q.2.2.1, 0, (q.1 + 1, 0), 0) else q.2) v
    rw [if_neg (by simpa using ht)]
    rcases g2 with g | g | g
    · exact absurd g.1 ht
    · exact Or.inr (Or.inl g)
    · exact Or.inr (Or.inr g)
theorem ck_plainS {E : Nat → Int} {L L2 : ck_F} : ∀ {as : List ck_v} {vs : List ja_V}, as.all (fun a => a.2.2.1 == 0 && a.2.2.2.1.1 == 0 && a.2.2.2.2 == 0) = true → ck_gS (fun _ => 0) L2 as vs → ck_gS E L as vs
  | [], vs, _, h => by have e := ck_nil h; subst e; trivial
  | a :: as, vs, ha, h => by
    obtain ⟨v, ws, rfl, g1, g2⟩ := ck_cons h
    simp only [List.all_cons, Bool.and_eq_true, beq_iff_eq] at ha
    obtain ⟨⟨⟨a1, a2⟩, a3⟩, a4⟩ := ha
    refine ⟨⟨?_, fun i q => by rw [a1] at q; cases q⟩, ck_plainS (by simpa using a4) g2⟩
    rcases g1.1 with g | g | g
    · obtain ⟨k0, k1, k2, k3, k4, -, k6⟩ := g
      exact Or.inl ⟨k0, k1, k2, k3, k4, fun i q => (by rw [a2] at q; cases q), k6⟩
    · exact Or.inr (Or.inl g)
    · exact Or.inr (Or.inr g)
theorem ck_certs_ok (G : ck_G sp fi K) (hpA : (sp pr.1).1.1 < 13) (hdec : ∀ pc e, dec pc = some e → decode cc pc = .ok e) (hpl : ∀ idx p, pf ci idx = some p → p.1 = idx ∧ ck_pok mt own p) (hkl : ∀ p ∈ kl ci, ck_kok own p) (hss : ∀ mid s, s ∈ ss mid → s.1 < d → ck_H l D cA ad sp fi K pr v0 (mt mid) s)
    (hQ : ∀ r h, ck_rok ret r → ck_W sp fi K pr v0 h → Q r h) (n : Nat) (hok : ∀ c ∈ cs, ck_okC c = true ∧ ck_run sp fi K mt pf kl ss hn pr ci dec nL rt d ret cs c.2.2.2 n c.1 (ck_begin c.2.1) c.2.2.1 = true) :
    ∀ N : Nat, ∀ c ∈ cs, ∀ L S h, ck_gL (fun _ => 0) c.2.1 (ck_at L h) → ck_gS (fun _ => 0) (fun _ => none) c.2.2.1 S → ck_W sp fi K pr v0 h → ck_enc (ck_V (ck_at L h)) 8 c.2.2.2 = N → ja_J l D cA ad sp K d own cc nL rt c.1 L S h Q := by
  intro N
  induction N using Nat.strongRecOn with
  | _ N ih =>
    intro c hc L S h hL hS hW hN
    have h1 := hok c hc
    have hp : c.2.2.1.all (fun a => a.2.2.1 == 0 && a.2.2.2.1.1 == 0 && a.2.2.2.2 == 0) = true := by
      have := h1.1
      unfold ck_okC at this
      simp only [Bool.and_eq_true] at this
      exact this.2
    exact ck_run_ok G hpA hdec hpl hkl hss hQ (fun c hc => (hok c hc).1) (E := ck_V (ck_at L h)) (fun c2 hc2 L2 S2 h2 hL2 hS2 hW2 hlt => ih _ (by rw [← hN]; exact hlt) c2 hc2 L2 S2 h2 hL2 hS2 hW2 rfl) n c.1 _ _ h1.2 L S h (ck_begin_ok hL) (ck_plainS hp hS) hW
end CR
def ck_args : Nat → List ck_v → ck_L
  | _, [] => []
  | i, a :: as => (i, a) :: ck_args (if a.1 = 1 then i + 2 else i + 1) as
theorem ck_args_g {E : Nat → Int} {G : ck_F} : ∀ {as : List ck_v} {vs : List ja_V} (i : Nat), ck_gS E G as vs → ck_gL E (ck_args i as) (ja_g (ja_args i vs))
  | [], vs, i, h => by
    have e := ck_nil h
    subst e
    intro j a ha
    cases ha
  | a :: as, vs, i, h => by
    obtain ⟨v, ws, rfl, g1, g2⟩ := ck_cons h
    have ih := ck_args_g (if a.1 = 1 then i + 2 else i + 1) g2
    intro j b hb
    unfold ck_args ck_g at hb
    unfold ja_args ja_g
    rw [List.find?_cons] at hb ⊢
    by_cases hj : i = j
    · subst hj
      simp only [beq_self_eq_true, Option.map_some, Option.some.injEq] at hb
      subst hb
      exact ⟨v, by simp, g1.1⟩
    · have e : (i == j) = false := by simpa using hj
      simp only [e] at hb ⊢
      obtain ⟨w, k1, k2⟩ := ih j b hb
      rw [← ck_tag g1.1]
      exact ⟨w, k1, k2⟩
theorem ck_args_hi {as : List ck_v} : ∀ {i j : Nat} {a : ck_v}, ck_g (ck_args i as) j = some a → j < i + 2 * as.length := by
  induction as with
  | nil => intro i j a h; cases h
  | cons b as ih =>
    intro i j a h
    unfold ck_args ck_g at h
    rw [List.find?_cons] at h
    by_cases hj : i = j
    · subst hj
      simp only [List.length_cons]
      omega
    · have e : (i == j) = false := by simpa using hj
      simp only [e] at h
      have := ih h
      simp only [List.length_cons]
      split at this <;> omega
/-- the check of a row of the method table -/
def ck_meth (sp : ja_S) (fi : Nat → Nat → Int × Int) (K : Nat) (mt : Nat → ck_M) (pf : Nat → Nat → Option ck_P) (kl : Nat → List ck_K) (ss : Nat → List ck_S) (hn : Nat → Nat × Int) (pr : Nat × Nat) (fuel : Nat) (dec : Nat → Option (Instr × Nat)) (M : ck_M) (s : ck_S) : Bool :=
  s.2.2.2.all (fun c => ck_okC c && ck_run sp fi K mt pf kl ss hn pr M.2.2.2.1.1 dec M.2.2.1.1 M.2.2.1.2 s.1 s.2.2.1 s.2.2.2 c.2.2.2 fuel c.1 (ck_begin c.2.1) c.2.2.1) &&
  (match ck_cert s.2.2.2 0 with
    | some c => ck_subL (ck_args 0 s.2.1) c.2.1 && c.2.2.1.isEmpty && decide (s.2.1.length ≤ 100)
    | none => false)
theorem ck_meth_ok {l : Launch} {D : va_G} {cA : Nat → ClassId} {ad : Nat → Nat} {sp : ja_S} {fi : Nat → Nat → Int × Int} {K : Nat} {mt : Nat → ck_M} {pf : Nat → Nat → Option ck_P} {kl : Nat → List ck_K} {ss : Nat → List ck_S} {hn : Nat → Nat × Int} {pr : Nat × Nat} {v0 : Int} {fuel : Nat} {dec : Nat → Option (Instr × Nat)} {M : ck_M} {s : ck_S}
    (G : ck_G sp fi K) (hpA : (sp pr.1).1.1 < 13) (hdec : ∀ pc e, dec pc = some e → decode M.2.1 pc = .ok e) (hpl : ∀ idx p, pf M.2.2.2.1.1 idx = some p → p.1 = idx ∧ ck_pok mt M.1.cls p) (hkl : ∀ p ∈ kl M.2.2.2.1.1, ck_kok M.1.cls p) (hss : ∀ mid s2, s2 ∈ ss mid → s2.1 < s.1 → ck_H l D cA ad sp fi K pr v0 (mt mid) s2)
    (hc : ck_meth sp fi K mt pf kl ss hn pr fuel dec M s = true) : ck_H l D cA ad sp fi K pr v0 M s := by
  unfold ck_meth at hc
  simp only [Bool.and_eq_true] at hc
  obtain ⟨h1, h2⟩ := hc
  intro vals h hv hW
  split at h2
  · next c hcert =>
    simp only [Bool.and_eq_true, List.isEmpty_iff, decide_eq_true_eq] at h2
    have hm := List.mem_of_find?_eq_some hcert
    have hp : c.1 = 0 := by simpa using List.find?_some hcert
    have hall : ∀ c ∈ s.2.2.2, ck_okC c = true ∧ ck_run sp fi K mt pf kl ss hn pr M.2.2.2.1.1 dec M.2.2.1.1 M.2.2.1.2 s.1 s.2.2.1 s.2.2.2 c.2.2.2 fuel c.1 (ck_begin c.2.1) c.2.2.1 = true := by
      intro c hc
      have := List.all_eq_true.mp h1 c hc
      simpa using this
    have k := ck_certs_ok (l := l) (D := D) (cA := cA) (ad := ad) (v0 := v0) (Q := fun r h' => ck_rok s.2.2.1 r ∧ ck_W sp fi K pr v0 h') G hpA hdec hpl hkl hss (fun r h hr hW => ⟨hr, hW⟩) fuel hall _ c hm (ja_args 0 vals) [] h (ck_subL_ok (E := fun _ => 0) h2.1.1 (fun j a ha => by
      obtain ⟨w, k1, k2⟩ := ck_args_g 0 hv j a ha
      have hj := ck_args_hi ha
      exact ⟨w, (ck_at_lo (by omega)).trans k1, k2⟩)) (by rw [h2.1.2]; trivial) hW rfl
    rw [hp] at k
    exact k
  · cases h2
theorem ck_all_ok {l : Launch} {D : va_G} {cA : Nat → ClassId} {ad : Nat → Nat} {sp : ja_S} {fi : Nat → Nat → Int × Int} {K : Nat} {mt : Nat → ck_M} {pf : Nat → Nat → Option ck_P} {kl : Nat → List ck_K} {ss : Nat → List ck_S} {hn : Nat → Nat × Int} {pr : Nat × Nat} {v0 : Int} {fuel : Nat} {dec : Nat → Nat → Option (Instr × Nat)}
    (G : ck_G sp fi K) (hpA : (sp pr.1).1.1 < 13) (hdec : ∀ mid pc e, dec mid pc = some e → decode (mt mid).2.1 pc = .ok e) (hpl : ∀ mid, ss mid ≠ [] → ∀ idx p, pf (mt mid).2.2.2.1.1 idx = some p → p.1 = idx ∧ ck_pok mt (mt mid).1.cls p) (hkl : ∀ mid, ss mid ≠ [] → ∀ p ∈ kl (mt mid).2.2.2.1.1, ck_kok (mt mid).1.cls p)
    (hc : ∀ mid s, s ∈ ss mid → s.2.2.2 ≠ [] → ck_meth sp fi K mt pf kl ss hn pr fuel (dec mid) (mt mid) s = true)
    (hx : ∀ mid s, s ∈ ss mid → s.2.2.2 = [] → (∀ mid2 s2, s2 ∈ ss mid2 → s2.1 < s.1 → ck_H l D cA ad sp fi K pr v0 (mt mid2) s2) → ck_H l D cA ad sp fi K pr v0 (mt mid) s) :
    ∀ mid s, s ∈ ss mid → ck_H l D cA ad sp fi K pr v0 (mt mid) s := by
  have key : ∀ d mid s, s ∈ ss mid → s.1 = d → ck_H l D cA ad sp fi K pr v0 (mt mid) s := by
    intro d
    induction d using Nat.strongRecOn with
    | _ d ih =>
      intro mid s hs hd
      have hless : ∀ mid2 s2, s2 ∈ ss mid2 → s2.1 < s.1 → ck_H l D cA ad sp fi K pr v0 (mt mid2) s2 := fun mid2 s2 h2 hlt => ih s2.1 (by omega) mid2 s2 h2 rfl
      have hne : ss mid ≠ [] := fun e => by rw [e] at hs; cases hs
      by_cases he : s.2.2.2 = []
      · exact hx mid s hs he hless
      · exact ck_meth_ok G hpA (hdec mid) (hpl mid hne) (hkl mid hne) hless (hc mid s hs he)
  exact fun mid s hs => key s.1 mid s hs rfl
