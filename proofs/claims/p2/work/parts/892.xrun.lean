/-! the run of the checker for methods that may throw, the exceptions told -/
/-- throw new E("text"), at an empty stack -/
theorem jx_thrownW {l : Launch} {D : va_G} {cA : Nat → ClassId} {ad : Nat → Nat} {sp : ja_S} {K d : Nat} {cc : ByteArray} {nL : Nat} {rt : Option FieldType} {pc : Nat} {L : List (Nat × ja_V)} {h : ja_H} {Q : Option ja_V → ja_H → Prop} {ik is ic r : Nat} {X txt : String} (hr : jx_n r = X) (hr9 : r = 7 ∨ r = 8 ∨ r = 9)
    (hX : Bundle.fit X = true) (hk : Cond.classLink RX11 ik X ∈ ja_B) (hini : Cond.initialized X ∈ ja_B) (hat : ∀ w ∈ vx_atS RX11 ic X ["java/lang/RuntimeException", "java/lang/Exception"], w ∈ ja_B ∨ (∃ y ∈ jx_Dn, w = .declares y) ∨ ∃ C ∈ jx_Cn, w = .castable C C) (hl : (is, txt) ∈ jx_L) (hdd : 6 ≤ d)
    (d0 : decode cc pc = .ok (.new ik, 3)) (d3 : decode cc (pc + 3) = .ok (.dup, 1)) (d4 : decode cc (pc + 4) = .ok (.ldc_w is, 3)) (d6 : decode cc (pc + 7) = .ok (.invokespecial ic, 3)) (d9 : decode cc (pc + 10) = .ok (.athrow, 1))
    (hQ : Q (some (r, 0)) h) : jx_J l D cA ad sp K d RX11 cc nL rt pc L [] h Q := by
  intro p e s m args below meth c H locs ls hx hb hml hrr hown hts hnw hlt hsr hst hel hlk hK hP hi hS hl2
  obtain ⟨sa, hsa⟩ := hsr.2.1 _ hl
  refine vx_throwSW (names := ["java/lang/RuntimeException", "java/lang/Exception"]) (A := ja_A ad K) hx hb hst hown hX (by decide +kernel) (hts _ hk) (hts _ hini) hsa (fun w hw => ?_) (fun w hw => ?_) hsr.2.2.1 hsr.2.2.2 hS (hl2.1.trans hml.symm) d0 d3 d4 d6 d9 (fun x hx => (hel x hx).elim) (by show 2 + 3 < d; omega) (by show 0 + (13 * (2 + 1) + 43) ≤ 64 * d; omega) (by show 0 + 1 ≤ 1; omega) (by show 0 + 6 ≤ 6; omega) hlk (fun t al h1 h2 => ?_) hS.2.2 (by omega) (by omega)
  · rcases hat w hw with q | ⟨y, hy, rfl⟩ | ⟨C, hC, rfl⟩
    · exact hts w q
    · exact va_Nw.use rfl (hsr.1.1 y hy)
    · exact va_Nw.use rfl (hsr.1.2 C hC)
  · have gd : ∀ z ∈ ja_B, vx_ot z = true := fun z hz => by
      unfold vx_ot
      rw [(List.mem_filter.mp hz).2, Bool.or_true]
    rcases List.mem_cons.mp hw with rfl | hw
    · exact gd _ hk
    · rcases List.mem_cons.mp hw with rfl | hw
      · exact gd _ hini
      · rcases hat w hw with q | ⟨y, hy, rfl⟩ | ⟨C, hC, rfl⟩
        · exact gd _ q
        · rfl
        · rfl
  · exact ⟨r, h, hr, hr9, hQ, hP.kept (fun k q hk => h2 q.1 (vx_lt hP hk)), by unfold va_F; exact ⟨Nat.le_trans hS.1 h1, fun q q1 q2 => (h2 q (Nat.lt_of_lt_of_le q1 hS.1)).trans (hS.2.1 q q1 q2)⟩⟩
def cy_thr (ex : List Nat) (dec : Nat → Option (Instr × Nat)) (own d pc : Nat) (S : List ck_v) (i : Instr) : Bool := match i, dec (pc + 4), dec (pc + 6) with
  | .new ik, some (.ldc is, _), some (.invokespecial ic, _) => decide (own = 11) && S.isEmpty && decide (6 ≤ d) && decide (dec pc = some (.new ik, 3)) && decide (dec (pc + 3) = some (.dup, 1)) && decide (dec (pc + 4) = some (.ldc is, 2)) && decide (dec (pc + 6) = some (.invokespecial ic, 3)) && decide (dec (pc + 9) = some (.athrow, 1)) && jx_L.any (fun q => q.1 == is) && decide (cx_ex ik ic ≠ 0) && ex.any (fun z => z == cx_ex ik ic)
  | _, _, _ => false
def cy_thw (ex : List Nat) (dec : Nat → Option (Instr × Nat)) (own d pc : Nat) (S : List ck_v) (i : Instr) : Bool := match i, dec (pc + 4), dec (pc + 7) with
  | .new ik, some (.ldc_w is, _), some (.invokespecial ic, _) => decide (own = 11) && S.isEmpty && decide (6 ≤ d) && decide (dec pc = some (.new ik, 3)) && decide (dec (pc + 3) = some (.dup, 1)) && decide (dec (pc + 4) = some (.ldc_w is, 3)) && decide (dec (pc + 7) = some (.invokespecial ic, 3)) && decide (dec (pc + 10) = some (.athrow, 1)) && jx_L.any (fun q => q.1 == is) && decide (cx_ex ik ic ≠ 0) && ex.any (fun z => z == cx_ex ik ic)
  | _, _, _ => false
section CY2
variable (sp : ja_S) (fi : Nat → Nat → Int × Int) (K : Nat) (mt : Nat → ck_M) (pf : Nat → Nat → Option ck_P) (kl : Nat → List ck_K) (ss : Nat → List ck_S) (hn : Nat → Nat × Int) (pr : Nat × Nat) (ci : Nat) (dec : Nat → Option (Instr × Nat)) (nL : Nat) (rt : Option FieldType) (d : Nat) (ret : Option ck_v) (ex : List Nat)
def cy_run : Nat → Nat → ck_L → List ck_v → Bool
  | 0, _, _, _ => false
  | n + 1, pc, L, S => match dec pc with
    | some (i, len) => cy_thr ex dec ci d pc S i || cy_thw ex dec ci d pc S i || ((ck_len i == 0 || len == ck_len i) && ck_one sp fi K mt pf kl ss hn pr ci nL rt d ret (cy_run n) pc L S i)
    | none => false
end CY2
theorem cy_thr_ok {ex : List Nat} {l : Launch} {D : va_G} {cA : Nat → ClassId} {ad : Nat → Nat} {sp : ja_S} {K d : Nat} {own : String} {cc : ByteArray} {nL : Nat} {rt : Option FieldType} {dec : Nat → Option (Instr × Nat)} {ci pc : Nat} {i : Instr} {AS : List ck_v} {E : Nat → Int} {G : ck_F} {L : List (Nat × ja_V)} {S : List ja_V} {h : ja_H} {Q : Option ja_V → ja_H → Prop}
    (ho : ci = 11 → own = RX11) (hdec : ∀ pc e, dec pc = some e → decode cc pc = .ok e) (hc : cy_thr ex dec ci d pc AS i = true) (hS : ck_gS E G AS S) (hQ : ∀ r, r ∈ ex → (r = 7 ∨ r = 8 ∨ r = 9) → Q (some (r, 0)) h) : jx_J l D cA ad sp K d own cc nL rt pc L S h Q := by
  unfold cy_thr at hc
  split at hc
  · next ik is n1 ic n2 e4 e6 =>
    simp only [Bool.and_eq_true, decide_eq_true_eq, List.isEmpty_iff] at hc
    obtain ⟨⟨⟨⟨⟨⟨⟨⟨⟨⟨c1, c2⟩, c3⟩, c4⟩, c5⟩, c6⟩, c7⟩, c8⟩, c9⟩, c10⟩, c11⟩ := hc
    obtain ⟨z, hz, hze⟩ := List.any_eq_true.mp c11
    have hze : z = cx_ex ik ic := eq_of_beq hze
    subst c2
    have e := ck_nil hS
    subst e
    rw [ho c1]
    obtain ⟨q, hq, hi⟩ := List.any_eq_true.mp c9
    have hi : q.1 = is := eq_of_beq hi
    have hl : (is, q.2) ∈ jx_L := by rw [← hi]; exact hq
    rcases cx_ex7 c10 with ⟨rfl, rfl, e9⟩ | ⟨rfl, rfl, e9⟩ | ⟨rfl, rfl, e9⟩
    · exact jx_thrown (r := 7) rfl (Or.inl rfl) (by decide +kernel) jx_ck7 jx_ci7 (jx_ats jx_at7 jx_ag7) hl c3 (hdec _ _ c4) (hdec _ _ c5) (hdec _ _ c6) (hdec _ _ c7) (hdec _ _ c8) (hQ 7 (by rw [← e9, ← hze]; exact hz) (by omega))
    · exact jx_thrown (r := 8) rfl (Or.inr (Or.inl rfl)) (by decide +kernel) jx_ck8 jx_ci8 (jx_ats jx_at8 jx_ag8) hl c3 (hdec _ _ c4) (hdec _ _ c5) (hdec _ _ c6) (hdec _ _ c7) (hdec _ _ c8) (hQ 8 (by rw [← e9, ← hze]; exact hz) (by omega))
    · exact jx_thrown (r := 9) rfl (Or.inr (Or.inr rfl)) (by decide +kernel) jx_ck9 jx_ci9 (jx_ats jx_at9 jx_ag9) hl c3 (hdec _ _ c4) (hdec _ _ c5) (hdec _ _ c6) (hdec _ _ c7) (hdec _ _ c8) (hQ 9 (by rw [← e9, ← hze]; exact hz) (by omega))
  · cases hc
theorem cy_thw_ok {ex : List Nat} {l : Launch} {D : va_G} {cA : Nat → ClassId} {ad : Nat → Nat} {sp : ja_S} {K d : Nat} {own : String} {cc : ByteArray} {nL : Nat} {rt : Option FieldType} {dec : Nat → Option (Instr × Nat)} {ci pc : Nat} {i : Instr} {AS : List ck_v} {E : Nat → Int} {G : ck_F} {L : List (Nat × ja_V)} {S : List ja_V} {h : ja_H} {Q : Option ja_V → ja_H → Prop}
    (ho : ci = 11 → own = RX11) (hdec : ∀ pc e, dec pc = some e → decode cc pc = .ok e) (hc : cy_thw ex dec ci d pc AS i = true) (hS : ck_gS E G AS S) (hQ : ∀ r, r ∈ ex → (r = 7 ∨ r = 8 ∨ r = 9) → Q (some (r, 0)) h) : jx_J l D cA ad sp K d own cc nL rt pc L S h Q := by
  unfold cy_thw at hc
  split at hc
  · next ik is n1 ic n2 e4 e6 =>
    simp only [Bool.and_eq_true, decide_eq_true_eq, List.isEmpty_iff] at hc
    obtain ⟨⟨⟨⟨⟨⟨⟨⟨⟨⟨c1, c2⟩, c3⟩, c4⟩, c5⟩, c6⟩, c7⟩, c8⟩, c9⟩, c10⟩, c11⟩ := hc
    obtain ⟨z, hz, hze⟩ := List.any_eq_true.mp c11
    have hze : z = cx_ex ik ic := eq_of_beq hze
    subst c2
    have e := ck_nil hS
    subst e
    rw [ho c1]
    obtain ⟨q, hq, hi⟩ := List.any_eq_true.mp c9
    have hi : q.1 = is := eq_of_beq hi
    have hl : (is, q.2) ∈ jx_L := by rw [← hi]; exact hq
    rcases cx_ex7 c10 with ⟨rfl, rfl, e9⟩ | ⟨rfl, rfl, e9⟩ | ⟨rfl, rfl, e9⟩
    · exact jx_thrownW (r := 7) rfl (Or.inl rfl) (by decide +kernel) jx_ck7 jx_ci7 (jx_ats jx_at7 jx_ag7) hl c3 (hdec _ _ c4) (hdec _ _ c5) (hdec _ _ c6) (hdec _ _ c7) (hdec _ _ c8) (hQ 7 (by rw [← e9, ← hze]; exact hz) (by omega))
    · exact jx_thrownW (r := 8) rfl (Or.inr (Or.inl rfl)) (by decide +kernel) jx_ck8 jx_ci8 (jx_ats jx_at8 jx_ag8) hl c3 (hdec _ _ c4) (hdec _ _ c5) (hdec _ _ c6) (hdec _ _ c7) (hdec _ _ c8) (hQ 8 (by rw [← e9, ← hze]; exact hz) (by omega))
    · exact jx_thrownW (r := 9) rfl (Or.inr (Or.inr rfl)) (by decide +kernel) jx_ck9 jx_ci9 (jx_ats jx_at9 jx_ag9) hl c3 (hdec _ _ c4) (hdec _ _ c5) (hdec _ _ c6) (hdec _ _ c7) (hdec _ _ c8) (hQ 9 (by rw [← e9, ← hze]; exact hz) (by omega))
  · cases hc
section CZ2
variable {l : Launch} {D : va_G} {cA : Nat → ClassId} {ad : Nat → Nat} {sp : ja_S} {fi : Nat → Nat → Int × Int} {K : Nat} {mt : Nat → ck_M} {pf : Nat → Nat → Option ck_P} {kl : Nat → List ck_K} {ss : Nat → List ck_S} {hn : Nat → Nat × Int} {pr : Nat × Nat} {ci : Nat} {own : String} {cc : ByteArray} {dec : Nat → Option (Instr × Nat)} {nL : Nat} {rt : Option FieldType} {d : Nat} {ret : Option ck_v} {ex : List Nat} {v0 : Int} {Q : Option ja_V → ja_H → Prop}
theorem cy_run_ok (ho : ci = 11 → own = RX11) (G : ck_G sp fi K) (hpA : (sp pr.1).1.1 < 13) (hdec : ∀ pc e, dec pc = some e → decode cc pc = .ok e) (hpl : ∀ idx p, pf ci idx = some p → p.1 = idx ∧ ck_pok mt own p) (hkl : ∀ p ∈ kl ci, ck_kok own p) (hss : ∀ mid s, s ∈ ss mid → s.1 < d → ck_H l D cA ad sp fi K pr v0 (mt mid) s)
    (hQ : ∀ r h, ck_rok ret r → ck_W sp fi K pr v0 h → Q r h) (hQx : ∀ r h, r ∈ ex → (r = 7 ∨ r = 8 ∨ r = 9) → ck_W sp fi K pr v0 h → Q (some (r, 0)) h) {E : Nat → Int} :
    ∀ (n pc : Nat) (A : ck_L) (AS : List ck_v), cy_run sp fi K mt pf kl ss hn pr ci dec nL rt d ret ex n pc A AS = true → ∀ L S h, ck_gL E A (ck_at L h) → ck_gS E (ck_at L h) AS S → ck_W sp fi K pr v0 h → jx_J l D cA ad sp K d own cc nL rt pc L S h Q := by
  intro n
  induction n with
  | zero => intro pc A AS hr; cases hr
  | succ n ih =>
    intro pc A AS hr L S h hL hS hW
    unfold cy_run at hr
    split at hr
    · next i len hd =>
      rcases Bool.or_eq_true_iff.mp hr with hr | hr
      · rcases Bool.or_eq_true_iff.mp hr with hr | hr
        · exact cy_thr_ok ho hdec hr hS (fun r hm h9 => hQx r h hm h9 hW)
        · exact cy_thw_ok ho hdec hr hS (fun r hm h9 => hQx r h hm h9 hW)
      · simp only [Bool.and_eq_true] at hr
        exact cx_one_ok G hpA hpl hkl hss (fun pc2 A2 AS2 hf => ih pc2 A2 AS2 hf) hQ (hdec _ _ hd) hr.1 hr.2 hL hS hW
    · cases hr
end CZ2
/-- what is known of a method that may throw -/
def cy_H (l : Launch) (D : va_G) (cA : Nat → ClassId) (ad : Nat → Nat) (sp : ja_S) (fi : Nat → Nat → Int × Int) (K : Nat) (pr : Nat × Nat) (v0 : Int) (M : ck_M) (s : ck_S) (ex : List Nat) : Prop :=
  ∀ (vals : List ja_V) (h : ja_H), ck_gS (fun _ => 0) (fun _ => none) s.2.1 vals → ck_W sp fi K pr v0 h → jx_M l D cA ad sp K s.1 M.1 M.2.1 M.2.2.1.1 M.2.2.1.2 vals h (fun r h' => (ck_rok s.2.2.1 r ∨ ∃ x, x ∈ ex ∧ (x = 7 ∨ x = 8 ∨ x = 9) ∧ r = some (x, 0)) ∧ ck_W sp fi K pr v0 h')
def cy_meth (sp : ja_S) (fi : Nat → Nat → Int × Int) (K : Nat) (mt : Nat → ck_M) (pf : Nat → Nat → Option ck_P) (kl : Nat → List ck_K) (ss : Nat → List ck_S) (hn : Nat → Nat × Int) (pr : Nat × Nat) (fuel : Nat) (dec : Nat → Option (Instr × Nat)) (M : ck_M) (s : ck_S) (ex : List Nat) : Bool :=
  cy_run sp fi K mt pf kl ss hn pr M.2.2.2.1.1 dec M.2.2.1.1 M.2.2.1.2 s.1 s.2.2.1 ex fuel 0 (ck_args 0 s.2.1) [] && decide (s.2.1.length ≤ 100)
theorem cy_meth_ok {ex : List Nat} {l : Launch} {D : va_G} {cA : Nat → ClassId} {ad : Nat → Nat} {sp : ja_S} {fi : Nat → Nat → Int × Int} {K : Nat} {mt : Nat → ck_M} {pf : Nat → Nat → Option ck_P} {kl : Nat → List ck_K} {ss : Nat → List ck_S} {hn : Nat → Nat × Int} {pr : Nat × Nat} {v0 : Int} {fuel : Nat} {dec : Nat → Option (Instr × Nat)} {M : ck_M} {s : ck_S}
    (ho : M.2.2.2.1.1 = 11 → M.1.cls = RX11) (G : ck_G sp fi K) (hpA : (sp pr.1).1.1 < 13) (hdec : ∀ pc e, dec pc = some e → decode M.2.1 pc = .ok e) (hpl : ∀ idx p, pf M.2.2.2.1.1 idx = some p → p.1 = idx ∧ ck_pok mt M.1.cls p) (hkl : ∀ p ∈ kl M.2.2.2.1.1, ck_kok M.1.cls p) (hss : ∀ mid s2, s2 ∈ ss mid → s2.1 < s.1 → ck_H l D cA ad sp fi K pr v0 (mt mid) s2)
    (hc : cy_meth sp fi K mt pf kl ss hn pr fuel dec M s ex = true) : cy_H l D cA ad sp fi K pr v0 M s ex := by
  unfold cy_meth at hc
  simp only [Bool.and_eq_true, decide_eq_true_eq] at hc
  intro vals h hv hW
  exact cy_run_ok ho G hpA hdec hpl hkl hss (fun r h hr hW => ⟨Or.inl hr, hW⟩) (fun r h hm hr hW => ⟨Or.inr ⟨r, hm, hr, rfl⟩, hW⟩) (E := fun _ => 0) fuel 0 _ _ hc.1 (ja_args 0 vals) [] h (fun j a ha => by
      obtain ⟨w, k1, k2⟩ := ck_args_g 0 hv j a ha
      have hj := ck_args_hi ha
      exact ⟨w, (ck_at_lo (by omega)).trans k1, k2⟩) trivial hW
