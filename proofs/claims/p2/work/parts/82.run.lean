/-! the reference: an act (written by a program) -/
/-! the reference: an act -/
theorem vi_val {h : ja_H} {ck cv j : Nat} {v : Int} (d1 : (ck, cv) ∈ vps) (d : vps.all (fun p => decide (p = (ck, cv) ∨ (p.1 ≠ ck ∧ p.1 ≠ cv ∧ p.2 ≠ ck ∧ p.2 ≠ cv))) = true) (d0 : ck ≠ 0 ∧ cv ≠ 0 ∧ ck ≠ cv ∧ cv ≠ 12) (q : VI h) (hv : 0 ≤ v ∧ v ≤ 200) : VI (ja_up h cv j v) := by
  obtain ⟨q1, q2⟩ := q
  have ec : caN h → caN (ja_up h cv j v) := caN_e (mo_upK (fun y => d0.2.2.2 y.symm))
  refine ⟨fun p hp i => ?_, ?_⟩
  · have dp := List.all_eq_true.mp d p hp
    rcases of_decide_eq_true dp with e | ⟨e1, e2, e3, e4⟩
    · subst e
      show (ja_up h cv j v) ck i = 2 → (0 ≤ (ja_up h cv j v) cv i ∧ (ja_up h cv j v) cv i ≤ 200) ∧ _
      rw [mo_upK d0.2.2.1]
      by_cases z : i = j
      · subst z; rw [mo_upS]; exact fun y => ⟨hv, ec (q1 (ck, cv) d1 i y).2⟩
      · rw [mo_upJ z]; exact fun y => ⟨(q1 (ck, cv) d1 i y).1, ec (q1 (ck, cv) d1 i y).2⟩
    · rw [mo_upK e2, mo_upK e4]; exact fun y => ⟨(q1 p hp i y).1, ec (q1 p hp i y).2⟩
  · rw [mo_upK (fun y => d0.2.1 y.symm), mo_upK (fun y => d0.2.1 y.symm)]; exact fun y => ⟨(q2 y).1, ec (q2 y).2⟩
/-- a row is gone on with: its act is due -/
def AC (h : ja_H) (ht st rg : Nat → Int) (r : Int) : Prop := RB h ht st rg ∧ RI h ht st rg ∧ (h 0 186) = 2 ∧ r = (h 0 190) ∧ (h 0 191) = (h 123) r.toNat
theorem ac_f {h : ja_H} {ht st rg : Nat → Int} {r : Int} (g : mo_G mo_zr h) (q : AC h ht st rg r) : RC h ht st rg 1 ∧ (0 ≤ r ∧ r < (h 0 172)) ∧ ((h 115) r.toNat < (h 0 88) ∧ ((h 52) ((h 115) r.toNat).toNat = 1 → caN h)) ∧ ((h 52) ((h 115) r.toNat).toNat ≠ 1 → 26 ≤ pot h ((h 0 150) - 1).toNat ∧ 1 ≤ rpot h ((h 0 150) - 1).toNat) ∧ ((h 0 144) ≤ 40 ∧ 1 ≤ (h 0 150) ∧ (h 0 150) ≤ 2132 ∧ (h 0 165) = 10 * ((h 0 144) + 1) ∧ (h 0 172) ≤ 82) := by
  obtain ⟨b, ⟨⟨w, t, rc⟩, p⟩, e1, e2, e3⟩ := q
  have ew := t.2.2 (Or.inl e1)
  subst ew
  obtain ⟨⟨p1, p2⟩, p3, p4⟩ := p e1
  rw [← e2] at p1 p2 p3 p4
  have r0 := (gF_restRow g).1
  have rl := gF_restLevel g
  have n := rc_num g b.2.1 (by decide) rc
  have pb := pot_bd g ((h 0 150) - 1).toNat
  have hf := rc.1.1
  have hb := rc.2.1.2
  have rw' := rc.2.2.2.1 r.toNat (by omega)
  refine ⟨rc, ⟨by omega, p1⟩, ⟨rw'.1.1, rw'.1.2.2⟩, fun z => ?_, by omega⟩
  unfold rwX at p3
  unfold rwY at p4
  rw [if_neg z] at p3 p4
  omega
def FAE : Nat → Nat → Bool := mo_X [186, 187, 188, 189, 138] [90, 91, 89, 128, 129]
theorem pD_2 {h : ja_H} (g : mo_G mo_zr h) (e : (h 0 186) = 2) : 190000 < pD h := by
  have := gF_restLevel g
  unfold pD eeL; rw [if_neg (by omega), if_pos e]; omega
theorem dAg_tr {h v u : ja_H} {k m : Nat} (a : dAg h v k) (b : dAg v u m) (l : k ≤ m) : dAg h u k := by
  obtain ⟨a1, a2⟩ := a
  obtain ⟨b1, b2⟩ := b
  refine ⟨b1.trans a1, fun j hj => ?_⟩
  obtain ⟨x1, x2, x3, x4⟩ := a2 j hj
  obtain ⟨y1, y2, y3, y4⟩ := b2 j (by omega)
  exact ⟨y1.trans x1, y2.trans x2, y3.trans x3, y4.trans x4⟩
/-- the act's result -/
theorem ac_end {h u : ja_H} {ht st rg : Nat → Int} {r : Int} (g : mo_G mo_zr h) (gu : mo_G mo_zr u) (q : AC h ht st rg r) (b : RB u ht st rg) (ag : mo_ag FAE h u) (eu : (u 0 186) = 1) : RO h u ht st rg := by
  obtain ⟨rc, -, -, -, n⟩ := ac_f g q
  have ef : (u 0 150) = (h 0 150) := ag _ _ rfl
  have rc' := rc_ext g (ag_sub (X_sub (by decide) (by decide)) ag) rc
  have ri : RI u ht st rg := ⟨⟨1, ⟨by decide, fun z => by omega, fun _ => rfl⟩, rc'⟩, fun z => by omega⟩
  refine ⟨b, ag_sub (X_sub (by decide) (by decide)) ag, fun _ => ⟨ri, ?_⟩⟩
  refine rV_fall (k := ((h 0 150)).toNat) gu b.2.1 ri ⟨funext fun j => ag _ _ rfl, fun j _ => ⟨ag _ _ rfl, ag _ _ rfl, ag _ _ rfl, ag _ _ rfl⟩⟩ (by omega) (by omega) (by omega) ?_
  rw [rX_at (by omega), rX_at (by omega)]
  have := pD_2 g q.2.2.1
  unfold pD at this ⊢
  rw [if_pos eu]
  omega
theorem fD_3 {h : ja_H} {st rg : Nat → Int} {n : Nat} (t : (h 96) n = 3 ∨ (h 96) n = 5) : fD h st rg n = 3 := by
  unfold fD; rw [if_neg (by omega), if_neg (by omega)]
/-- the act goes on with a RUN's row -/
theorem ac_push {h v u : ja_H} {ht st rg : Nat → Int} {r : Int} (g : mo_G mo_zr h) (gu : mo_G mo_zr u) (q : AC h ht st rg r) (e : RE v u ht st rg) (agv : mo_ag FRO h v) (d : dAg h u ((h 0 150)).toNat) (hl : (h 0 150) < (u 0 150)) (t : (u 96) ((h 0 150)).toNat = 3 ∨ (u 96) ((h 0 150)).toNat = 5) : RO h u ht st rg := by
  obtain ⟨-, -, -, -, n⟩ := ac_f g q
  obtain ⟨e1, e2, e3, ⟨e4, e5, e6⟩, e7, e8⟩ := e
  have ri : RI u ht st rg := ⟨⟨1, ⟨by decide, fun z => by omega, fun _ => rfl⟩, e2⟩, fun _ => e3⟩
  refine ⟨e1, ag_trans agv e8, fun _ => ⟨ri, ?_⟩⟩
  refine rV_fall (k := ((h 0 150)).toNat) gu e1.2.1 ri d (by omega) (by omega) (by omega) ?_
  rw [rX_at (h := h) (by omega), rX_in (by omega), fD_3 t]
  have := pD_2 g q.2.2.1
  omega
/-- a body is begun where a frame, a row was due -/
theorem bd_ag {h u v : ja_H} {t pc : Int} (b : bdP h u t pc) (ag : mo_ag (mo_X [186] [110, 111]) u v) : bdP h v t pc := by
  obtain ⟨b1, b2, ⟨c1, c2, c3⟩, ⟨d1, d2, d3, d4, d5⟩, e⟩ := b
  refine ⟨ag_trans b1 (ag_sub (X_X (by decide) (by decide)) ag), fun j hj => ?_, ⟨(ag _ _ rfl).trans c1, (ag _ _ rfl).trans c2, (ag _ _ rfl).trans c3⟩, ⟨(ag _ _ rfl).trans d1, (ag _ _ rfl).trans d2, (ag _ _ rfl).trans d3, (ag _ _ rfl).trans d4, (ag _ _ rfl).trans d5⟩, fun z => ?_⟩
  · obtain ⟨a1, a2, a3, a4, a5, a6⟩ := b2 j hj
    exact ⟨(ag _ _ rfl).trans a1, (ag _ _ rfl).trans a2, (ag _ _ rfl).trans a3, (ag _ _ rfl).trans a4, (ag _ _ rfl).trans a5, (ag _ _ rfl).trans a6⟩
  · have f : (v 107) ((h 0 150)).toNat = (u 107) ((h 0 150)).toNat := ag _ _ rfl
    rw [f]; exact e z
theorem pb_bd {h v u : ja_H} {t pc a3 : Int} (ag : mo_ag (mo_X [144, 135, 150, 165] [87, 88]) h v) (ef : (v 0 150) = (h 0 150)) (el : (v 0 165) = (h 0 165)) (p : pbF v u t pc a3) (eb : (v 0 144) = (h 0 144) + 1) (ht : t ≠ 2) : bdP h u t pc := by
  obtain ⟨x, ax, eu⟩ := p
  have agx : ∀ k j, mo_X [165] [110, 111] k j = true → u k j = (mo_PB v t pc a3) k j := fun k j e => by
    rw [eu]
    have : (ja_up x 0 165 ((v 0 165) + 10)) k j = x k j := mo_upN (fun y => by rw [y.1, y.2] at e; exact absurd e (by decide))
    rw [this]
    exact ax k j (X_X (by decide) (by decide) k j e)
  have b1 : (u 0 150) = (h 0 150) + 1 := (agx _ _ rfl).trans (by simp [mo_PB, ja_up, ef])
  have V : ∀ k j, mo_X [144, 135, 150, 165] [87, 88] k j = true → v k j = h k j := ag
  have n1 : (v 0 149) = (h 0 149) := ag _ _ rfl
  have n2 : (v 0 168) = (h 0 168) := ag _ _ rfl
  refine ⟨?_, fun j hj => ⟨?_, ?_, ?_, ?_, ?_, ?_⟩, ⟨b1, ?_, ?_⟩, ⟨?_, ?_, ?_, ?_, ?_⟩, fun z => absurd z ht⟩
  · refine ag_trans (h' := v) (ag_sub (X_X (by decide) (by decide)) ag) (ag_trans (h' := mo_PB v t pc a3) ?_ (ag_sub (X_X (by decide) (by decide)) agx))
    unfold mo_PB; repeat (first | exact ag_refl | refine ag_up rfl ?_)
  · exact (agx _ _ rfl).trans ((by simp [mo_PB, ja_up, ef, hj] : _ = (v 96) j).trans (V _ _ rfl))
  · exact (agx _ _ rfl).trans ((by simp [mo_PB, ja_up, ef, hj] : _ = (v 97) j).trans (V _ _ rfl))
  · exact (agx _ _ rfl).trans ((by simp [mo_PB, ja_up, ef, hj] : _ = (v 99) j).trans (V _ _ rfl))
  · exact (agx _ _ rfl).trans ((by simp [mo_PB, ja_up, ef, hj] : _ = (v 100) j).trans (V _ _ rfl))
  · exact (agx _ _ rfl).trans ((by simp [mo_PB, ja_up, ef, hj] : _ = (v 101) j).trans (V _ _ rfl))
  · exact (agx _ _ rfl).trans ((by simp [mo_PB, ja_up, ef, hj] : _ = (v 107) j).trans (V _ _ rfl))
  · rw [eu, mo_upS, el]
  · exact (agx _ _ rfl).trans ((by simp [mo_PB, ja_up] : _ = (v 0 144)).trans eb)
  · exact (agx _ _ rfl).trans (by simp [mo_PB, ja_up, ef])
  · exact (agx _ _ rfl).trans (by simp [mo_PB, ja_up, ef])
  · exact (agx _ _ rfl).trans (by simp [mo_PB, ja_up, ef, n1])
  · exact (agx _ _ rfl).trans (by simp [mo_PB, ja_up, ef, n2])
  · exact (agx _ _ rfl).trans (by simp [mo_PB, ja_up, ef, el])
theorem bd_fD {h u : ja_H} {ht st rg : Nat → Int} {t pc : Int} (b : bdP h u t pc) (ht2 : t ≤ 2) (p3 : st pc.toNat = 0) (p4 : 0 ≤ rg pc.toNat ∧ rg pc.toNat ≤ 7) (h0 : 0 ≤ pc) : fD u st rg ((h 0 150)).toNat ≤ 6000 := by
  obtain ⟨-, -, -, ⟨d1, d2, -⟩, -⟩ := b
  unfold fD
  rw [d1, d2, if_pos ht2, p3]
  split <;> omega
theorem ac_body {h u : ja_H} {ht st rg : Nat → Int} {r pc : Int} (g : mo_G mo_zr h) (gu : mo_G mo_zr u) (q : AC h ht st rg r) (rb : RB u ht st rg) (b : bdP h u 1 pc) (hb : (h 0 144) ≤ 39) (hpc : (0 ≤ pc ∧ pc < (h 0 113)) ∧ ht pc.toNat = 0 ∧ st pc.toNat = 0 ∧ rg pc.toNat = 1) (ca : caN h) (eu : (u 0 186) = 0) : RO h u ht st rg := by
  obtain ⟨rc, -, -, -, n⟩ := ac_f g q
  have rc' := rc_pushb g rc b hb ⟨hpc.1, hpc.2.1, hpc.2.2.1⟩ (Or.inl ⟨rfl, hpc.2.2.2, ca⟩)
  have ef : (u 0 150) = (h 0 150) + 1 := b.2.2.1.1
  have ri : RI u ht st rg := ⟨⟨0, ⟨by decide, fun _ => rfl, fun z => by omega⟩, rc'⟩, fun z => by omega⟩
  refine ⟨rb, ag_sub (by unfold FPH; exact X_sub (by decide) (by decide)) b.1, fun _ => ⟨ri, ?_⟩⟩
  refine rV_fall (k := ((h 0 150)).toNat) gu rb.2.1 ri (bd_dAg b) (by omega) (by omega) (by omega) ?_
  rw [rX_at (h := h) (by omega), rX_in (by omega)]
  have := pD_2 g q.2.2.1
  have e4 := hpc.2.2.2
  have := bd_fD (ht := ht) (rg := rg) b (by decide) hpc.2.2.1 (by omega) hpc.1.1
  omega
/-- an object is made -/
def mo_MK (h : ja_H) (c : Int) : ja_H := ja_up (ja_up h 0 138 ((h 0 138) + 1)) 89 ((h 0 138) + 1).toNat c
def FFI : Nat → Nat → Bool := mo_X [] [90, 91]
def FMO : Nat → Nat → Bool := mo_X [138] [89, 90, 91]
theorem mk_ag {h u : ja_H} {c : Int} (ag : mo_ag FFI (mo_MK h c) u) : mo_ag FMO h u :=
  ag_trans (h' := mo_MK h c) (ag_up rfl (ag_up rfl ag_refl)) (ag_sub (X_X (by decide) (by decide)) ag)
theorem mk_rb {h u v : ja_H} {ht st rg : Nat → Int} {c : Int} (b : RB h ht st rg) (h1 : c < (h 0 22)) (ag : mo_ag FFI (mo_MK h c) u) (a2 : mo_ag FRB u v) (vi : VI v) : RB v ht st rg := by
  have a := mk_ag ag
  obtain ⟨-, b2, b3, b4⟩ := b
  have g1 : GA (ja_up h 0 138 ((h 0 138) + 1)) := ga_ag b3 (ag_up rfl ag_refl)
  have g2 : GA (mo_MK h c) := ga_make g1 b4 h1
  refine ⟨vi, ci_g b2 (ag_trans (ag_sub (X_sub (by decide) (by decide)) a) (ag_sub (F_F (by decide) (by decide)) a2)), ga_ag g2 (ag_trans (ag_sub (X_sub (by decide) (by decide)) ag) (ag_sub (F_F (by decide) (by decide)) a2)), (a2 _ _ rfl).trans ((a _ _ rfl).trans b4)⟩
/-- its frame -/
theorem mk_push {h u v : ja_H} {ht st rg : Nat → Int} {r p o : Int} (g : mo_G mo_zr h) (q : AC h ht st rg r) (k2 : (h 52) ((h 115) r.toNat).toNat = 2) (k1 : (h 52) p.toNat = 1) (ca : caN h) (ag : mo_ag FMO h u) (ho : 0 ≤ o ∧ o ≤ 200) (ev : v = ja_up (ja_up (ja_up u 0 150 ((u 0 150) + 1)) 96 ((u 0 150)).toNat 5) 107 ((u 0 150)).toNat o) : RC v ht st rg 1 ∧ reP v p o ∧ dAg h v ((h 0 150)).toNat ∧ (v 0 150) = (h 0 150) + 1 ∧ (v 96) ((h 0 150)).toNat = 5 ∧ mo_ag FRO h v := by
  obtain ⟨rc, -, -, r26, n⟩ := ac_f g q
  have r26 := r26 (by omega)
  have e1 : (u 0 150) = (h 0 150) := ag _ _ rfl
  have F : ∀ j, (u 96) j = (h 96) j := fun j => ag _ _ rfl
  have F2 : ∀ j, (u 107) j = (h 107) j := fun j => ag _ _ rfl
  have agv : mo_ag (mo_X [138, 150] [89, 90, 91, 96, 107]) h v := by
    rw [ev]; exact ag_up rfl (ag_up rfl (ag_up rfl (ag_sub (X_X (by decide) (by decide)) ag)))
  have v1 : (v 0 150) = (h 0 150) + 1 := by rw [ev, ← e1]; rfl
  have v2 : (v 96) ((h 0 150)).toNat = 5 := by rw [ev, e1]; simp [ja_up]
  have v3 : (v 107) ((h 0 150)).toNat = o := by rw [ev, e1]; simp [ja_up]
  have v4 : ∀ j : Nat, j ≠ ((h 0 150)).toNat → (v 96) j = (h 96) j ∧ (v 107) j = (h 107) j := fun j hj => by
    rw [ev, e1]
    exact ⟨(by simp [ja_up, hj] : _ = (u 96) j).trans (F j), (by simp [ja_up, hj] : _ = (u 107) j).trans (F2 j)⟩
  have pv : pot v ((h 0 150)).toNat = 25 ∧ rpot v ((h 0 150)).toNat = 1 := by
    unfold pot rpot
    rw [if_neg (by omega), if_neg (by omega), if_neg (by omega), if_neg (by omega), if_pos v2]; exact ⟨rfl, rfl⟩
  have eN : ((v 0 150) - 1).toNat = ((h 0 150)).toNat := by omega
  have kp : (v 52) p.toNat = 1 := (agv _ _ rfl).trans k1
  have ec := caN_e (h := h) (u := v) (agv _ _ rfl) ca
  have er : (v 0 172) = (h 0 172) := agv _ _ rfl
  refine ⟨rc_pushn g rc (ag_sub (X_sub (by decide) (by decide)) agv) v1 (fun j hj => ⟨(v4 j (by omega)).1, agv _ _ rfl, agv _ _ rfl, agv _ _ rfl, agv _ _ rfl, (v4 j (by omega)).2, agv _ _ rfl, agv _ _ rfl⟩) ⟨funext fun j => agv _ _ rfl, fun r _ => ⟨agv _ _ rfl, agv _ _ rfl⟩⟩ (by omega) (by rw [if_neg (by omega)]; omega) (fun z => by omega) (fun z => by omega) (fun _ => ⟨by omega, ec⟩) (by omega) (by rw [if_neg (by omega)]; omega)
      (rwI_e rc.2.2.2.1 (by omega) (agv _ _ rfl) (agv _ _ rfl) (funext fun j => agv _ _ rfl) (fun r _ => ⟨agv _ _ rfl, agv _ _ rfl, agv _ _ rfl⟩) (funext fun j => agv _ _ rfl) (caN_e (agv _ _ rfl))), ⟨fun _ => ec, fun _ => ec, ?_⟩, ⟨funext fun j => agv _ _ rfl, fun j hj => ⟨(v4 j (by omega)).1, agv _ _ rfl, agv _ _ rfl, agv _ _ rfl⟩⟩, v1, v2, ag_sub (X_sub (by decide) (by decide)) agv⟩
  rw [eN, if_pos kp, if_pos kp]
  omega
theorem ac_meth {h : ja_H} {ht st rg : Nat → Int} (c : CI h ht st rg) {m : Int} (h0 : 0 ≤ m) (h1 : m < (h 0 34)) : (0 ≤ (h 24) m.toNat ∧ (h 24) m.toNat < (h 0 88)) ∧ (h 52) ((h 24) m.toNat).toNat = 1 := by
  have := c.2.2.2.1.1 m.toNat (by omega)
  exact ⟨⟨this.1, this.2.1⟩, this.2.2⟩
theorem ac_call {h : ja_H} {ht st rg : Nat → Int} {r p o : Int} (g : mo_G mo_zr h) (q : AC h ht st rg r) (k0 : (h 52) ((h 115) r.toNat).toNat ≠ 1) (k1 : (h 52) p.toNat = 1) (ca : caN h) : reP h p o := by
  obtain ⟨-, -, -, r26, -⟩ := ac_f g q
  have := r26 k0
  refine ⟨fun _ => ca, fun _ => ca, ?_⟩
  rw [if_pos k1, if_pos k1]
  omega
theorem dmake_0 : decode cX12_make 0 = .ok (.aload_n 0, 1) := by decide +kernel
theorem dmake_1 : decode cX12_make 1 = .ok (.aload_n 0, 1) := by decide +kernel
theorem dmake_2 : decode cX12_make 2 = .ok (.aload_n 0, 1) := by decide +kernel
theorem dmake_3 : decode cX12_make 3 = .ok (.getfield 170, 3) := by decide +kernel
theorem dmake_6 : decode cX12_make 6 = .ok (.iload_n 2, 1) := by decide +kernel
theorem dmake_7 : decode cX12_make 7 = .ok (.iaload, 1) := by decide +kernel
theorem dmake_8 : decode cX12_make 8 = .ok (.invokevirtual 716, 3) := by decide +kernel
theorem dmake_11 : decode cX12_make 11 = .ok (.invokevirtual 903, 3) := by decide +kernel
theorem dmake_14 : decode cX12_make 14 = .ok (.istore_n 3, 1) := by decide +kernel
theorem dmake_15 : decode cX12_make 15 = .ok (.aload_n 0, 1) := by decide +kernel
theorem dmake_16 : decode cX12_make 16 = .ok (.iload_n 3, 1) := by decide +kernel
theorem dmake_17 : decode cX12_make 17 = .ok (.invokevirtual 1095, 3) := by decide +kernel
theorem dmake_20 : decode cX12_make 20 = .ok (.istore 4, 2) := by decide +kernel
theorem dmake_22 : decode cX12_make 22 = .ok (.iload 4, 2) := by decide +kernel
theorem dmake_24 : decode cX12_make 24 = .ok (.ifCond .ge 7, 3) := by decide +kernel
theorem dmake_27 : decode cX12_make 27 = .ok (.iconst 0, 1) := by decide +kernel
theorem dmake_28 : decode cX12_make 28 = .ok (.goto 10, 3) := by decide +kernel
theorem dmake_31 : decode cX12_make 31 = .ok (.aload_n 0, 1) := by decide +kernel
theorem dmake_32 : decode cX12_make 32 = .ok (.getfield 74, 3) := by decide +kernel
theorem dmake_35 : decode cX12_make 35 = .ok (.iload 4, 2) := by decide +kernel
theorem dmake_37 : decode cX12_make 37 = .ok (.iaload, 1) := by decide +kernel
theorem dmake_38 : decode cX12_make 38 = .ok (.istore 5, 2) := by decide +kernel
theorem dmake_40 : decode cX12_make 40 = .ok (.aload_n 0, 1) := by decide +kernel
theorem dmake_41 : decode cX12_make 41 = .ok (.getfield 987, 3) := by decide +kernel
theorem dmake_44 : decode cX12_make 44 = .ok (.sipush 200, 3) := by decide +kernel
theorem dmake_47 : decode cX12_make 47 = .ok (.if_icmp .ne 12, 3) := by decide +kernel
theorem dmake_50 : decode cX12_make 50 = .ok (.aload_n 0, 1) := by decide +kernel
theorem dmake_51 : decode cX12_make 51 = .ok (.bipush (-8), 2) := by decide +kernel
theorem dmake_53 : decode cX12_make 53 = .ok (.invokevirtual 1072, 3) := by decide +kernel
theorem dmake_56 : decode cX12_make 56 = .ok (.goto 142, 3) := by decide +kernel
theorem dmake_59 : decode cX12_make 59 = .ok (.iload 5, 2) := by decide +kernel
theorem dmake_61 : decode cX12_make 61 = .ok (.aload_n 0, 1) := by decide +kernel
theorem dmake_62 : decode cX12_make 62 = .ok (.getfield 366, 3) := by decide +kernel
theorem dmake_65 : decode cX12_make 65 = .ok (.iload_n 1, 1) := by decide +kernel
theorem dmake_66 : decode cX12_make 66 = .ok (.iaload, 1) := by decide +kernel
theorem dmake_67 : decode cX12_make 67 = .ok (.if_icmp .eq 12, 3) := by decide +kernel
theorem dmake_70 : decode cX12_make 70 = .ok (.aload_n 0, 1) := by decide +kernel
theorem dmake_71 : decode cX12_make 71 = .ok (.bipush (-4), 2) := by decide +kernel
theorem dmake_73 : decode cX12_make 73 = .ok (.invokevirtual 1072, 3) := by decide +kernel
theorem dmake_76 : decode cX12_make 76 = .ok (.goto 122, 3) := by decide +kernel
theorem dmake_79 : decode cX12_make 79 = .ok (.aload_n 0, 1) := by decide +kernel
theorem dmake_80 : decode cX12_make 80 = .ok (.dup, 1) := by decide +kernel
theorem dmake_81 : decode cX12_make 81 = .ok (.getfield 987, 3) := by decide +kernel
theorem dmake_84 : decode cX12_make 84 = .ok (.iconst 1, 1) := by decide +kernel
theorem dmake_85 : decode cX12_make 85 = .ok (.iadd, 1) := by decide +kernel
theorem dmake_86 : decode cX12_make 86 = .ok (.putfield 987, 3) := by decide +kernel
theorem dmake_89 : decode cX12_make 89 = .ok (.aload_n 0, 1) := by decide +kernel
theorem dmake_90 : decode cX12_make 90 = .ok (.getfield 987, 3) := by decide +kernel
theorem dmake_93 : decode cX12_make 93 = .ok (.istore 6, 2) := by decide +kernel
theorem dmake_95 : decode cX12_make 95 = .ok (.aload_n 0, 1) := by decide +kernel
theorem dmake_96 : decode cX12_make 96 = .ok (.getfield 276, 3) := by decide +kernel
theorem dmake_99 : decode cX12_make 99 = .ok (.iload 6, 2) := by decide +kernel
theorem dmake_101 : decode cX12_make 101 = .ok (.iload_n 3, 1) := by decide +kernel
theorem dmake_102 : decode cX12_make 102 = .ok (.iastore, 1) := by decide +kernel
theorem dmake_103 : decode cX12_make 103 = .ok (.iconst 0, 1) := by decide +kernel
theorem dmake_104 : decode cX12_make 104 = .ok (.istore 7, 2) := by decide +kernel
theorem dmake_106 : decode cX12_make 106 = .ok (.iload 7, 2) := by decide +kernel
theorem dmake_108 : decode cX12_make 108 = .ok (.aload_n 0, 1) := by decide +kernel
theorem dmake_109 : decode cX12_make 109 = .ok (.getfield 255, 3) := by decide +kernel
theorem dmake_112 : decode cX12_make 112 = .ok (.iload_n 3, 1) := by decide +kernel
theorem dmake_113 : decode cX12_make 113 = .ok (.iaload, 1) := by decide +kernel
theorem dmake_114 : decode cX12_make 114 = .ok (.if_icmp .ge 37, 3) := by decide +kernel
theorem dmake_117 : decode cX12_make 117 = .ok (.aload_n 0, 1) := by decide +kernel
theorem dmake_118 : decode cX12_make 118 = .ok (.getfield 279, 3) := by decide +kernel
theorem dmake_121 : decode cX12_make 121 = .ok (.bipush 120, 2) := by decide +kernel
theorem dmake_123 : decode cX12_make 123 = .ok (.iload 6, 2) := by decide +kernel
theorem dmake_125 : decode cX12_make 125 = .ok (.imul, 1) := by decide +kernel
theorem dmake_126 : decode cX12_make 126 = .ok (.iload 7, 2) := by decide +kernel
theorem dmake_128 : decode cX12_make 128 = .ok (.iadd, 1) := by decide +kernel
theorem dmake_129 : decode cX12_make 129 = .ok (.iconst 0, 1) := by decide +kernel
theorem dmake_130 : decode cX12_make 130 = .ok (.iastore, 1) := by decide +kernel
theorem dmake_131 : decode cX12_make 131 = .ok (.aload_n 0, 1) := by decide +kernel
theorem dmake_132 : decode cX12_make 132 = .ok (.getfield 282, 3) := by decide +kernel
theorem dmake_135 : decode cX12_make 135 = .ok (.bipush 120, 2) := by decide +kernel
theorem dmake_137 : decode cX12_make 137 = .ok (.iload 6, 2) := by decide +kernel
theorem dmake_139 : decode cX12_make 139 = .ok (.imul, 1) := by decide +kernel
theorem dmake_140 : decode cX12_make 140 = .ok (.iload 7, 2) := by decide +kernel
theorem dmake_142 : decode cX12_make 142 = .ok (.iadd, 1) := by decide +kernel
theorem dmake_143 : decode cX12_make 143 = .ok (.iconst 0, 1) := by decide +kernel
theorem dmake_144 : decode cX12_make 144 = .ok (.iastore, 1) := by decide +kernel
theorem dmake_145 : decode cX12_make 145 = .ok (.iinc 7 1, 3) := by decide +kernel
theorem dmake_148 : decode cX12_make 148 = .ok (.goto (-42), 3) := by decide +kernel
theorem dmake_151 : decode cX12_make 151 = .ok (.iload 4, 2) := by decide +kernel
theorem dmake_153 : decode cX12_make 153 = .ok (.ifCond .ge 13, 3) := by decide +kernel
theorem dmake_156 : decode cX12_make 156 = .ok (.aload_n 0, 1) := by decide +kernel
theorem dmake_157 : decode cX12_make 157 = .ok (.iconst 2, 1) := by decide +kernel
theorem dmake_158 : decode cX12_make 158 = .ok (.iload 6, 2) := by decide +kernel
theorem dmake_160 : decode cX12_make 160 = .ok (.invokevirtual 1051, 3) := by decide +kernel
theorem dmake_163 : decode cX12_make 163 = .ok (.goto 35, 3) := by decide +kernel
theorem dmake_166 : decode cX12_make 166 = .ok (.aload_n 0, 1) := by decide +kernel
theorem dmake_167 : decode cX12_make 167 = .ok (.iconst 5, 1) := by decide +kernel
theorem dmake_168 : decode cX12_make 168 = .ok (.invokevirtual 1021, 3) := by decide +kernel
theorem dmake_171 : decode cX12_make 171 = .ok (.istore 7, 2) := by decide +kernel
theorem dmake_173 : decode cX12_make 173 = .ok (.aload_n 0, 1) := by decide +kernel
theorem dmake_174 : decode cX12_make 174 = .ok (.getfield 330, 3) := by decide +kernel
theorem dmake_177 : decode cX12_make 177 = .ok (.iload 7, 2) := by decide +kernel
theorem dmake_179 : decode cX12_make 179 = .ok (.iload 6, 2) := by decide +kernel
theorem dmake_181 : decode cX12_make 181 = .ok (.iastore, 1) := by decide +kernel
theorem dmake_182 : decode cX12_make 182 = .ok (.aload_n 0, 1) := by decide +kernel
theorem dmake_183 : decode cX12_make 183 = .ok (.aload_n 0, 1) := by decide +kernel
theorem dmake_184 : decode cX12_make 184 = .ok (.getfield 80, 3) := by decide +kernel
theorem dmake_187 : decode cX12_make 187 = .ok (.iload 4, 2) := by decide +kernel
theorem dmake_189 : decode cX12_make 189 = .ok (.iaload, 1) := by decide +kernel
theorem dmake_190 : decode cX12_make 190 = .ok (.iload 6, 2) := by decide +kernel
theorem dmake_192 : decode cX12_make 192 = .ok (.iconst 2, 1) := by decide +kernel
theorem dmake_193 : decode cX12_make 193 = .ok (.iload 6, 2) := by decide +kernel
theorem dmake_195 : decode cX12_make 195 = .ok (.invokevirtual 1085, 3) := by decide +kernel
theorem dmake_198 : decode cX12_make 198 = .ok (.return_, 1) := by decide +kernel
section
variable {l : Launch} {D : va_G} {cA : Nat → ClassId} {ad : Nat → Nat}
theorem s_make {a1 a2 : Int} {ht st rg : Nat → Int} {h : ja_H} {Q : Option ja_V → ja_H → Prop} (g : mo_G mo_zr h) (r1 : -2147483648 ≤ a1 ∧ a1 ≤ 2147483647) (r2 : -2147483648 ≤ a2 ∧ a2 ≤ 2147483647) (p1 : AC h ht st rg a1) (p2 : a2 = (h 115 (a1).toNat)) (p3 : (h 52 (a2).toNat) = 2) (k1 : ∀ (h' : ja_H), (RO h h' ht st rg) → mo_G mo_zr h' → Q none h') : mM_make l D cA ad a1 a2 h Q := by
  show mJ l D cA ad 11 cX12_make 8 none 0 [(0, (2, ((0 : Nat) : Int))), (1, (0, a1)), (2, (0, a2))] [] h Q
  have kn_classes := gF_classes g
  have kn_objects := gF_objects g
  have kn_frames := gF_frames g
  have kn_methods := gF_methods g
  obtain ⟨hrc, hr1, hr2, hr3, hr4⟩ := ac_f g p1
  have hr2a := hr2.1
  have grp := gC_reachPoint g (a1).toNat
  have hpt := p1.1.2.1.2.2.2.1.2 (a2).toNat (by omega)
  have hpn := hpt.1
  have hcl := p1.1.2.1.2.2.2.2.2.2.2 (a2).toNat (by omega) p3
  clear hpt
  have gpn := gC_pointName g (a2).toNat
  have CUT : ∀ n : Nat, (∀ (x3 x4 x6 x7 : Int) (u : ja_H), mo_G mo_zr u → (-2147483648 ≤ x3 ∧ x3 ≤ 2147483647) → (-2147483648 ≤ x4 ∧ x4 ≤ 2147483647) → (-2147483648 ≤ x6 ∧ x6 ≤ 2147483647) → (-2147483648 ≤ x7 ∧ x7 ≤ 2147483647) → ((0 ≤ x3 ∧ x3 < (h 0 22) ∧ (x4 = -1 ∨ (0 ≤ x4 ∧ x4 < (h 0 34))) ∧ x6 = (h 0 138) + 1 ∧ (h 0 138) < 200 ∧ 0 ≤ x7 ∧ x7 ≤ (h 82 (x3).toNat)) ∧ mo_ag FFI (mo_MK h x3) u ∧ VI u) → (((1000 : Int) - x7).toNat) = n → mJ l D cA ad 11 cX12_make 8 none 106 [(0, (2, ((0 : Nat) : Int))), (3, (0, x3)), (4, (0, x4)), (6, (0, x6)), (7, (0, x7))] [] u Q) := by
    intro n
    induction n using Nat.strongRecOn with
    | _ n ih =>
      skip
      · intro x3 x4 x6 x7 u gu qx3 qx4 qx6 qx7 iv hm
        subst hm
        have ku_classes := gF_classes gu
        have ku_objects := gF_objects gu
        have ku_frames := gF_frames gu
        have ku_methods := gF_methods gu
        have hcaH := ga_ca p1.1.2.1 (show (1 : Int) ≤ (h 0 22) by omega)
        obtain ⟨iv, ag, qv⟩ := iv
        have hca : caN u := caN_e (mk_ag ag _ _ rfl) hcaH
        have elm : (u 82) (x3).toNat = (h 82) (x3).toNat := mk_ag ag _ _ rfl
        have e_frames : (u 0 150) = (h 0 150) := mk_ag ag _ _ rfl
        have eob : (u 0 138) = (h 0 138) + 1 := (ag _ _ rfl).trans rfl
        have emp : (u 24) (x4).toNat = (h 24) (x4).toNat := mk_ag ag _ _ rfl
        have epo : (u 0 88) = (h 0 88) := mk_ag ag _ _ rfl
        have klm := gC_layoutMany g (x3).toNat
        refine ja_iload dmake_106 rfl ?_
        refine ja_aload_n dmake_108 rfl rfl ?_
        refine fa_layoutMany dmake_109 ?_
        refine ja_iload_n dmake_112 rfl rfl ?_
        refine il_layoutMany (v := u 82 (x3).toNat) rfl ⟨by omega, by omega⟩ dmake_113 ?_
        have f1 := gC_layoutMany gu (x3).toNat
        refine ja_icmp_ge 151 dmake_114 rfl ⟨by omega, by omega⟩ ⟨by omega, by omega⟩ (fun c114 => ?_) (fun c114 => ?_)
        · refine ja_iload dmake_151 rfl ?_
          refine ja_if_ge 166 dmake_153 rfl ⟨by omega, by omega⟩ (fun c153 => ?_) (fun c153 => ?_)
          · refine ja_aload_n dmake_166 rfl rfl ?_
            refine ja_iconst dmake_167 ?_
            refine t_push (by decide) (show (0 : Nat) ≤ 8 by decide) dmake_168 gu ⟨by decide, by decide⟩ (show 0 ≤ 5 ∧ 5 ≤ 5 by omega) (show (u 0 150) < 3000 by omega) ?_
            intro g2
            replace g2 : mo_G mo_zr (ja_up (ja_up u 0 150 ((u 0 150) + 1)) 96 ((u 0 150).toNat) 5) := g2
            show mJ l D cA ad 11 cX12_make 8 none 171 [(0, (2, ((0 : Nat) : Int))), (3, (0, x3)), (4, (0, x4)), (6, (0, x6)), (7, (0, x7))] [(0, (u 0 150))] (ja_up (ja_up u 0 150 ((u 0 150) + 1)) 96 ((u 0 150).toNat) 5) Q
            refine ja_istore dmake_171 (by decide) (L2 := [(7, (0, (u 0 150))), (0, (2, ((0 : Nat) : Int))), (3, (0, x3)), (4, (0, x4)), (6, (0, x6))]) rfl ?_
            refine ja_aload_n dmake_173 rfl rfl ?_
            refine fa_frameValue dmake_174 ?_
            refine ja_iload dmake_177 rfl ?_
            refine ja_iload dmake_179 rfl ?_
            have g3 := gW_frameValue g2 (u 0 150).toNat (x := x6) ⟨by omega, by omega⟩
            refine is_frameValue ⟨by omega, by omega⟩ dmake_181 ?_
            have hmt := ac_meth p1.1.2.1 (m := x4) (by omega) (by omega)
            have mkp := mk_push (p := (h 24 (x4).toNat)) (o := x6) g p1 (by rw [← p2]; exact p3) hmt.2 hcaH (mk_ag ag) (by omega) rfl
            have hmt1 := hmt.1
            refine ja_aload_n dmake_182 rfl rfl ?_
            refine ja_aload_n dmake_183 rfl rfl ?_
            refine fa_methodPoint dmake_184 ?_
            refine ja_iload dmake_187 rfl ?_
            refine il_methodPoint (v := u 24 (x4).toNat) rfl ⟨by omega, by omega⟩ dmake_189 ?_
            have f4 := gC_methodPoint gu (x4).toNat
            refine ja_iload dmake_190 rfl ?_
            refine ja_iconst dmake_192 ?_
            refine ja_iload dmake_193 rfl ?_
            refine t_reach (by decide) (show (0 : Nat) ≤ 8 by decide) dmake_195 g3 ⟨by omega, by omega⟩ ⟨by omega, by omega⟩ ⟨by decide, by decide⟩ ⟨by omega, by omega⟩ ((show 0 ≤ (u 24 (x4).toNat) ∧ (u 24 (x4).toNat) < (u 0 88) by omega)) (show 0 ≤ x6 ∧ x6 ≤ 200 by omega) (show 0 ≤ 2 ∧ 2 ≤ 2 by omega) ((fun _ => by omega)) ((fun _ => hca)) ((mk_rb p1.1 (by omega) ag (by (repeat (first | exact ag_refl | refine ag_up rfl ?_))) (by (repeat (first | exact qv | refine vi_set (by decide) (by decide) (by decide) ?_ (by first | exact (fun z => absurd z (by decide)) | exact vi_aS qv (by decide) _ | exact qv.2 | exact (fun z => ⟨by omega, hca⟩) | exact (fun z => ⟨by omega, hca z⟩) | (intro z; exfalso; omega)) | refine vi_res ?_ (by first | exact (fun z => absurd z (by decide)) | exact vi_aS qv (by decide) _ | exact qv.2 | exact (fun z => ⟨by omega, hca⟩) | exact (fun z => ⟨by omega, hca z⟩) | (intro z; exfalso; omega)) | refine vi_arr (by decide) (by decide) ?_ | refine vi_up (by decide) (by decide) ?_ | refine vi_val (ck := 106) (by decide) (by decide) (by decide) ?_ ⟨by omega, by omega⟩))))) (mkp.1) ((by rw [emp]; exact mkp.2.1)) ?_
            intro h5 k195_0 g6
            replace k195_0 : RE (ja_up (ja_up (ja_up u 0 150 ((u 0 150) + 1)) 96 ((u 0 150).toNat) 5) 107 ((u 0 150).toNat) x6) h5 ht st rg := k195_0
            have e9 := mkp.2.2.2.1
            refine ja_return dmake_198 rfl ?_
            exact k1 h5 ((ac_push g g6 p1 k195_0 mkp.2.2.2.2.2 (dAg_tr mkp.2.2.1 k195_0.2.2.2.2.1 (by omega)) (by have := k195_0.2.2.2.1.2.1; omega) (Or.inr ((k195_0.2.2.2.2.1.2 _ (by omega)).1.trans mkp.2.2.2.2.1)))) g6
          · refine ja_aload_n dmake_156 rfl rfl ?_
            refine ja_iconst dmake_157 ?_
            refine ja_iload dmake_158 rfl ?_
            refine t_result (by decide) (show (0 : Nat) ≤ 8 by decide) dmake_160 gu ⟨by decide, by decide⟩ ⟨by omega, by omega⟩ (show 0 ≤ 2 ∧ 2 ≤ 2 by omega) ?_
            intro g7
            replace g7 : mo_G mo_zr (ja_up (ja_up (ja_up (ja_up u 0 186 1) 0 187 0) 0 188 2) 0 189 x6) := g7
            show mJ l D cA ad 11 cX12_make 8 none 163 [(0, (2, ((0 : Nat) : Int))), (3, (0, x3)), (4, (0, x4)), (6, (0, x6)), (7, (0, x7))] [] (ja_up (ja_up (ja_up (ja_up u 0 186 1) 0 187 0) 0 188 2) 0 189 x6) Q
            refine ja_goto 198 dmake_163 rfl ?_
            refine ja_return dmake_198 rfl ?_
            exact k1 (ja_up (ja_up (ja_up (ja_up u 0 186 1) 0 187 0) 0 188 2) 0 189 x6) ((ac_end g g7 p1 (mk_rb p1.1 (by omega) ag (by (repeat (first | exact ag_refl | refine ag_up rfl ?_))) (by (repeat (first | exact qv | refine vi_set (by decide) (by decide) (by decide) ?_ (by first | exact (fun z => absurd z (by decide)) | exact vi_aS qv (by decide) _ | exact qv.2 | exact (fun z => ⟨by omega, hca⟩) | exact (fun z => ⟨by omega, hca z⟩) | (intro z; exfalso; omega)) | refine vi_res ?_ (by first | exact (fun z => absurd z (by decide)) | exact vi_aS qv (by decide) _ | exact qv.2 | exact (fun z => ⟨by omega, hca⟩) | exact (fun z => ⟨by omega, hca z⟩) | (intro z; exfalso; omega)) | refine vi_arr (by decide) (by decide) ?_ | refine vi_up (by decide) (by decide) ?_ | refine vi_val (ck := 106) (by decide) (by decide) (by decide) ?_ ⟨by omega, by omega⟩)))) (ag_trans (ag_sub (X_X (by decide) (by decide)) (mk_ag ag)) (by (repeat (first | exact ag_refl | refine ag_up rfl ?_)))) (by simp [ja_up]))) g7
        · refine ja_aload_n dmake_117 rfl rfl ?_
          refine fa_fieldKind dmake_118 ?_
          refine ja_bipush 120 dmake_121 rfl ?_
          refine ja_iload dmake_123 rfl ?_
          refine ja_imul dmake_125 ?_
          refine ja_iload dmake_126 rfl ?_
          refine ja_iadd dmake_128 ?_
          refine ja_iconst dmake_129 ?_
          have g8 := gW_fieldKind gu ((120 * x6) + x7).toNat (x := 0) ⟨by decide, by decide⟩
          refine is_fieldKind ⟨by omega, by omega⟩ dmake_130 ?_
          refine ja_aload_n dmake_131 rfl rfl ?_
          refine fa_fieldValue dmake_132 ?_
          refine ja_bipush 120 dmake_135 rfl ?_
          refine ja_iload dmake_137 rfl ?_
          refine ja_imul dmake_139 ?_
          refine ja_iload dmake_140 rfl ?_
          refine ja_iadd dmake_142 ?_
          refine ja_iconst dmake_143 ?_
          have g9 := gW_fieldValue g8 ((120 * x6) + x7).toNat (x := 0) ⟨by decide, by decide⟩
          refine is_fieldValue ⟨by omega, by omega⟩ dmake_144 ?_
          refine ja_iinc dmake_145 rfl (by decide) (L2 := [(7, (0, (x7 + 1))), (0, (2, ((0 : Nat) : Int))), (3, (0, x3)), (4, (0, x4)), (6, (0, x6))]) rfl ?_
          refine ja_goto 106 dmake_148 rfl ?_
          exact ja_wk (fun q hq => by simp only [List.mem_cons, List.not_mem_nil, or_false] at hq; rcases hq with rfl | rfl | rfl | rfl | rfl <;> rfl) ((ih (((1000 : Int) - (x7 + 1)).toNat) (by omega)) x3 x4 x6 (x7 + 1) (ja_up (ja_up u 90 (((120 * x6) + x7).toNat) 0) 91 (((120 * x6) + x7).toNat) 0) g9 ⟨by omega, by omega⟩ ⟨by omega, by omega⟩ ⟨by omega, by omega⟩ ⟨by omega, by omega⟩ (⟨by omega, (ag_trans ag (by (repeat (first | exact ag_refl | refine ag_up rfl ?_)))), (by (repeat (first | exact qv | refine vi_set (by decide) (by decide) (by decide) ?_ (by first | exact (fun z => absurd z (by decide)) | exact vi_aS qv (by decide) _ | exact qv.2 | exact (fun z => ⟨by omega, hca⟩) | exact (fun z => ⟨by omega, hca z⟩) | (intro z; exfalso; omega)) | refine vi_res ?_ (by first | exact (fun z => absurd z (by decide)) | exact vi_aS qv (by decide) _ | exact qv.2 | exact (fun z => ⟨by omega, hca⟩) | exact (fun z => ⟨by omega, hca z⟩) | (intro z; exfalso; omega)) | refine vi_arr (by decide) (by decide) ?_ | refine vi_up (by decide) (by decide) ?_ | refine vi_val (ck := 106) (by decide) (by decide) (by decide) ?_ ⟨by omega, by omega⟩)))⟩) rfl)
  refine ja_aload_n dmake_0 rfl rfl ?_
  refine ja_aload_n dmake_1 rfl rfl ?_
  refine ja_aload_n dmake_2 rfl rfl ?_
  refine fa_pointName dmake_3 ?_
  refine ja_iload_n dmake_6 rfl rfl ?_
  refine il_pointName (v := h 54 (a2).toNat) rfl ⟨by omega, by omega⟩ dmake_7 ?_
  have f10 := gC_pointName g (a2).toNat
  refine t_id (by decide) (show (1 : Nat) ≤ 8 by decide) dmake_8 g ⟨by omega, by omega⟩ (show 0 ≤ (h 54 (a2).toNat) ∧ (h 54 (a2).toNat) ≤ 900 by omega) ?_
  intro k8_0
  refine t_classOf2 (by decide) (show (0 : Nat) ≤ 8 by decide) dmake_11 g ⟨by omega, by omega⟩ ?_ ?_
  · intro w11 k11_0
    refine ja_istore_n dmake_14 rfl (by decide) (L2 := [(3, (0, w11)), (0, (2, ((0 : Nat) : Int))), (1, (0, a1)), (2, (0, a2))]) rfl ?_
    have hcaH := ga_ca p1.1.2.1 (show (1 : Int) ≤ (h 0 22) by omega)
    have hca := hcaH
    obtain ⟨m, rk, hm9, hr9, ho9, hc9⟩ := ga_cl g p1.1.2.2.1 hcaH
    have hc9 := hc9 p1.1.2.2.2
    refine ja_aload_n dmake_15 rfl rfl ?_
    refine ja_iload_n dmake_16 rfl rfl ?_
    refine t_initIn (by decide) (show (0 : Nat) ≤ 8 by decide) dmake_17 g ⟨by omega, by omega⟩ (show -1 ≤ w11 ∧ w11 < m by omega) (show m ≤ 12 by omega) (hr9) ?_
    intro w12 k17_0
    refine ja_istore dmake_20 (by decide) (L2 := [(4, (0, w12)), (3, (0, w11)), (0, (2, ((0 : Nat) : Int))), (1, (0, a1)), (2, (0, a2))]) rfl ?_
    refine ja_iload dmake_22 rfl ?_
    refine ja_if_ge 31 dmake_24 rfl ⟨by omega, by omega⟩ (fun c24 => ?_) (fun c24 => ?_)
    · refine ja_aload_n dmake_31 rfl rfl ?_
      refine fa_methodParams dmake_32 ?_
      refine ja_iload dmake_35 rfl ?_
      refine il_methodParams (v := h 22 (w12).toNat) rfl ⟨by omega, by omega⟩ dmake_37 ?_
      have f13 := gC_methodParams g (w12).toNat
      refine ja_istore dmake_38 (by decide) (L2 := [(5, (0, (h 22 (w12).toNat))), (4, (0, w12)), (3, (0, w11)), (0, (2, ((0 : Nat) : Int))), (1, (0, a1)), (2, (0, a2))]) rfl ?_
      refine ja_aload_n dmake_40 rfl rfl ?_
      refine fg_objects (v := h 0 138) rfl dmake_41 ?_
      have f14 := gF_objects g
      refine ja_sipush 200 dmake_44 rfl ?_
      refine ja_icmp_ne 59 dmake_47 rfl ⟨by omega, by omega⟩ ⟨by decide, by decide⟩ (fun c47 => ?_) (fun c47 => ?_)
      · refine ja_iload dmake_59 rfl ?_
        refine ja_aload_n dmake_61 rfl rfl ?_
        refine fa_reachMany dmake_62 ?_
        refine ja_iload_n dmake_65 rfl rfl ?_
        refine il_reachMany (v := h 119 (a1).toNat) rfl ⟨by omega, by omega⟩ dmake_66 ?_
        have f15 := gC_reachMany g (a1).toNat
        refine ja_icmp_eq 79 dmake_67 rfl ⟨by omega, by omega⟩ ⟨by omega, by omega⟩ (fun c67 => ?_) (fun c67 => ?_)
        · refine ja_aload_n dmake_79 rfl rfl ?_
          refine ja_dup dmake_80 (by decide) ?_
          refine fg_objects (v := h 0 138) rfl dmake_81 ?_
          refine ja_iconst dmake_84 ?_
          refine ja_iadd dmake_85 ?_
          have g16 := gP_objects g (x := (h 0 138) + 1) ⟨by omega, by omega⟩
          refine fp_objects dmake_86 ?_
          refine ja_aload_n dmake_89 rfl rfl ?_
          refine fg_objects (v := (h 0 138) + 1) rfl dmake_90 ?_
          refine ja_istore dmake_93 (by decide) (L2 := [(6, (0, ((h 0 138) + 1))), (5, (0, (h 22 (w12).toNat))), (4, (0, w12)), (3, (0, w11)), (0, (2, ((0 : Nat) : Int))), (1, (0, a1)), (2, (0, a2))]) rfl ?_
          refine ja_aload_n dmake_95 rfl rfl ?_
          refine fa_objectClass dmake_96 ?_
          refine ja_iload dmake_99 rfl ?_
          refine ja_iload_n dmake_101 rfl rfl ?_
          have g17 := gW_objectClass g16 ((h 0 138) + 1).toNat (x := w11) ⟨by omega, by omega⟩
          refine is_objectClass ⟨by omega, by omega⟩ dmake_102 ?_
          have klm := gC_layoutMany g w11.toNat
          refine ja_iconst dmake_103 ?_
          refine ja_istore dmake_104 (by decide) (L2 := [(7, (0, 0)), (6, (0, ((h 0 138) + 1))), (5, (0, (h 22 (w12).toNat))), (4, (0, w12)), (3, (0, w11)), (0, (2, ((0 : Nat) : Int))), (1, (0, a1)), (2, (0, a2))]) rfl ?_
          exact ja_wk (fun q hq => by simp only [List.mem_cons, List.not_mem_nil, or_false] at hq; rcases hq with rfl | rfl | rfl | rfl | rfl <;> rfl) ((CUT _) w11 w12 ((h 0 138) + 1) 0 (ja_up (ja_up h 0 138 ((h 0 138) + 1)) 89 (((h 0 138) + 1).toNat) w11) g17 ⟨by omega, by omega⟩ ⟨by omega, by omega⟩ ⟨by omega, by omega⟩ ⟨by decide, by decide⟩ (⟨by omega, (show mo_ag FFI (mo_MK h w11) (ja_up (ja_up h 0 138 ((h 0 138) + 1)) 89 (((h 0 138) + 1).toNat) w11) from fun _ _ _ => rfl), (by have qv := p1.1.1; exact (by (repeat (first | exact qv | refine vi_set (by decide) (by decide) (by decide) ?_ (by first | exact (fun z => absurd z (by decide)) | exact vi_aS qv (by decide) _ | exact qv.2 | exact (fun z => ⟨by omega, hca⟩) | exact (fun z => ⟨by omega, hca z⟩) | (intro z; exfalso; omega)) | refine vi_res ?_ (by first | exact (fun z => absurd z (by decide)) | exact vi_aS qv (by decide) _ | exact qv.2 | exact (fun z => ⟨by omega, hca⟩) | exact (fun z => ⟨by omega, hca z⟩) | (intro z; exfalso; omega)) | refine vi_arr (by decide) (by decide) ?_ | refine vi_up (by decide) (by decide) ?_ | refine vi_val (ck := 106) (by decide) (by decide) (by decide) ?_ ⟨by omega, by omega⟩))))⟩) rfl)
        · refine ja_aload_n dmake_70 rfl rfl ?_
          refine ja_bipush (-4) dmake_71 rfl ?_
          refine t_fails (by decide) (show (0 : Nat) ≤ 8 by decide) dmake_73 g ⟨by decide, by decide⟩ ?_
          intro g18
          replace g18 : mo_G mo_zr (ja_up (ja_up (ja_up (ja_up h 0 186 1) 0 187 1) 0 188 1) 0 189 (-4)) := g18
          show mJ l D cA ad 11 cX12_make 8 none 76 [(5, (0, (h 22 (w12).toNat))), (4, (0, w12)), (3, (0, w11)), (0, (2, ((0 : Nat) : Int))), (1, (0, a1)), (2, (0, a2))] [] (ja_up (ja_up (ja_up (ja_up h 0 186 1) 0 187 1) 0 188 1) 0 189 (-4)) Q
          refine ja_goto 198 dmake_76 rfl ?_
          refine ja_return dmake_198 rfl ?_
          exact k1 (ja_up (ja_up (ja_up (ja_up h 0 186 1) 0 187 1) 0 188 1) 0 189 (-4)) ((ac_end g g18 p1 (rb_ag p1.1 (by have qv := p1.1.1; exact (by (repeat (first | exact qv | refine vi_set (by decide) (by decide) (by decide) ?_ (by first | exact (fun z => absurd z (by decide)) | exact vi_aS qv (by decide) _ | exact qv.2 | exact (fun z => ⟨by omega, hca⟩) | exact (fun z => ⟨by omega, hca z⟩) | (intro z; exfalso; omega)) | refine vi_res ?_ (by first | exact (fun z => absurd z (by decide)) | exact vi_aS qv (by decide) _ | exact qv.2 | exact (fun z => ⟨by omega, hca⟩) | exact (fun z => ⟨by omega, hca z⟩) | (intro z; exfalso; omega)) | refine vi_arr (by decide) (by decide) ?_ | refine vi_up (by decide) (by decide) ?_ | refine vi_val (ck := 106) (by decide) (by decide) (by decide) ?_ ⟨by omega, by omega⟩)))) (by (repeat (first | exact ag_refl | refine ag_up rfl ?_)))) (by (repeat (first | exact ag_refl | refine ag_up rfl ?_))) (by simp [ja_up]))) g18
      · refine ja_aload_n dmake_50 rfl rfl ?_
        refine ja_bipush (-8) dmake_51 rfl ?_
        refine t_fails (by decide) (show (0 : Nat) ≤ 8 by decide) dmake_53 g ⟨by decide, by decide⟩ ?_
        intro g19
        replace g19 : mo_G mo_zr (ja_up (ja_up (ja_up (ja_up h 0 186 1) 0 187 1) 0 188 1) 0 189 (-8)) := g19
        show mJ l D cA ad 11 cX12_make 8 none 56 [(5, (0, (h 22 (w12).toNat))), (4, (0, w12)), (3, (0, w11)), (0, (2, ((0 : Nat) : Int))), (1, (0, a1)), (2, (0, a2))] [] (ja_up (ja_up (ja_up (ja_up h 0 186 1) 0 187 1) 0 188 1) 0 189 (-8)) Q
        refine ja_goto 198 dmake_56 rfl ?_
        refine ja_return dmake_198 rfl ?_
        exact k1 (ja_up (ja_up (ja_up (ja_up h 0 186 1) 0 187 1) 0 188 1) 0 189 (-8)) ((ac_end g g19 p1 (rb_ag p1.1 (by have qv := p1.1.1; exact (by (repeat (first | exact qv | refine vi_set (by decide) (by decide) (by decide) ?_ (by first | exact (fun z => absurd z (by decide)) | exact vi_aS qv (by decide) _ | exact qv.2 | exact (fun z => ⟨by omega, hca⟩) | exact (fun z => ⟨by omega, hca z⟩) | (intro z; exfalso; omega)) | refine vi_res ?_ (by first | exact (fun z => absurd z (by decide)) | exact vi_aS qv (by decide) _ | exact qv.2 | exact (fun z => ⟨by omega, hca⟩) | exact (fun z => ⟨by omega, hca z⟩) | (intro z; exfalso; omega)) | refine vi_arr (by decide) (by decide) ?_ | refine vi_up (by decide) (by decide) ?_ | refine vi_val (ck := 106) (by decide) (by decide) (by decide) ?_ ⟨by omega, by omega⟩)))) (by (repeat (first | exact ag_refl | refine ag_up rfl ?_)))) (by (repeat (first | exact ag_refl | refine ag_up rfl ?_))) (by simp [ja_up]))) g19
    · refine ja_iconst dmake_27 ?_
      refine ja_goto 38 dmake_28 rfl ?_
      refine ja_istore dmake_38 (by decide) (L2 := [(5, (0, 0)), (4, (0, w12)), (3, (0, w11)), (0, (2, ((0 : Nat) : Int))), (1, (0, a1)), (2, (0, a2))]) rfl ?_
      refine ja_aload_n dmake_40 rfl rfl ?_
      refine fg_objects (v := h 0 138) rfl dmake_41 ?_
      have f20 := gF_objects g
      refine ja_sipush 200 dmake_44 rfl ?_
      refine ja_icmp_ne 59 dmake_47 rfl ⟨by omega, by omega⟩ ⟨by decide, by decide⟩ (fun c47 => ?_) (fun c47 => ?_)
      · refine ja_iload dmake_59 rfl ?_
        refine ja_aload_n dmake_61 rfl rfl ?_
        refine fa_reachMany dmake_62 ?_
        refine ja_iload_n dmake_65 rfl rfl ?_
        refine il_reachMany (v := h 119 (a1).toNat) rfl ⟨by omega, by omega⟩ dmake_66 ?_
        have f21 := gC_reachMany g (a1).toNat
        refine ja_icmp_eq 79 dmake_67 rfl ⟨by decide, by decide⟩ ⟨by omega, by omega⟩ (fun c67 => ?_) (fun c67 => ?_)
        · refine ja_aload_n dmake_79 rfl rfl ?_
          refine ja_dup dmake_80 (by decide) ?_
          refine fg_objects (v := h 0 138) rfl dmake_81 ?_
          refine ja_iconst dmake_84 ?_
          refine ja_iadd dmake_85 ?_
          have g22 := gP_objects g (x := (h 0 138) + 1) ⟨by omega, by omega⟩
          refine fp_objects dmake_86 ?_
          refine ja_aload_n dmake_89 rfl rfl ?_
          refine fg_objects (v := (h 0 138) + 1) rfl dmake_90 ?_
          refine ja_istore dmake_93 (by decide) (L2 := [(6, (0, ((h 0 138) + 1))), (5, (0, 0)), (4, (0, w12)), (3, (0, w11)), (0, (2, ((0 : Nat) : Int))), (1, (0, a1)), (2, (0, a2))]) rfl ?_
          refine ja_aload_n dmake_95 rfl rfl ?_
          refine fa_objectClass dmake_96 ?_
          refine ja_iload dmake_99 rfl ?_
          refine ja_iload_n dmake_101 rfl rfl ?_
          have g23 := gW_objectClass g22 ((h 0 138) + 1).toNat (x := w11) ⟨by omega, by omega⟩
          refine is_objectClass ⟨by omega, by omega⟩ dmake_102 ?_
          have klm := gC_layoutMany g w11.toNat
          refine ja_iconst dmake_103 ?_
          refine ja_istore dmake_104 (by decide) (L2 := [(7, (0, 0)), (6, (0, ((h 0 138) + 1))), (5, (0, 0)), (4, (0, w12)), (3, (0, w11)), (0, (2, ((0 : Nat) : Int))), (1, (0, a1)), (2, (0, a2))]) rfl ?_
          exact ja_wk (fun q hq => by simp only [List.mem_cons, List.not_mem_nil, or_false] at hq; rcases hq with rfl | rfl | rfl | rfl | rfl <;> rfl) ((CUT _) w11 w12 ((h 0 138) + 1) 0 (ja_up (ja_up h 0 138 ((h 0 138) + 1)) 89 (((h 0 138) + 1).toNat) w11) g23 ⟨by omega, by omega⟩ ⟨by omega, by omega⟩ ⟨by omega, by omega⟩ ⟨by decide, by decide⟩ (⟨by omega, (show mo_ag FFI (mo_MK h w11) (ja_up (ja_up h 0 138 ((h 0 138) + 1)) 89 (((h 0 138) + 1).toNat) w11) from fun _ _ _ => rfl), (by have qv := p1.1.1; exact (by (repeat (first | exact qv | refine vi_set (by decide) (by decide) (by decide) ?_ (by first | exact (fun z => absurd z (by decide)) | exact vi_aS qv (by decide) _ | exact qv.2 | exact (fun z => ⟨by omega, hca⟩) | exact (fun z => ⟨by omega, hca z⟩) | (intro z; exfalso; omega)) | refine vi_res ?_ (by first | exact (fun z => absurd z (by decide)) | exact vi_aS qv (by decide) _ | exact qv.2 | exact (fun z => ⟨by omega, hca⟩) | exact (fun z => ⟨by omega, hca z⟩) | (intro z; exfalso; omega)) | refine vi_arr (by decide) (by decide) ?_ | refine vi_up (by decide) (by decide) ?_ | refine vi_val (ck := 106) (by decide) (by decide) (by decide) ?_ ⟨by omega, by omega⟩))))⟩) rfl)
        · refine ja_aload_n dmake_70 rfl rfl ?_
          refine ja_bipush (-4) dmake_71 rfl ?_
          refine t_fails (by decide) (show (0 : Nat) ≤ 8 by decide) dmake_73 g ⟨by decide, by decide⟩ ?_
          intro g24
          replace g24 : mo_G mo_zr (ja_up (ja_up (ja_up (ja_up h 0 186 1) 0 187 1) 0 188 1) 0 189 (-4)) := g24
          show mJ l D cA ad 11 cX12_make 8 none 76 [(5, (0, 0)), (4, (0, w12)), (3, (0, w11)), (0, (2, ((0 : Nat) : Int))), (1, (0, a1)), (2, (0, a2))] [] (ja_up (ja_up (ja_up (ja_up h 0 186 1) 0 187 1) 0 188 1) 0 189 (-4)) Q
          refine ja_goto 198 dmake_76 rfl ?_
          refine ja_return dmake_198 rfl ?_
          exact k1 (ja_up (ja_up (ja_up (ja_up h 0 186 1) 0 187 1) 0 188 1) 0 189 (-4)) ((ac_end g g24 p1 (rb_ag p1.1 (by have qv := p1.1.1; exact (by (repeat (first | exact qv | refine vi_set (by decide) (by decide) (by decide) ?_ (by first | exact (fun z => absurd z (by decide)) | exact vi_aS qv (by decide) _ | exact qv.2 | exact (fun z => ⟨by omega, hca⟩) | exact (fun z => ⟨by omega, hca z⟩) | (intro z; exfalso; omega)) | refine vi_res ?_ (by first | exact (fun z => absurd z (by decide)) | exact vi_aS qv (by decide) _ | exact qv.2 | exact (fun z => ⟨by omega, hca⟩) | exact (fun z => ⟨by omega, hca z⟩) | (intro z; exfalso; omega)) | refine vi_arr (by decide) (by decide) ?_ | refine vi_up (by decide) (by decide) ?_ | refine vi_val (ck := 106) (by decide) (by decide) (by decide) ?_ ⟨by omega, by omega⟩)))) (by (repeat (first | exact ag_refl | refine ag_up rfl ?_)))) (by (repeat (first | exact ag_refl | refine ag_up rfl ?_))) (by simp [ja_up]))) g24
      · refine ja_aload_n dmake_50 rfl rfl ?_
        refine ja_bipush (-8) dmake_51 rfl ?_
        refine t_fails (by decide) (show (0 : Nat) ≤ 8 by decide) dmake_53 g ⟨by decide, by decide⟩ ?_
        intro g25
        replace g25 : mo_G mo_zr (ja_up (ja_up (ja_up (ja_up h 0 186 1) 0 187 1) 0 188 1) 0 189 (-8)) := g25
        show mJ l D cA ad 11 cX12_make 8 none 56 [(5, (0, 0)), (4, (0, w12)), (3, (0, w11)), (0, (2, ((0 : Nat) : Int))), (1, (0, a1)), (2, (0, a2))] [] (ja_up (ja_up (ja_up (ja_up h 0 186 1) 0 187 1) 0 188 1) 0 189 (-8)) Q
        refine ja_goto 198 dmake_56 rfl ?_
        refine ja_return dmake_198 rfl ?_
        exact k1 (ja_up (ja_up (ja_up (ja_up h 0 186 1) 0 187 1) 0 188 1) 0 189 (-8)) ((ac_end g g25 p1 (rb_ag p1.1 (by have qv := p1.1.1; exact (by (repeat (first | exact qv | refine vi_set (by decide) (by decide) (by decide) ?_ (by first | exact (fun z => absurd z (by decide)) | exact vi_aS qv (by decide) _ | exact qv.2 | exact (fun z => ⟨by omega, hca⟩) | exact (fun z => ⟨by omega, hca z⟩) | (intro z; exfalso; omega)) | refine vi_res ?_ (by first | exact (fun z => absurd z (by decide)) | exact vi_aS qv (by decide) _ | exact qv.2 | exact (fun z => ⟨by omega, hca⟩) | exact (fun z => ⟨by omega, hca z⟩) | (intro z; exfalso; omega)) | refine vi_arr (by decide) (by decide) ?_ | refine vi_up (by decide) (by decide) ?_ | refine vi_val (ck := 106) (by decide) (by decide) (by decide) ?_ ⟨by omega, by omega⟩)))) (by (repeat (first | exact ag_refl | refine ag_up rfl ?_)))) (by (repeat (first | exact ag_refl | refine ag_up rfl ?_))) (by simp [ja_up]))) g25
  · intro k11_1
    exfalso; omega
theorem t_make {a1 a2 : Int} {ht st rg : Nat → Int} {d nL pc : Nat} {cc : ByteArray} {rt : Option FieldType} {L : List (Nat × ja_V)} {S : List ja_V} {h : ja_H} {Q : Option ja_V → ja_H → Prop} (hdd : 11 < d) (hwd : ja_wd S ≤ 8) (hd : decode cc pc = .ok (.invokevirtual 1089, 3)) (g : mo_G mo_zr h) (r1 : -2147483648 ≤ a1 ∧ a1 ≤ 2147483647) (r2 : -2147483648 ≤ a2 ∧ a2 ≤ 2147483647) (p1 : AC h ht st rg a1) (p2 : a2 = (h 115 (a1).toNat)) (p3 : (h 52 (a2).toNat) = 2) (k1 : ∀ (h' : ja_H), (RO h h' ht st rg) → mo_G mo_zr h' → mJ l D cA ad d cc nL rt (pc + 3) L S h' Q) : mJ l D cA ad d cc nL rt pc L ((0, a2) :: (0, a1) :: (2, ((0 : Nat) : Int)) :: S) h Q :=
  mc_make hdd hwd hd (s_make g r1 r2 p1 p2 p3 k1)
end
theorem dact_0 : decode cX12_act 0 = .ok (.aload_n 0, 1) := by decide +kernel
theorem dact_1 : decode cX12_act 1 = .ok (.getfield 354, 3) := by decide +kernel
theorem dact_4 : decode cX12_act 4 = .ok (.iload_n 1, 1) := by decide +kernel
theorem dact_5 : decode cX12_act 5 = .ok (.iaload, 1) := by decide +kernel
theorem dact_6 : decode cX12_act 6 = .ok (.istore_n 2, 1) := by decide +kernel
theorem dact_7 : decode cX12_act 7 = .ok (.aload_n 0, 1) := by decide +kernel
theorem dact_8 : decode cX12_act 8 = .ok (.getfield 363, 3) := by decide +kernel
theorem dact_11 : decode cX12_act 11 = .ok (.iload_n 1, 1) := by decide +kernel
theorem dact_12 : decode cX12_act 12 = .ok (.iaload, 1) := by decide +kernel
theorem dact_13 : decode cX12_act 13 = .ok (.istore_n 3, 1) := by decide +kernel
theorem dact_14 : decode cX12_act 14 = .ok (.aload_n 0, 1) := by decide +kernel
theorem dact_15 : decode cX12_act 15 = .ok (.getfield 360, 3) := by decide +kernel
theorem dact_18 : decode cX12_act 18 = .ok (.iload_n 1, 1) := by decide +kernel
theorem dact_19 : decode cX12_act 19 = .ok (.iaload, 1) := by decide +kernel
theorem dact_20 : decode cX12_act 20 = .ok (.iconst 2, 1) := by decide +kernel
theorem dact_21 : decode cX12_act 21 = .ok (.if_icmp .ne 7, 3) := by decide +kernel
theorem dact_24 : decode cX12_act 24 = .ok (.iconst 1, 1) := by decide +kernel
theorem dact_25 : decode cX12_act 25 = .ok (.goto 4, 3) := by decide +kernel
theorem dact_28 : decode cX12_act 28 = .ok (.iconst 0, 1) := by decide +kernel
theorem dact_29 : decode cX12_act 29 = .ok (.istore 4, 2) := by decide +kernel
theorem dact_31 : decode cX12_act 31 = .ok (.aload_n 0, 1) := by decide +kernel
theorem dact_32 : decode cX12_act 32 = .ok (.getfield 164, 3) := by decide +kernel
theorem dact_35 : decode cX12_act 35 = .ok (.iload_n 2, 1) := by decide +kernel
theorem dact_36 : decode cX12_act 36 = .ok (.iaload, 1) := by decide +kernel
theorem dact_37 : decode cX12_act 37 = .ok (.tableswitch 296 0 5 #[39, 144, 268, 296, 296, 277], 39) := by decide +kernel
theorem dact_76 : decode cX12_act 76 = .ok (.iload 4, 2) := by decide +kernel
theorem dact_78 : decode cX12_act 78 = .ok (.ifCond .eq 26, 3) := by decide +kernel
theorem dact_81 : decode cX12_act 81 = .ok (.aload_n 0, 1) := by decide +kernel
theorem dact_82 : decode cX12_act 82 = .ok (.aload_n 0, 1) := by decide +kernel
theorem dact_83 : decode cX12_act 83 = .ok (.getfield 276, 3) := by decide +kernel
theorem dact_86 : decode cX12_act 86 = .ok (.iload_n 3, 1) := by decide +kernel
theorem dact_87 : decode cX12_act 87 = .ok (.iaload, 1) := by decide +kernel
theorem dact_88 : decode cX12_act 88 = .ok (.aload_n 0, 1) := by decide +kernel
theorem dact_89 : decode cX12_act 89 = .ok (.aload_n 0, 1) := by decide +kernel
theorem dact_90 : decode cX12_act 90 = .ok (.getfield 170, 3) := by decide +kernel
theorem dact_93 : decode cX12_act 93 = .ok (.iload_n 2, 1) := by decide +kernel
theorem dact_94 : decode cX12_act 94 = .ok (.iaload, 1) := by decide +kernel
theorem dact_95 : decode cX12_act 95 = .ok (.invokevirtual 716, 3) := by decide +kernel
theorem dact_98 : decode cX12_act 98 = .ok (.invokevirtual 1082, 3) := by decide +kernel
theorem dact_101 : decode cX12_act 101 = .ok (.goto 4, 3) := by decide +kernel
theorem dact_104 : decode cX12_act 104 = .ok (.iconst (-1), 1) := by decide +kernel
theorem dact_105 : decode cX12_act 105 = .ok (.istore 5, 2) := by decide +kernel
theorem dact_107 : decode cX12_act 107 = .ok (.iload 4, 2) := by decide +kernel
theorem dact_109 : decode cX12_act 109 = .ok (.ifCond .ne 7, 3) := by decide +kernel
theorem dact_112 : decode cX12_act 112 = .ok (.iconst (-1), 1) := by decide +kernel
theorem dact_113 : decode cX12_act 113 = .ok (.goto 35, 3) := by decide +kernel
theorem dact_116 : decode cX12_act 116 = .ok (.iload 5, 2) := by decide +kernel
theorem dact_118 : decode cX12_act 118 = .ok (.ifCond .ge 8, 3) := by decide +kernel
theorem dact_121 : decode cX12_act 121 = .ok (.bipush (-3), 2) := by decide +kernel
theorem dact_123 : decode cX12_act 123 = .ok (.goto 25, 3) := by decide +kernel
theorem dact_126 : decode cX12_act 126 = .ok (.aload_n 0, 1) := by decide +kernel
theorem dact_127 : decode cX12_act 127 = .ok (.getfield 74, 3) := by decide +kernel
theorem dact_130 : decode cX12_act 130 = .ok (.iload 5, 2) := by decide +kernel
theorem dact_132 : decode cX12_act 132 = .ok (.iaload, 1) := by decide +kernel
theorem dact_133 : decode cX12_act 133 = .ok (.aload_n 0, 1) := by decide +kernel
theorem dact_134 : decode cX12_act 134 = .ok (.getfield 366, 3) := by decide +kernel
theorem dact_137 : decode cX12_act 137 = .ok (.iload_n 1, 1) := by decide +kernel
theorem dact_138 : decode cX12_act 138 = .ok (.iaload, 1) := by decide +kernel
theorem dact_139 : decode cX12_act 139 = .ok (.if_icmp .eq 8, 3) := by decide +kernel
theorem dact_142 : decode cX12_act 142 = .ok (.bipush (-4), 2) := by decide +kernel
theorem dact_144 : decode cX12_act 144 = .ok (.goto 4, 3) := by decide +kernel
theorem dact_147 : decode cX12_act 147 = .ok (.iconst 0, 1) := by decide +kernel
theorem dact_148 : decode cX12_act 148 = .ok (.istore 6, 2) := by decide +kernel
theorem dact_150 : decode cX12_act 150 = .ok (.iload 6, 2) := by decide +kernel
theorem dact_152 : decode cX12_act 152 = .ok (.ifCond .ge 12, 3) := by decide +kernel
theorem dact_155 : decode cX12_act 155 = .ok (.aload_n 0, 1) := by decide +kernel
theorem dact_156 : decode cX12_act 156 = .ok (.iload 6, 2) := by decide +kernel
theorem dact_158 : decode cX12_act 158 = .ok (.invokevirtual 1072, 3) := by decide +kernel
theorem dact_161 : decode cX12_act 161 = .ok (.goto 289, 3) := by decide +kernel
theorem dact_164 : decode cX12_act 164 = .ok (.aload_n 0, 1) := by decide +kernel
theorem dact_165 : decode cX12_act 165 = .ok (.aload_n 0, 1) := by decide +kernel
theorem dact_166 : decode cX12_act 166 = .ok (.getfield 80, 3) := by decide +kernel
theorem dact_169 : decode cX12_act 169 = .ok (.iload 5, 2) := by decide +kernel
theorem dact_171 : decode cX12_act 171 = .ok (.iaload, 1) := by decide +kernel
theorem dact_172 : decode cX12_act 172 = .ok (.iload_n 3, 1) := by decide +kernel
theorem dact_173 : decode cX12_act 173 = .ok (.iconst 2, 1) := by decide +kernel
theorem dact_174 : decode cX12_act 174 = .ok (.iload_n 3, 1) := by decide +kernel
theorem dact_175 : decode cX12_act 175 = .ok (.invokevirtual 1085, 3) := by decide +kernel
theorem dact_178 : decode cX12_act 178 = .ok (.goto 272, 3) := by decide +kernel
theorem dact_181 : decode cX12_act 181 = .ok (.aload_n 0, 1) := by decide +kernel
theorem dact_182 : decode cX12_act 182 = .ok (.getfield 990, 3) := by decide +kernel
theorem dact_185 : decode cX12_act 185 = .ok (.bipush 40, 2) := by decide +kernel
theorem dact_187 : decode cX12_act 187 = .ok (.if_icmp .ne 12, 3) := by decide +kernel
theorem dact_190 : decode cX12_act 190 = .ok (.aload_n 0, 1) := by decide +kernel
theorem dact_191 : decode cX12_act 191 = .ok (.bipush (-7), 2) := by decide +kernel
theorem dact_193 : decode cX12_act 193 = .ok (.invokevirtual 1072, 3) := by decide +kernel
theorem dact_196 : decode cX12_act 196 = .ok (.goto 254, 3) := by decide +kernel
theorem dact_199 : decode cX12_act 199 = .ok (.aload_n 0, 1) := by decide +kernel
theorem dact_200 : decode cX12_act 200 = .ok (.dup, 1) := by decide +kernel
theorem dact_201 : decode cX12_act 201 = .ok (.getfield 990, 3) := by decide +kernel
theorem dact_204 : decode cX12_act 204 = .ok (.iconst 1, 1) := by decide +kernel
theorem dact_205 : decode cX12_act 205 = .ok (.iadd, 1) := by decide +kernel
theorem dact_206 : decode cX12_act 206 = .ok (.putfield 990, 3) := by decide +kernel
theorem dact_209 : decode cX12_act 209 = .ok (.aload_n 0, 1) := by decide +kernel
theorem dact_210 : decode cX12_act 210 = .ok (.iconst 1, 1) := by decide +kernel
theorem dact_211 : decode cX12_act 211 = .ok (.aload_n 0, 1) := by decide +kernel
theorem dact_212 : decode cX12_act 212 = .ok (.getfield 77, 3) := by decide +kernel
theorem dact_215 : decode cX12_act 215 = .ok (.aload_n 0, 1) := by decide +kernel
theorem dact_216 : decode cX12_act 216 = .ok (.getfield 179, 3) := by decide +kernel
theorem dact_219 : decode cX12_act 219 = .ok (.iload_n 2, 1) := by decide +kernel
theorem dact_220 : decode cX12_act 220 = .ok (.iaload, 1) := by decide +kernel
theorem dact_221 : decode cX12_act 221 = .ok (.iaload, 1) := by decide +kernel
theorem dact_222 : decode cX12_act 222 = .ok (.aload_n 0, 1) := by decide +kernel
theorem dact_223 : decode cX12_act 223 = .ok (.getfield 357, 3) := by decide +kernel
theorem dact_226 : decode cX12_act 226 = .ok (.iload_n 1, 1) := by decide +kernel
theorem dact_227 : decode cX12_act 227 = .ok (.iaload, 1) := by decide +kernel
theorem dact_228 : decode cX12_act 228 = .ok (.invokevirtual 1018, 3) := by decide +kernel
theorem dact_231 : decode cX12_act 231 = .ok (.istore 7, 2) := by decide +kernel
theorem dact_233 : decode cX12_act 233 = .ok (.iconst 0, 1) := by decide +kernel
theorem dact_234 : decode cX12_act 234 = .ok (.istore 8, 2) := by decide +kernel
theorem dact_236 : decode cX12_act 236 = .ok (.iload 8, 2) := by decide +kernel
theorem dact_238 : decode cX12_act 238 = .ok (.aload_n 0, 1) := by decide +kernel
theorem dact_239 : decode cX12_act 239 = .ok (.getfield 366, 3) := by decide +kernel
theorem dact_242 : decode cX12_act 242 = .ok (.iload_n 1, 1) := by decide +kernel
theorem dact_243 : decode cX12_act 243 = .ok (.iaload, 1) := by decide +kernel
theorem dact_244 : decode cX12_act 244 = .ok (.if_icmp .ge 53, 3) := by decide +kernel
theorem dact_247 : decode cX12_act 247 = .ok (.aload_n 0, 1) := by decide +kernel
theorem dact_248 : decode cX12_act 248 = .ok (.getfield 339, 3) := by decide +kernel
theorem dact_251 : decode cX12_act 251 = .ok (.aload_n 0, 1) := by decide +kernel
theorem dact_252 : decode cX12_act 252 = .ok (.getfield 312, 3) := by decide +kernel
theorem dact_255 : decode cX12_act 255 = .ok (.iload 7, 2) := by decide +kernel
theorem dact_257 : decode cX12_act 257 = .ok (.iaload, 1) := by decide +kernel
theorem dact_258 : decode cX12_act 258 = .ok (.iload 8, 2) := by decide +kernel
theorem dact_260 : decode cX12_act 260 = .ok (.iadd, 1) := by decide +kernel
theorem dact_261 : decode cX12_act 261 = .ok (.aload_n 0, 1) := by decide +kernel
theorem dact_262 : decode cX12_act 262 = .ok (.getfield 393, 3) := by decide +kernel
theorem dact_265 : decode cX12_act 265 = .ok (.iload 8, 2) := by decide +kernel
theorem dact_267 : decode cX12_act 267 = .ok (.iaload, 1) := by decide +kernel
theorem dact_268 : decode cX12_act 268 = .ok (.iastore, 1) := by decide +kernel
theorem dact_269 : decode cX12_act 269 = .ok (.aload_n 0, 1) := by decide +kernel
theorem dact_270 : decode cX12_act 270 = .ok (.getfield 342, 3) := by decide +kernel
theorem dact_273 : decode cX12_act 273 = .ok (.aload_n 0, 1) := by decide +kernel
theorem dact_274 : decode cX12_act 274 = .ok (.getfield 312, 3) := by decide +kernel
theorem dact_277 : decode cX12_act 277 = .ok (.iload 7, 2) := by decide +kernel
theorem dact_279 : decode cX12_act 279 = .ok (.iaload, 1) := by decide +kernel
theorem dact_280 : decode cX12_act 280 = .ok (.iload 8, 2) := by decide +kernel
theorem dact_282 : decode cX12_act 282 = .ok (.iadd, 1) := by decide +kernel
theorem dact_283 : decode cX12_act 283 = .ok (.aload_n 0, 1) := by decide +kernel
theorem dact_284 : decode cX12_act 284 = .ok (.getfield 396, 3) := by decide +kernel
theorem dact_287 : decode cX12_act 287 = .ok (.iload 8, 2) := by decide +kernel
theorem dact_289 : decode cX12_act 289 = .ok (.iaload, 1) := by decide +kernel
theorem dact_290 : decode cX12_act 290 = .ok (.iastore, 1) := by decide +kernel
theorem dact_291 : decode cX12_act 291 = .ok (.iinc 8 1, 3) := by decide +kernel
theorem dact_294 : decode cX12_act 294 = .ok (.goto (-58), 3) := by decide +kernel
theorem dact_297 : decode cX12_act 297 = .ok (.aload_n 0, 1) := by decide +kernel
theorem dact_298 : decode cX12_act 298 = .ok (.iconst 0, 1) := by decide +kernel
theorem dact_299 : decode cX12_act 299 = .ok (.putfield 1008, 3) := by decide +kernel
theorem dact_302 : decode cX12_act 302 = .ok (.goto 148, 3) := by decide +kernel
theorem dact_305 : decode cX12_act 305 = .ok (.aload_n 0, 1) := by decide +kernel
theorem dact_306 : decode cX12_act 306 = .ok (.iload_n 1, 1) := by decide +kernel
theorem dact_307 : decode cX12_act 307 = .ok (.iload_n 2, 1) := by decide +kernel
theorem dact_308 : decode cX12_act 308 = .ok (.invokevirtual 1089, 3) := by decide +kernel
theorem dact_311 : decode cX12_act 311 = .ok (.goto 139, 3) := by decide +kernel
theorem dact_314 : decode cX12_act 314 = .ok (.aload_n 0, 1) := by decide +kernel
theorem dact_315 : decode cX12_act 315 = .ok (.aload_n 0, 1) := by decide +kernel
theorem dact_316 : decode cX12_act 316 = .ok (.getfield 393, 3) := by decide +kernel
theorem dact_319 : decode cX12_act 319 = .ok (.iconst 0, 1) := by decide +kernel
theorem dact_320 : decode cX12_act 320 = .ok (.iaload, 1) := by decide +kernel
theorem dact_321 : decode cX12_act 321 = .ok (.aload_n 0, 1) := by decide +kernel
theorem dact_322 : decode cX12_act 322 = .ok (.getfield 396, 3) := by decide +kernel
theorem dact_325 : decode cX12_act 325 = .ok (.iconst 0, 1) := by decide +kernel
theorem dact_326 : decode cX12_act 326 = .ok (.iaload, 1) := by decide +kernel
theorem dact_327 : decode cX12_act 327 = .ok (.invokevirtual 1051, 3) := by decide +kernel
theorem dact_330 : decode cX12_act 330 = .ok (.goto 120, 3) := by decide +kernel
theorem dact_333 : decode cX12_act 333 = .ok (.iload 4, 2) := by decide +kernel
theorem dact_335 : decode cX12_act 335 = .ok (.ifCond .eq 26, 3) := by decide +kernel
theorem dact_338 : decode cX12_act 338 = .ok (.aload_n 0, 1) := by decide +kernel
theorem dact_339 : decode cX12_act 339 = .ok (.aload_n 0, 1) := by decide +kernel
theorem dact_340 : decode cX12_act 340 = .ok (.getfield 276, 3) := by decide +kernel
theorem dact_343 : decode cX12_act 343 = .ok (.iload_n 3, 1) := by decide +kernel
theorem dact_344 : decode cX12_act 344 = .ok (.iaload, 1) := by decide +kernel
theorem dact_345 : decode cX12_act 345 = .ok (.aload_n 0, 1) := by decide +kernel
theorem dact_346 : decode cX12_act 346 = .ok (.aload_n 0, 1) := by decide +kernel
theorem dact_347 : decode cX12_act 347 = .ok (.getfield 170, 3) := by decide +kernel
theorem dact_350 : decode cX12_act 350 = .ok (.iload_n 2, 1) := by decide +kernel
theorem dact_351 : decode cX12_act 351 = .ok (.iaload, 1) := by decide +kernel
theorem dact_352 : decode cX12_act 352 = .ok (.invokevirtual 716, 3) := by decide +kernel
theorem dact_355 : decode cX12_act 355 = .ok (.invokevirtual 1092, 3) := by decide +kernel
theorem dact_358 : decode cX12_act 358 = .ok (.goto 4, 3) := by decide +kernel
theorem dact_361 : decode cX12_act 361 = .ok (.iconst (-1), 1) := by decide +kernel
theorem dact_362 : decode cX12_act 362 = .ok (.istore 7, 2) := by decide +kernel
theorem dact_364 : decode cX12_act 364 = .ok (.iload 7, 2) := by decide +kernel
theorem dact_366 : decode cX12_act 366 = .ok (.ifCond .ge 21, 3) := by decide +kernel
theorem dact_369 : decode cX12_act 369 = .ok (.aload_n 0, 1) := by decide +kernel
theorem dact_370 : decode cX12_act 370 = .ok (.iload 4, 2) := by decide +kernel
theorem dact_372 : decode cX12_act 372 = .ok (.ifCond .eq 8, 3) := by decide +kernel
theorem dact_375 : decode cX12_act 375 = .ok (.bipush (-2), 2) := by decide +kernel
theorem dact_377 : decode cX12_act 377 = .ok (.goto 4, 3) := by decide +kernel
theorem dact_380 : decode cX12_act 380 = .ok (.iconst (-1), 1) := by decide +kernel
theorem dact_381 : decode cX12_act 381 = .ok (.invokevirtual 1072, 3) := by decide +kernel
theorem dact_384 : decode cX12_act 384 = .ok (.goto 66, 3) := by decide +kernel
theorem dact_387 : decode cX12_act 387 = .ok (.bipush 120, 2) := by decide +kernel
theorem dact_389 : decode cX12_act 389 = .ok (.iload_n 3, 1) := by decide +kernel
theorem dact_390 : decode cX12_act 390 = .ok (.imul, 1) := by decide +kernel
theorem dact_391 : decode cX12_act 391 = .ok (.iload 7, 2) := by decide +kernel
theorem dact_393 : decode cX12_act 393 = .ok (.iadd, 1) := by decide +kernel
theorem dact_394 : decode cX12_act 394 = .ok (.istore 8, 2) := by decide +kernel
theorem dact_396 : decode cX12_act 396 = .ok (.aload_n 0, 1) := by decide +kernel
theorem dact_397 : decode cX12_act 397 = .ok (.getfield 164, 3) := by decide +kernel
theorem dact_400 : decode cX12_act 400 = .ok (.iload_n 2, 1) := by decide +kernel
theorem dact_401 : decode cX12_act 401 = .ok (.iaload, 1) := by decide +kernel
theorem dact_402 : decode cX12_act 402 = .ok (.iconst 4, 1) := by decide +kernel
theorem dact_403 : decode cX12_act 403 = .ok (.if_icmp .ne 29, 3) := by decide +kernel
theorem dact_406 : decode cX12_act 406 = .ok (.aload_n 0, 1) := by decide +kernel
theorem dact_407 : decode cX12_act 407 = .ok (.getfield 279, 3) := by decide +kernel
theorem dact_410 : decode cX12_act 410 = .ok (.iload 8, 2) := by decide +kernel
theorem dact_412 : decode cX12_act 412 = .ok (.aload_n 0, 1) := by decide +kernel
theorem dact_413 : decode cX12_act 413 = .ok (.getfield 393, 3) := by decide +kernel
theorem dact_416 : decode cX12_act 416 = .ok (.iconst 0, 1) := by decide +kernel
theorem dact_417 : decode cX12_act 417 = .ok (.iaload, 1) := by decide +kernel
theorem dact_418 : decode cX12_act 418 = .ok (.iastore, 1) := by decide +kernel
theorem dact_419 : decode cX12_act 419 = .ok (.aload_n 0, 1) := by decide +kernel
theorem dact_420 : decode cX12_act 420 = .ok (.getfield 282, 3) := by decide +kernel
theorem dact_423 : decode cX12_act 423 = .ok (.iload 8, 2) := by decide +kernel
theorem dact_425 : decode cX12_act 425 = .ok (.aload_n 0, 1) := by decide +kernel
theorem dact_426 : decode cX12_act 426 = .ok (.getfield 396, 3) := by decide +kernel
theorem dact_429 : decode cX12_act 429 = .ok (.iconst 0, 1) := by decide +kernel
theorem dact_430 : decode cX12_act 430 = .ok (.iaload, 1) := by decide +kernel
theorem dact_431 : decode cX12_act 431 = .ok (.iastore, 1) := by decide +kernel
theorem dact_432 : decode cX12_act 432 = .ok (.aload_n 0, 1) := by decide +kernel
theorem dact_433 : decode cX12_act 433 = .ok (.aload_n 0, 1) := by decide +kernel
theorem dact_434 : decode cX12_act 434 = .ok (.getfield 279, 3) := by decide +kernel
theorem dact_437 : decode cX12_act 437 = .ok (.iload 8, 2) := by decide +kernel
theorem dact_439 : decode cX12_act 439 = .ok (.iaload, 1) := by decide +kernel
theorem dact_440 : decode cX12_act 440 = .ok (.aload_n 0, 1) := by decide +kernel
theorem dact_441 : decode cX12_act 441 = .ok (.getfield 282, 3) := by decide +kernel
theorem dact_444 : decode cX12_act 444 = .ok (.iload 8, 2) := by decide +kernel
theorem dact_446 : decode cX12_act 446 = .ok (.iaload, 1) := by decide +kernel
theorem dact_447 : decode cX12_act 447 = .ok (.invokevirtual 1051, 3) := by decide +kernel
theorem dact_450 : decode cX12_act 450 = .ok (.return_, 1) := by decide +kernel
section
variable {l : Launch} {D : va_G} {cA : Nat → ClassId} {ad : Nat → Nat}
theorem s_act {a1 : Int} {ht st rg : Nat → Int} {h : ja_H} {Q : Option ja_V → ja_H → Prop} (g : mo_G mo_zr h) (r1 : -2147483648 ≤ a1 ∧ a1 ≤ 2147483647) (p1 : AC h ht st rg a1) (k1 : ∀ (h' : ja_H), (RO h h' ht st rg) → mo_G mo_zr h' → Q none h') : mM_act l D cA ad a1 h Q := by
  show mJ l D cA ad 12 cX12_act 9 none 0 [(0, (2, ((0 : Nat) : Int))), (1, (0, a1))] [] h Q
  have kn_points := gF_points g
  have kn_bodies := gF_bodies g
  have kn_frames := gF_frames g
  have kn_localTop := gF_localTop g
  have kn_methods := gF_methods g
  obtain ⟨hrc, hr1, hr2, hr3, hr4⟩ := ac_f g p1
  have hr2a := hr2.1
  have grp := gC_reachPoint g (a1).toNat
  have qv := p1.1.1
  have hpt := p1.1.2.1.2.2.2.1.2 (h 115 (a1).toNat).toNat (by omega)
  have hpn := hpt.1
  have hpk := hpt.2.2.1
  clear hpt
  have gpn := gC_pointName g (h 115 (a1).toNat).toNat
  have htk := vi_aS qv (show (117, 118) ∈ vps by decide) (a1).toNat
  have grp := gC_reachPoint g (a1).toNat
  have CUT : ∀ n : Nat, (∀ (x8 : Int) (u : ja_H), mo_G mo_zr u → (-2147483648 ≤ x8 ∧ x8 ≤ 2147483647) → ((0 ≤ x8 ∧ x8 ≤ 6 ∧ (h 0 144) ≤ 39 ∧ (h 52 (h 115 (a1).toNat).toNat) = 1) ∧ bdP h u 1 (h 23 (h 57 (h 115 (a1).toNat).toNat).toNat) ∧ VI u) → (((20 : Int) - x8).toNat) = n → mJ l D cA ad 12 cX12_act 9 none 236 [(0, (2, ((0 : Nat) : Int))), (1, (0, a1)), (7, (0, (h 0 150))), (8, (0, x8))] [] u Q) := by
    intro n
    induction n using Nat.strongRecOn with
    | _ n ih =>
      skip
      · intro x8 u gu qx8 iv hm
        subst hm
        have ku_points := gF_points gu
        have ku_bodies := gF_bodies gu
        have ku_frames := gF_frames gu
        have ku_localTop := gF_localTop gu
        have ku_methods := gF_methods gu
        obtain ⟨iv, bd, qv⟩ := iv
        have hpk1 := hpk (by omega)
        have gpw := gC_pointWhich g (h 115 (a1).toNat).toNat
        have hst := (show ((0 ≤ (h 23 (h 57 (h 115 (a1).toNat).toNat).toNat) ∧ (h 23 (h 57 (h 115 (a1).toNat).toNat).toNat) < (h 0 113)) ∧ ht ((h 23 (h 57 (h 115 (a1).toNat).toNat).toNat)).toNat = 0 ∧ st ((h 23 (h 57 (h 115 (a1).toNat).toNat).toNat)).toNat = 0 ∧ rg ((h 23 (h 57 (h 115 (a1).toNat).toNat).toNat)).toNat = 1) ∧ caN h from ⟨by have := p1.1.2.1.2.2.2.2.1.1 (h 57 (h 115 (a1).toNat).toNat).toNat (by omega); exact ⟨⟨this.1, this.2.1⟩, this.2.2⟩, hr2.2 (by omega)⟩)
        have hst1 := hst.1.1
        have eLo : (u 101) (h 0 150).toNat = (h 0 165) := bd.2.2.2.1.2.2.2.2
        have grm := gC_reachMany gu (a1).toNat
        refine ja_iload dact_236 rfl ?_
        refine ja_aload_n dact_238 rfl rfl ?_
        refine fa_reachMany dact_239 ?_
        refine ja_iload_n dact_242 rfl rfl ?_
        refine il_reachMany (v := u 119 (a1).toNat) rfl ⟨by omega, by omega⟩ dact_243 ?_
        have f1 := gC_reachMany gu (a1).toNat
        refine ja_icmp_ge 297 dact_244 rfl ⟨by omega, by omega⟩ ⟨by omega, by omega⟩ (fun c244 => ?_) (fun c244 => ?_)
        · refine ja_aload_n dact_297 rfl rfl ?_
          refine ja_iconst dact_298 ?_
          have g2 := gP_under gu (x := 0) ⟨by decide, by decide⟩
          refine fp_under dact_299 ?_
          refine ja_goto 450 dact_302 rfl ?_
          refine ja_return dact_450 rfl ?_
          exact k1 (ja_up u 0 186 0) ((ac_body g g2 p1 (rb_ag p1.1 (by (repeat (first | exact qv | refine vi_set (by decide) (by decide) (by decide) ?_ (by first | exact (fun z => absurd z (by decide)) | exact vi_aS qv (by decide) _ | exact qv.2 | exact (fun z => ⟨by omega, hca⟩) | exact (fun z => ⟨by omega, hca z⟩) | (intro z; exfalso; omega)) | refine vi_res ?_ (by first | exact (fun z => absurd z (by decide)) | exact vi_aS qv (by decide) _ | exact qv.2 | exact (fun z => ⟨by omega, hca⟩) | exact (fun z => ⟨by omega, hca z⟩) | (intro z; exfalso; omega)) | refine vi_arr (by decide) (by decide) ?_ | refine vi_up (by decide) (by decide) ?_ | refine vi_val (ck := 106) (by decide) (by decide) (by decide) ?_ ⟨by omega, by omega⟩))) (ag_trans (ag_sub (by unfold FPH; exact X_sub (by decide) (by decide)) bd.1) (by (repeat (first | exact ag_refl | refine ag_up rfl ?_))))) (bd_ag bd (by (repeat (first | exact ag_refl | refine ag_up rfl ?_)))) (by omega) hst.1 hst.2 (by simp [ja_up]))) g2
        · refine ja_aload_n dact_247 rfl rfl ?_
          refine fa_localKind dact_248 ?_
          refine ja_aload_n dact_251 rfl rfl ?_
          refine fa_frameLocals dact_252 ?_
          refine ja_iload dact_255 rfl ?_
          refine il_frameLocals (v := u 101 (h 0 150).toNat) rfl ⟨by omega, by omega⟩ dact_257 ?_
          have f3 := gC_frameLocals gu (h 0 150).toNat
          refine ja_iload dact_258 rfl ?_
          refine ja_iadd dact_260 ?_
          refine ja_aload_n dact_261 rfl rfl ?_
          refine fa_argKind dact_262 ?_
          refine ja_iload dact_265 rfl ?_
          refine il_argKind (v := u 128 (x8).toNat) rfl ⟨by omega, by omega⟩ dact_267 ?_
          have f4 := gC_argKind gu (x8).toNat
          have g5 := gW_localKind gu ((u 101 (h 0 150).toNat) + x8).toNat (x := u 128 (x8).toNat) ⟨by omega, by omega⟩
          refine is_localKind ⟨by omega, by omega⟩ dact_268 ?_
          refine ja_aload_n dact_269 rfl rfl ?_
          refine fa_localValue dact_270 ?_
          refine ja_aload_n dact_273 rfl rfl ?_
          refine fa_frameLocals dact_274 ?_
          refine ja_iload dact_277 rfl ?_
          refine il_frameLocals (v := u 101 (h 0 150).toNat) rfl ⟨by omega, by omega⟩ dact_279 ?_
          refine ja_iload dact_280 rfl ?_
          refine ja_iadd dact_282 ?_
          refine ja_aload_n dact_283 rfl rfl ?_
          refine fa_argValue dact_284 ?_
          refine ja_iload dact_287 rfl ?_
          refine il_argValue (v := u 129 (x8).toNat) rfl ⟨by omega, by omega⟩ dact_289 ?_
          have f6 := gC_argValue gu (x8).toNat
          have g7 := gW_localValue g5 ((u 101 (h 0 150).toNat) + x8).toNat (x := u 129 (x8).toNat) ⟨by omega, by omega⟩
          refine is_localValue ⟨by omega, by omega⟩ dact_290 ?_
          refine ja_iinc dact_291 rfl (by decide) (L2 := [(8, (0, (x8 + 1))), (0, (2, ((0 : Nat) : Int))), (1, (0, a1)), (7, (0, (h 0 150)))]) rfl ?_
          refine ja_goto 236 dact_294 rfl ?_
          exact ja_wk (fun q hq => by simp only [List.mem_cons, List.not_mem_nil, or_false] at hq; rcases hq with rfl | rfl | rfl | rfl <;> rfl) ((ih (((20 : Int) - (x8 + 1)).toNat) (by omega)) (x8 + 1) (ja_up (ja_up u 110 (((u 101 (h 0 150).toNat) + x8).toNat) (u 128 (x8).toNat)) 111 (((u 101 (h 0 150).toNat) + x8).toNat) (u 129 (x8).toNat)) g7 ⟨by omega, by omega⟩ (⟨by omega, (bd_ag bd (by (repeat (first | exact ag_refl | refine ag_up rfl ?_)))), (by (repeat (first | exact qv | refine vi_set (by decide) (by decide) (by decide) ?_ (by first | exact (fun z => absurd z (by decide)) | exact vi_aS qv (by decide) _ | exact qv.2 | exact (fun z => ⟨by omega, hca⟩) | exact (fun z => ⟨by omega, hca z⟩) | (intro z; exfalso; omega)) | refine vi_res ?_ (by first | exact (fun z => absurd z (by decide)) | exact vi_aS qv (by decide) _ | exact qv.2 | exact (fun z => ⟨by omega, hca⟩) | exact (fun z => ⟨by omega, hca z⟩) | (intro z; exfalso; omega)) | refine vi_arr (by decide) (by decide) ?_ | refine vi_up (by decide) (by decide) ?_ | refine vi_val (ck := 106) (by decide) (by decide) (by decide) ?_ ⟨by omega, by omega⟩)))⟩) rfl)
  refine ja_aload_n dact_0 rfl rfl ?_
  refine fa_reachPoint dact_1 ?_
  refine ja_iload_n dact_4 rfl rfl ?_
  refine il_reachPoint (v := h 115 (a1).toNat) rfl ⟨by omega, by omega⟩ dact_5 ?_
  have f8 := gC_reachPoint g (a1).toNat
  refine ja_istore_n dact_6 rfl (by decide) (L2 := [(2, (0, (h 115 (a1).toNat))), (0, (2, ((0 : Nat) : Int))), (1, (0, a1))]) rfl ?_
  refine ja_aload_n dact_7 rfl rfl ?_
  refine fa_reachTarget dact_8 ?_
  refine ja_iload_n dact_11 rfl rfl ?_
  refine il_reachTarget (v := h 118 (a1).toNat) rfl ⟨by omega, by omega⟩ dact_12 ?_
  have f9 := gC_reachTarget g (a1).toNat
  refine ja_istore_n dact_13 rfl (by decide) (L2 := [(3, (0, (h 118 (a1).toNat))), (2, (0, (h 115 (a1).toNat))), (0, (2, ((0 : Nat) : Int))), (1, (0, a1))]) rfl ?_
  refine ja_aload_n dact_14 rfl rfl ?_
  refine fa_reachTargetKind dact_15 ?_
  refine ja_iload_n dact_18 rfl rfl ?_
  refine il_reachTargetKind (v := h 117 (a1).toNat) rfl ⟨by omega, by omega⟩ dact_19 ?_
  have f10 := gC_reachTargetKind g (a1).toNat
  refine ja_iconst dact_20 ?_
  refine ja_icmp_ne 28 dact_21 rfl ⟨by omega, by omega⟩ ⟨by decide, by decide⟩ (fun c21 => ?_) (fun c21 => ?_)
  · refine ja_iconst dact_28 ?_
    refine ja_istore dact_29 (by decide) (L2 := [(4, (0, 0)), (3, (0, (h 118 (a1).toNat))), (2, (0, (h 115 (a1).toNat))), (0, (2, ((0 : Nat) : Int))), (1, (0, a1))]) rfl ?_
    refine ja_aload_n dact_31 rfl rfl ?_
    refine fa_pointKind dact_32 ?_
    refine ja_iload_n dact_35 rfl rfl ?_
    refine il_pointKind (v := h 52 (h 115 (a1).toNat).toNat) rfl ⟨by omega, by omega⟩ dact_36 ?_
    have f11 := gC_pointKind g (h 115 (a1).toNat).toNat
    have T37_76 : (h 52 (h 115 (a1).toNat).toNat = 0) → mJ l D cA ad 12 cX12_act 9 none 76 [(4, (0, 0)), (3, (0, (h 118 (a1).toNat))), (2, (0, (h 115 (a1).toNat))), (0, (2, ((0 : Nat) : Int))), (1, (0, a1))] [] h Q := by
      intro e37
      refine ja_iload dact_76 rfl ?_
      refine ja_if_eq 104 dact_78 rfl ⟨by decide, by decide⟩ (fun c78 => ?_) (fun c78 => absurd c78 (by omega))
      refine ja_iconst dact_104 ?_
      refine ja_istore dact_105 (by decide) (L2 := [(5, (0, (-1))), (4, (0, 0)), (3, (0, (h 118 (a1).toNat))), (2, (0, (h 115 (a1).toNat))), (0, (2, ((0 : Nat) : Int))), (1, (0, a1))]) rfl ?_
      refine ja_iload dact_107 rfl ?_
      refine ja_if_ne 116 dact_109 rfl ⟨by decide, by decide⟩ (fun c109 => absurd c109 (by omega)) (fun c109 => ?_)
      refine ja_iconst dact_112 ?_
      refine ja_goto 148 dact_113 rfl ?_
      refine ja_istore dact_148 (by decide) (L2 := [(6, (0, (-1))), (5, (0, (-1))), (4, (0, 0)), (3, (0, (h 118 (a1).toNat))), (2, (0, (h 115 (a1).toNat))), (0, (2, ((0 : Nat) : Int))), (1, (0, a1))]) rfl ?_
      refine ja_iload dact_150 rfl ?_
      refine ja_if_ge 164 dact_152 rfl ⟨by decide, by decide⟩ (fun c152 => absurd c152 (by omega)) (fun c152 => ?_)
      refine ja_aload_n dact_155 rfl rfl ?_
      refine ja_iload dact_156 rfl ?_
      refine t_fails (by decide) (show (0 : Nat) ≤ 8 by decide) dact_158 g ⟨by decide, by decide⟩ ?_
      intro g12
      replace g12 : mo_G mo_zr (ja_up (ja_up (ja_up (ja_up h 0 186 1) 0 187 1) 0 188 1) 0 189 (-1)) := g12
      show mJ l D cA ad 12 cX12_act 9 none 161 [(6, (0, (-1))), (5, (0, (-1))), (4, (0, 0)), (3, (0, (h 118 (a1).toNat))), (2, (0, (h 115 (a1).toNat))), (0, (2, ((0 : Nat) : Int))), (1, (0, a1))] [] (ja_up (ja_up (ja_up (ja_up h 0 186 1) 0 187 1) 0 188 1) 0 189 (-1)) Q
      refine ja_goto 450 dact_161 rfl ?_
      refine ja_return dact_450 rfl ?_
      exact k1 (ja_up (ja_up (ja_up (ja_up h 0 186 1) 0 187 1) 0 188 1) 0 189 (-1)) ((ac_end g g12 p1 (rb_ag p1.1 (by (repeat (first | exact qv | refine vi_set (by decide) (by decide) (by decide) ?_ (by first | exact (fun z => absurd z (by decide)) | exact vi_aS qv (by decide) _ | exact qv.2 | exact (fun z => ⟨by omega, hca⟩) | exact (fun z => ⟨by omega, hca z⟩) | (intro z; exfalso; omega)) | refine vi_res ?_ (by first | exact (fun z => absurd z (by decide)) | exact vi_aS qv (by decide) _ | exact qv.2 | exact (fun z => ⟨by omega, hca⟩) | exact (fun z => ⟨by omega, hca z⟩) | (intro z; exfalso; omega)) | refine vi_arr (by decide) (by decide) ?_ | refine vi_up (by decide) (by decide) ?_ | refine vi_val (ck := 106) (by decide) (by decide) (by decide) ?_ ⟨by omega, by omega⟩))) (by (repeat (first | exact ag_refl | refine ag_up rfl ?_)))) (by (repeat (first | exact ag_refl | refine ag_up rfl ?_))) (by simp [ja_up]))) g12
    have T37_181 : (h 52 (h 115 (a1).toNat).toNat = 1) → mJ l D cA ad 12 cX12_act 9 none 181 [(4, (0, 0)), (3, (0, (h 118 (a1).toNat))), (2, (0, (h 115 (a1).toNat))), (0, (2, ((0 : Nat) : Int))), (1, (0, a1))] [] h Q := by
      intro e37
      refine ja_aload_n dact_181 rfl rfl ?_
      refine fg_bodies (v := h 0 144) rfl dact_182 ?_
      have f13 := gF_bodies g
      refine ja_bipush 40 dact_185 rfl ?_
      refine ja_icmp_ne 199 dact_187 rfl ⟨by omega, by omega⟩ ⟨by decide, by decide⟩ (fun c187 => ?_) (fun c187 => ?_)
      · have hpk1 := hpk (by omega)
        have gpw := gC_pointWhich g (h 115 (a1).toNat).toNat
        have hst := (show ((0 ≤ (h 23 (h 57 (h 115 (a1).toNat).toNat).toNat) ∧ (h 23 (h 57 (h 115 (a1).toNat).toNat).toNat) < (h 0 113)) ∧ ht ((h 23 (h 57 (h 115 (a1).toNat).toNat).toNat)).toNat = 0 ∧ st ((h 23 (h 57 (h 115 (a1).toNat).toNat).toNat)).toNat = 0 ∧ rg ((h 23 (h 57 (h 115 (a1).toNat).toNat).toNat)).toNat = 1) ∧ caN h from ⟨by have := p1.1.2.1.2.2.2.2.1.1 (h 57 (h 115 (a1).toNat).toNat).toNat (by omega); exact ⟨⟨this.1, this.2.1⟩, this.2.2⟩, hr2.2 (by omega)⟩)
        have hst1 := hst.1.1
        refine ja_aload_n dact_199 rfl rfl ?_
        refine ja_dup dact_200 (by decide) ?_
        refine fg_bodies (v := h 0 144) rfl dact_201 ?_
        refine ja_iconst dact_204 ?_
        refine ja_iadd dact_205 ?_
        have g14 := gP_bodies g (x := (h 0 144) + 1) ⟨by omega, by omega⟩
        refine fp_bodies dact_206 ?_
        refine ja_aload_n dact_209 rfl rfl ?_
        refine ja_iconst dact_210 ?_
        refine ja_aload_n dact_211 rfl rfl ?_
        refine fa_methodStart dact_212 ?_
        refine ja_aload_n dact_215 rfl rfl ?_
        refine fa_pointWhich dact_216 ?_
        refine ja_iload_n dact_219 rfl rfl ?_
        refine il_pointWhich (v := h 57 (h 115 (a1).toNat).toNat) rfl ⟨by omega, by omega⟩ dact_220 ?_
        have f15 := gC_pointWhich g (h 115 (a1).toNat).toNat
        refine il_methodStart (v := h 23 (h 57 (h 115 (a1).toNat).toNat).toNat) rfl ⟨by omega, by omega⟩ dact_221 ?_
        have f16 := gC_methodStart g (h 57 (h 115 (a1).toNat).toNat).toNat
        refine ja_aload_n dact_222 rfl rfl ?_
        refine fa_reachSelf dact_223 ?_
        refine ja_iload_n dact_226 rfl rfl ?_
        refine il_reachSelf (v := h 116 (a1).toNat) rfl ⟨by omega, by omega⟩ dact_227 ?_
        have f17 := gC_reachSelf g (a1).toNat
        refine t_pushBody (by decide) (show (0 : Nat) ≤ 8 by decide) dact_228 g14 ⟨by decide, by decide⟩ ⟨by omega, by omega⟩ ⟨by omega, by omega⟩ (show 0 ≤ 1 ∧ 1 ≤ 2 by omega) (show 0 ≤ (h 23 (h 57 (h 115 (a1).toNat).toNat).toNat) ∧ (h 23 (h 57 (h 115 (a1).toNat).toNat).toNat) ≤ 5000 by omega) (show 0 ≤ (h 116 (a1).toNat) ∧ (h 116 (a1).toNat) ≤ 200 by omega) (show (h 0 150) < 3000 by omega) (show (h 0 165) ≤ 490 by omega) ((by (repeat (first | exact qv | refine vi_set (by decide) (by decide) (by decide) ?_ (by first | exact (fun z => absurd z (by decide)) | exact vi_aS qv (by decide) _ | exact qv.2 | exact (fun z => ⟨by omega, hca⟩) | exact (fun z => ⟨by omega, hca z⟩) | (intro z; exfalso; omega)) | refine vi_res ?_ (by first | exact (fun z => absurd z (by decide)) | exact vi_aS qv (by decide) _ | exact qv.2 | exact (fun z => ⟨by omega, hca⟩) | exact (fun z => ⟨by omega, hca z⟩) | (intro z; exfalso; omega)) | refine vi_arr (by decide) (by decide) ?_ | refine vi_up (by decide) (by decide) ?_ | refine vi_val (ck := 106) (by decide) (by decide) (by decide) ?_ ⟨by omega, by omega⟩)))) ?_
        intro h18 k228_0 g19
        replace k228_0 : pbF (ja_up h 0 144 ((h 0 144) + 1)) h18 1 (h 23 (h 57 (h 115 (a1).toNat).toNat).toNat) (h 116 (a1).toNat) ∧ VI h18 := k228_0
        show mJ l D cA ad 12 cX12_act 9 none 231 [(4, (0, 0)), (3, (0, (h 118 (a1).toNat))), (2, (0, (h 115 (a1).toNat))), (0, (2, ((0 : Nat) : Int))), (1, (0, a1))] [(0, (h 0 150))] h18 Q
        refine ja_istore dact_231 (by decide) (L2 := [(7, (0, (h 0 150))), (4, (0, 0)), (3, (0, (h 118 (a1).toNat))), (2, (0, (h 115 (a1).toNat))), (0, (2, ((0 : Nat) : Int))), (1, (0, a1))]) rfl ?_
        refine ja_iconst dact_233 ?_
        refine ja_istore dact_234 (by decide) (L2 := [(8, (0, 0)), (7, (0, (h 0 150))), (4, (0, 0)), (3, (0, (h 118 (a1).toNat))), (2, (0, (h 115 (a1).toNat))), (0, (2, ((0 : Nat) : Int))), (1, (0, a1))]) rfl ?_
        exact ja_wk (fun q hq => by simp only [List.mem_cons, List.not_mem_nil, or_false] at hq; rcases hq with rfl | rfl | rfl | rfl <;> rfl) ((CUT _) 0 h18 g19 ⟨by decide, by decide⟩ (⟨by omega, (pb_bd (v := ja_up h 0 144 (h 0 144 + 1)) (by (repeat (first | exact ag_refl | refine ag_up rfl ?_))) rfl rfl k228_0.1 rfl (by decide)), k228_0.2⟩) rfl)
      · refine ja_aload_n dact_190 rfl rfl ?_
        refine ja_bipush (-7) dact_191 rfl ?_
        refine t_fails (by decide) (show (0 : Nat) ≤ 8 by decide) dact_193 g ⟨by decide, by decide⟩ ?_
        intro g20
        replace g20 : mo_G mo_zr (ja_up (ja_up (ja_up (ja_up h 0 186 1) 0 187 1) 0 188 1) 0 189 (-7)) := g20
        show mJ l D cA ad 12 cX12_act 9 none 196 [(4, (0, 0)), (3, (0, (h 118 (a1).toNat))), (2, (0, (h 115 (a1).toNat))), (0, (2, ((0 : Nat) : Int))), (1, (0, a1))] [] (ja_up (ja_up (ja_up (ja_up h 0 186 1) 0 187 1) 0 188 1) 0 189 (-7)) Q
        refine ja_goto 450 dact_196 rfl ?_
        refine ja_return dact_450 rfl ?_
        exact k1 (ja_up (ja_up (ja_up (ja_up h 0 186 1) 0 187 1) 0 188 1) 0 189 (-7)) ((ac_end g g20 p1 (rb_ag p1.1 (by (repeat (first | exact qv | refine vi_set (by decide) (by decide) (by decide) ?_ (by first | exact (fun z => absurd z (by decide)) | exact vi_aS qv (by decide) _ | exact qv.2 | exact (fun z => ⟨by omega, hca⟩) | exact (fun z => ⟨by omega, hca z⟩) | (intro z; exfalso; omega)) | refine vi_res ?_ (by first | exact (fun z => absurd z (by decide)) | exact vi_aS qv (by decide) _ | exact qv.2 | exact (fun z => ⟨by omega, hca⟩) | exact (fun z => ⟨by omega, hca z⟩) | (intro z; exfalso; omega)) | refine vi_arr (by decide) (by decide) ?_ | refine vi_up (by decide) (by decide) ?_ | refine vi_val (ck := 106) (by decide) (by decide) (by decide) ?_ ⟨by omega, by omega⟩))) (by (repeat (first | exact ag_refl | refine ag_up rfl ?_)))) (by (repeat (first | exact ag_refl | refine ag_up rfl ?_))) (by simp [ja_up]))) g20
    have T37_305 : (h 52 (h 115 (a1).toNat).toNat = 2) → mJ l D cA ad 12 cX12_act 9 none 305 [(4, (0, 0)), (3, (0, (h 118 (a1).toNat))), (2, (0, (h 115 (a1).toNat))), (0, (2, ((0 : Nat) : Int))), (1, (0, a1))] [] h Q := by
      intro e37
      refine ja_aload_n dact_305 rfl rfl ?_
      refine ja_iload_n dact_306 rfl rfl ?_
      refine ja_iload_n dact_307 rfl rfl ?_
      refine t_make (by decide) (show (0 : Nat) ≤ 8 by decide) dact_308 g ⟨by omega, by omega⟩ ⟨by omega, by omega⟩ (p1) (rfl) (show (h 52 (h 115 (a1).toNat).toNat) = 2 by omega) ?_
      intro h21 k308_0 g22
      refine ja_goto 450 dact_311 rfl ?_
      refine ja_return dact_450 rfl ?_
      exact k1 h21 (k308_0) g22
    have T37_314 : (h 52 (h 115 (a1).toNat).toNat = 5) → mJ l D cA ad 12 cX12_act 9 none 314 [(4, (0, 0)), (3, (0, (h 118 (a1).toNat))), (2, (0, (h 115 (a1).toNat))), (0, (2, ((0 : Nat) : Int))), (1, (0, a1))] [] h Q := by
      intro e37
      refine ja_aload_n dact_314 rfl rfl ?_
      refine ja_aload_n dact_315 rfl rfl ?_
      refine fa_argKind dact_316 ?_
      refine ja_iconst dact_319 ?_
      refine il_argKind (v := h 128 (0 : Int).toNat) rfl ⟨by omega, by omega⟩ dact_320 ?_
      have f23 := gC_argKind g (0 : Int).toNat
      refine ja_aload_n dact_321 rfl rfl ?_
      refine fa_argValue dact_322 ?_
      refine ja_iconst dact_325 ?_
      refine il_argValue (v := h 129 (0 : Int).toNat) rfl ⟨by omega, by omega⟩ dact_326 ?_
      have f24 := gC_argValue g (0 : Int).toNat
      refine t_result (by decide) (show (0 : Nat) ≤ 8 by decide) dact_327 g ⟨by omega, by omega⟩ ⟨by omega, by omega⟩ (show 0 ≤ (h 128 (0 : Int).toNat) ∧ (h 128 (0 : Int).toNat) ≤ 2 by omega) ?_
      intro g25
      replace g25 : mo_G mo_zr (ja_up (ja_up (ja_up (ja_up h 0 186 1) 0 187 0) 0 188 (h 128 (0 : Int).toNat)) 0 189 (h 129 (0 : Int).toNat)) := g25
      show mJ l D cA ad 12 cX12_act 9 none 330 [(4, (0, 0)), (3, (0, (h 118 (a1).toNat))), (2, (0, (h 115 (a1).toNat))), (0, (2, ((0 : Nat) : Int))), (1, (0, a1))] [] (ja_up (ja_up (ja_up (ja_up h 0 186 1) 0 187 0) 0 188 (h 128 (0 : Int).toNat)) 0 189 (h 129 (0 : Int).toNat)) Q
      refine ja_goto 450 dact_330 rfl ?_
      refine ja_return dact_450 rfl ?_
      exact k1 (ja_up (ja_up (ja_up (ja_up h 0 186 1) 0 187 0) 0 188 (h 128 (0 : Int).toNat)) 0 189 (h 129 (0 : Int).toNat)) ((ac_end g g25 p1 (rb_ag p1.1 (by (repeat (first | exact qv | refine vi_set (by decide) (by decide) (by decide) ?_ (by first | exact (fun z => absurd z (by decide)) | exact vi_aS qv (by decide) _ | exact qv.2 | exact (fun z => ⟨by omega, hca⟩) | exact (fun z => ⟨by omega, hca z⟩) | (intro z; exfalso; omega)) | refine vi_res ?_ (by first | exact (fun z => absurd z (by decide)) | exact vi_aS qv (by decide) _ | exact qv.2 | exact (fun z => ⟨by omega, hca⟩) | exact (fun z => ⟨by omega, hca z⟩) | (intro z; exfalso; omega)) | refine vi_arr (by decide) (by decide) ?_ | refine vi_up (by decide) (by decide) ?_ | refine vi_val (ck := 106) (by decide) (by decide) (by decide) ?_ ⟨by omega, by omega⟩))) (by (repeat (first | exact ag_refl | refine ag_up rfl ?_)))) (by (repeat (first | exact ag_refl | refine ag_up rfl ?_))) (by simp [ja_up]))) g25
    have T37_333 : (h 52 (h 115 (a1).toNat).toNat < 0 ∨ 5 < h 52 (h 115 (a1).toNat).toNat ∨ h 52 (h 115 (a1).toNat).toNat = 3 ∨ h 52 (h 115 (a1).toNat).toNat = 4) → mJ l D cA ad 12 cX12_act 9 none 333 [(4, (0, 0)), (3, (0, (h 118 (a1).toNat))), (2, (0, (h 115 (a1).toNat))), (0, (2, ((0 : Nat) : Int))), (1, (0, a1))] [] h Q := by
      intro e37
      refine ja_iload dact_333 rfl ?_
      refine ja_if_eq 361 dact_335 rfl ⟨by decide, by decide⟩ (fun c335 => ?_) (fun c335 => absurd c335 (by omega))
      refine ja_iconst dact_361 ?_
      refine ja_istore dact_362 (by decide) (L2 := [(7, (0, (-1))), (4, (0, 0)), (3, (0, (h 118 (a1).toNat))), (2, (0, (h 115 (a1).toNat))), (0, (2, ((0 : Nat) : Int))), (1, (0, a1))]) rfl ?_
      refine ja_iload dact_364 rfl ?_
      refine ja_if_ge 387 dact_366 rfl ⟨by decide, by decide⟩ (fun c366 => absurd c366 (by omega)) (fun c366 => ?_)
      refine ja_aload_n dact_369 rfl rfl ?_
      refine ja_iload dact_370 rfl ?_
      refine ja_if_eq 380 dact_372 rfl ⟨by decide, by decide⟩ (fun c372 => ?_) (fun c372 => absurd c372 (by omega))
      refine ja_iconst dact_380 ?_
      refine t_fails (by decide) (show (0 : Nat) ≤ 8 by decide) dact_381 g ⟨by decide, by decide⟩ ?_
      intro g26
      replace g26 : mo_G mo_zr (ja_up (ja_up (ja_up (ja_up h 0 186 1) 0 187 1) 0 188 1) 0 189 (-1)) := g26
      show mJ l D cA ad 12 cX12_act 9 none 384 [(7, (0, (-1))), (4, (0, 0)), (3, (0, (h 118 (a1).toNat))), (2, (0, (h 115 (a1).toNat))), (0, (2, ((0 : Nat) : Int))), (1, (0, a1))] [] (ja_up (ja_up (ja_up (ja_up h 0 186 1) 0 187 1) 0 188 1) 0 189 (-1)) Q
      refine ja_goto 450 dact_384 rfl ?_
      refine ja_return dact_450 rfl ?_
      exact k1 (ja_up (ja_up (ja_up (ja_up h 0 186 1) 0 187 1) 0 188 1) 0 189 (-1)) ((ac_end g g26 p1 (rb_ag p1.1 (by (repeat (first | exact qv | refine vi_set (by decide) (by decide) (by decide) ?_ (by first | exact (fun z => absurd z (by decide)) | exact vi_aS qv (by decide) _ | exact qv.2 | exact (fun z => ⟨by omega, hca⟩) | exact (fun z => ⟨by omega, hca z⟩) | (intro z; exfalso; omega)) | refine vi_res ?_ (by first | exact (fun z => absurd z (by decide)) | exact vi_aS qv (by decide) _ | exact qv.2 | exact (fun z => ⟨by omega, hca⟩) | exact (fun z => ⟨by omega, hca z⟩) | (intro z; exfalso; omega)) | refine vi_arr (by decide) (by decide) ?_ | refine vi_up (by decide) (by decide) ?_ | refine vi_val (ck := 106) (by decide) (by decide) (by decide) ?_ ⟨by omega, by omega⟩))) (by (repeat (first | exact ag_refl | refine ag_up rfl ?_)))) (by (repeat (first | exact ag_refl | refine ag_up rfl ?_))) (by simp [ja_up]))) g26
    rcases (by omega : h 52 (h 115 (a1).toNat).toNat = 0 ∨ h 52 (h 115 (a1).toNat).toNat = 1 ∨ h 52 (h 115 (a1).toNat).toNat = 2 ∨ h 52 (h 115 (a1).toNat).toNat = 3 ∨ h 52 (h 115 (a1).toNat).toNat = 4 ∨ h 52 (h 115 (a1).toNat).toNat = 5 ∨ (h 52 (h 115 (a1).toNat).toNat < 0 ∨ 5 < h 52 (h 115 (a1).toNat).toNat)) with e | e | e | e | e | e | e
    · exact ja_tableIn 76 dact_37 ⟨by omega, by omega⟩ (by omega) (by omega) (by rw [e]; rfl) rfl (T37_76 (by omega))
    · exact ja_tableIn 181 dact_37 ⟨by omega, by omega⟩ (by omega) (by omega) (by rw [e]; rfl) rfl (T37_181 (by omega))
    · exact ja_tableIn 305 dact_37 ⟨by omega, by omega⟩ (by omega) (by omega) (by rw [e]; rfl) rfl (T37_305 (by omega))
    · exact ja_tableIn 333 dact_37 ⟨by omega, by omega⟩ (by omega) (by omega) (by rw [e]; rfl) rfl (T37_333 (by omega))
    · exact ja_tableIn 333 dact_37 ⟨by omega, by omega⟩ (by omega) (by omega) (by rw [e]; rfl) rfl (T37_333 (by omega))
    · exact ja_tableIn 314 dact_37 ⟨by omega, by omega⟩ (by omega) (by omega) (by rw [e]; rfl) rfl (T37_314 (by omega))
    · exact ja_tableOut 333 dact_37 ⟨by omega, by omega⟩ (by omega) rfl (T37_333 (by omega))
  · refine ja_iconst dact_24 ?_
    refine ja_goto 29 dact_25 rfl ?_
    refine ja_istore dact_29 (by decide) (L2 := [(4, (0, 1)), (3, (0, (h 118 (a1).toNat))), (2, (0, (h 115 (a1).toNat))), (0, (2, ((0 : Nat) : Int))), (1, (0, a1))]) rfl ?_
    refine ja_aload_n dact_31 rfl rfl ?_
    refine fa_pointKind dact_32 ?_
    refine ja_iload_n dact_35 rfl rfl ?_
    refine il_pointKind (v := h 52 (h 115 (a1).toNat).toNat) rfl ⟨by omega, by omega⟩ dact_36 ?_
    have f27 := gC_pointKind g (h 115 (a1).toNat).toNat
    have T37_76 : (h 52 (h 115 (a1).toNat).toNat = 0) → mJ l D cA ad 12 cX12_act 9 none 76 [(4, (0, 1)), (3, (0, (h 118 (a1).toNat))), (2, (0, (h 115 (a1).toNat))), (0, (2, ((0 : Nat) : Int))), (1, (0, a1))] [] h Q := by
      intro e37
      refine ja_iload dact_76 rfl ?_
      refine ja_if_eq 104 dact_78 rfl ⟨by decide, by decide⟩ (fun c78 => absurd c78 (by omega)) (fun c78 => ?_)
      have htv := (htk (by omega)).1
      have hca := (htk (by omega)).2
      obtain ⟨m, rk, hm9, hr9, ho9, hc9⟩ := ga_cl g p1.1.2.2.1 hca
      have ho8 := ho9 (h 118 (a1).toNat).toNat
      have klm := gC_layoutMany g (h 89 (h 118 (a1).toNat).toNat).toNat
      refine ja_aload_n dact_81 rfl rfl ?_
      refine ja_aload_n dact_82 rfl rfl ?_
      refine fa_objectClass dact_83 ?_
      refine ja_iload_n dact_86 rfl rfl ?_
      refine il_objectClass (v := h 89 (h 118 (a1).toNat).toNat) rfl ⟨by omega, by omega⟩ dact_87 ?_
      have f28 := gC_objectClass g (h 118 (a1).toNat).toNat
      refine ja_aload_n dact_88 rfl rfl ?_
      refine ja_aload_n dact_89 rfl rfl ?_
      refine fa_pointName dact_90 ?_
      refine ja_iload_n dact_93 rfl rfl ?_
      refine il_pointName (v := h 54 (h 115 (a1).toNat).toNat) rfl ⟨by omega, by omega⟩ dact_94 ?_
      have f29 := gC_pointName g (h 115 (a1).toNat).toNat
      refine t_id (by decide) (show (2 : Nat) ≤ 8 by decide) dact_95 g ⟨by omega, by omega⟩ (show 0 ≤ (h 54 (h 115 (a1).toNat).toNat) ∧ (h 54 (h 115 (a1).toNat).toNat) ≤ 900 by omega) ?_
      intro k95_0
      refine t_methodIn (by decide) (show (0 : Nat) ≤ 8 by decide) dact_98 g ⟨by omega, by omega⟩ ⟨by omega, by omega⟩ (show -1 ≤ (h 89 (h 118 (a1).toNat).toNat) ∧ (h 89 (h 118 (a1).toNat).toNat) < m by omega) (show m ≤ 12 by omega) (hr9) ?_
      intro w30 k98_0
      refine ja_goto 105 dact_101 rfl ?_
      refine ja_istore dact_105 (by decide) (L2 := [(5, (0, w30)), (4, (0, 1)), (3, (0, (h 118 (a1).toNat))), (2, (0, (h 115 (a1).toNat))), (0, (2, ((0 : Nat) : Int))), (1, (0, a1))]) rfl ?_
      refine ja_iload dact_107 rfl ?_
      refine ja_if_ne 116 dact_109 rfl ⟨by decide, by decide⟩ (fun c109 => ?_) (fun c109 => absurd c109 (by omega))
      refine ja_iload dact_116 rfl ?_
      refine ja_if_ge 126 dact_118 rfl ⟨by omega, by omega⟩ (fun c118 => ?_) (fun c118 => ?_)
      · refine ja_aload_n dact_126 rfl rfl ?_
        refine fa_methodParams dact_127 ?_
        refine ja_iload dact_130 rfl ?_
        refine il_methodParams (v := h 22 (w30).toNat) rfl ⟨by omega, by omega⟩ dact_132 ?_
        have f31 := gC_methodParams g (w30).toNat
        refine ja_aload_n dact_133 rfl rfl ?_
        refine fa_reachMany dact_134 ?_
        refine ja_iload_n dact_137 rfl rfl ?_
        refine il_reachMany (v := h 119 (a1).toNat) rfl ⟨by omega, by omega⟩ dact_138 ?_
        have f32 := gC_reachMany g (a1).toNat
        refine ja_icmp_eq 147 dact_139 rfl ⟨by omega, by omega⟩ ⟨by omega, by omega⟩ (fun c139 => ?_) (fun c139 => ?_)
        · refine ja_iconst dact_147 ?_
          refine ja_istore dact_148 (by decide) (L2 := [(6, (0, 0)), (5, (0, w30)), (4, (0, 1)), (3, (0, (h 118 (a1).toNat))), (2, (0, (h 115 (a1).toNat))), (0, (2, ((0 : Nat) : Int))), (1, (0, a1))]) rfl ?_
          refine ja_iload dact_150 rfl ?_
          refine ja_if_ge 164 dact_152 rfl ⟨by decide, by decide⟩ (fun c152 => ?_) (fun c152 => absurd c152 (by omega))
          have hmt := ac_meth p1.1.2.1 (m := w30) (by omega) (by omega)
          have hmt1 := hmt.1
          refine ja_aload_n dact_164 rfl rfl ?_
          refine ja_aload_n dact_165 rfl rfl ?_
          refine fa_methodPoint dact_166 ?_
          refine ja_iload dact_169 rfl ?_
          refine il_methodPoint (v := h 24 (w30).toNat) rfl ⟨by omega, by omega⟩ dact_171 ?_
          have f33 := gC_methodPoint g (w30).toNat
          refine ja_iload_n dact_172 rfl rfl ?_
          refine ja_iconst dact_173 ?_
          refine ja_iload_n dact_174 rfl rfl ?_
          refine t_reach (by decide) (show (0 : Nat) ≤ 8 by decide) dact_175 g ⟨by omega, by omega⟩ ⟨by omega, by omega⟩ ⟨by decide, by decide⟩ ⟨by omega, by omega⟩ (hmt1) (show 0 ≤ (h 118 (a1).toNat) ∧ (h 118 (a1).toNat) ≤ 200 by omega) (show 0 ≤ 2 ∧ 2 ≤ 2 by omega) ((fun _ => by omega)) ((fun _ => hca)) (p1.1) (hrc) ((ac_call g p1 (by omega) hmt.2 hca)) ?_
          intro h34 k175_0 g35
          refine ja_goto 450 dact_178 rfl ?_
          refine ja_return dact_450 rfl ?_
          exact k1 h34 ((ac_push g g35 p1 k175_0 ag_refl k175_0.2.2.2.2.1 (by have := k175_0.2.2.2.1.2.1; omega) (Or.inl k175_0.2.2.2.1.2.2))) g35
        · refine ja_bipush (-4) dact_142 rfl ?_
          refine ja_goto 148 dact_144 rfl ?_
          refine ja_istore dact_148 (by decide) (L2 := [(6, (0, (-4))), (5, (0, w30)), (4, (0, 1)), (3, (0, (h 118 (a1).toNat))), (2, (0, (h 115 (a1).toNat))), (0, (2, ((0 : Nat) : Int))), (1, (0, a1))]) rfl ?_
          refine ja_iload dact_150 rfl ?_
          refine ja_if_ge 164 dact_152 rfl ⟨by decide, by decide⟩ (fun c152 => absurd c152 (by omega)) (fun c152 => ?_)
          refine ja_aload_n dact_155 rfl rfl ?_
          refine ja_iload dact_156 rfl ?_
          refine t_fails (by decide) (show (0 : Nat) ≤ 8 by decide) dact_158 g ⟨by decide, by decide⟩ ?_
          intro g36
          replace g36 : mo_G mo_zr (ja_up (ja_up (ja_up (ja_up h 0 186 1) 0 187 1) 0 188 1) 0 189 (-4)) := g36
          show mJ l D cA ad 12 cX12_act 9 none 161 [(6, (0, (-4))), (5, (0, w30)), (4, (0, 1)), (3, (0, (h 118 (a1).toNat))), (2, (0, (h 115 (a1).toNat))), (0, (2, ((0 : Nat) : Int))), (1, (0, a1))] [] (ja_up (ja_up (ja_up (ja_up h 0 186 1) 0 187 1) 0 188 1) 0 189 (-4)) Q
          refine ja_goto 450 dact_161 rfl ?_
          refine ja_return dact_450 rfl ?_
          exact k1 (ja_up (ja_up (ja_up (ja_up h 0 186 1) 0 187 1) 0 188 1) 0 189 (-4)) ((ac_end g g36 p1 (rb_ag p1.1 (by (repeat (first | exact qv | refine vi_set (by decide) (by decide) (by decide) ?_ (by first | exact (fun z => absurd z (by decide)) | exact vi_aS qv (by decide) _ | exact qv.2 | exact (fun z => ⟨by omega, hca⟩) | exact (fun z => ⟨by omega, hca z⟩) | (intro z; exfalso; omega)) | refine vi_res ?_ (by first | exact (fun z => absurd z (by decide)) | exact vi_aS qv (by decide) _ | exact qv.2 | exact (fun z => ⟨by omega, hca⟩) | exact (fun z => ⟨by omega, hca z⟩) | (intro z; exfalso; omega)) | refine vi_arr (by decide) (by decide) ?_ | refine vi_up (by decide) (by decide) ?_ | refine vi_val (ck := 106) (by decide) (by decide) (by decide) ?_ ⟨by omega, by omega⟩))) (by (repeat (first | exact ag_refl | refine ag_up rfl ?_)))) (by (repeat (first | exact ag_refl | refine ag_up rfl ?_))) (by simp [ja_up]))) g36
      · refine ja_bipush (-3) dact_121 rfl ?_
        refine ja_goto 148 dact_123 rfl ?_
        refine ja_istore dact_148 (by decide) (L2 := [(6, (0, (-3))), (5, (0, w30)), (4, (0, 1)), (3, (0, (h 118 (a1).toNat))), (2, (0, (h 115 (a1).toNat))), (0, (2, ((0 : Nat) : Int))), (1, (0, a1))]) rfl ?_
        refine ja_iload dact_150 rfl ?_
        refine ja_if_ge 164 dact_152 rfl ⟨by decide, by decide⟩ (fun c152 => absurd c152 (by omega)) (fun c152 => ?_)
        refine ja_aload_n dact_155 rfl rfl ?_
        refine ja_iload dact_156 rfl ?_
        refine t_fails (by decide) (show (0 : Nat) ≤ 8 by decide) dact_158 g ⟨by decide, by decide⟩ ?_
        intro g37
        replace g37 : mo_G mo_zr (ja_up (ja_up (ja_up (ja_up h 0 186 1) 0 187 1) 0 188 1) 0 189 (-3)) := g37
        show mJ l D cA ad 12 cX12_act 9 none 161 [(6, (0, (-3))), (5, (0, w30)), (4, (0, 1)), (3, (0, (h 118 (a1).toNat))), (2, (0, (h 115 (a1).toNat))), (0, (2, ((0 : Nat) : Int))), (1, (0, a1))] [] (ja_up (ja_up (ja_up (ja_up h 0 186 1) 0 187 1) 0 188 1) 0 189 (-3)) Q
        refine ja_goto 450 dact_161 rfl ?_
        refine ja_return dact_450 rfl ?_
        exact k1 (ja_up (ja_up (ja_up (ja_up h 0 186 1) 0 187 1) 0 188 1) 0 189 (-3)) ((ac_end g g37 p1 (rb_ag p1.1 (by (repeat (first | exact qv | refine vi_set (by decide) (by decide) (by decide) ?_ (by first | exact (fun z => absurd z (by decide)) | exact vi_aS qv (by decide) _ | exact qv.2 | exact (fun z => ⟨by omega, hca⟩) | exact (fun z => ⟨by omega, hca z⟩) | (intro z; exfalso; omega)) | refine vi_res ?_ (by first | exact (fun z => absurd z (by decide)) | exact vi_aS qv (by decide) _ | exact qv.2 | exact (fun z => ⟨by omega, hca⟩) | exact (fun z => ⟨by omega, hca z⟩) | (intro z; exfalso; omega)) | refine vi_arr (by decide) (by decide) ?_ | refine vi_up (by decide) (by decide) ?_ | refine vi_val (ck := 106) (by decide) (by decide) (by decide) ?_ ⟨by omega, by omega⟩))) (by (repeat (first | exact ag_refl | refine ag_up rfl ?_)))) (by (repeat (first | exact ag_refl | refine ag_up rfl ?_))) (by simp [ja_up]))) g37
    have T37_181 : (h 52 (h 115 (a1).toNat).toNat = 1) → mJ l D cA ad 12 cX12_act 9 none 181 [(4, (0, 1)), (3, (0, (h 118 (a1).toNat))), (2, (0, (h 115 (a1).toNat))), (0, (2, ((0 : Nat) : Int))), (1, (0, a1))] [] h Q := by
      intro e37
      refine ja_aload_n dact_181 rfl rfl ?_
      refine fg_bodies (v := h 0 144) rfl dact_182 ?_
      have f38 := gF_bodies g
      refine ja_bipush 40 dact_185 rfl ?_
      refine ja_icmp_ne 199 dact_187 rfl ⟨by omega, by omega⟩ ⟨by decide, by decide⟩ (fun c187 => ?_) (fun c187 => ?_)
      · have hpk1 := hpk (by omega)
        have gpw := gC_pointWhich g (h 115 (a1).toNat).toNat
        have hst := (show ((0 ≤ (h 23 (h 57 (h 115 (a1).toNat).toNat).toNat) ∧ (h 23 (h 57 (h 115 (a1).toNat).toNat).toNat) < (h 0 113)) ∧ ht ((h 23 (h 57 (h 115 (a1).toNat).toNat).toNat)).toNat = 0 ∧ st ((h 23 (h 57 (h 115 (a1).toNat).toNat).toNat)).toNat = 0 ∧ rg ((h 23 (h 57 (h 115 (a1).toNat).toNat).toNat)).toNat = 1) ∧ caN h from ⟨by have := p1.1.2.1.2.2.2.2.1.1 (h 57 (h 115 (a1).toNat).toNat).toNat (by omega); exact ⟨⟨this.1, this.2.1⟩, this.2.2⟩, hr2.2 (by omega)⟩)
        have hst1 := hst.1.1
        refine ja_aload_n dact_199 rfl rfl ?_
        refine ja_dup dact_200 (by decide) ?_
        refine fg_bodies (v := h 0 144) rfl dact_201 ?_
        refine ja_iconst dact_204 ?_
        refine ja_iadd dact_205 ?_
        have g39 := gP_bodies g (x := (h 0 144) + 1) ⟨by omega, by omega⟩
        refine fp_bodies dact_206 ?_
        refine ja_aload_n dact_209 rfl rfl ?_
        refine ja_iconst dact_210 ?_
        refine ja_aload_n dact_211 rfl rfl ?_
        refine fa_methodStart dact_212 ?_
        refine ja_aload_n dact_215 rfl rfl ?_
        refine fa_pointWhich dact_216 ?_
        refine ja_iload_n dact_219 rfl rfl ?_
        refine il_pointWhich (v := h 57 (h 115 (a1).toNat).toNat) rfl ⟨by omega, by omega⟩ dact_220 ?_
        have f40 := gC_pointWhich g (h 115 (a1).toNat).toNat
        refine il_methodStart (v := h 23 (h 57 (h 115 (a1).toNat).toNat).toNat) rfl ⟨by omega, by omega⟩ dact_221 ?_
        have f41 := gC_methodStart g (h 57 (h 115 (a1).toNat).toNat).toNat
        refine ja_aload_n dact_222 rfl rfl ?_
        refine fa_reachSelf dact_223 ?_
        refine ja_iload_n dact_226 rfl rfl ?_
        refine il_reachSelf (v := h 116 (a1).toNat) rfl ⟨by omega, by omega⟩ dact_227 ?_
        have f42 := gC_reachSelf g (a1).toNat
        refine t_pushBody (by decide) (show (0 : Nat) ≤ 8 by decide) dact_228 g39 ⟨by decide, by decide⟩ ⟨by omega, by omega⟩ ⟨by omega, by omega⟩ (show 0 ≤ 1 ∧ 1 ≤ 2 by omega) (show 0 ≤ (h 23 (h 57 (h 115 (a1).toNat).toNat).toNat) ∧ (h 23 (h 57 (h 115 (a1).toNat).toNat).toNat) ≤ 5000 by omega) (show 0 ≤ (h 116 (a1).toNat) ∧ (h 116 (a1).toNat) ≤ 200 by omega) (show (h 0 150) < 3000 by omega) (show (h 0 165) ≤ 490 by omega) ((by (repeat (first | exact qv | refine vi_set (by decide) (by decide) (by decide) ?_ (by first | exact (fun z => absurd z (by decide)) | exact vi_aS qv (by decide) _ | exact qv.2 | exact (fun z => ⟨by omega, hca⟩) | exact (fun z => ⟨by omega, hca z⟩) | (intro z; exfalso; omega)) | refine vi_res ?_ (by first | exact (fun z => absurd z (by decide)) | exact vi_aS qv (by decide) _ | exact qv.2 | exact (fun z => ⟨by omega, hca⟩) | exact (fun z => ⟨by omega, hca z⟩) | (intro z; exfalso; omega)) | refine vi_arr (by decide) (by decide) ?_ | refine vi_up (by decide) (by decide) ?_ | refine vi_val (ck := 106) (by decide) (by decide) (by decide) ?_ ⟨by omega, by omega⟩)))) ?_
        intro h43 k228_0 g44
        replace k228_0 : pbF (ja_up h 0 144 ((h 0 144) + 1)) h43 1 (h 23 (h 57 (h 115 (a1).toNat).toNat).toNat) (h 116 (a1).toNat) ∧ VI h43 := k228_0
        show mJ l D cA ad 12 cX12_act 9 none 231 [(4, (0, 1)), (3, (0, (h 118 (a1).toNat))), (2, (0, (h 115 (a1).toNat))), (0, (2, ((0 : Nat) : Int))), (1, (0, a1))] [(0, (h 0 150))] h43 Q
        refine ja_istore dact_231 (by decide) (L2 := [(7, (0, (h 0 150))), (4, (0, 1)), (3, (0, (h 118 (a1).toNat))), (2, (0, (h 115 (a1).toNat))), (0, (2, ((0 : Nat) : Int))), (1, (0, a1))]) rfl ?_
        refine ja_iconst dact_233 ?_
        refine ja_istore dact_234 (by decide) (L2 := [(8, (0, 0)), (7, (0, (h 0 150))), (4, (0, 1)), (3, (0, (h 118 (a1).toNat))), (2, (0, (h 115 (a1).toNat))), (0, (2, ((0 : Nat) : Int))), (1, (0, a1))]) rfl ?_
        exact ja_wk (fun q hq => by simp only [List.mem_cons, List.not_mem_nil, or_false] at hq; rcases hq with rfl | rfl | rfl | rfl <;> rfl) ((CUT _) 0 h43 g44 ⟨by decide, by decide⟩ (⟨by omega, (pb_bd (v := ja_up h 0 144 (h 0 144 + 1)) (by (repeat (first | exact ag_refl | refine ag_up rfl ?_))) rfl rfl k228_0.1 rfl (by decide)), k228_0.2⟩) rfl)
      · refine ja_aload_n dact_190 rfl rfl ?_
        refine ja_bipush (-7) dact_191 rfl ?_
        refine t_fails (by decide) (show (0 : Nat) ≤ 8 by decide) dact_193 g ⟨by decide, by decide⟩ ?_
        intro g45
        replace g45 : mo_G mo_zr (ja_up (ja_up (ja_up (ja_up h 0 186 1) 0 187 1) 0 188 1) 0 189 (-7)) := g45
        show mJ l D cA ad 12 cX12_act 9 none 196 [(4, (0, 1)), (3, (0, (h 118 (a1).toNat))), (2, (0, (h 115 (a1).toNat))), (0, (2, ((0 : Nat) : Int))), (1, (0, a1))] [] (ja_up (ja_up (ja_up (ja_up h 0 186 1) 0 187 1) 0 188 1) 0 189 (-7)) Q
        refine ja_goto 450 dact_196 rfl ?_
        refine ja_return dact_450 rfl ?_
        exact k1 (ja_up (ja_up (ja_up (ja_up h 0 186 1) 0 187 1) 0 188 1) 0 189 (-7)) ((ac_end g g45 p1 (rb_ag p1.1 (by (repeat (first | exact qv | refine vi_set (by decide) (by decide) (by decide) ?_ (by first | exact (fun z => absurd z (by decide)) | exact vi_aS qv (by decide) _ | exact qv.2 | exact (fun z => ⟨by omega, hca⟩) | exact (fun z => ⟨by omega, hca z⟩) | (intro z; exfalso; omega)) | refine vi_res ?_ (by first | exact (fun z => absurd z (by decide)) | exact vi_aS qv (by decide) _ | exact qv.2 | exact (fun z => ⟨by omega, hca⟩) | exact (fun z => ⟨by omega, hca z⟩) | (intro z; exfalso; omega)) | refine vi_arr (by decide) (by decide) ?_ | refine vi_up (by decide) (by decide) ?_ | refine vi_val (ck := 106) (by decide) (by decide) (by decide) ?_ ⟨by omega, by omega⟩))) (by (repeat (first | exact ag_refl | refine ag_up rfl ?_)))) (by (repeat (first | exact ag_refl | refine ag_up rfl ?_))) (by simp [ja_up]))) g45
    have T37_305 : (h 52 (h 115 (a1).toNat).toNat = 2) → mJ l D cA ad 12 cX12_act 9 none 305 [(4, (0, 1)), (3, (0, (h 118 (a1).toNat))), (2, (0, (h 115 (a1).toNat))), (0, (2, ((0 : Nat) : Int))), (1, (0, a1))] [] h Q := by
      intro e37
      refine ja_aload_n dact_305 rfl rfl ?_
      refine ja_iload_n dact_306 rfl rfl ?_
      refine ja_iload_n dact_307 rfl rfl ?_
      refine t_make (by decide) (show (0 : Nat) ≤ 8 by decide) dact_308 g ⟨by omega, by omega⟩ ⟨by omega, by omega⟩ (p1) (rfl) (show (h 52 (h 115 (a1).toNat).toNat) = 2 by omega) ?_
      intro h46 k308_0 g47
      refine ja_goto 450 dact_311 rfl ?_
      refine ja_return dact_450 rfl ?_
      exact k1 h46 (k308_0) g47
    have T37_314 : (h 52 (h 115 (a1).toNat).toNat = 5) → mJ l D cA ad 12 cX12_act 9 none 314 [(4, (0, 1)), (3, (0, (h 118 (a1).toNat))), (2, (0, (h 115 (a1).toNat))), (0, (2, ((0 : Nat) : Int))), (1, (0, a1))] [] h Q := by
      intro e37
      refine ja_aload_n dact_314 rfl rfl ?_
      refine ja_aload_n dact_315 rfl rfl ?_
      refine fa_argKind dact_316 ?_
      refine ja_iconst dact_319 ?_
      refine il_argKind (v := h 128 (0 : Int).toNat) rfl ⟨by omega, by omega⟩ dact_320 ?_
      have f48 := gC_argKind g (0 : Int).toNat
      refine ja_aload_n dact_321 rfl rfl ?_
      refine fa_argValue dact_322 ?_
      refine ja_iconst dact_325 ?_
      refine il_argValue (v := h 129 (0 : Int).toNat) rfl ⟨by omega, by omega⟩ dact_326 ?_
      have f49 := gC_argValue g (0 : Int).toNat
      refine t_result (by decide) (show (0 : Nat) ≤ 8 by decide) dact_327 g ⟨by omega, by omega⟩ ⟨by omega, by omega⟩ (show 0 ≤ (h 128 (0 : Int).toNat) ∧ (h 128 (0 : Int).toNat) ≤ 2 by omega) ?_
      intro g50
      replace g50 : mo_G mo_zr (ja_up (ja_up (ja_up (ja_up h 0 186 1) 0 187 0) 0 188 (h 128 (0 : Int).toNat)) 0 189 (h 129 (0 : Int).toNat)) := g50
      show mJ l D cA ad 12 cX12_act 9 none 330 [(4, (0, 1)), (3, (0, (h 118 (a1).toNat))), (2, (0, (h 115 (a1).toNat))), (0, (2, ((0 : Nat) : Int))), (1, (0, a1))] [] (ja_up (ja_up (ja_up (ja_up h 0 186 1) 0 187 0) 0 188 (h 128 (0 : Int).toNat)) 0 189 (h 129 (0 : Int).toNat)) Q
      refine ja_goto 450 dact_330 rfl ?_
      refine ja_return dact_450 rfl ?_
      exact k1 (ja_up (ja_up (ja_up (ja_up h 0 186 1) 0 187 0) 0 188 (h 128 (0 : Int).toNat)) 0 189 (h 129 (0 : Int).toNat)) ((ac_end g g50 p1 (rb_ag p1.1 (by (repeat (first | exact qv | refine vi_set (by decide) (by decide) (by decide) ?_ (by first | exact (fun z => absurd z (by decide)) | exact vi_aS qv (by decide) _ | exact qv.2 | exact (fun z => ⟨by omega, hca⟩) | exact (fun z => ⟨by omega, hca z⟩) | (intro z; exfalso; omega)) | refine vi_res ?_ (by first | exact (fun z => absurd z (by decide)) | exact vi_aS qv (by decide) _ | exact qv.2 | exact (fun z => ⟨by omega, hca⟩) | exact (fun z => ⟨by omega, hca z⟩) | (intro z; exfalso; omega)) | refine vi_arr (by decide) (by decide) ?_ | refine vi_up (by decide) (by decide) ?_ | refine vi_val (ck := 106) (by decide) (by decide) (by decide) ?_ ⟨by omega, by omega⟩))) (by (repeat (first | exact ag_refl | refine ag_up rfl ?_)))) (by (repeat (first | exact ag_refl | refine ag_up rfl ?_))) (by simp [ja_up]))) g50
    have T37_333 : (h 52 (h 115 (a1).toNat).toNat < 0 ∨ 5 < h 52 (h 115 (a1).toNat).toNat ∨ h 52 (h 115 (a1).toNat).toNat = 3 ∨ h 52 (h 115 (a1).toNat).toNat = 4) → mJ l D cA ad 12 cX12_act 9 none 333 [(4, (0, 1)), (3, (0, (h 118 (a1).toNat))), (2, (0, (h 115 (a1).toNat))), (0, (2, ((0 : Nat) : Int))), (1, (0, a1))] [] h Q := by
      intro e37
      refine ja_iload dact_333 rfl ?_
      refine ja_if_eq 361 dact_335 rfl ⟨by decide, by decide⟩ (fun c335 => absurd c335 (by omega)) (fun c335 => ?_)
      have htv := (htk (by omega)).1
      have hca := (htk (by omega)).2
      obtain ⟨m, rk, hm9, hr9, ho9, hc9⟩ := ga_cl g p1.1.2.2.1 hca
      have ho8 := ho9 (h 118 (a1).toNat).toNat
      have klm := gC_layoutMany g (h 89 (h 118 (a1).toNat).toNat).toNat
      refine ja_aload_n dact_338 rfl rfl ?_
      refine ja_aload_n dact_339 rfl rfl ?_
      refine fa_objectClass dact_340 ?_
      refine ja_iload_n dact_343 rfl rfl ?_
      refine il_objectClass (v := h 89 (h 118 (a1).toNat).toNat) rfl ⟨by omega, by omega⟩ dact_344 ?_
      have f51 := gC_objectClass g (h 118 (a1).toNat).toNat
      refine ja_aload_n dact_345 rfl rfl ?_
      refine ja_aload_n dact_346 rfl rfl ?_
      refine fa_pointName dact_347 ?_
      refine ja_iload_n dact_350 rfl rfl ?_
      refine il_pointName (v := h 54 (h 115 (a1).toNat).toNat) rfl ⟨by omega, by omega⟩ dact_351 ?_
      have f52 := gC_pointName g (h 115 (a1).toNat).toNat
      refine t_id (by decide) (show (2 : Nat) ≤ 8 by decide) dact_352 g ⟨by omega, by omega⟩ (show 0 ≤ (h 54 (h 115 (a1).toNat).toNat) ∧ (h 54 (h 115 (a1).toNat).toNat) ≤ 900 by omega) ?_
      intro k352_0
      refine t_fieldIn (by decide) (show (0 : Nat) ≤ 8 by decide) dact_355 g ⟨by omega, by omega⟩ ⟨by omega, by omega⟩ (show 0 ≤ (h 89 (h 118 (a1).toNat).toNat) ∧ (h 89 (h 118 (a1).toNat).toNat) < m by omega) (show m ≤ 12 by omega) (hr9) ?_
      intro w53 k355_0
      refine ja_goto 362 dact_358 rfl ?_
      refine ja_istore dact_362 (by decide) (L2 := [(7, (0, w53)), (4, (0, 1)), (3, (0, (h 118 (a1).toNat))), (2, (0, (h 115 (a1).toNat))), (0, (2, ((0 : Nat) : Int))), (1, (0, a1))]) rfl ?_
      refine ja_iload dact_364 rfl ?_
      refine ja_if_ge 387 dact_366 rfl ⟨by omega, by omega⟩ (fun c366 => ?_) (fun c366 => ?_)
      · refine ja_bipush 120 dact_387 rfl ?_
        refine ja_iload_n dact_389 rfl rfl ?_
        refine ja_imul dact_390 ?_
        refine ja_iload dact_391 rfl ?_
        refine ja_iadd dact_393 ?_
        refine ja_istore dact_394 (by decide) (L2 := [(8, (0, ((120 * (h 118 (a1).toNat)) + w53))), (7, (0, w53)), (4, (0, 1)), (3, (0, (h 118 (a1).toNat))), (2, (0, (h 115 (a1).toNat))), (0, (2, ((0 : Nat) : Int))), (1, (0, a1))]) rfl ?_
        refine ja_aload_n dact_396 rfl rfl ?_
        refine fa_pointKind dact_397 ?_
        refine ja_iload_n dact_400 rfl rfl ?_
        refine il_pointKind (v := h 52 (h 115 (a1).toNat).toNat) rfl ⟨by omega, by omega⟩ dact_401 ?_
        refine ja_iconst dact_402 ?_
        refine ja_icmp_ne 432 dact_403 rfl ⟨by omega, by omega⟩ ⟨by decide, by decide⟩ (fun c403 => ?_) (fun c403 => ?_)
        · refine ja_aload_n dact_432 rfl rfl ?_
          refine ja_aload_n dact_433 rfl rfl ?_
          refine fa_fieldKind dact_434 ?_
          refine ja_iload dact_437 rfl ?_
          refine il_fieldKind (v := h 90 ((120 * (h 118 (a1).toNat)) + w53).toNat) rfl ⟨by omega, by omega⟩ dact_439 ?_
          have f54 := gC_fieldKind g ((120 * (h 118 (a1).toNat)) + w53).toNat
          refine ja_aload_n dact_440 rfl rfl ?_
          refine fa_fieldValue dact_441 ?_
          refine ja_iload dact_444 rfl ?_
          refine il_fieldValue (v := h 91 ((120 * (h 118 (a1).toNat)) + w53).toNat) rfl ⟨by omega, by omega⟩ dact_446 ?_
          have f55 := gC_fieldValue g ((120 * (h 118 (a1).toNat)) + w53).toNat
          refine t_result (by decide) (show (0 : Nat) ≤ 8 by decide) dact_447 g ⟨by omega, by omega⟩ ⟨by omega, by omega⟩ (show 0 ≤ (h 90 ((120 * (h 118 (a1).toNat)) + w53).toNat) ∧ (h 90 ((120 * (h 118 (a1).toNat)) + w53).toNat) ≤ 2 by omega) ?_
          intro g56
          replace g56 : mo_G mo_zr (ja_up (ja_up (ja_up (ja_up h 0 186 1) 0 187 0) 0 188 (h 90 ((120 * (h 118 (a1).toNat)) + w53).toNat)) 0 189 (h 91 ((120 * (h 118 (a1).toNat)) + w53).toNat)) := g56
          show mJ l D cA ad 12 cX12_act 9 none 450 [(8, (0, ((120 * (h 118 (a1).toNat)) + w53))), (7, (0, w53)), (4, (0, 1)), (3, (0, (h 118 (a1).toNat))), (2, (0, (h 115 (a1).toNat))), (0, (2, ((0 : Nat) : Int))), (1, (0, a1))] [] (ja_up (ja_up (ja_up (ja_up h 0 186 1) 0 187 0) 0 188 (h 90 ((120 * (h 118 (a1).toNat)) + w53).toNat)) 0 189 (h 91 ((120 * (h 118 (a1).toNat)) + w53).toNat)) Q
          refine ja_return dact_450 rfl ?_
          exact k1 (ja_up (ja_up (ja_up (ja_up h 0 186 1) 0 187 0) 0 188 (h 90 ((120 * (h 118 (a1).toNat)) + w53).toNat)) 0 189 (h 91 ((120 * (h 118 (a1).toNat)) + w53).toNat)) ((ac_end g g56 p1 (rb_ag p1.1 (by (repeat (first | exact qv | refine vi_set (by decide) (by decide) (by decide) ?_ (by first | exact (fun z => absurd z (by decide)) | exact vi_aS qv (by decide) _ | exact qv.2 | exact (fun z => ⟨by omega, hca⟩) | exact (fun z => ⟨by omega, hca z⟩) | (intro z; exfalso; omega)) | refine vi_res ?_ (by first | exact (fun z => absurd z (by decide)) | exact vi_aS qv (by decide) _ | exact qv.2 | exact (fun z => ⟨by omega, hca⟩) | exact (fun z => ⟨by omega, hca z⟩) | (intro z; exfalso; omega)) | refine vi_arr (by decide) (by decide) ?_ | refine vi_up (by decide) (by decide) ?_ | refine vi_val (ck := 106) (by decide) (by decide) (by decide) ?_ ⟨by omega, by omega⟩))) (by (repeat (first | exact ag_refl | refine ag_up rfl ?_)))) (by (repeat (first | exact ag_refl | refine ag_up rfl ?_))) (by simp [ja_up]))) g56
        · refine ja_aload_n dact_406 rfl rfl ?_
          refine fa_fieldKind dact_407 ?_
          refine ja_iload dact_410 rfl ?_
          refine ja_aload_n dact_412 rfl rfl ?_
          refine fa_argKind dact_413 ?_
          refine ja_iconst dact_416 ?_
          refine il_argKind (v := h 128 (0 : Int).toNat) rfl ⟨by omega, by omega⟩ dact_417 ?_
          have f57 := gC_argKind g (0 : Int).toNat
          have g58 := gW_fieldKind g ((120 * (h 118 (a1).toNat)) + w53).toNat (x := h 128 (0 : Int).toNat) ⟨by omega, by omega⟩
          refine is_fieldKind ⟨by omega, by omega⟩ dact_418 ?_
          refine ja_aload_n dact_419 rfl rfl ?_
          refine fa_fieldValue dact_420 ?_
          refine ja_iload dact_423 rfl ?_
          refine ja_aload_n dact_425 rfl rfl ?_
          refine fa_argValue dact_426 ?_
          refine ja_iconst dact_429 ?_
          refine il_argValue (v := h 129 (0 : Int).toNat) rfl ⟨by omega, by omega⟩ dact_430 ?_
          have f59 := gC_argValue g (0 : Int).toNat
          have g60 := gW_fieldValue g58 ((120 * (h 118 (a1).toNat)) + w53).toNat (x := h 129 (0 : Int).toNat) ⟨by omega, by omega⟩
          refine is_fieldValue ⟨by omega, by omega⟩ dact_431 ?_
          refine ja_aload_n dact_432 rfl rfl ?_
          refine ja_aload_n dact_433 rfl rfl ?_
          refine fa_fieldKind dact_434 ?_
          refine ja_iload dact_437 rfl ?_
          refine il_fieldKind (v := h 128 (0 : Int).toNat) (by simp [ja_up]) ⟨by omega, by omega⟩ dact_439 ?_
          refine ja_aload_n dact_440 rfl rfl ?_
          refine fa_fieldValue dact_441 ?_
          refine ja_iload dact_444 rfl ?_
          refine il_fieldValue (v := h 129 (0 : Int).toNat) (by simp [ja_up]) ⟨by omega, by omega⟩ dact_446 ?_
          refine t_result (by decide) (show (0 : Nat) ≤ 8 by decide) dact_447 g60 ⟨by omega, by omega⟩ ⟨by omega, by omega⟩ (show 0 ≤ (h 128 (0 : Int).toNat) ∧ (h 128 (0 : Int).toNat) ≤ 2 by omega) ?_
          intro g61
          replace g61 : mo_G mo_zr (ja_up (ja_up (ja_up (ja_up (ja_up (ja_up h 90 (((120 * (h 118 (a1).toNat)) + w53).toNat) (h 128 (0 : Int).toNat)) 91 (((120 * (h 118 (a1).toNat)) + w53).toNat) (h 129 (0 : Int).toNat)) 0 186 1) 0 187 0) 0 188 (h 128 (0 : Int).toNat)) 0 189 (h 129 (0 : Int).toNat)) := g61
          show mJ l D cA ad 12 cX12_act 9 none 450 [(8, (0, ((120 * (h 118 (a1).toNat)) + w53))), (7, (0, w53)), (4, (0, 1)), (3, (0, (h 118 (a1).toNat))), (2, (0, (h 115 (a1).toNat))), (0, (2, ((0 : Nat) : Int))), (1, (0, a1))] [] (ja_up (ja_up (ja_up (ja_up (ja_up (ja_up h 90 (((120 * (h 118 (a1).toNat)) + w53).toNat) (h 128 (0 : Int).toNat)) 91 (((120 * (h 118 (a1).toNat)) + w53).toNat) (h 129 (0 : Int).toNat)) 0 186 1) 0 187 0) 0 188 (h 128 (0 : Int).toNat)) 0 189 (h 129 (0 : Int).toNat)) Q
          refine ja_return dact_450 rfl ?_
          exact k1 (ja_up (ja_up (ja_up (ja_up (ja_up (ja_up h 90 (((120 * (h 118 (a1).toNat)) + w53).toNat) (h 128 (0 : Int).toNat)) 91 (((120 * (h 118 (a1).toNat)) + w53).toNat) (h 129 (0 : Int).toNat)) 0 186 1) 0 187 0) 0 188 (h 128 (0 : Int).toNat)) 0 189 (h 129 (0 : Int).toNat)) ((ac_end g g61 p1 (rb_ag p1.1 (by (repeat (first | exact qv | refine vi_set (by decide) (by decide) (by decide) ?_ (by first | exact (fun z => absurd z (by decide)) | exact vi_aS qv (by decide) _ | exact qv.2 | exact (fun z => ⟨by omega, hca⟩) | exact (fun z => ⟨by omega, hca z⟩) | (intro z; exfalso; omega)) | refine vi_res ?_ (by first | exact (fun z => absurd z (by decide)) | exact vi_aS qv (by decide) _ | exact qv.2 | exact (fun z => ⟨by omega, hca⟩) | exact (fun z => ⟨by omega, hca z⟩) | (intro z; exfalso; omega)) | refine vi_arr (by decide) (by decide) ?_ | refine vi_up (by decide) (by decide) ?_ | refine vi_val (ck := 106) (by decide) (by decide) (by decide) ?_ ⟨by omega, by omega⟩))) (by (repeat (first | exact ag_refl | refine ag_up rfl ?_)))) (by (repeat (first | exact ag_refl | refine ag_up rfl ?_))) (by simp [ja_up]))) g61
      · refine ja_aload_n dact_369 rfl rfl ?_
        refine ja_iload dact_370 rfl ?_
        refine ja_if_eq 380 dact_372 rfl ⟨by decide, by decide⟩ (fun c372 => absurd c372 (by omega)) (fun c372 => ?_)
        refine ja_bipush (-2) dact_375 rfl ?_
        refine ja_goto 381 dact_377 rfl ?_
        refine t_fails (by decide) (show (0 : Nat) ≤ 8 by decide) dact_381 g ⟨by decide, by decide⟩ ?_
        intro g62
        replace g62 : mo_G mo_zr (ja_up (ja_up (ja_up (ja_up h 0 186 1) 0 187 1) 0 188 1) 0 189 (-2)) := g62
        show mJ l D cA ad 12 cX12_act 9 none 384 [(7, (0, w53)), (4, (0, 1)), (3, (0, (h 118 (a1).toNat))), (2, (0, (h 115 (a1).toNat))), (0, (2, ((0 : Nat) : Int))), (1, (0, a1))] [] (ja_up (ja_up (ja_up (ja_up h 0 186 1) 0 187 1) 0 188 1) 0 189 (-2)) Q
        refine ja_goto 450 dact_384 rfl ?_
        refine ja_return dact_450 rfl ?_
        exact k1 (ja_up (ja_up (ja_up (ja_up h 0 186 1) 0 187 1) 0 188 1) 0 189 (-2)) ((ac_end g g62 p1 (rb_ag p1.1 (by (repeat (first | exact qv | refine vi_set (by decide) (by decide) (by decide) ?_ (by first | exact (fun z => absurd z (by decide)) | exact vi_aS qv (by decide) _ | exact qv.2 | exact (fun z => ⟨by omega, hca⟩) | exact (fun z => ⟨by omega, hca z⟩) | (intro z; exfalso; omega)) | refine vi_res ?_ (by first | exact (fun z => absurd z (by decide)) | exact vi_aS qv (by decide) _ | exact qv.2 | exact (fun z => ⟨by omega, hca⟩) | exact (fun z => ⟨by omega, hca z⟩) | (intro z; exfalso; omega)) | refine vi_arr (by decide) (by decide) ?_ | refine vi_up (by decide) (by decide) ?_ | refine vi_val (ck := 106) (by decide) (by decide) (by decide) ?_ ⟨by omega, by omega⟩))) (by (repeat (first | exact ag_refl | refine ag_up rfl ?_)))) (by (repeat (first | exact ag_refl | refine ag_up rfl ?_))) (by simp [ja_up]))) g62
    rcases (by omega : h 52 (h 115 (a1).toNat).toNat = 0 ∨ h 52 (h 115 (a1).toNat).toNat = 1 ∨ h 52 (h 115 (a1).toNat).toNat = 2 ∨ h 52 (h 115 (a1).toNat).toNat = 3 ∨ h 52 (h 115 (a1).toNat).toNat = 4 ∨ h 52 (h 115 (a1).toNat).toNat = 5 ∨ (h 52 (h 115 (a1).toNat).toNat < 0 ∨ 5 < h 52 (h 115 (a1).toNat).toNat)) with e | e | e | e | e | e | e
    · exact ja_tableIn 76 dact_37 ⟨by omega, by omega⟩ (by omega) (by omega) (by rw [e]; rfl) rfl (T37_76 (by omega))
    · exact ja_tableIn 181 dact_37 ⟨by omega, by omega⟩ (by omega) (by omega) (by rw [e]; rfl) rfl (T37_181 (by omega))
    · exact ja_tableIn 305 dact_37 ⟨by omega, by omega⟩ (by omega) (by omega) (by rw [e]; rfl) rfl (T37_305 (by omega))
    · exact ja_tableIn 333 dact_37 ⟨by omega, by omega⟩ (by omega) (by omega) (by rw [e]; rfl) rfl (T37_333 (by omega))
    · exact ja_tableIn 333 dact_37 ⟨by omega, by omega⟩ (by omega) (by omega) (by rw [e]; rfl) rfl (T37_333 (by omega))
    · exact ja_tableIn 314 dact_37 ⟨by omega, by omega⟩ (by omega) (by omega) (by rw [e]; rfl) rfl (T37_314 (by omega))
    · exact ja_tableOut 333 dact_37 ⟨by omega, by omega⟩ (by omega) rfl (T37_333 (by omega))
theorem t_act {a1 : Int} {ht st rg : Nat → Int} {d nL pc : Nat} {cc : ByteArray} {rt : Option FieldType} {L : List (Nat × ja_V)} {S : List ja_V} {h : ja_H} {Q : Option ja_V → ja_H → Prop} (hdd : 12 < d) (hwd : ja_wd S ≤ 8) (hd : decode cc pc = .ok (.invokevirtual 1069, 3)) (g : mo_G mo_zr h) (r1 : -2147483648 ≤ a1 ∧ a1 ≤ 2147483647) (p1 : AC h ht st rg a1) (k1 : ∀ (h' : ja_H), (RO h h' ht st rg) → mo_G mo_zr h' → mJ l D cA ad d cc nL rt (pc + 3) L S h' Q) : mJ l D cA ad d cc nL rt pc L ((0, a1) :: (2, ((0 : Nat) : Int)) :: S) h Q :=
  mc_act hdd hwd hd (s_act g r1 p1 k1)
end
