/-! the reference: advice is begun, a rest (written by a program) -/
/-! the reference: advice is begun, a rest -/
/-- a POINT's advice stands on top -/
def BA (h : ja_H) (ht st rg : Nat → Int) (f : Int) : Prop := RB h ht st rg ∧ RC h ht st rg 1 ∧ f = (h 0 150) - 1 ∧ (h 96) f.toNat = 4
theorem ba_f {h : ja_H} {ht st rg : Nat → Int} {f : Int} (g : mo_G mo_zr h) (q : BA h ht st rg f) : (0 ≤ (h 102) f.toNat ∧ (h 102) f.toNat < (h 0 172)) ∧ (0 ≤ (h 103) f.toNat ∧ (h 103) f.toNat < (h 123) ((h 102) f.toNat).toNat) ∧ (0 ≤ (h 124) (24 * (h 102) f.toNat + (h 103) f.toNat).toNat ∧ (h 124) (24 * (h 102) f.toNat + (h 103) f.toNat).toNat < (h 0 44)) ∧ (0 ≤ (h 0 144) ∧ (h 0 144) ≤ 40 ∧ 1 ≤ (h 0 150) ∧ (h 0 150) ≤ 2132 ∧ (h 0 165) = 10 * ((h 0 144) + 1) ∧ (h 0 172) ≤ 82) := by
  obtain ⟨b, rc, e, t⟩ := q
  have n := rc_num g b.2.1 (by decide) rc
  have pb := pot_bd g ((h 0 150) - 1).toNat
  obtain ⟨⟨q1, q2⟩, ⟨q3, q4⟩, q5, q6, q7⟩ := rc
  have em : ((h 0 150)).toNat = ((h 0 150) - 1).toNat + 1 := by omega
  rw [em] at q2 q5
  subst e
  rcases q2 with ⟨z, -⟩ | ⟨-, -, K, -⟩
  · omega
  obtain ⟨-, -, k3, -⟩ := K
  obtain ⟨k4, k5⟩ := k3 t
  have e2 : fR h (((h 0 150) - 1).toNat + 1) = fR h ((h 0 150) - 1).toNat + (if (h 96) ((h 0 150) - 1).toNat = 3 then 1 else 0) := rfl
  rw [e2, if_neg (by omega)] at q5
  have g1 := gC_frameRow g ((h 0 150) - 1).toNat
  have g2 := gC_frameLevel g ((h 0 150) - 1).toNat
  have r := (q6 ((h 102) ((h 0 150) - 1).toNat).toNat (by omega)).2 ((h 103) ((h 0 150) - 1).toNat).toNat (by omega)
  have ei : 24 * ((h 102) ((h 0 150) - 1).toNat).toNat + ((h 103) ((h 0 150) - 1).toNat).toNat = (24 * (h 102) ((h 0 150) - 1).toNat + (h 103) ((h 0 150) - 1).toNat).toNat := by omega
  rw [ei] at r
  have g3 := gC_heldAdvice g (24 * (h 102) ((h 0 150) - 1).toNat + (h 103) ((h 0 150) - 1).toNat).toNat
  exact ⟨⟨g1.1, by omega⟩, ⟨g2.1, k5⟩, ⟨g3.1, r⟩, by omega⟩
def BO (h u : ja_H) (ht st rg : Nat → Int) : Prop := RB u ht st rg ∧ mo_ag FRO h u ∧ RI u ht st rg ∧ dAg h u ((h 0 150)).toNat ∧ (h 0 150) ≤ (u 0 150)
theorem ba_fail {h u : ja_H} {ht st rg : Nat → Int} {f : Int} (g : mo_G mo_zr h) (q : BA h ht st rg f) (b : RB u ht st rg) (ag : mo_ag (mo_X [186, 187, 188, 189] []) h u) (eu : (u 0 186) = 1) : BO h u ht st rg := by
  have rc' := rc_ext g (ag_sub (X_sub (by decide) (by decide)) ag) q.2.1
  have ef : (u 0 150) = (h 0 150) := ag _ _ rfl
  exact ⟨b, ag_sub (X_sub (by decide) (by decide)) ag, ⟨⟨1, ⟨by decide, fun z => by omega, fun _ => rfl⟩, rc'⟩, fun z => by omega⟩, ⟨funext fun j => ag _ _ rfl, fun j _ => ⟨ag _ _ rfl, ag _ _ rfl, ag _ _ rfl, ag _ _ rfl⟩⟩, by omega⟩
theorem pb_bo {v u : ja_H} {t pc a3 : Int} (p : pbF v u t pc a3) : (u 0 144) = (v 0 144) := by
  obtain ⟨x, ax, eu⟩ := p
  rw [eu]
  exact (ax _ _ rfl).trans (by simp [mo_PB, ja_up])
theorem pb_bd2 {h v w : ja_H} {pc a3 x : Int} (ag : mo_ag (mo_X [135] [87, 88]) h v) (p : pbF v w 2 pc a3) (hx : 0 ≤ x ∧ x ≤ 200) : bdP h (ja_up (ja_up w 0 144 ((w 0 144) + 1)) 107 ((h 0 150)).toNat x) 2 pc := by
  obtain ⟨y, ax, eu⟩ := p
  have agx : ∀ k j, mo_X [165] [110, 111] k j = true → w k j = (mo_PB v 2 pc a3) k j := fun k j e => by
    rw [eu]
    have : (ja_up y 0 165 ((v 0 165) + 10)) k j = y k j := mo_upN (fun y => by rw [y.1, y.2] at e; exact absurd e (by decide))
    rw [this]
    exact ax k j (X_X (by decide) (by decide) k j e)
  have V : ∀ k j, mo_X [135] [87, 88] k j = true → v k j = h k j := ag
  have ef : (v 0 150) = (h 0 150) := V _ _ rfl
  have el : (v 0 165) = (h 0 165) := V _ _ rfl
  have n1 : (v 0 149) = (h 0 149) := V _ _ rfl
  have n2 : (v 0 168) = (h 0 168) := V _ _ rfl
  have n3 : (v 0 144) = (h 0 144) := V _ _ rfl
  have wb : (w 0 144) = (h 0 144) := (agx _ _ rfl).trans ((by simp [mo_PB, ja_up] : _ = (v 0 144)).trans n3)
  refine ⟨?_, fun j hj => ⟨?_, ?_, ?_, ?_, ?_, ?_⟩, ⟨?_, ?_, ?_⟩, ⟨?_, ?_, ?_, ?_, ?_⟩, fun z => ?_⟩
  · refine ag_up rfl (ag_up rfl (ag_trans (h' := v) (ag_sub (X_X (by decide) (by decide)) ag) (ag_trans (h' := mo_PB v 2 pc a3) ?_ (ag_sub (X_X (by decide) (by decide)) agx))))
    unfold mo_PB; repeat (first | exact ag_refl | refine ag_up rfl ?_)
  · exact (agx _ _ rfl).trans ((by simp [mo_PB, ja_up, ef, hj] : _ = (v 96) j).trans (V _ _ rfl))
  · exact (agx _ _ rfl).trans ((by simp [mo_PB, ja_up, ef, hj] : _ = (v 97) j).trans (V _ _ rfl))
  · exact (agx _ _ rfl).trans ((by simp [mo_PB, ja_up, ef, hj] : _ = (v 99) j).trans (V _ _ rfl))
  · exact (agx _ _ rfl).trans ((by simp [mo_PB, ja_up, ef, hj] : _ = (v 100) j).trans (V _ _ rfl))
  · exact (agx _ _ rfl).trans ((by simp [mo_PB, ja_up, ef, hj] : _ = (v 101) j).trans (V _ _ rfl))
  · rw [mo_upJ hj]; exact (agx _ _ rfl).trans ((by simp [mo_PB, ja_up, ef, hj] : _ = (v 107) j).trans (V _ _ rfl))
  · exact (agx _ _ rfl).trans (by simp [mo_PB, ja_up, ef])
  · show (w 0 165) = _; rw [eu, mo_upS, el]
  · show (w 0 144) + 1 = _; rw [wb]
  · exact (agx _ _ rfl).trans (by simp [mo_PB, ja_up, ef])
  · exact (agx _ _ rfl).trans (by simp [mo_PB, ja_up, ef])
  · exact (agx _ _ rfl).trans (by simp [mo_PB, ja_up, ef, n1])
  · exact (agx _ _ rfl).trans (by simp [mo_PB, ja_up, ef, n2])
  · exact (agx _ _ rfl).trans (by simp [mo_PB, ja_up, ef, el])
  · rw [mo_upS]; exact hx
theorem ba_body {h u : ja_H} {ht st rg : Nat → Int} {f pc : Int} (g : mo_G mo_zr h) (q : BA h ht st rg f) (rb : RB u ht st rg) (b : bdP h u 2 pc) (hb : (h 0 144) ≤ 39) (hpc : (0 ≤ pc ∧ pc < (h 0 113)) ∧ ht pc.toNat = 0 ∧ st pc.toNat = 0 ∧ (rg pc.toNat = 2 ∨ rg pc.toNat = 3)) (eu : (u 0 186) = 0) : BO h u ht st rg := by
  have t := q.2.2.2
  have ef := q.2.2.1
  have rc' := rc_pushb g q.2.1 b hb ⟨hpc.1, hpc.2.1, hpc.2.2.1⟩ (Or.inr ⟨rfl, hpc.2.2.2, by rw [← ef]; exact t⟩)
  have e1 : (u 0 150) = (h 0 150) + 1 := b.2.2.1.1
  exact ⟨rb, ag_sub (by unfold FPH; exact X_sub (by decide) (by decide)) b.1, ⟨⟨0, ⟨by decide, fun _ => rfl, fun z => by omega⟩, rc'⟩, fun z => by omega⟩, bd_dAg b, by omega⟩
theorem ba_adv {h : ja_H} {ht st rg : Nat → Int} (c : CI h ht st rg) {a : Int} (h0 : 0 ≤ a) (h1 : a < (h 0 44)) : (0 ≤ (h 32) a.toNat ∧ (h 32) a.toNat < (h 0 113)) ∧ ht ((h 32) a.toNat).toNat = 0 ∧ st ((h 32) a.toNat).toNat = 0 ∧ (rg ((h 32) a.toNat).toNat = 2 ∨ rg ((h 32) a.toNat).toNat = 3) := by
  have := (c.2.2.2.2.1.2.1 a.toNat (by omega)).1
  exact ⟨⟨this.1, this.2.1⟩, this.2.2⟩
/-- a rest: its frame -/
def mo_RS (h : ja_H) : ja_H := ja_up (ja_up (ja_up (ja_up h 0 150 ((h 0 150) + 1)) 96 ((h 0 150)).toNat 4) 102 ((h 0 150)).toNat (h 0 190)) 103 ((h 0 150)).toNat (h 0 191)
def FAK : Nat → Nat → Bool := mo_X [] [108, 109]
def FAL : Nat → Nat → Bool := mo_X [191] [108, 109, 104]
def FRS : Nat → Nat → Bool := mo_X [150, 191] [96, 102, 103, 108, 109, 104]
theorem rs_f {h v : ja_H} {ht st rg : Nat → Int} (g : mo_G mo_zr h) (b : RB h ht st rg) (q : RI h ht st rg) (eu : (h 0 186) = 2) (ne : (h 0 191) ≠ (h 123) ((h 0 190)).toNat) (ag : mo_ag FAL (mo_RS h) v) (lv : ∀ j : Nat, j ≠ ((h 0 150)).toNat → (v 104) j = (h 104) j) : RC v ht st rg 1 ∧ ((v 0 150) = (h 0 150) + 1 ∧ (v 96) ((h 0 150)).toNat = 4 ∧ (v 102) ((h 0 150)).toNat = (h 0 190) ∧ (v 103) ((h 0 150)).toNat = (h 0 191)) ∧ dAg h v ((h 0 150)).toNat ∧ mo_ag FRS h v ∧ ((h 0 190) < (h 0 172) ∧ (h 0 191) < (h 123) ((h 0 190)).toNat) ∧ (1 ≤ (h 0 150) ∧ (h 0 150) ≤ 2132) := by
  obtain ⟨⟨w, t, rc⟩, p⟩ := q
  have ew := t.2.2 (Or.inl eu)
  subst ew
  obtain ⟨⟨p1, p2⟩, p3, p4⟩ := p eu
  have n := rc_num g b.2.1 (by decide) rc
  have pb := pot_bd g ((h 0 150) - 1).toNat
  have hf := rc.1.1
  have hb := rc.2.1.2
  have F : ∀ k j, mo_X [191] [108, 109, 104] k j = true → v k j = (mo_RS h) k j := ag
  have agv : mo_ag FRS h v := by
    refine ag_trans (h' := mo_RS h) ?_ (ag_sub (X_X (by decide) (by decide)) ag)
    unfold mo_RS; repeat (first | exact ag_refl | refine ag_up rfl ?_)
  have v1 : (v 0 150) = (h 0 150) + 1 := (F _ _ rfl).trans (by simp [mo_RS, ja_up])
  have v2 : (v 96) ((h 0 150)).toNat = 4 := (F _ _ rfl).trans (by simp [mo_RS, ja_up])
  have v3 : (v 102) ((h 0 150)).toNat = (h 0 190) := (F _ _ rfl).trans (by simp [mo_RS, ja_up])
  have v4 : (v 103) ((h 0 150)).toNat = (h 0 191) := (F _ _ rfl).trans (by simp [mo_RS, ja_up])
  have N : ∀ j : Nat, j ≠ ((h 0 150)).toNat → (v 96) j = (h 96) j ∧ (v 102) j = (h 102) j ∧ (v 103) j = (h 103) j := fun j hj => ⟨(F _ _ rfl).trans (by simp [mo_RS, ja_up, hj]), (F _ _ rfl).trans (by simp [mo_RS, ja_up, hj]), (F _ _ rfl).trans (by simp [mo_RS, ja_up, hj])⟩
  have hr : ∀ r, rwX v r = rwX h r ∧ rwY v r = rwY h r := fun r => by
    unfold rwX rwY
    rw [(agv _ _ rfl : (v 115) r = (h 115) r), (funext fun j => agv _ _ rfl : (v 52) = (h 52))]; exact ⟨rfl, rfl⟩
  have er : (v 0 172) = (h 0 172) := agv _ _ rfl
  have em : (v 123) = (h 123) := funext fun j => agv _ _ rfl
  have pv : pot v ((h 0 150)).toNat = rwX h ((h 0 190)).toNat - ((h 0 191) + 1) ∧ rpot v ((h 0 150)).toNat = rwY h ((h 0 190)).toNat := by
    unfold pot rpot
    rw [if_neg (by omega), if_neg (by omega), if_pos v2, if_neg (by omega), if_neg (by omega), v3, v4, (hr _).1, (hr _).2]; exact ⟨rfl, rfl⟩
  refine ⟨rc_pushn g rc (ag_sub (X_sub (by decide) (by decide)) agv) v1 (fun j hj => ?_) ⟨funext fun j => agv _ _ rfl, fun r _ => ⟨agv _ _ rfl, agv _ _ rfl⟩⟩ (by omega) (by rw [if_neg (by omega)]; omega) (fun z => by omega) (fun _ => ⟨by omega, by rw [v3, v4, em]; omega⟩) (fun z => by omega) (by omega) (by rw [if_neg (by omega)]; omega)
      (rwI_e rc.2.2.2.1 (by omega) (agv _ _ rfl) (agv _ _ rfl) (funext fun j => agv _ _ rfl) (fun r _ => ⟨agv _ _ rfl, agv _ _ rfl, agv _ _ rfl⟩) (funext fun j => agv _ _ rfl) (caN_e (agv _ _ rfl))), ⟨v1, v2, v3, v4⟩, ⟨funext fun j => agv _ _ rfl, fun j hj => ?_⟩, agv, ⟨p1, by omega⟩, by omega⟩
  · obtain ⟨z1, z2, z3⟩ := N j (by omega)
    exact ⟨z1, agv _ _ rfl, agv _ _ rfl, agv _ _ rfl, agv _ _ rfl, agv _ _ rfl, z2, z3⟩
  · obtain ⟨z1, z2, z3⟩ := N j (by omega)
    exact ⟨z1, agv _ _ rfl, z3, lv j (by omega)⟩
theorem eeL_s {l : Int} (h0 : 0 ≤ l) (h1 : l ≤ 24) : eeL (l + 1) + 10 = eeL l ∧ 190000 < eeL (l + 1) := by
  unfold eeL; omega
theorem fD_4 {h : ja_H} {st rg : Nat → Int} {n : Nat} (t : (h 96) n = 4) : fD h st rg n = eeL ((h 103) n) - (if (h 104) n = 1 then 2 else if (h 104) n = 2 then 3 else if (h 104) n = 3 then 4 else 5) := by
  unfold fD; rw [if_neg (by omega), if_pos t]
theorem pD_e {h : ja_H} (e : (h 0 186) = 2) : pD h = eeL (h 0 191) := by
  unfold pD; rw [if_neg (by omega), if_pos e]
/-- behind: the rest goes on -/
theorem rs_behind {h v : ja_H} {ht st rg : Nat → Int} (g : mo_G mo_zr h) (gv : mo_G mo_zr v) (b : RB h ht st rg) (q : RI h ht st rg) (eu : (h 0 186) = 2) (ne : (h 0 191) ≠ (h 123) ((h 0 190)).toNat) (ag : mo_ag FAL (mo_RS h) v) (lv : ∀ j : Nat, j ≠ ((h 0 150)).toNat → (v 104) j = (h 104) j) (e2 : (v 104) ((h 0 150)).toNat = 2) (er : (v 0 191) = (h 0 191) + 1) (vi : VI v) : RO h v ht st rg := by
  obtain ⟨rc, ⟨v1, v2, v3, v4⟩, d, agv, ⟨r1, r2⟩, n⟩ := rs_f g b q eu ne ag lv
  have ev : (v 0 186) = 2 := (agv _ _ rfl).trans eu
  have gl := gF_restLevel g
  have eN : ((v 0 150) - 1).toNat = ((h 0 150)).toNat := by omega
  have e3 : (v 0 190) = (h 0 190) := agv _ _ rfl
  have e4 : (v 0 172) = (h 0 172) := agv _ _ rfl
  have e5 : (v 123) = (h 123) := funext fun j => agv _ _ rfl
  have rb := rb_ag b vi (ag_sub (X_sub (by decide) (by decide)) agv)
  have ri : RI v ht st rg := ⟨⟨1, ⟨by decide, fun z => by omega, fun _ => rfl⟩, rc⟩, fun _ => pnd_rest (by rw [eN]; exact v2) (by rw [eN, v3, e3]) (by rw [eN, v4, er]) (by omega) (by rw [e3, e5, er]; omega)⟩
  refine ⟨rb, ag_sub (X_sub (by decide) (by decide)) agv, fun _ => ⟨ri, ?_⟩⟩
  refine rV_fall (k := ((h 0 150)).toNat) gv rb.2.1 ri d (by omega) (by omega) (by omega) ?_
  rw [rX_at (h := h) (by omega), rX_in (by omega), fD_4 v2, v4, e2, pD_e eu]
  have := eeL_s (l := (h 0 191)) gl.1 gl.2
  simp only [show ¬ (2 : Int) = 1 by decide, if_false, if_true]
  omega
/-- around, before: its body is begun -/
theorem rs_begun {h v u : ja_H} {ht st rg : Nat → Int} (g : mo_G mo_zr h) (gu : mo_G mo_zr u) (b : RB h ht st rg) (q : RI h ht st rg) (eu : (h 0 186) = 2) (ne : (h 0 191) ≠ (h 123) ((h 0 190)).toNat) (ag : mo_ag FAL (mo_RS h) v) (lv : ∀ j : Nat, j ≠ ((h 0 150)).toNat → (v 104) j = (h 104) j) (bo : BO v u ht st rg) : RO h u ht st rg := by
  obtain ⟨rc, ⟨v1, v2, v3, v4⟩, d, agv, ⟨r1, r2⟩, n⟩ := rs_f g b q eu ne ag lv
  obtain ⟨b1, b2, b3, b4, b5⟩ := bo
  have gl := gF_restLevel g
  refine ⟨b1, ag_trans (ag_sub (X_sub (by decide) (by decide)) agv) b2, fun _ => ⟨b3, ?_⟩⟩
  refine rV_fall (k := ((h 0 150)).toNat) gu b1.2.1 b3 (dAg_tr d b4 (by omega)) (by omega) (by omega) (by omega) ?_
  obtain ⟨x1, x2, x3, x4⟩ := b4.2 ((h 0 150)).toNat (by omega)
  rw [rX_at (h := h) (by omega), rX_in (by omega), fD_4 (x1.trans v2), x3, v4, pD_e eu]
  have := eeL_s (l := (h 0 191)) gl.1 gl.2
  (repeat' split) <;> omega
theorem rs_ba {h v : ja_H} {ht st rg : Nat → Int} (g : mo_G mo_zr h) (b : RB h ht st rg) (q : RI h ht st rg) (eu : (h 0 186) = 2) (ne : (h 0 191) ≠ (h 123) ((h 0 190)).toNat) (ag : mo_ag FAL (mo_RS h) v) (lv : ∀ j : Nat, j ≠ ((h 0 150)).toNat → (v 104) j = (h 104) j) (vi : VI v) : BA v ht st rg (h 0 150) := by
  obtain ⟨rc, ⟨v1, v2, v3, v4⟩, d, agv, ⟨r1, r2⟩, n⟩ := rs_f g b q eu ne ag lv
  exact ⟨rb_ag b vi (ag_sub (X_sub (by decide) (by decide)) agv), rc, by omega, v2⟩
theorem dbeginAdvice_0 : decode cX12_beginAdvice 0 = .ok (.aload_n 0, 1) := by decide +kernel
theorem dbeginAdvice_1 : decode cX12_beginAdvice 1 = .ok (.getfield 990, 3) := by decide +kernel
theorem dbeginAdvice_4 : decode cX12_beginAdvice 4 = .ok (.bipush 40, 2) := by decide +kernel
theorem dbeginAdvice_6 : decode cX12_beginAdvice 6 = .ok (.if_icmp .ne 10, 3) := by decide +kernel
theorem dbeginAdvice_9 : decode cX12_beginAdvice 9 = .ok (.aload_n 0, 1) := by decide +kernel
theorem dbeginAdvice_10 : decode cX12_beginAdvice 10 = .ok (.bipush (-7), 2) := by decide +kernel
theorem dbeginAdvice_12 : decode cX12_beginAdvice 12 = .ok (.invokevirtual 1072, 3) := by decide +kernel
theorem dbeginAdvice_15 : decode cX12_beginAdvice 15 = .ok (.return_, 1) := by decide +kernel
theorem dbeginAdvice_16 : decode cX12_beginAdvice 16 = .ok (.bipush 24, 2) := by decide +kernel
theorem dbeginAdvice_18 : decode cX12_beginAdvice 18 = .ok (.aload_n 0, 1) := by decide +kernel
theorem dbeginAdvice_19 : decode cX12_beginAdvice 19 = .ok (.getfield 315, 3) := by decide +kernel
theorem dbeginAdvice_22 : decode cX12_beginAdvice 22 = .ok (.iload_n 1, 1) := by decide +kernel
theorem dbeginAdvice_23 : decode cX12_beginAdvice 23 = .ok (.iaload, 1) := by decide +kernel
theorem dbeginAdvice_24 : decode cX12_beginAdvice 24 = .ok (.imul, 1) := by decide +kernel
theorem dbeginAdvice_25 : decode cX12_beginAdvice 25 = .ok (.aload_n 0, 1) := by decide +kernel
theorem dbeginAdvice_26 : decode cX12_beginAdvice 26 = .ok (.getfield 318, 3) := by decide +kernel
theorem dbeginAdvice_29 : decode cX12_beginAdvice 29 = .ok (.iload_n 1, 1) := by decide +kernel
theorem dbeginAdvice_30 : decode cX12_beginAdvice 30 = .ok (.iaload, 1) := by decide +kernel
theorem dbeginAdvice_31 : decode cX12_beginAdvice 31 = .ok (.iadd, 1) := by decide +kernel
theorem dbeginAdvice_32 : decode cX12_beginAdvice 32 = .ok (.istore_n 2, 1) := by decide +kernel
theorem dbeginAdvice_33 : decode cX12_beginAdvice 33 = .ok (.aload_n 0, 1) := by decide +kernel
theorem dbeginAdvice_34 : decode cX12_beginAdvice 34 = .ok (.getfield 381, 3) := by decide +kernel
theorem dbeginAdvice_37 : decode cX12_beginAdvice 37 = .ok (.iload_n 2, 1) := by decide +kernel
theorem dbeginAdvice_38 : decode cX12_beginAdvice 38 = .ok (.iaload, 1) := by decide +kernel
theorem dbeginAdvice_39 : decode cX12_beginAdvice 39 = .ok (.istore_n 3, 1) := by decide +kernel
theorem dbeginAdvice_40 : decode cX12_beginAdvice 40 = .ok (.aload_n 0, 1) := by decide +kernel
theorem dbeginAdvice_41 : decode cX12_beginAdvice 41 = .ok (.getfield 984, 3) := by decide +kernel
theorem dbeginAdvice_44 : decode cX12_beginAdvice 44 = .ok (.sipush 300, 3) := by decide +kernel
theorem dbeginAdvice_47 : decode cX12_beginAdvice 47 = .ok (.if_icmp .ge 33, 3) := by decide +kernel
theorem dbeginAdvice_50 : decode cX12_beginAdvice 50 = .ok (.aload_n 0, 1) := by decide +kernel
theorem dbeginAdvice_51 : decode cX12_beginAdvice 51 = .ok (.getfield 270, 3) := by decide +kernel
theorem dbeginAdvice_54 : decode cX12_beginAdvice 54 = .ok (.aload_n 0, 1) := by decide +kernel
theorem dbeginAdvice_55 : decode cX12_beginAdvice 55 = .ok (.getfield 984, 3) := by decide +kernel
theorem dbeginAdvice_58 : decode cX12_beginAdvice 58 = .ok (.iload_n 3, 1) := by decide +kernel
theorem dbeginAdvice_59 : decode cX12_beginAdvice 59 = .ok (.iastore, 1) := by decide +kernel
theorem dbeginAdvice_60 : decode cX12_beginAdvice 60 = .ok (.aload_n 0, 1) := by decide +kernel
theorem dbeginAdvice_61 : decode cX12_beginAdvice 61 = .ok (.getfield 273, 3) := by decide +kernel
theorem dbeginAdvice_64 : decode cX12_beginAdvice 64 = .ok (.aload_n 0, 1) := by decide +kernel
theorem dbeginAdvice_65 : decode cX12_beginAdvice 65 = .ok (.getfield 984, 3) := by decide +kernel
theorem dbeginAdvice_68 : decode cX12_beginAdvice 68 = .ok (.aload_n 0, 1) := by decide +kernel
theorem dbeginAdvice_69 : decode cX12_beginAdvice 69 = .ok (.getfield 354, 3) := by decide +kernel
theorem dbeginAdvice_72 : decode cX12_beginAdvice 72 = .ok (.aload_n 0, 1) := by decide +kernel
theorem dbeginAdvice_73 : decode cX12_beginAdvice 73 = .ok (.getfield 315, 3) := by decide +kernel
theorem dbeginAdvice_76 : decode cX12_beginAdvice 76 = .ok (.iload_n 1, 1) := by decide +kernel
theorem dbeginAdvice_77 : decode cX12_beginAdvice 77 = .ok (.iaload, 1) := by decide +kernel
theorem dbeginAdvice_78 : decode cX12_beginAdvice 78 = .ok (.iaload, 1) := by decide +kernel
theorem dbeginAdvice_79 : decode cX12_beginAdvice 79 = .ok (.iastore, 1) := by decide +kernel
theorem dbeginAdvice_80 : decode cX12_beginAdvice 80 = .ok (.aload_n 0, 1) := by decide +kernel
theorem dbeginAdvice_81 : decode cX12_beginAdvice 81 = .ok (.aload_n 0, 1) := by decide +kernel
theorem dbeginAdvice_82 : decode cX12_beginAdvice 82 = .ok (.getfield 984, 3) := by decide +kernel
theorem dbeginAdvice_85 : decode cX12_beginAdvice 85 = .ok (.ldc_w 1075, 3) := by decide +kernel
theorem dbeginAdvice_88 : decode cX12_beginAdvice 88 = .ok (.if_icmp .ge 12, 3) := by decide +kernel
theorem dbeginAdvice_91 : decode cX12_beginAdvice 91 = .ok (.aload_n 0, 1) := by decide +kernel
theorem dbeginAdvice_92 : decode cX12_beginAdvice 92 = .ok (.getfield 984, 3) := by decide +kernel
theorem dbeginAdvice_95 : decode cX12_beginAdvice 95 = .ok (.iconst 1, 1) := by decide +kernel
theorem dbeginAdvice_96 : decode cX12_beginAdvice 96 = .ok (.iadd, 1) := by decide +kernel
theorem dbeginAdvice_97 : decode cX12_beginAdvice 97 = .ok (.goto 7, 3) := by decide +kernel
theorem dbeginAdvice_100 : decode cX12_beginAdvice 100 = .ok (.aload_n 0, 1) := by decide +kernel
theorem dbeginAdvice_101 : decode cX12_beginAdvice 101 = .ok (.getfield 984, 3) := by decide +kernel
theorem dbeginAdvice_104 : decode cX12_beginAdvice 104 = .ok (.putfield 984, 3) := by decide +kernel
theorem dbeginAdvice_107 : decode cX12_beginAdvice 107 = .ok (.aload_n 0, 1) := by decide +kernel
theorem dbeginAdvice_108 : decode cX12_beginAdvice 108 = .ok (.iconst 2, 1) := by decide +kernel
theorem dbeginAdvice_109 : decode cX12_beginAdvice 109 = .ok (.aload_n 0, 1) := by decide +kernel
theorem dbeginAdvice_110 : decode cX12_beginAdvice 110 = .ok (.getfield 104, 3) := by decide +kernel
theorem dbeginAdvice_113 : decode cX12_beginAdvice 113 = .ok (.iload_n 3, 1) := by decide +kernel
theorem dbeginAdvice_114 : decode cX12_beginAdvice 114 = .ok (.iaload, 1) := by decide +kernel
theorem dbeginAdvice_115 : decode cX12_beginAdvice 115 = .ok (.iconst 0, 1) := by decide +kernel
theorem dbeginAdvice_116 : decode cX12_beginAdvice 116 = .ok (.invokevirtual 1018, 3) := by decide +kernel
theorem dbeginAdvice_119 : decode cX12_beginAdvice 119 = .ok (.istore 4, 2) := by decide +kernel
theorem dbeginAdvice_121 : decode cX12_beginAdvice 121 = .ok (.aload_n 0, 1) := by decide +kernel
theorem dbeginAdvice_122 : decode cX12_beginAdvice 122 = .ok (.dup, 1) := by decide +kernel
theorem dbeginAdvice_123 : decode cX12_beginAdvice 123 = .ok (.getfield 990, 3) := by decide +kernel
theorem dbeginAdvice_126 : decode cX12_beginAdvice 126 = .ok (.iconst 1, 1) := by decide +kernel
theorem dbeginAdvice_127 : decode cX12_beginAdvice 127 = .ok (.iadd, 1) := by decide +kernel
theorem dbeginAdvice_128 : decode cX12_beginAdvice 128 = .ok (.putfield 990, 3) := by decide +kernel
theorem dbeginAdvice_131 : decode cX12_beginAdvice 131 = .ok (.aload_n 0, 1) := by decide +kernel
theorem dbeginAdvice_132 : decode cX12_beginAdvice 132 = .ok (.getfield 330, 3) := by decide +kernel
theorem dbeginAdvice_135 : decode cX12_beginAdvice 135 = .ok (.iload 4, 2) := by decide +kernel
theorem dbeginAdvice_137 : decode cX12_beginAdvice 137 = .ok (.aload_n 0, 1) := by decide +kernel
theorem dbeginAdvice_138 : decode cX12_beginAdvice 138 = .ok (.getfield 384, 3) := by decide +kernel
theorem dbeginAdvice_141 : decode cX12_beginAdvice 141 = .ok (.iload_n 2, 1) := by decide +kernel
theorem dbeginAdvice_142 : decode cX12_beginAdvice 142 = .ok (.iaload, 1) := by decide +kernel
theorem dbeginAdvice_143 : decode cX12_beginAdvice 143 = .ok (.iastore, 1) := by decide +kernel
theorem dbeginAdvice_144 : decode cX12_beginAdvice 144 = .ok (.aload_n 0, 1) := by decide +kernel
theorem dbeginAdvice_145 : decode cX12_beginAdvice 145 = .ok (.getfield 92, 3) := by decide +kernel
theorem dbeginAdvice_148 : decode cX12_beginAdvice 148 = .ok (.iload_n 3, 1) := by decide +kernel
theorem dbeginAdvice_149 : decode cX12_beginAdvice 149 = .ok (.iaload, 1) := by decide +kernel
theorem dbeginAdvice_150 : decode cX12_beginAdvice 150 = .ok (.ifCond .le 14, 3) := by decide +kernel
theorem dbeginAdvice_153 : decode cX12_beginAdvice 153 = .ok (.aload_n 0, 1) := by decide +kernel
theorem dbeginAdvice_154 : decode cX12_beginAdvice 154 = .ok (.getfield 98, 3) := by decide +kernel
theorem dbeginAdvice_157 : decode cX12_beginAdvice 157 = .ok (.iload_n 3, 1) := by decide +kernel
theorem dbeginAdvice_158 : decode cX12_beginAdvice 158 = .ok (.iaload, 1) := by decide +kernel
theorem dbeginAdvice_159 : decode cX12_beginAdvice 159 = .ok (.iconst 1, 1) := by decide +kernel
theorem dbeginAdvice_160 : decode cX12_beginAdvice 160 = .ok (.isub, 1) := by decide +kernel
theorem dbeginAdvice_161 : decode cX12_beginAdvice 161 = .ok (.goto 9, 3) := by decide +kernel
theorem dbeginAdvice_164 : decode cX12_beginAdvice 164 = .ok (.aload_n 0, 1) := by decide +kernel
theorem dbeginAdvice_165 : decode cX12_beginAdvice 165 = .ok (.getfield 98, 3) := by decide +kernel
theorem dbeginAdvice_168 : decode cX12_beginAdvice 168 = .ok (.iload_n 3, 1) := by decide +kernel
theorem dbeginAdvice_169 : decode cX12_beginAdvice 169 = .ok (.iaload, 1) := by decide +kernel
theorem dbeginAdvice_170 : decode cX12_beginAdvice 170 = .ok (.istore 5, 2) := by decide +kernel
theorem dbeginAdvice_172 : decode cX12_beginAdvice 172 = .ok (.iconst 0, 1) := by decide +kernel
theorem dbeginAdvice_173 : decode cX12_beginAdvice 173 = .ok (.istore 6, 2) := by decide +kernel
theorem dbeginAdvice_175 : decode cX12_beginAdvice 175 = .ok (.iload 6, 2) := by decide +kernel
theorem dbeginAdvice_177 : decode cX12_beginAdvice 177 = .ok (.iload 5, 2) := by decide +kernel
theorem dbeginAdvice_179 : decode cX12_beginAdvice 179 = .ok (.if_icmp .ge 63, 3) := by decide +kernel
theorem dbeginAdvice_182 : decode cX12_beginAdvice 182 = .ok (.aload_n 0, 1) := by decide +kernel
theorem dbeginAdvice_183 : decode cX12_beginAdvice 183 = .ok (.getfield 339, 3) := by decide +kernel
theorem dbeginAdvice_186 : decode cX12_beginAdvice 186 = .ok (.aload_n 0, 1) := by decide +kernel
theorem dbeginAdvice_187 : decode cX12_beginAdvice 187 = .ok (.getfield 312, 3) := by decide +kernel
theorem dbeginAdvice_190 : decode cX12_beginAdvice 190 = .ok (.iload 4, 2) := by decide +kernel
theorem dbeginAdvice_192 : decode cX12_beginAdvice 192 = .ok (.iaload, 1) := by decide +kernel
theorem dbeginAdvice_193 : decode cX12_beginAdvice 193 = .ok (.iload 6, 2) := by decide +kernel
theorem dbeginAdvice_195 : decode cX12_beginAdvice 195 = .ok (.iadd, 1) := by decide +kernel
theorem dbeginAdvice_196 : decode cX12_beginAdvice 196 = .ok (.aload_n 0, 1) := by decide +kernel
theorem dbeginAdvice_197 : decode cX12_beginAdvice 197 = .ok (.getfield 387, 3) := by decide +kernel
theorem dbeginAdvice_200 : decode cX12_beginAdvice 200 = .ok (.bipush 7, 2) := by decide +kernel
theorem dbeginAdvice_202 : decode cX12_beginAdvice 202 = .ok (.iload_n 2, 1) := by decide +kernel
theorem dbeginAdvice_203 : decode cX12_beginAdvice 203 = .ok (.imul, 1) := by decide +kernel
theorem dbeginAdvice_204 : decode cX12_beginAdvice 204 = .ok (.iload 6, 2) := by decide +kernel
theorem dbeginAdvice_206 : decode cX12_beginAdvice 206 = .ok (.iadd, 1) := by decide +kernel
theorem dbeginAdvice_207 : decode cX12_beginAdvice 207 = .ok (.iaload, 1) := by decide +kernel
theorem dbeginAdvice_208 : decode cX12_beginAdvice 208 = .ok (.iastore, 1) := by decide +kernel
theorem dbeginAdvice_209 : decode cX12_beginAdvice 209 = .ok (.aload_n 0, 1) := by decide +kernel
theorem dbeginAdvice_210 : decode cX12_beginAdvice 210 = .ok (.getfield 342, 3) := by decide +kernel
theorem dbeginAdvice_213 : decode cX12_beginAdvice 213 = .ok (.aload_n 0, 1) := by decide +kernel
theorem dbeginAdvice_214 : decode cX12_beginAdvice 214 = .ok (.getfield 312, 3) := by decide +kernel
theorem dbeginAdvice_217 : decode cX12_beginAdvice 217 = .ok (.iload 4, 2) := by decide +kernel
theorem dbeginAdvice_219 : decode cX12_beginAdvice 219 = .ok (.iaload, 1) := by decide +kernel
theorem dbeginAdvice_220 : decode cX12_beginAdvice 220 = .ok (.iload 6, 2) := by decide +kernel
theorem dbeginAdvice_222 : decode cX12_beginAdvice 222 = .ok (.iadd, 1) := by decide +kernel
theorem dbeginAdvice_223 : decode cX12_beginAdvice 223 = .ok (.aload_n 0, 1) := by decide +kernel
theorem dbeginAdvice_224 : decode cX12_beginAdvice 224 = .ok (.getfield 390, 3) := by decide +kernel
theorem dbeginAdvice_227 : decode cX12_beginAdvice 227 = .ok (.bipush 7, 2) := by decide +kernel
theorem dbeginAdvice_229 : decode cX12_beginAdvice 229 = .ok (.iload_n 2, 1) := by decide +kernel
theorem dbeginAdvice_230 : decode cX12_beginAdvice 230 = .ok (.imul, 1) := by decide +kernel
theorem dbeginAdvice_231 : decode cX12_beginAdvice 231 = .ok (.iload 6, 2) := by decide +kernel
theorem dbeginAdvice_233 : decode cX12_beginAdvice 233 = .ok (.iadd, 1) := by decide +kernel
theorem dbeginAdvice_234 : decode cX12_beginAdvice 234 = .ok (.iaload, 1) := by decide +kernel
theorem dbeginAdvice_235 : decode cX12_beginAdvice 235 = .ok (.iastore, 1) := by decide +kernel
theorem dbeginAdvice_236 : decode cX12_beginAdvice 236 = .ok (.iinc 6 1, 3) := by decide +kernel
theorem dbeginAdvice_239 : decode cX12_beginAdvice 239 = .ok (.goto (-64), 3) := by decide +kernel
theorem dbeginAdvice_242 : decode cX12_beginAdvice 242 = .ok (.aload_n 0, 1) := by decide +kernel
theorem dbeginAdvice_243 : decode cX12_beginAdvice 243 = .ok (.getfield 92, 3) := by decide +kernel
theorem dbeginAdvice_246 : decode cX12_beginAdvice 246 = .ok (.iload_n 3, 1) := by decide +kernel
theorem dbeginAdvice_247 : decode cX12_beginAdvice 247 = .ok (.iaload, 1) := by decide +kernel
theorem dbeginAdvice_248 : decode cX12_beginAdvice 248 = .ok (.ifCond .le 45, 3) := by decide +kernel
theorem dbeginAdvice_251 : decode cX12_beginAdvice 251 = .ok (.aload_n 0, 1) := by decide +kernel
theorem dbeginAdvice_252 : decode cX12_beginAdvice 252 = .ok (.getfield 339, 3) := by decide +kernel
theorem dbeginAdvice_255 : decode cX12_beginAdvice 255 = .ok (.aload_n 0, 1) := by decide +kernel
theorem dbeginAdvice_256 : decode cX12_beginAdvice 256 = .ok (.getfield 312, 3) := by decide +kernel
theorem dbeginAdvice_259 : decode cX12_beginAdvice 259 = .ok (.iload 4, 2) := by decide +kernel
theorem dbeginAdvice_261 : decode cX12_beginAdvice 261 = .ok (.iaload, 1) := by decide +kernel
theorem dbeginAdvice_262 : decode cX12_beginAdvice 262 = .ok (.iload 5, 2) := by decide +kernel
theorem dbeginAdvice_264 : decode cX12_beginAdvice 264 = .ok (.iadd, 1) := by decide +kernel
theorem dbeginAdvice_265 : decode cX12_beginAdvice 265 = .ok (.aload_n 0, 1) := by decide +kernel
theorem dbeginAdvice_266 : decode cX12_beginAdvice 266 = .ok (.getfield 327, 3) := by decide +kernel
theorem dbeginAdvice_269 : decode cX12_beginAdvice 269 = .ok (.iload_n 1, 1) := by decide +kernel
theorem dbeginAdvice_270 : decode cX12_beginAdvice 270 = .ok (.iaload, 1) := by decide +kernel
theorem dbeginAdvice_271 : decode cX12_beginAdvice 271 = .ok (.iastore, 1) := by decide +kernel
theorem dbeginAdvice_272 : decode cX12_beginAdvice 272 = .ok (.aload_n 0, 1) := by decide +kernel
theorem dbeginAdvice_273 : decode cX12_beginAdvice 273 = .ok (.getfield 342, 3) := by decide +kernel
theorem dbeginAdvice_276 : decode cX12_beginAdvice 276 = .ok (.aload_n 0, 1) := by decide +kernel
theorem dbeginAdvice_277 : decode cX12_beginAdvice 277 = .ok (.getfield 312, 3) := by decide +kernel
theorem dbeginAdvice_280 : decode cX12_beginAdvice 280 = .ok (.iload 4, 2) := by decide +kernel
theorem dbeginAdvice_282 : decode cX12_beginAdvice 282 = .ok (.iaload, 1) := by decide +kernel
theorem dbeginAdvice_283 : decode cX12_beginAdvice 283 = .ok (.iload 5, 2) := by decide +kernel
theorem dbeginAdvice_285 : decode cX12_beginAdvice 285 = .ok (.iadd, 1) := by decide +kernel
theorem dbeginAdvice_286 : decode cX12_beginAdvice 286 = .ok (.aload_n 0, 1) := by decide +kernel
theorem dbeginAdvice_287 : decode cX12_beginAdvice 287 = .ok (.getfield 330, 3) := by decide +kernel
theorem dbeginAdvice_290 : decode cX12_beginAdvice 290 = .ok (.iload_n 1, 1) := by decide +kernel
theorem dbeginAdvice_291 : decode cX12_beginAdvice 291 = .ok (.iaload, 1) := by decide +kernel
theorem dbeginAdvice_292 : decode cX12_beginAdvice 292 = .ok (.iastore, 1) := by decide +kernel
theorem dbeginAdvice_293 : decode cX12_beginAdvice 293 = .ok (.aload_n 0, 1) := by decide +kernel
theorem dbeginAdvice_294 : decode cX12_beginAdvice 294 = .ok (.iconst 0, 1) := by decide +kernel
theorem dbeginAdvice_295 : decode cX12_beginAdvice 295 = .ok (.putfield 1008, 3) := by decide +kernel
theorem dbeginAdvice_298 : decode cX12_beginAdvice 298 = .ok (.return_, 1) := by decide +kernel
section
variable {l : Launch} {D : va_G} {cA : Nat → ClassId} {ad : Nat → Nat}
theorem s_beginAdvice {a1 : Int} {ht st rg : Nat → Int} {h : ja_H} {Q : Option ja_V → ja_H → Prop} (g : mo_G mo_zr h) (r1 : -2147483648 ≤ a1 ∧ a1 ≤ 2147483647) (p1 : BA h ht st rg a1) (k1 : ∀ (h' : ja_H), (BO h h' ht st rg) → mo_G mo_zr h' → Q none h') : mM_beginAdvice l D cA ad a1 h Q := by
  show mJ l D cA ad 3 cX12_beginAdvice 7 none 0 [(0, (2, ((0 : Nat) : Int))), (1, (0, a1))] [] h Q
  have kn_advices := gF_advices g
  have kn_bodies := gF_bodies g
  have kn_frames := gF_frames g
  have kn_localTop := gF_localTop g
  have kn_rows := gF_rows g
  have kn_words := gF_words g
  have hba := ba_f g p1
  have hfa := p1.2.2.1
  obtain ⟨hb1, hb2, hb3, hb4⟩ := hba
  have hst := ba_adv p1.1.2.1 hb3.1 hb3.2
  have hst1 := hst.1
  have qv := p1.1.1
  have ghm := gC_heldMany g (h 102 (a1).toNat).toNat
  have ghf := gC_heldFor g ((24 * (h 102 (a1).toNat)) + (h 103 (a1).toNat)).toNat
  have gap := gC_adviceParams g (h 124 ((24 * (h 102 (a1).toNat)) + (h 103 (a1).toNat)).toNat).toNat
  have CUT : ∀ n : Nat, (∀ (x5 x6 : Int) (u : ja_H), mo_G mo_zr u → (-2147483648 ≤ x5 ∧ x5 ≤ 2147483647) → (-2147483648 ≤ x6 ∧ x6 ≤ 2147483647) → ((-1 ≤ x5 ∧ x5 ≤ 7 ∧ 0 ≤ x6 ∧ (x6 ≤ x5 ∨ x6 = 0) ∧ (h 0 144) ≤ 39) ∧ bdP h u 2 (h 32 (h 124 ((24 * (h 102 (a1).toNat)) + (h 103 (a1).toNat)).toNat).toNat) ∧ VI u) → (((20 : Int) - x6).toNat) = n → mJ l D cA ad 3 cX12_beginAdvice 7 none 175 [(0, (2, ((0 : Nat) : Int))), (1, (0, a1)), (2, (0, ((24 * (h 102 (a1).toNat)) + (h 103 (a1).toNat)))), (3, (0, (h 124 ((24 * (h 102 (a1).toNat)) + (h 103 (a1).toNat)).toNat))), (4, (0, (h 0 150))), (5, (0, x5)), (6, (0, x6))] [] u Q) := by
    intro n
    induction n using Nat.strongRecOn with
    | _ n ih =>
      skip
      · intro x5 x6 u gu qx5 qx6 iv hm
        subst hm
        have ku_advices := gF_advices gu
        have ku_bodies := gF_bodies gu
        have ku_frames := gF_frames gu
        have ku_localTop := gF_localTop gu
        have ku_rows := gF_rows gu
        have ku_words := gF_words gu
        obtain ⟨iv, bd, qv⟩ := iv
        have eLo : (u 101) (h 0 150).toNat = (h 0 165) := bd.2.2.2.1.2.2.2.2
        refine ja_iload dbeginAdvice_175 rfl ?_
        refine ja_iload dbeginAdvice_177 rfl ?_
        refine ja_icmp_ge 242 dbeginAdvice_179 rfl ⟨by omega, by omega⟩ ⟨by omega, by omega⟩ (fun c179 => ?_) (fun c179 => ?_)
        · refine ja_aload_n dbeginAdvice_242 rfl rfl ?_
          refine fa_adviceGive dbeginAdvice_243 ?_
          refine ja_iload_n dbeginAdvice_246 rfl rfl ?_
          refine il_adviceGive (v := u 28 (h 124 ((24 * (h 102 (a1).toNat)) + (h 103 (a1).toNat)).toNat).toNat) rfl ⟨by omega, by omega⟩ dbeginAdvice_247 ?_
          have f1 := gC_adviceGive gu (h 124 ((24 * (h 102 (a1).toNat)) + (h 103 (a1).toNat)).toNat).toNat
          refine ja_if_le 293 dbeginAdvice_248 rfl ⟨by omega, by omega⟩ (fun c248 => ?_) (fun c248 => ?_)
          · refine ja_aload_n dbeginAdvice_293 rfl rfl ?_
            refine ja_iconst dbeginAdvice_294 ?_
            have g2 := gP_under gu (x := 0) ⟨by decide, by decide⟩
            refine fp_under dbeginAdvice_295 ?_
            refine ja_return dbeginAdvice_298 rfl ?_
            exact k1 (ja_up u 0 186 0) ((ba_body g p1 (rb_ag p1.1 (by (repeat (first | exact qv | refine vi_set (by decide) (by decide) (by decide) ?_ (by first | exact (fun z => absurd z (by decide)) | exact vi_aS qv (by decide) _ | exact qv.2 | exact (fun z => ⟨by omega, hca⟩) | exact (fun z => ⟨by omega, hca z⟩) | (intro z; exfalso; omega)) | refine vi_res ?_ (by first | exact (fun z => absurd z (by decide)) | exact vi_aS qv (by decide) _ | exact qv.2 | exact (fun z => ⟨by omega, hca⟩) | exact (fun z => ⟨by omega, hca z⟩) | (intro z; exfalso; omega)) | refine vi_arr (by decide) (by decide) ?_ | refine vi_up (by decide) (by decide) ?_ | refine vi_val (ck := 106) (by decide) (by decide) (by decide) ?_ ⟨by omega, by omega⟩))) (ag_trans (ag_sub (by unfold FPH; exact X_sub (by decide) (by decide)) bd.1) (by (repeat (first | exact ag_refl | refine ag_up rfl ?_))))) (bd_ag bd (by (repeat (first | exact ag_refl | refine ag_up rfl ?_)))) (by omega) hst (by simp [ja_up]))) g2
          · refine ja_aload_n dbeginAdvice_251 rfl rfl ?_
            refine fa_localKind dbeginAdvice_252 ?_
            refine ja_aload_n dbeginAdvice_255 rfl rfl ?_
            refine fa_frameLocals dbeginAdvice_256 ?_
            refine ja_iload dbeginAdvice_259 rfl ?_
            refine il_frameLocals (v := u 101 (h 0 150).toNat) rfl ⟨by omega, by omega⟩ dbeginAdvice_261 ?_
            have f3 := gC_frameLocals gu (h 0 150).toNat
            refine ja_iload dbeginAdvice_262 rfl ?_
            refine ja_iadd dbeginAdvice_264 ?_
            refine ja_aload_n dbeginAdvice_265 rfl rfl ?_
            refine fa_frameKind dbeginAdvice_266 ?_
            refine ja_iload_n dbeginAdvice_269 rfl rfl ?_
            refine il_frameKind (v := u 106 (a1).toNat) rfl ⟨by omega, by omega⟩ dbeginAdvice_270 ?_
            have f4 := gC_frameKind gu (a1).toNat
            have g5 := gW_localKind gu ((u 101 (h 0 150).toNat) + x5).toNat (x := u 106 (a1).toNat) ⟨by omega, by omega⟩
            refine is_localKind ⟨by omega, by omega⟩ dbeginAdvice_271 ?_
            refine ja_aload_n dbeginAdvice_272 rfl rfl ?_
            refine fa_localValue dbeginAdvice_273 ?_
            refine ja_aload_n dbeginAdvice_276 rfl rfl ?_
            refine fa_frameLocals dbeginAdvice_277 ?_
            refine ja_iload dbeginAdvice_280 rfl ?_
            refine il_frameLocals (v := u 101 (h 0 150).toNat) rfl ⟨by omega, by omega⟩ dbeginAdvice_282 ?_
            refine ja_iload dbeginAdvice_283 rfl ?_
            refine ja_iadd dbeginAdvice_285 ?_
            refine ja_aload_n dbeginAdvice_286 rfl rfl ?_
            refine fa_frameValue dbeginAdvice_287 ?_
            refine ja_iload_n dbeginAdvice_290 rfl rfl ?_
            refine il_frameValue (v := u 107 (a1).toNat) rfl ⟨by omega, by omega⟩ dbeginAdvice_291 ?_
            have f6 := gC_frameValue gu (a1).toNat
            have g7 := gW_localValue g5 ((u 101 (h 0 150).toNat) + x5).toNat (x := u 107 (a1).toNat) ⟨by omega, by omega⟩
            refine is_localValue ⟨by omega, by omega⟩ dbeginAdvice_292 ?_
            refine ja_aload_n dbeginAdvice_293 rfl rfl ?_
            refine ja_iconst dbeginAdvice_294 ?_
            have g8 := gP_under g7 (x := 0) ⟨by decide, by decide⟩
            refine fp_under dbeginAdvice_295 ?_
            refine ja_return dbeginAdvice_298 rfl ?_
            exact k1 (ja_up (ja_up (ja_up u 110 (((u 101 (h 0 150).toNat) + x5).toNat) (u 106 (a1).toNat)) 111 (((u 101 (h 0 150).toNat) + x5).toNat) (u 107 (a1).toNat)) 0 186 0) ((ba_body g p1 (rb_ag p1.1 (by (repeat (first | exact qv | refine vi_set (by decide) (by decide) (by decide) ?_ (by first | exact (fun z => absurd z (by decide)) | exact vi_aS qv (by decide) _ | exact qv.2 | exact (fun z => ⟨by omega, hca⟩) | exact (fun z => ⟨by omega, hca z⟩) | (intro z; exfalso; omega)) | refine vi_res ?_ (by first | exact (fun z => absurd z (by decide)) | exact vi_aS qv (by decide) _ | exact qv.2 | exact (fun z => ⟨by omega, hca⟩) | exact (fun z => ⟨by omega, hca z⟩) | (intro z; exfalso; omega)) | refine vi_arr (by decide) (by decide) ?_ | refine vi_up (by decide) (by decide) ?_ | refine vi_val (ck := 106) (by decide) (by decide) (by decide) ?_ ⟨by omega, by omega⟩))) (ag_trans (ag_sub (by unfold FPH; exact X_sub (by decide) (by decide)) bd.1) (by (repeat (first | exact ag_refl | refine ag_up rfl ?_))))) (bd_ag bd (by (repeat (first | exact ag_refl | refine ag_up rfl ?_)))) (by omega) hst (by simp [ja_up]))) g8
        · refine ja_aload_n dbeginAdvice_182 rfl rfl ?_
          refine fa_localKind dbeginAdvice_183 ?_
          refine ja_aload_n dbeginAdvice_186 rfl rfl ?_
          refine fa_frameLocals dbeginAdvice_187 ?_
          refine ja_iload dbeginAdvice_190 rfl ?_
          refine il_frameLocals (v := u 101 (h 0 150).toNat) rfl ⟨by omega, by omega⟩ dbeginAdvice_192 ?_
          have f9 := gC_frameLocals gu (h 0 150).toNat
          refine ja_iload dbeginAdvice_193 rfl ?_
          refine ja_iadd dbeginAdvice_195 ?_
          refine ja_aload_n dbeginAdvice_196 rfl rfl ?_
          refine fa_boundKind dbeginAdvice_197 ?_
          refine ja_bipush 7 dbeginAdvice_200 rfl ?_
          refine ja_iload_n dbeginAdvice_202 rfl rfl ?_
          refine ja_imul dbeginAdvice_203 ?_
          refine ja_iload dbeginAdvice_204 rfl ?_
          refine ja_iadd dbeginAdvice_206 ?_
          refine il_boundKind (v := u 126 ((7 * ((24 * (h 102 (a1).toNat)) + (h 103 (a1).toNat))) + x6).toNat) rfl ⟨by omega, by omega⟩ dbeginAdvice_207 ?_
          have f10 := gC_boundKind gu ((7 * ((24 * (h 102 (a1).toNat)) + (h 103 (a1).toNat))) + x6).toNat
          have g11 := gW_localKind gu ((u 101 (h 0 150).toNat) + x6).toNat (x := u 126 ((7 * ((24 * (h 102 (a1).toNat)) + (h 103 (a1).toNat))) + x6).toNat) ⟨by omega, by omega⟩
          refine is_localKind ⟨by omega, by omega⟩ dbeginAdvice_208 ?_
          refine ja_aload_n dbeginAdvice_209 rfl rfl ?_
          refine fa_localValue dbeginAdvice_210 ?_
          refine ja_aload_n dbeginAdvice_213 rfl rfl ?_
          refine fa_frameLocals dbeginAdvice_214 ?_
          refine ja_iload dbeginAdvice_217 rfl ?_
          refine il_frameLocals (v := u 101 (h 0 150).toNat) rfl ⟨by omega, by omega⟩ dbeginAdvice_219 ?_
          refine ja_iload dbeginAdvice_220 rfl ?_
          refine ja_iadd dbeginAdvice_222 ?_
          refine ja_aload_n dbeginAdvice_223 rfl rfl ?_
          refine fa_boundValue dbeginAdvice_224 ?_
          refine ja_bipush 7 dbeginAdvice_227 rfl ?_
          refine ja_iload_n dbeginAdvice_229 rfl rfl ?_
          refine ja_imul dbeginAdvice_230 ?_
          refine ja_iload dbeginAdvice_231 rfl ?_
          refine ja_iadd dbeginAdvice_233 ?_
          refine il_boundValue (v := u 127 ((7 * ((24 * (h 102 (a1).toNat)) + (h 103 (a1).toNat))) + x6).toNat) rfl ⟨by omega, by omega⟩ dbeginAdvice_234 ?_
          have f12 := gC_boundValue gu ((7 * ((24 * (h 102 (a1).toNat)) + (h 103 (a1).toNat))) + x6).toNat
          have g13 := gW_localValue g11 ((u 101 (h 0 150).toNat) + x6).toNat (x := u 127 ((7 * ((24 * (h 102 (a1).toNat)) + (h 103 (a1).toNat))) + x6).toNat) ⟨by omega, by omega⟩
          refine is_localValue ⟨by omega, by omega⟩ dbeginAdvice_235 ?_
          refine ja_iinc dbeginAdvice_236 rfl (by decide) (L2 := [(6, (0, (x6 + 1))), (0, (2, ((0 : Nat) : Int))), (1, (0, a1)), (2, (0, ((24 * (h 102 (a1).toNat)) + (h 103 (a1).toNat)))), (3, (0, (h 124 ((24 * (h 102 (a1).toNat)) + (h 103 (a1).toNat)).toNat))), (4, (0, (h 0 150))), (5, (0, x5))]) rfl ?_
          refine ja_goto 175 dbeginAdvice_239 rfl ?_
          exact ja_wk (fun q hq => by simp only [List.mem_cons, List.not_mem_nil, or_false] at hq; rcases hq with rfl | rfl | rfl | rfl | rfl | rfl | rfl <;> rfl) ((ih (((20 : Int) - (x6 + 1)).toNat) (by omega)) x5 (x6 + 1) (ja_up (ja_up u 110 (((u 101 (h 0 150).toNat) + x6).toNat) (u 126 ((7 * ((24 * (h 102 (a1).toNat)) + (h 103 (a1).toNat))) + x6).toNat)) 111 (((u 101 (h 0 150).toNat) + x6).toNat) (u 127 ((7 * ((24 * (h 102 (a1).toNat)) + (h 103 (a1).toNat))) + x6).toNat)) g13 ⟨by omega, by omega⟩ ⟨by omega, by omega⟩ (⟨by omega, (bd_ag bd (by (repeat (first | exact ag_refl | refine ag_up rfl ?_)))), (by (repeat (first | exact qv | refine vi_set (by decide) (by decide) (by decide) ?_ (by first | exact (fun z => absurd z (by decide)) | exact vi_aS qv (by decide) _ | exact qv.2 | exact (fun z => ⟨by omega, hca⟩) | exact (fun z => ⟨by omega, hca z⟩) | (intro z; exfalso; omega)) | refine vi_res ?_ (by first | exact (fun z => absurd z (by decide)) | exact vi_aS qv (by decide) _ | exact qv.2 | exact (fun z => ⟨by omega, hca⟩) | exact (fun z => ⟨by omega, hca z⟩) | (intro z; exfalso; omega)) | refine vi_arr (by decide) (by decide) ?_ | refine vi_up (by decide) (by decide) ?_ | refine vi_val (ck := 106) (by decide) (by decide) (by decide) ?_ ⟨by omega, by omega⟩)))⟩) rfl)
  refine ja_aload_n dbeginAdvice_0 rfl rfl ?_
  refine fg_bodies (v := h 0 144) rfl dbeginAdvice_1 ?_
  have f14 := gF_bodies g
  refine ja_bipush 40 dbeginAdvice_4 rfl ?_
  refine ja_icmp_ne 16 dbeginAdvice_6 rfl ⟨by omega, by omega⟩ ⟨by decide, by decide⟩ (fun c6 => ?_) (fun c6 => ?_)
  · refine ja_bipush 24 dbeginAdvice_16 rfl ?_
    refine ja_aload_n dbeginAdvice_18 rfl rfl ?_
    refine fa_frameRow dbeginAdvice_19 ?_
    refine ja_iload_n dbeginAdvice_22 rfl rfl ?_
    refine il_frameRow (v := h 102 (a1).toNat) rfl ⟨by omega, by omega⟩ dbeginAdvice_23 ?_
    have f15 := gC_frameRow g (a1).toNat
    refine ja_imul dbeginAdvice_24 ?_
    refine ja_aload_n dbeginAdvice_25 rfl rfl ?_
    refine fa_frameLevel dbeginAdvice_26 ?_
    refine ja_iload_n dbeginAdvice_29 rfl rfl ?_
    refine il_frameLevel (v := h 103 (a1).toNat) rfl ⟨by omega, by omega⟩ dbeginAdvice_30 ?_
    have f16 := gC_frameLevel g (a1).toNat
    refine ja_iadd dbeginAdvice_31 ?_
    refine ja_istore_n dbeginAdvice_32 rfl (by decide) (L2 := [(2, (0, ((24 * (h 102 (a1).toNat)) + (h 103 (a1).toNat)))), (0, (2, ((0 : Nat) : Int))), (1, (0, a1))]) rfl ?_
    refine ja_aload_n dbeginAdvice_33 rfl rfl ?_
    refine fa_heldAdvice dbeginAdvice_34 ?_
    refine ja_iload_n dbeginAdvice_37 rfl rfl ?_
    refine il_heldAdvice (v := h 124 ((24 * (h 102 (a1).toNat)) + (h 103 (a1).toNat)).toNat) rfl ⟨by omega, by omega⟩ dbeginAdvice_38 ?_
    have f17 := gC_heldAdvice g ((24 * (h 102 (a1).toNat)) + (h 103 (a1).toNat)).toNat
    refine ja_istore_n dbeginAdvice_39 rfl (by decide) (L2 := [(3, (0, (h 124 ((24 * (h 102 (a1).toNat)) + (h 103 (a1).toNat)).toNat))), (2, (0, ((24 * (h 102 (a1).toNat)) + (h 103 (a1).toNat)))), (0, (2, ((0 : Nat) : Int))), (1, (0, a1))]) rfl ?_
    refine ja_aload_n dbeginAdvice_40 rfl rfl ?_
    refine fg_rows (v := h 0 135) rfl dbeginAdvice_41 ?_
    have f18 := gF_rows g
    refine ja_sipush 300 dbeginAdvice_44 rfl ?_
    refine ja_icmp_ge 80 dbeginAdvice_47 rfl ⟨by omega, by omega⟩ ⟨by decide, by decide⟩ (fun c47 => ?_) (fun c47 => ?_)
    · refine ja_aload_n dbeginAdvice_80 rfl rfl ?_
      refine ja_aload_n dbeginAdvice_81 rfl rfl ?_
      refine fg_rows (v := h 0 135) rfl dbeginAdvice_82 ?_
      refine mk_1075w dbeginAdvice_85 ?_
      refine ja_icmp_ge 100 dbeginAdvice_88 rfl ⟨by omega, by omega⟩ ⟨by decide, by decide⟩ (fun c88 => ?_) (fun c88 => ?_)
      · refine ja_aload_n dbeginAdvice_100 rfl rfl ?_
        refine fg_rows (v := h 0 135) rfl dbeginAdvice_101 ?_
        have g19 := gP_rows g (x := h 0 135) ⟨by omega, by omega⟩
        refine fp_rows dbeginAdvice_104 ?_
        refine ja_aload_n dbeginAdvice_107 rfl rfl ?_
        refine ja_iconst dbeginAdvice_108 ?_
        refine ja_aload_n dbeginAdvice_109 rfl rfl ?_
        refine fa_adviceStart dbeginAdvice_110 ?_
        refine ja_iload_n dbeginAdvice_113 rfl rfl ?_
        refine il_adviceStart (v := h 32 (h 124 ((24 * (h 102 (a1).toNat)) + (h 103 (a1).toNat)).toNat).toNat) rfl ⟨by omega, by omega⟩ dbeginAdvice_114 ?_
        have f20 := gC_adviceStart g (h 124 ((24 * (h 102 (a1).toNat)) + (h 103 (a1).toNat)).toNat).toNat
        refine ja_iconst dbeginAdvice_115 ?_
        refine t_pushBody (by decide) (show (0 : Nat) ≤ 8 by decide) dbeginAdvice_116 g19 ⟨by decide, by decide⟩ ⟨by omega, by omega⟩ ⟨by decide, by decide⟩ (show 0 ≤ 2 ∧ 2 ≤ 2 by omega) (show 0 ≤ (h 32 (h 124 ((24 * (h 102 (a1).toNat)) + (h 103 (a1).toNat)).toNat).toNat) ∧ (h 32 (h 124 ((24 * (h 102 (a1).toNat)) + (h 103 (a1).toNat)).toNat).toNat) ≤ 5000 by omega) (show 0 ≤ 0 ∧ 0 ≤ 200 by omega) (show (h 0 150) < 3000 by omega) (show (h 0 165) ≤ 490 by omega) ((by (repeat (first | exact qv | refine vi_set (by decide) (by decide) (by decide) ?_ (by first | exact (fun z => absurd z (by decide)) | exact vi_aS qv (by decide) _ | exact qv.2 | exact (fun z => ⟨by omega, hca⟩) | exact (fun z => ⟨by omega, hca z⟩) | (intro z; exfalso; omega)) | refine vi_res ?_ (by first | exact (fun z => absurd z (by decide)) | exact vi_aS qv (by decide) _ | exact qv.2 | exact (fun z => ⟨by omega, hca⟩) | exact (fun z => ⟨by omega, hca z⟩) | (intro z; exfalso; omega)) | refine vi_arr (by decide) (by decide) ?_ | refine vi_up (by decide) (by decide) ?_ | refine vi_val (ck := 106) (by decide) (by decide) (by decide) ?_ ⟨by omega, by omega⟩)))) ?_
        intro h21 k116_0 g22
        replace k116_0 : pbF (ja_up h 0 135 (h 0 135)) h21 2 (h 32 (h 124 ((24 * (h 102 (a1).toNat)) + (h 103 (a1).toNat)).toNat).toNat) 0 ∧ VI h21 := k116_0
        have ebo : (h21 0 144) = (h 0 144) := (pb_bo k116_0.1).trans rfl
        show mJ l D cA ad 3 cX12_beginAdvice 7 none 119 [(3, (0, (h 124 ((24 * (h 102 (a1).toNat)) + (h 103 (a1).toNat)).toNat))), (2, (0, ((24 * (h 102 (a1).toNat)) + (h 103 (a1).toNat)))), (0, (2, ((0 : Nat) : Int))), (1, (0, a1))] [(0, (h 0 150))] h21 Q
        refine ja_istore dbeginAdvice_119 (by decide) (L2 := [(4, (0, (h 0 150))), (3, (0, (h 124 ((24 * (h 102 (a1).toNat)) + (h 103 (a1).toNat)).toNat))), (2, (0, ((24 * (h 102 (a1).toNat)) + (h 103 (a1).toNat)))), (0, (2, ((0 : Nat) : Int))), (1, (0, a1))]) rfl ?_
        refine ja_aload_n dbeginAdvice_121 rfl rfl ?_
        refine ja_dup dbeginAdvice_122 (by decide) ?_
        refine fg_bodies (v := h21 0 144) rfl dbeginAdvice_123 ?_
        have f23 := gF_bodies g22
        refine ja_iconst dbeginAdvice_126 ?_
        refine ja_iadd dbeginAdvice_127 ?_
        have g24 := gP_bodies g22 (x := (h21 0 144) + 1) ⟨by omega, by omega⟩
        refine fp_bodies dbeginAdvice_128 ?_
        refine ja_aload_n dbeginAdvice_131 rfl rfl ?_
        refine fa_frameValue dbeginAdvice_132 ?_
        refine ja_iload dbeginAdvice_135 rfl ?_
        refine ja_aload_n dbeginAdvice_137 rfl rfl ?_
        refine fa_heldFor dbeginAdvice_138 ?_
        refine ja_iload_n dbeginAdvice_141 rfl rfl ?_
        refine il_heldFor (v := h21 125 ((24 * (h 102 (a1).toNat)) + (h 103 (a1).toNat)).toNat) rfl ⟨by omega, by omega⟩ dbeginAdvice_142 ?_
        have f25 := gC_heldFor g22 ((24 * (h 102 (a1).toNat)) + (h 103 (a1).toNat)).toNat
        have g26 := gW_frameValue g24 (h 0 150).toNat (x := h21 125 ((24 * (h 102 (a1).toNat)) + (h 103 (a1).toNat)).toNat) ⟨by omega, by omega⟩
        refine is_frameValue ⟨by omega, by omega⟩ dbeginAdvice_143 ?_
        refine ja_aload_n dbeginAdvice_144 rfl rfl ?_
        refine fa_adviceGive dbeginAdvice_145 ?_
        refine ja_iload_n dbeginAdvice_148 rfl rfl ?_
        refine il_adviceGive (v := h21 28 (h 124 ((24 * (h 102 (a1).toNat)) + (h 103 (a1).toNat)).toNat).toNat) rfl ⟨by omega, by omega⟩ dbeginAdvice_149 ?_
        have f27 := gC_adviceGive g22 (h 124 ((24 * (h 102 (a1).toNat)) + (h 103 (a1).toNat)).toNat).toNat
        refine ja_if_le 164 dbeginAdvice_150 rfl ⟨by omega, by omega⟩ (fun c150 => ?_) (fun c150 => ?_)
        · refine ja_aload_n dbeginAdvice_164 rfl rfl ?_
          refine fa_adviceParams dbeginAdvice_165 ?_
          refine ja_iload_n dbeginAdvice_168 rfl rfl ?_
          refine il_adviceParams (v := h21 30 (h 124 ((24 * (h 102 (a1).toNat)) + (h 103 (a1).toNat)).toNat).toNat) rfl ⟨by omega, by omega⟩ dbeginAdvice_169 ?_
          have f28 := gC_adviceParams g22 (h 124 ((24 * (h 102 (a1).toNat)) + (h 103 (a1).toNat)).toNat).toNat
          refine ja_istore dbeginAdvice_170 (by decide) (L2 := [(5, (0, (h21 30 (h 124 ((24 * (h 102 (a1).toNat)) + (h 103 (a1).toNat)).toNat).toNat))), (4, (0, (h 0 150))), (3, (0, (h 124 ((24 * (h 102 (a1).toNat)) + (h 103 (a1).toNat)).toNat))), (2, (0, ((24 * (h 102 (a1).toNat)) + (h 103 (a1).toNat)))), (0, (2, ((0 : Nat) : Int))), (1, (0, a1))]) rfl ?_
          refine ja_iconst dbeginAdvice_172 ?_
          refine ja_istore dbeginAdvice_173 (by decide) (L2 := [(6, (0, 0)), (5, (0, (h21 30 (h 124 ((24 * (h 102 (a1).toNat)) + (h 103 (a1).toNat)).toNat).toNat))), (4, (0, (h 0 150))), (3, (0, (h 124 ((24 * (h 102 (a1).toNat)) + (h 103 (a1).toNat)).toNat))), (2, (0, ((24 * (h 102 (a1).toNat)) + (h 103 (a1).toNat)))), (0, (2, ((0 : Nat) : Int))), (1, (0, a1))]) rfl ?_
          exact ja_wk (fun q hq => by simp only [List.mem_cons, List.not_mem_nil, or_false] at hq; rcases hq with rfl | rfl | rfl | rfl | rfl | rfl | rfl <;> rfl) ((CUT _) (h21 30 (h 124 ((24 * (h 102 (a1).toNat)) + (h 103 (a1).toNat)).toNat).toNat) 0 (ja_up (ja_up h21 0 144 ((h21 0 144) + 1)) 107 ((h 0 150).toNat) (h21 125 ((24 * (h 102 (a1).toNat)) + (h 103 (a1).toNat)).toNat)) g26 ⟨by omega, by omega⟩ ⟨by decide, by decide⟩ (⟨by omega, (pb_bd2 (by (repeat (first | exact ag_refl | refine ag_up rfl ?_))) k116_0.1 (by omega)), (by have qv := k116_0.2; exact (by (repeat (first | exact qv | refine vi_set (by decide) (by decide) (by decide) ?_ (by first | exact (fun z => absurd z (by decide)) | exact vi_aS qv (by decide) _ | exact qv.2 | exact (fun z => ⟨by omega, hca⟩) | exact (fun z => ⟨by omega, hca z⟩) | (intro z; exfalso; omega)) | refine vi_res ?_ (by first | exact (fun z => absurd z (by decide)) | exact vi_aS qv (by decide) _ | exact qv.2 | exact (fun z => ⟨by omega, hca⟩) | exact (fun z => ⟨by omega, hca z⟩) | (intro z; exfalso; omega)) | refine vi_arr (by decide) (by decide) ?_ | refine vi_up (by decide) (by decide) ?_ | refine vi_val (ck := 106) (by decide) (by decide) (by decide) ?_ ⟨by omega, by omega⟩))))⟩) rfl)
        · refine ja_aload_n dbeginAdvice_153 rfl rfl ?_
          refine fa_adviceParams dbeginAdvice_154 ?_
          refine ja_iload_n dbeginAdvice_157 rfl rfl ?_
          refine il_adviceParams (v := h21 30 (h 124 ((24 * (h 102 (a1).toNat)) + (h 103 (a1).toNat)).toNat).toNat) rfl ⟨by omega, by omega⟩ dbeginAdvice_158 ?_
          have f29 := gC_adviceParams g22 (h 124 ((24 * (h 102 (a1).toNat)) + (h 103 (a1).toNat)).toNat).toNat
          refine ja_iconst dbeginAdvice_159 ?_
          refine ja_isub dbeginAdvice_160 ?_
          refine ja_goto 170 dbeginAdvice_161 rfl ?_
          refine ja_istore dbeginAdvice_170 (by decide) (L2 := [(5, (0, ((h21 30 (h 124 ((24 * (h 102 (a1).toNat)) + (h 103 (a1).toNat)).toNat).toNat) - 1))), (4, (0, (h 0 150))), (3, (0, (h 124 ((24 * (h 102 (a1).toNat)) + (h 103 (a1).toNat)).toNat))), (2, (0, ((24 * (h 102 (a1).toNat)) + (h 103 (a1).toNat)))), (0, (2, ((0 : Nat) : Int))), (1, (0, a1))]) rfl ?_
          refine ja_iconst dbeginAdvice_172 ?_
          refine ja_istore dbeginAdvice_173 (by decide) (L2 := [(6, (0, 0)), (5, (0, ((h21 30 (h 124 ((24 * (h 102 (a1).toNat)) + (h 103 (a1).toNat)).toNat).toNat) - 1))), (4, (0, (h 0 150))), (3, (0, (h 124 ((24 * (h 102 (a1).toNat)) + (h 103 (a1).toNat)).toNat))), (2, (0, ((24 * (h 102 (a1).toNat)) + (h 103 (a1).toNat)))), (0, (2, ((0 : Nat) : Int))), (1, (0, a1))]) rfl ?_
          exact ja_wk (fun q hq => by simp only [List.mem_cons, List.not_mem_nil, or_false] at hq; rcases hq with rfl | rfl | rfl | rfl | rfl | rfl | rfl <;> rfl) ((CUT _) ((h21 30 (h 124 ((24 * (h 102 (a1).toNat)) + (h 103 (a1).toNat)).toNat).toNat) - 1) 0 (ja_up (ja_up h21 0 144 ((h21 0 144) + 1)) 107 ((h 0 150).toNat) (h21 125 ((24 * (h 102 (a1).toNat)) + (h 103 (a1).toNat)).toNat)) g26 ⟨by omega, by omega⟩ ⟨by decide, by decide⟩ (⟨by omega, (pb_bd2 (by (repeat (first | exact ag_refl | refine ag_up rfl ?_))) k116_0.1 (by omega)), (by have qv := k116_0.2; exact (by (repeat (first | exact qv | refine vi_set (by decide) (by decide) (by decide) ?_ (by first | exact (fun z => absurd z (by decide)) | exact vi_aS qv (by decide) _ | exact qv.2 | exact (fun z => ⟨by omega, hca⟩) | exact (fun z => ⟨by omega, hca z⟩) | (intro z; exfalso; omega)) | refine vi_res ?_ (by first | exact (fun z => absurd z (by decide)) | exact vi_aS qv (by decide) _ | exact qv.2 | exact (fun z => ⟨by omega, hca⟩) | exact (fun z => ⟨by omega, hca z⟩) | (intro z; exfalso; omega)) | refine vi_arr (by decide) (by decide) ?_ | refine vi_up (by decide) (by decide) ?_ | refine vi_val (ck := 106) (by decide) (by decide) (by decide) ?_ ⟨by omega, by omega⟩))))⟩) rfl)
      · refine ja_aload_n dbeginAdvice_91 rfl rfl ?_
        refine fg_rows (v := h 0 135) rfl dbeginAdvice_92 ?_
        refine ja_iconst dbeginAdvice_95 ?_
        refine ja_iadd dbeginAdvice_96 ?_
        refine ja_goto 104 dbeginAdvice_97 rfl ?_
        have g30 := gP_rows g (x := (h 0 135) + 1) ⟨by omega, by omega⟩
        refine fp_rows dbeginAdvice_104 ?_
        refine ja_aload_n dbeginAdvice_107 rfl rfl ?_
        refine ja_iconst dbeginAdvice_108 ?_
        refine ja_aload_n dbeginAdvice_109 rfl rfl ?_
        refine fa_adviceStart dbeginAdvice_110 ?_
        refine ja_iload_n dbeginAdvice_113 rfl rfl ?_
        refine il_adviceStart (v := h 32 (h 124 ((24 * (h 102 (a1).toNat)) + (h 103 (a1).toNat)).toNat).toNat) rfl ⟨by omega, by omega⟩ dbeginAdvice_114 ?_
        have f31 := gC_adviceStart g (h 124 ((24 * (h 102 (a1).toNat)) + (h 103 (a1).toNat)).toNat).toNat
        refine ja_iconst dbeginAdvice_115 ?_
        refine t_pushBody (by decide) (show (0 : Nat) ≤ 8 by decide) dbeginAdvice_116 g30 ⟨by decide, by decide⟩ ⟨by omega, by omega⟩ ⟨by decide, by decide⟩ (show 0 ≤ 2 ∧ 2 ≤ 2 by omega) (show 0 ≤ (h 32 (h 124 ((24 * (h 102 (a1).toNat)) + (h 103 (a1).toNat)).toNat).toNat) ∧ (h 32 (h 124 ((24 * (h 102 (a1).toNat)) + (h 103 (a1).toNat)).toNat).toNat) ≤ 5000 by omega) (show 0 ≤ 0 ∧ 0 ≤ 200 by omega) (show (h 0 150) < 3000 by omega) (show (h 0 165) ≤ 490 by omega) ((by (repeat (first | exact qv | refine vi_set (by decide) (by decide) (by decide) ?_ (by first | exact (fun z => absurd z (by decide)) | exact vi_aS qv (by decide) _ | exact qv.2 | exact (fun z => ⟨by omega, hca⟩) | exact (fun z => ⟨by omega, hca z⟩) | (intro z; exfalso; omega)) | refine vi_res ?_ (by first | exact (fun z => absurd z (by decide)) | exact vi_aS qv (by decide) _ | exact qv.2 | exact (fun z => ⟨by omega, hca⟩) | exact (fun z => ⟨by omega, hca z⟩) | (intro z; exfalso; omega)) | refine vi_arr (by decide) (by decide) ?_ | refine vi_up (by decide) (by decide) ?_ | refine vi_val (ck := 106) (by decide) (by decide) (by decide) ?_ ⟨by omega, by omega⟩)))) ?_
        intro h32 k116_0 g33
        replace k116_0 : pbF (ja_up h 0 135 ((h 0 135) + 1)) h32 2 (h 32 (h 124 ((24 * (h 102 (a1).toNat)) + (h 103 (a1).toNat)).toNat).toNat) 0 ∧ VI h32 := k116_0
        have ebo : (h32 0 144) = (h 0 144) := (pb_bo k116_0.1).trans rfl
        show mJ l D cA ad 3 cX12_beginAdvice 7 none 119 [(3, (0, (h 124 ((24 * (h 102 (a1).toNat)) + (h 103 (a1).toNat)).toNat))), (2, (0, ((24 * (h 102 (a1).toNat)) + (h 103 (a1).toNat)))), (0, (2, ((0 : Nat) : Int))), (1, (0, a1))] [(0, (h 0 150))] h32 Q
        refine ja_istore dbeginAdvice_119 (by decide) (L2 := [(4, (0, (h 0 150))), (3, (0, (h 124 ((24 * (h 102 (a1).toNat)) + (h 103 (a1).toNat)).toNat))), (2, (0, ((24 * (h 102 (a1).toNat)) + (h 103 (a1).toNat)))), (0, (2, ((0 : Nat) : Int))), (1, (0, a1))]) rfl ?_
        refine ja_aload_n dbeginAdvice_121 rfl rfl ?_
        refine ja_dup dbeginAdvice_122 (by decide) ?_
        refine fg_bodies (v := h32 0 144) rfl dbeginAdvice_123 ?_
        have f34 := gF_bodies g33
        refine ja_iconst dbeginAdvice_126 ?_
        refine ja_iadd dbeginAdvice_127 ?_
        have g35 := gP_bodies g33 (x := (h32 0 144) + 1) ⟨by omega, by omega⟩
        refine fp_bodies dbeginAdvice_128 ?_
        refine ja_aload_n dbeginAdvice_131 rfl rfl ?_
        refine fa_frameValue dbeginAdvice_132 ?_
        refine ja_iload dbeginAdvice_135 rfl ?_
        refine ja_aload_n dbeginAdvice_137 rfl rfl ?_
        refine fa_heldFor dbeginAdvice_138 ?_
        refine ja_iload_n dbeginAdvice_141 rfl rfl ?_
        refine il_heldFor (v := h32 125 ((24 * (h 102 (a1).toNat)) + (h 103 (a1).toNat)).toNat) rfl ⟨by omega, by omega⟩ dbeginAdvice_142 ?_
        have f36 := gC_heldFor g33 ((24 * (h 102 (a1).toNat)) + (h 103 (a1).toNat)).toNat
        have g37 := gW_frameValue g35 (h 0 150).toNat (x := h32 125 ((24 * (h 102 (a1).toNat)) + (h 103 (a1).toNat)).toNat) ⟨by omega, by omega⟩
        refine is_frameValue ⟨by omega, by omega⟩ dbeginAdvice_143 ?_
        refine ja_aload_n dbeginAdvice_144 rfl rfl ?_
        refine fa_adviceGive dbeginAdvice_145 ?_
        refine ja_iload_n dbeginAdvice_148 rfl rfl ?_
        refine il_adviceGive (v := h32 28 (h 124 ((24 * (h 102 (a1).toNat)) + (h 103 (a1).toNat)).toNat).toNat) rfl ⟨by omega, by omega⟩ dbeginAdvice_149 ?_
        have f38 := gC_adviceGive g33 (h 124 ((24 * (h 102 (a1).toNat)) + (h 103 (a1).toNat)).toNat).toNat
        refine ja_if_le 164 dbeginAdvice_150 rfl ⟨by omega, by omega⟩ (fun c150 => ?_) (fun c150 => ?_)
        · refine ja_aload_n dbeginAdvice_164 rfl rfl ?_
          refine fa_adviceParams dbeginAdvice_165 ?_
          refine ja_iload_n dbeginAdvice_168 rfl rfl ?_
          refine il_adviceParams (v := h32 30 (h 124 ((24 * (h 102 (a1).toNat)) + (h 103 (a1).toNat)).toNat).toNat) rfl ⟨by omega, by omega⟩ dbeginAdvice_169 ?_
          have f39 := gC_adviceParams g33 (h 124 ((24 * (h 102 (a1).toNat)) + (h 103 (a1).toNat)).toNat).toNat
          refine ja_istore dbeginAdvice_170 (by decide) (L2 := [(5, (0, (h32 30 (h 124 ((24 * (h 102 (a1).toNat)) + (h 103 (a1).toNat)).toNat).toNat))), (4, (0, (h 0 150))), (3, (0, (h 124 ((24 * (h 102 (a1).toNat)) + (h 103 (a1).toNat)).toNat))), (2, (0, ((24 * (h 102 (a1).toNat)) + (h 103 (a1).toNat)))), (0, (2, ((0 : Nat) : Int))), (1, (0, a1))]) rfl ?_
          refine ja_iconst dbeginAdvice_172 ?_
          refine ja_istore dbeginAdvice_173 (by decide) (L2 := [(6, (0, 0)), (5, (0, (h32 30 (h 124 ((24 * (h 102 (a1).toNat)) + (h 103 (a1).toNat)).toNat).toNat))), (4, (0, (h 0 150))), (3, (0, (h 124 ((24 * (h 102 (a1).toNat)) + (h 103 (a1).toNat)).toNat))), (2, (0, ((24 * (h 102 (a1).toNat)) + (h 103 (a1).toNat)))), (0, (2, ((0 : Nat) : Int))), (1, (0, a1))]) rfl ?_
          exact ja_wk (fun q hq => by simp only [List.mem_cons, List.not_mem_nil, or_false] at hq; rcases hq with rfl | rfl | rfl | rfl | rfl | rfl | rfl <;> rfl) ((CUT _) (h32 30 (h 124 ((24 * (h 102 (a1).toNat)) + (h 103 (a1).toNat)).toNat).toNat) 0 (ja_up (ja_up h32 0 144 ((h32 0 144) + 1)) 107 ((h 0 150).toNat) (h32 125 ((24 * (h 102 (a1).toNat)) + (h 103 (a1).toNat)).toNat)) g37 ⟨by omega, by omega⟩ ⟨by decide, by decide⟩ (⟨by omega, (pb_bd2 (by (repeat (first | exact ag_refl | refine ag_up rfl ?_))) k116_0.1 (by omega)), (by have qv := k116_0.2; exact (by (repeat (first | exact qv | refine vi_set (by decide) (by decide) (by decide) ?_ (by first | exact (fun z => absurd z (by decide)) | exact vi_aS qv (by decide) _ | exact qv.2 | exact (fun z => ⟨by omega, hca⟩) | exact (fun z => ⟨by omega, hca z⟩) | (intro z; exfalso; omega)) | refine vi_res ?_ (by first | exact (fun z => absurd z (by decide)) | exact vi_aS qv (by decide) _ | exact qv.2 | exact (fun z => ⟨by omega, hca⟩) | exact (fun z => ⟨by omega, hca z⟩) | (intro z; exfalso; omega)) | refine vi_arr (by decide) (by decide) ?_ | refine vi_up (by decide) (by decide) ?_ | refine vi_val (ck := 106) (by decide) (by decide) (by decide) ?_ ⟨by omega, by omega⟩))))⟩) rfl)
        · refine ja_aload_n dbeginAdvice_153 rfl rfl ?_
          refine fa_adviceParams dbeginAdvice_154 ?_
          refine ja_iload_n dbeginAdvice_157 rfl rfl ?_
          refine il_adviceParams (v := h32 30 (h 124 ((24 * (h 102 (a1).toNat)) + (h 103 (a1).toNat)).toNat).toNat) rfl ⟨by omega, by omega⟩ dbeginAdvice_158 ?_
          have f40 := gC_adviceParams g33 (h 124 ((24 * (h 102 (a1).toNat)) + (h 103 (a1).toNat)).toNat).toNat
          refine ja_iconst dbeginAdvice_159 ?_
          refine ja_isub dbeginAdvice_160 ?_
          refine ja_goto 170 dbeginAdvice_161 rfl ?_
          refine ja_istore dbeginAdvice_170 (by decide) (L2 := [(5, (0, ((h32 30 (h 124 ((24 * (h 102 (a1).toNat)) + (h 103 (a1).toNat)).toNat).toNat) - 1))), (4, (0, (h 0 150))), (3, (0, (h 124 ((24 * (h 102 (a1).toNat)) + (h 103 (a1).toNat)).toNat))), (2, (0, ((24 * (h 102 (a1).toNat)) + (h 103 (a1).toNat)))), (0, (2, ((0 : Nat) : Int))), (1, (0, a1))]) rfl ?_
          refine ja_iconst dbeginAdvice_172 ?_
          refine ja_istore dbeginAdvice_173 (by decide) (L2 := [(6, (0, 0)), (5, (0, ((h32 30 (h 124 ((24 * (h 102 (a1).toNat)) + (h 103 (a1).toNat)).toNat).toNat) - 1))), (4, (0, (h 0 150))), (3, (0, (h 124 ((24 * (h 102 (a1).toNat)) + (h 103 (a1).toNat)).toNat))), (2, (0, ((24 * (h 102 (a1).toNat)) + (h 103 (a1).toNat)))), (0, (2, ((0 : Nat) : Int))), (1, (0, a1))]) rfl ?_
          exact ja_wk (fun q hq => by simp only [List.mem_cons, List.not_mem_nil, or_false] at hq; rcases hq with rfl | rfl | rfl | rfl | rfl | rfl | rfl <;> rfl) ((CUT _) ((h32 30 (h 124 ((24 * (h 102 (a1).toNat)) + (h 103 (a1).toNat)).toNat).toNat) - 1) 0 (ja_up (ja_up h32 0 144 ((h32 0 144) + 1)) 107 ((h 0 150).toNat) (h32 125 ((24 * (h 102 (a1).toNat)) + (h 103 (a1).toNat)).toNat)) g37 ⟨by omega, by omega⟩ ⟨by decide, by decide⟩ (⟨by omega, (pb_bd2 (by (repeat (first | exact ag_refl | refine ag_up rfl ?_))) k116_0.1 (by omega)), (by have qv := k116_0.2; exact (by (repeat (first | exact qv | refine vi_set (by decide) (by decide) (by decide) ?_ (by first | exact (fun z => absurd z (by decide)) | exact vi_aS qv (by decide) _ | exact qv.2 | exact (fun z => ⟨by omega, hca⟩) | exact (fun z => ⟨by omega, hca z⟩) | (intro z; exfalso; omega)) | refine vi_res ?_ (by first | exact (fun z => absurd z (by decide)) | exact vi_aS qv (by decide) _ | exact qv.2 | exact (fun z => ⟨by omega, hca⟩) | exact (fun z => ⟨by omega, hca z⟩) | (intro z; exfalso; omega)) | refine vi_arr (by decide) (by decide) ?_ | refine vi_up (by decide) (by decide) ?_ | refine vi_val (ck := 106) (by decide) (by decide) (by decide) ?_ ⟨by omega, by omega⟩))))⟩) rfl)
    · refine ja_aload_n dbeginAdvice_50 rfl rfl ?_
      refine fa_rowAdvice dbeginAdvice_51 ?_
      refine ja_aload_n dbeginAdvice_54 rfl rfl ?_
      refine fg_rows (v := h 0 135) rfl dbeginAdvice_55 ?_
      refine ja_iload_n dbeginAdvice_58 rfl rfl ?_
      have g41 := gW_rowAdvice g (h 0 135).toNat (x := h 124 ((24 * (h 102 (a1).toNat)) + (h 103 (a1).toNat)).toNat) ⟨by omega, by omega⟩
      refine is_rowAdvice ⟨by omega, by omega⟩ dbeginAdvice_59 ?_
      refine ja_aload_n dbeginAdvice_60 rfl rfl ?_
      refine fa_rowPoint dbeginAdvice_61 ?_
      refine ja_aload_n dbeginAdvice_64 rfl rfl ?_
      refine fg_rows (v := h 0 135) rfl dbeginAdvice_65 ?_
      refine ja_aload_n dbeginAdvice_68 rfl rfl ?_
      refine fa_reachPoint dbeginAdvice_69 ?_
      refine ja_aload_n dbeginAdvice_72 rfl rfl ?_
      refine fa_frameRow dbeginAdvice_73 ?_
      refine ja_iload_n dbeginAdvice_76 rfl rfl ?_
      refine il_frameRow (v := h 102 (a1).toNat) rfl ⟨by omega, by omega⟩ dbeginAdvice_77 ?_
      refine il_reachPoint (v := h 115 (h 102 (a1).toNat).toNat) rfl ⟨by omega, by omega⟩ dbeginAdvice_78 ?_
      have f42 := gC_reachPoint g (h 102 (a1).toNat).toNat
      have g43 := gW_rowPoint g41 (h 0 135).toNat (x := h 115 (h 102 (a1).toNat).toNat) ⟨by omega, by omega⟩
      refine is_rowPoint ⟨by omega, by omega⟩ dbeginAdvice_79 ?_
      refine ja_aload_n dbeginAdvice_80 rfl rfl ?_
      refine ja_aload_n dbeginAdvice_81 rfl rfl ?_
      refine fg_rows (v := h 0 135) rfl dbeginAdvice_82 ?_
      refine mk_1075w dbeginAdvice_85 ?_
      refine ja_icmp_ge 100 dbeginAdvice_88 rfl ⟨by omega, by omega⟩ ⟨by decide, by decide⟩ (fun c88 => ?_) (fun c88 => ?_)
      · refine ja_aload_n dbeginAdvice_100 rfl rfl ?_
        refine fg_rows (v := h 0 135) rfl dbeginAdvice_101 ?_
        have g44 := gP_rows g43 (x := h 0 135) ⟨by omega, by omega⟩
        refine fp_rows dbeginAdvice_104 ?_
        refine ja_aload_n dbeginAdvice_107 rfl rfl ?_
        refine ja_iconst dbeginAdvice_108 ?_
        refine ja_aload_n dbeginAdvice_109 rfl rfl ?_
        refine fa_adviceStart dbeginAdvice_110 ?_
        refine ja_iload_n dbeginAdvice_113 rfl rfl ?_
        refine il_adviceStart (v := h 32 (h 124 ((24 * (h 102 (a1).toNat)) + (h 103 (a1).toNat)).toNat).toNat) rfl ⟨by omega, by omega⟩ dbeginAdvice_114 ?_
        have f45 := gC_adviceStart g (h 124 ((24 * (h 102 (a1).toNat)) + (h 103 (a1).toNat)).toNat).toNat
        refine ja_iconst dbeginAdvice_115 ?_
        refine t_pushBody (by decide) (show (0 : Nat) ≤ 8 by decide) dbeginAdvice_116 g44 ⟨by decide, by decide⟩ ⟨by omega, by omega⟩ ⟨by decide, by decide⟩ (show 0 ≤ 2 ∧ 2 ≤ 2 by omega) (show 0 ≤ (h 32 (h 124 ((24 * (h 102 (a1).toNat)) + (h 103 (a1).toNat)).toNat).toNat) ∧ (h 32 (h 124 ((24 * (h 102 (a1).toNat)) + (h 103 (a1).toNat)).toNat).toNat) ≤ 5000 by omega) (show 0 ≤ 0 ∧ 0 ≤ 200 by omega) (show (h 0 150) < 3000 by omega) (show (h 0 165) ≤ 490 by omega) ((by (repeat (first | exact qv | refine vi_set (by decide) (by decide) (by decide) ?_ (by first | exact (fun z => absurd z (by decide)) | exact vi_aS qv (by decide) _ | exact qv.2 | exact (fun z => ⟨by omega, hca⟩) | exact (fun z => ⟨by omega, hca z⟩) | (intro z; exfalso; omega)) | refine vi_res ?_ (by first | exact (fun z => absurd z (by decide)) | exact vi_aS qv (by decide) _ | exact qv.2 | exact (fun z => ⟨by omega, hca⟩) | exact (fun z => ⟨by omega, hca z⟩) | (intro z; exfalso; omega)) | refine vi_arr (by decide) (by decide) ?_ | refine vi_up (by decide) (by decide) ?_ | refine vi_val (ck := 106) (by decide) (by decide) (by decide) ?_ ⟨by omega, by omega⟩)))) ?_
        intro h46 k116_0 g47
        replace k116_0 : pbF (ja_up (ja_up (ja_up h 87 ((h 0 135).toNat) (h 124 ((24 * (h 102 (a1).toNat)) + (h 103 (a1).toNat)).toNat)) 88 ((h 0 135).toNat) (h 115 (h 102 (a1).toNat).toNat)) 0 135 (h 0 135)) h46 2 (h 32 (h 124 ((24 * (h 102 (a1).toNat)) + (h 103 (a1).toNat)).toNat).toNat) 0 ∧ VI h46 := k116_0
        have ebo : (h46 0 144) = (h 0 144) := (pb_bo k116_0.1).trans rfl
        show mJ l D cA ad 3 cX12_beginAdvice 7 none 119 [(3, (0, (h 124 ((24 * (h 102 (a1).toNat)) + (h 103 (a1).toNat)).toNat))), (2, (0, ((24 * (h 102 (a1).toNat)) + (h 103 (a1).toNat)))), (0, (2, ((0 : Nat) : Int))), (1, (0, a1))] [(0, (h 0 150))] h46 Q
        refine ja_istore dbeginAdvice_119 (by decide) (L2 := [(4, (0, (h 0 150))), (3, (0, (h 124 ((24 * (h 102 (a1).toNat)) + (h 103 (a1).toNat)).toNat))), (2, (0, ((24 * (h 102 (a1).toNat)) + (h 103 (a1).toNat)))), (0, (2, ((0 : Nat) : Int))), (1, (0, a1))]) rfl ?_
        refine ja_aload_n dbeginAdvice_121 rfl rfl ?_
        refine ja_dup dbeginAdvice_122 (by decide) ?_
        refine fg_bodies (v := h46 0 144) rfl dbeginAdvice_123 ?_
        have f48 := gF_bodies g47
        refine ja_iconst dbeginAdvice_126 ?_
        refine ja_iadd dbeginAdvice_127 ?_
        have g49 := gP_bodies g47 (x := (h46 0 144) + 1) ⟨by omega, by omega⟩
        refine fp_bodies dbeginAdvice_128 ?_
        refine ja_aload_n dbeginAdvice_131 rfl rfl ?_
        refine fa_frameValue dbeginAdvice_132 ?_
        refine ja_iload dbeginAdvice_135 rfl ?_
        refine ja_aload_n dbeginAdvice_137 rfl rfl ?_
        refine fa_heldFor dbeginAdvice_138 ?_
        refine ja_iload_n dbeginAdvice_141 rfl rfl ?_
        refine il_heldFor (v := h46 125 ((24 * (h 102 (a1).toNat)) + (h 103 (a1).toNat)).toNat) rfl ⟨by omega, by omega⟩ dbeginAdvice_142 ?_
        have f50 := gC_heldFor g47 ((24 * (h 102 (a1).toNat)) + (h 103 (a1).toNat)).toNat
        have g51 := gW_frameValue g49 (h 0 150).toNat (x := h46 125 ((24 * (h 102 (a1).toNat)) + (h 103 (a1).toNat)).toNat) ⟨by omega, by omega⟩
        refine is_frameValue ⟨by omega, by omega⟩ dbeginAdvice_143 ?_
        refine ja_aload_n dbeginAdvice_144 rfl rfl ?_
        refine fa_adviceGive dbeginAdvice_145 ?_
        refine ja_iload_n dbeginAdvice_148 rfl rfl ?_
        refine il_adviceGive (v := h46 28 (h 124 ((24 * (h 102 (a1).toNat)) + (h 103 (a1).toNat)).toNat).toNat) rfl ⟨by omega, by omega⟩ dbeginAdvice_149 ?_
        have f52 := gC_adviceGive g47 (h 124 ((24 * (h 102 (a1).toNat)) + (h 103 (a1).toNat)).toNat).toNat
        refine ja_if_le 164 dbeginAdvice_150 rfl ⟨by omega, by omega⟩ (fun c150 => ?_) (fun c150 => ?_)
        · refine ja_aload_n dbeginAdvice_164 rfl rfl ?_
          refine fa_adviceParams dbeginAdvice_165 ?_
          refine ja_iload_n dbeginAdvice_168 rfl rfl ?_
          refine il_adviceParams (v := h46 30 (h 124 ((24 * (h 102 (a1).toNat)) + (h 103 (a1).toNat)).toNat).toNat) rfl ⟨by omega, by omega⟩ dbeginAdvice_169 ?_
          have f53 := gC_adviceParams g47 (h 124 ((24 * (h 102 (a1).toNat)) + (h 103 (a1).toNat)).toNat).toNat
          refine ja_istore dbeginAdvice_170 (by decide) (L2 := [(5, (0, (h46 30 (h 124 ((24 * (h 102 (a1).toNat)) + (h 103 (a1).toNat)).toNat).toNat))), (4, (0, (h 0 150))), (3, (0, (h 124 ((24 * (h 102 (a1).toNat)) + (h 103 (a1).toNat)).toNat))), (2, (0, ((24 * (h 102 (a1).toNat)) + (h 103 (a1).toNat)))), (0, (2, ((0 : Nat) : Int))), (1, (0, a1))]) rfl ?_
          refine ja_iconst dbeginAdvice_172 ?_
          refine ja_istore dbeginAdvice_173 (by decide) (L2 := [(6, (0, 0)), (5, (0, (h46 30 (h 124 ((24 * (h 102 (a1).toNat)) + (h 103 (a1).toNat)).toNat).toNat))), (4, (0, (h 0 150))), (3, (0, (h 124 ((24 * (h 102 (a1).toNat)) + (h 103 (a1).toNat)).toNat))), (2, (0, ((24 * (h 102 (a1).toNat)) + (h 103 (a1).toNat)))), (0, (2, ((0 : Nat) : Int))), (1, (0, a1))]) rfl ?_
          exact ja_wk (fun q hq => by simp only [List.mem_cons, List.not_mem_nil, or_false] at hq; rcases hq with rfl | rfl | rfl | rfl | rfl | rfl | rfl <;> rfl) ((CUT _) (h46 30 (h 124 ((24 * (h 102 (a1).toNat)) + (h 103 (a1).toNat)).toNat).toNat) 0 (ja_up (ja_up h46 0 144 ((h46 0 144) + 1)) 107 ((h 0 150).toNat) (h46 125 ((24 * (h 102 (a1).toNat)) + (h 103 (a1).toNat)).toNat)) g51 ⟨by omega, by omega⟩ ⟨by decide, by decide⟩ (⟨by omega, (pb_bd2 (by (repeat (first | exact ag_refl | refine ag_up rfl ?_))) k116_0.1 (by omega)), (by have qv := k116_0.2; exact (by (repeat (first | exact qv | refine vi_set (by decide) (by decide) (by decide) ?_ (by first | exact (fun z => absurd z (by decide)) | exact vi_aS qv (by decide) _ | exact qv.2 | exact (fun z => ⟨by omega, hca⟩) | exact (fun z => ⟨by omega, hca z⟩) | (intro z; exfalso; omega)) | refine vi_res ?_ (by first | exact (fun z => absurd z (by decide)) | exact vi_aS qv (by decide) _ | exact qv.2 | exact (fun z => ⟨by omega, hca⟩) | exact (fun z => ⟨by omega, hca z⟩) | (intro z; exfalso; omega)) | refine vi_arr (by decide) (by decide) ?_ | refine vi_up (by decide) (by decide) ?_ | refine vi_val (ck := 106) (by decide) (by decide) (by decide) ?_ ⟨by omega, by omega⟩))))⟩) rfl)
        · refine ja_aload_n dbeginAdvice_153 rfl rfl ?_
          refine fa_adviceParams dbeginAdvice_154 ?_
          refine ja_iload_n dbeginAdvice_157 rfl rfl ?_
          refine il_adviceParams (v := h46 30 (h 124 ((24 * (h 102 (a1).toNat)) + (h 103 (a1).toNat)).toNat).toNat) rfl ⟨by omega, by omega⟩ dbeginAdvice_158 ?_
          have f54 := gC_adviceParams g47 (h 124 ((24 * (h 102 (a1).toNat)) + (h 103 (a1).toNat)).toNat).toNat
          refine ja_iconst dbeginAdvice_159 ?_
          refine ja_isub dbeginAdvice_160 ?_
          refine ja_goto 170 dbeginAdvice_161 rfl ?_
          refine ja_istore dbeginAdvice_170 (by decide) (L2 := [(5, (0, ((h46 30 (h 124 ((24 * (h 102 (a1).toNat)) + (h 103 (a1).toNat)).toNat).toNat) - 1))), (4, (0, (h 0 150))), (3, (0, (h 124 ((24 * (h 102 (a1).toNat)) + (h 103 (a1).toNat)).toNat))), (2, (0, ((24 * (h 102 (a1).toNat)) + (h 103 (a1).toNat)))), (0, (2, ((0 : Nat) : Int))), (1, (0, a1))]) rfl ?_
          refine ja_iconst dbeginAdvice_172 ?_
          refine ja_istore dbeginAdvice_173 (by decide) (L2 := [(6, (0, 0)), (5, (0, ((h46 30 (h 124 ((24 * (h 102 (a1).toNat)) + (h 103 (a1).toNat)).toNat).toNat) - 1))), (4, (0, (h 0 150))), (3, (0, (h 124 ((24 * (h 102 (a1).toNat)) + (h 103 (a1).toNat)).toNat))), (2, (0, ((24 * (h 102 (a1).toNat)) + (h 103 (a1).toNat)))), (0, (2, ((0 : Nat) : Int))), (1, (0, a1))]) rfl ?_
          exact ja_wk (fun q hq => by simp only [List.mem_cons, List.not_mem_nil, or_false] at hq; rcases hq with rfl | rfl | rfl | rfl | rfl | rfl | rfl <;> rfl) ((CUT _) ((h46 30 (h 124 ((24 * (h 102 (a1).toNat)) + (h 103 (a1).toNat)).toNat).toNat) - 1) 0 (ja_up (ja_up h46 0 144 ((h46 0 144) + 1)) 107 ((h 0 150).toNat) (h46 125 ((24 * (h 102 (a1).toNat)) + (h 103 (a1).toNat)).toNat)) g51 ⟨by omega, by omega⟩ ⟨by decide, by decide⟩ (⟨by omega, (pb_bd2 (by (repeat (first | exact ag_refl | refine ag_up rfl ?_))) k116_0.1 (by omega)), (by have qv := k116_0.2; exact (by (repeat (first | exact qv | refine vi_set (by decide) (by decide) (by decide) ?_ (by first | exact (fun z => absurd z (by decide)) | exact vi_aS qv (by decide) _ | exact qv.2 | exact (fun z => ⟨by omega, hca⟩) | exact (fun z => ⟨by omega, hca z⟩) | (intro z; exfalso; omega)) | refine vi_res ?_ (by first | exact (fun z => absurd z (by decide)) | exact vi_aS qv (by decide) _ | exact qv.2 | exact (fun z => ⟨by omega, hca⟩) | exact (fun z => ⟨by omega, hca z⟩) | (intro z; exfalso; omega)) | refine vi_arr (by decide) (by decide) ?_ | refine vi_up (by decide) (by decide) ?_ | refine vi_val (ck := 106) (by decide) (by decide) (by decide) ?_ ⟨by omega, by omega⟩))))⟩) rfl)
      · refine ja_aload_n dbeginAdvice_91 rfl rfl ?_
        refine fg_rows (v := h 0 135) rfl dbeginAdvice_92 ?_
        refine ja_iconst dbeginAdvice_95 ?_
        refine ja_iadd dbeginAdvice_96 ?_
        refine ja_goto 104 dbeginAdvice_97 rfl ?_
        have g55 := gP_rows g43 (x := (h 0 135) + 1) ⟨by omega, by omega⟩
        refine fp_rows dbeginAdvice_104 ?_
        refine ja_aload_n dbeginAdvice_107 rfl rfl ?_
        refine ja_iconst dbeginAdvice_108 ?_
        refine ja_aload_n dbeginAdvice_109 rfl rfl ?_
        refine fa_adviceStart dbeginAdvice_110 ?_
        refine ja_iload_n dbeginAdvice_113 rfl rfl ?_
        refine il_adviceStart (v := h 32 (h 124 ((24 * (h 102 (a1).toNat)) + (h 103 (a1).toNat)).toNat).toNat) rfl ⟨by omega, by omega⟩ dbeginAdvice_114 ?_
        have f56 := gC_adviceStart g (h 124 ((24 * (h 102 (a1).toNat)) + (h 103 (a1).toNat)).toNat).toNat
        refine ja_iconst dbeginAdvice_115 ?_
        refine t_pushBody (by decide) (show (0 : Nat) ≤ 8 by decide) dbeginAdvice_116 g55 ⟨by decide, by decide⟩ ⟨by omega, by omega⟩ ⟨by decide, by decide⟩ (show 0 ≤ 2 ∧ 2 ≤ 2 by omega) (show 0 ≤ (h 32 (h 124 ((24 * (h 102 (a1).toNat)) + (h 103 (a1).toNat)).toNat).toNat) ∧ (h 32 (h 124 ((24 * (h 102 (a1).toNat)) + (h 103 (a1).toNat)).toNat).toNat) ≤ 5000 by omega) (show 0 ≤ 0 ∧ 0 ≤ 200 by omega) (show (h 0 150) < 3000 by omega) (show (h 0 165) ≤ 490 by omega) ((by (repeat (first | exact qv | refine vi_set (by decide) (by decide) (by decide) ?_ (by first | exact (fun z => absurd z (by decide)) | exact vi_aS qv (by decide) _ | exact qv.2 | exact (fun z => ⟨by omega, hca⟩) | exact (fun z => ⟨by omega, hca z⟩) | (intro z; exfalso; omega)) | refine vi_res ?_ (by first | exact (fun z => absurd z (by decide)) | exact vi_aS qv (by decide) _ | exact qv.2 | exact (fun z => ⟨by omega, hca⟩) | exact (fun z => ⟨by omega, hca z⟩) | (intro z; exfalso; omega)) | refine vi_arr (by decide) (by decide) ?_ | refine vi_up (by decide) (by decide) ?_ | refine vi_val (ck := 106) (by decide) (by decide) (by decide) ?_ ⟨by omega, by omega⟩)))) ?_
        intro h57 k116_0 g58
        replace k116_0 : pbF (ja_up (ja_up (ja_up h 87 ((h 0 135).toNat) (h 124 ((24 * (h 102 (a1).toNat)) + (h 103 (a1).toNat)).toNat)) 88 ((h 0 135).toNat) (h 115 (h 102 (a1).toNat).toNat)) 0 135 ((h 0 135) + 1)) h57 2 (h 32 (h 124 ((24 * (h 102 (a1).toNat)) + (h 103 (a1).toNat)).toNat).toNat) 0 ∧ VI h57 := k116_0
        have ebo : (h57 0 144) = (h 0 144) := (pb_bo k116_0.1).trans rfl
        show mJ l D cA ad 3 cX12_beginAdvice 7 none 119 [(3, (0, (h 124 ((24 * (h 102 (a1).toNat)) + (h 103 (a1).toNat)).toNat))), (2, (0, ((24 * (h 102 (a1).toNat)) + (h 103 (a1).toNat)))), (0, (2, ((0 : Nat) : Int))), (1, (0, a1))] [(0, (h 0 150))] h57 Q
        refine ja_istore dbeginAdvice_119 (by decide) (L2 := [(4, (0, (h 0 150))), (3, (0, (h 124 ((24 * (h 102 (a1).toNat)) + (h 103 (a1).toNat)).toNat))), (2, (0, ((24 * (h 102 (a1).toNat)) + (h 103 (a1).toNat)))), (0, (2, ((0 : Nat) : Int))), (1, (0, a1))]) rfl ?_
        refine ja_aload_n dbeginAdvice_121 rfl rfl ?_
        refine ja_dup dbeginAdvice_122 (by decide) ?_
        refine fg_bodies (v := h57 0 144) rfl dbeginAdvice_123 ?_
        have f59 := gF_bodies g58
        refine ja_iconst dbeginAdvice_126 ?_
        refine ja_iadd dbeginAdvice_127 ?_
        have g60 := gP_bodies g58 (x := (h57 0 144) + 1) ⟨by omega, by omega⟩
        refine fp_bodies dbeginAdvice_128 ?_
        refine ja_aload_n dbeginAdvice_131 rfl rfl ?_
        refine fa_frameValue dbeginAdvice_132 ?_
        refine ja_iload dbeginAdvice_135 rfl ?_
        refine ja_aload_n dbeginAdvice_137 rfl rfl ?_
        refine fa_heldFor dbeginAdvice_138 ?_
        refine ja_iload_n dbeginAdvice_141 rfl rfl ?_
        refine il_heldFor (v := h57 125 ((24 * (h 102 (a1).toNat)) + (h 103 (a1).toNat)).toNat) rfl ⟨by omega, by omega⟩ dbeginAdvice_142 ?_
        have f61 := gC_heldFor g58 ((24 * (h 102 (a1).toNat)) + (h 103 (a1).toNat)).toNat
        have g62 := gW_frameValue g60 (h 0 150).toNat (x := h57 125 ((24 * (h 102 (a1).toNat)) + (h 103 (a1).toNat)).toNat) ⟨by omega, by omega⟩
        refine is_frameValue ⟨by omega, by omega⟩ dbeginAdvice_143 ?_
        refine ja_aload_n dbeginAdvice_144 rfl rfl ?_
        refine fa_adviceGive dbeginAdvice_145 ?_
        refine ja_iload_n dbeginAdvice_148 rfl rfl ?_
        refine il_adviceGive (v := h57 28 (h 124 ((24 * (h 102 (a1).toNat)) + (h 103 (a1).toNat)).toNat).toNat) rfl ⟨by omega, by omega⟩ dbeginAdvice_149 ?_
        have f63 := gC_adviceGive g58 (h 124 ((24 * (h 102 (a1).toNat)) + (h 103 (a1).toNat)).toNat).toNat
        refine ja_if_le 164 dbeginAdvice_150 rfl ⟨by omega, by omega⟩ (fun c150 => ?_) (fun c150 => ?_)
        · refine ja_aload_n dbeginAdvice_164 rfl rfl ?_
          refine fa_adviceParams dbeginAdvice_165 ?_
          refine ja_iload_n dbeginAdvice_168 rfl rfl ?_
          refine il_adviceParams (v := h57 30 (h 124 ((24 * (h 102 (a1).toNat)) + (h 103 (a1).toNat)).toNat).toNat) rfl ⟨by omega, by omega⟩ dbeginAdvice_169 ?_
          have f64 := gC_adviceParams g58 (h 124 ((24 * (h 102 (a1).toNat)) + (h 103 (a1).toNat)).toNat).toNat
          refine ja_istore dbeginAdvice_170 (by decide) (L2 := [(5, (0, (h57 30 (h 124 ((24 * (h 102 (a1).toNat)) + (h 103 (a1).toNat)).toNat).toNat))), (4, (0, (h 0 150))), (3, (0, (h 124 ((24 * (h 102 (a1).toNat)) + (h 103 (a1).toNat)).toNat))), (2, (0, ((24 * (h 102 (a1).toNat)) + (h 103 (a1).toNat)))), (0, (2, ((0 : Nat) : Int))), (1, (0, a1))]) rfl ?_
          refine ja_iconst dbeginAdvice_172 ?_
          refine ja_istore dbeginAdvice_173 (by decide) (L2 := [(6, (0, 0)), (5, (0, (h57 30 (h 124 ((24 * (h 102 (a1).toNat)) + (h 103 (a1).toNat)).toNat).toNat))), (4, (0, (h 0 150))), (3, (0, (h 124 ((24 * (h 102 (a1).toNat)) + (h 103 (a1).toNat)).toNat))), (2, (0, ((24 * (h 102 (a1).toNat)) + (h 103 (a1).toNat)))), (0, (2, ((0 : Nat) : Int))), (1, (0, a1))]) rfl ?_
          exact ja_wk (fun q hq => by simp only [List.mem_cons, List.not_mem_nil, or_false] at hq; rcases hq with rfl | rfl | rfl | rfl | rfl | rfl | rfl <;> rfl) ((CUT _) (h57 30 (h 124 ((24 * (h 102 (a1).toNat)) + (h 103 (a1).toNat)).toNat).toNat) 0 (ja_up (ja_up h57 0 144 ((h57 0 144) + 1)) 107 ((h 0 150).toNat) (h57 125 ((24 * (h 102 (a1).toNat)) + (h 103 (a1).toNat)).toNat)) g62 ⟨by omega, by omega⟩ ⟨by decide, by decide⟩ (⟨by omega, (pb_bd2 (by (repeat (first | exact ag_refl | refine ag_up rfl ?_))) k116_0.1 (by omega)), (by have qv := k116_0.2; exact (by (repeat (first | exact qv | refine vi_set (by decide) (by decide) (by decide) ?_ (by first | exact (fun z => absurd z (by decide)) | exact vi_aS qv (by decide) _ | exact qv.2 | exact (fun z => ⟨by omega, hca⟩) | exact (fun z => ⟨by omega, hca z⟩) | (intro z; exfalso; omega)) | refine vi_res ?_ (by first | exact (fun z => absurd z (by decide)) | exact vi_aS qv (by decide) _ | exact qv.2 | exact (fun z => ⟨by omega, hca⟩) | exact (fun z => ⟨by omega, hca z⟩) | (intro z; exfalso; omega)) | refine vi_arr (by decide) (by decide) ?_ | refine vi_up (by decide) (by decide) ?_ | refine vi_val (ck := 106) (by decide) (by decide) (by decide) ?_ ⟨by omega, by omega⟩))))⟩) rfl)
        · refine ja_aload_n dbeginAdvice_153 rfl rfl ?_
          refine fa_adviceParams dbeginAdvice_154 ?_
          refine ja_iload_n dbeginAdvice_157 rfl rfl ?_
          refine il_adviceParams (v := h57 30 (h 124 ((24 * (h 102 (a1).toNat)) + (h 103 (a1).toNat)).toNat).toNat) rfl ⟨by omega, by omega⟩ dbeginAdvice_158 ?_
          have f65 := gC_adviceParams g58 (h 124 ((24 * (h 102 (a1).toNat)) + (h 103 (a1).toNat)).toNat).toNat
          refine ja_iconst dbeginAdvice_159 ?_
          refine ja_isub dbeginAdvice_160 ?_
          refine ja_goto 170 dbeginAdvice_161 rfl ?_
          refine ja_istore dbeginAdvice_170 (by decide) (L2 := [(5, (0, ((h57 30 (h 124 ((24 * (h 102 (a1).toNat)) + (h 103 (a1).toNat)).toNat).toNat) - 1))), (4, (0, (h 0 150))), (3, (0, (h 124 ((24 * (h 102 (a1).toNat)) + (h 103 (a1).toNat)).toNat))), (2, (0, ((24 * (h 102 (a1).toNat)) + (h 103 (a1).toNat)))), (0, (2, ((0 : Nat) : Int))), (1, (0, a1))]) rfl ?_
          refine ja_iconst dbeginAdvice_172 ?_
          refine ja_istore dbeginAdvice_173 (by decide) (L2 := [(6, (0, 0)), (5, (0, ((h57 30 (h 124 ((24 * (h 102 (a1).toNat)) + (h 103 (a1).toNat)).toNat).toNat) - 1))), (4, (0, (h 0 150))), (3, (0, (h 124 ((24 * (h 102 (a1).toNat)) + (h 103 (a1).toNat)).toNat))), (2, (0, ((24 * (h 102 (a1).toNat)) + (h 103 (a1).toNat)))), (0, (2, ((0 : Nat) : Int))), (1, (0, a1))]) rfl ?_
          exact ja_wk (fun q hq => by simp only [List.mem_cons, List.not_mem_nil, or_false] at hq; rcases hq with rfl | rfl | rfl | rfl | rfl | rfl | rfl <;> rfl) ((CUT _) ((h57 30 (h 124 ((24 * (h 102 (a1).toNat)) + (h 103 (a1).toNat)).toNat).toNat) - 1) 0 (ja_up (ja_up h57 0 144 ((h57 0 144) + 1)) 107 ((h 0 150).toNat) (h57 125 ((24 * (h 102 (a1).toNat)) + (h 103 (a1).toNat)).toNat)) g62 ⟨by omega, by omega⟩ ⟨by decide, by decide⟩ (⟨by omega, (pb_bd2 (by (repeat (first | exact ag_refl | refine ag_up rfl ?_))) k116_0.1 (by omega)), (by have qv := k116_0.2; exact (by (repeat (first | exact qv | refine vi_set (by decide) (by decide) (by decide) ?_ (by first | exact (fun z => absurd z (by decide)) | exact vi_aS qv (by decide) _ | exact qv.2 | exact (fun z => ⟨by omega, hca⟩) | exact (fun z => ⟨by omega, hca z⟩) | (intro z; exfalso; omega)) | refine vi_res ?_ (by first | exact (fun z => absurd z (by decide)) | exact vi_aS qv (by decide) _ | exact qv.2 | exact (fun z => ⟨by omega, hca⟩) | exact (fun z => ⟨by omega, hca z⟩) | (intro z; exfalso; omega)) | refine vi_arr (by decide) (by decide) ?_ | refine vi_up (by decide) (by decide) ?_ | refine vi_val (ck := 106) (by decide) (by decide) (by decide) ?_ ⟨by omega, by omega⟩))))⟩) rfl)
  · refine ja_aload_n dbeginAdvice_9 rfl rfl ?_
    refine ja_bipush (-7) dbeginAdvice_10 rfl ?_
    refine t_fails (by decide) (show (0 : Nat) ≤ 8 by decide) dbeginAdvice_12 g ⟨by decide, by decide⟩ ?_
    intro g66
    replace g66 : mo_G mo_zr (ja_up (ja_up (ja_up (ja_up h 0 186 1) 0 187 1) 0 188 1) 0 189 (-7)) := g66
    show mJ l D cA ad 3 cX12_beginAdvice 7 none 15 [(0, (2, ((0 : Nat) : Int))), (1, (0, a1))] [] (ja_up (ja_up (ja_up (ja_up h 0 186 1) 0 187 1) 0 188 1) 0 189 (-7)) Q
    refine ja_return dbeginAdvice_15 rfl ?_
    exact k1 (ja_up (ja_up (ja_up (ja_up h 0 186 1) 0 187 1) 0 188 1) 0 189 (-7)) ((ba_fail g p1 (rb_ag p1.1 (by (repeat (first | exact qv | refine vi_set (by decide) (by decide) (by decide) ?_ (by first | exact (fun z => absurd z (by decide)) | exact vi_aS qv (by decide) _ | exact qv.2 | exact (fun z => ⟨by omega, hca⟩) | exact (fun z => ⟨by omega, hca z⟩) | (intro z; exfalso; omega)) | refine vi_res ?_ (by first | exact (fun z => absurd z (by decide)) | exact vi_aS qv (by decide) _ | exact qv.2 | exact (fun z => ⟨by omega, hca⟩) | exact (fun z => ⟨by omega, hca z⟩) | (intro z; exfalso; omega)) | refine vi_arr (by decide) (by decide) ?_ | refine vi_up (by decide) (by decide) ?_ | refine vi_val (ck := 106) (by decide) (by decide) (by decide) ?_ ⟨by omega, by omega⟩))) (by (repeat (first | exact ag_refl | refine ag_up rfl ?_)))) (by (repeat (first | exact ag_refl | refine ag_up rfl ?_))) (by simp [ja_up]))) g66
theorem t_beginAdvice {a1 : Int} {ht st rg : Nat → Int} {d nL pc : Nat} {cc : ByteArray} {rt : Option FieldType} {L : List (Nat × ja_V)} {S : List ja_V} {h : ja_H} {Q : Option ja_V → ja_H → Prop} (hdd : 3 < d) (hwd : ja_wd S ≤ 8) (hd : decode cc pc = .ok (.invokevirtual 1066, 3)) (g : mo_G mo_zr h) (r1 : -2147483648 ≤ a1 ∧ a1 ≤ 2147483647) (p1 : BA h ht st rg a1) (k1 : ∀ (h' : ja_H), (BO h h' ht st rg) → mo_G mo_zr h' → mJ l D cA ad d cc nL rt (pc + 3) L S h' Q) : mJ l D cA ad d cc nL rt pc L ((0, a1) :: (2, ((0 : Nat) : Int)) :: S) h Q :=
  mc_beginAdvice hdd hwd hd (s_beginAdvice g r1 p1 k1)
end
theorem drest_0 : decode cX12_rest 0 = .ok (.aload_n 0, 1) := by decide +kernel
theorem drest_1 : decode cX12_rest 1 = .ok (.getfield 1060, 3) := by decide +kernel
theorem drest_4 : decode cX12_rest 4 = .ok (.aload_n 0, 1) := by decide +kernel
theorem drest_5 : decode cX12_rest 5 = .ok (.getfield 378, 3) := by decide +kernel
theorem drest_8 : decode cX12_rest 8 = .ok (.aload_n 0, 1) := by decide +kernel
theorem drest_9 : decode cX12_rest 9 = .ok (.getfield 1057, 3) := by decide +kernel
theorem drest_12 : decode cX12_rest 12 = .ok (.iaload, 1) := by decide +kernel
theorem drest_13 : decode cX12_rest 13 = .ok (.if_icmp .ne 12, 3) := by decide +kernel
theorem drest_16 : decode cX12_rest 16 = .ok (.aload_n 0, 1) := by decide +kernel
theorem drest_17 : decode cX12_rest 17 = .ok (.aload_n 0, 1) := by decide +kernel
theorem drest_18 : decode cX12_rest 18 = .ok (.getfield 1057, 3) := by decide +kernel
theorem drest_21 : decode cX12_rest 21 = .ok (.invokevirtual 1069, 3) := by decide +kernel
theorem drest_24 : decode cX12_rest 24 = .ok (.return_, 1) := by decide +kernel
theorem drest_25 : decode cX12_rest 25 = .ok (.aload_n 0, 1) := by decide +kernel
theorem drest_26 : decode cX12_rest 26 = .ok (.iconst 4, 1) := by decide +kernel
theorem drest_27 : decode cX12_rest 27 = .ok (.invokevirtual 1021, 3) := by decide +kernel
theorem drest_30 : decode cX12_rest 30 = .ok (.istore_n 1, 1) := by decide +kernel
theorem drest_31 : decode cX12_rest 31 = .ok (.aload_n 0, 1) := by decide +kernel
theorem drest_32 : decode cX12_rest 32 = .ok (.getfield 315, 3) := by decide +kernel
theorem drest_35 : decode cX12_rest 35 = .ok (.iload_n 1, 1) := by decide +kernel
theorem drest_36 : decode cX12_rest 36 = .ok (.aload_n 0, 1) := by decide +kernel
theorem drest_37 : decode cX12_rest 37 = .ok (.getfield 1057, 3) := by decide +kernel
theorem drest_40 : decode cX12_rest 40 = .ok (.iastore, 1) := by decide +kernel
theorem drest_41 : decode cX12_rest 41 = .ok (.aload_n 0, 1) := by decide +kernel
theorem drest_42 : decode cX12_rest 42 = .ok (.getfield 318, 3) := by decide +kernel
theorem drest_45 : decode cX12_rest 45 = .ok (.iload_n 1, 1) := by decide +kernel
theorem drest_46 : decode cX12_rest 46 = .ok (.aload_n 0, 1) := by decide +kernel
theorem drest_47 : decode cX12_rest 47 = .ok (.getfield 1060, 3) := by decide +kernel
theorem drest_50 : decode cX12_rest 50 = .ok (.iastore, 1) := by decide +kernel
theorem drest_51 : decode cX12_rest 51 = .ok (.iconst 0, 1) := by decide +kernel
theorem drest_52 : decode cX12_rest 52 = .ok (.istore_n 2, 1) := by decide +kernel
theorem drest_53 : decode cX12_rest 53 = .ok (.iload_n 2, 1) := by decide +kernel
theorem drest_54 : decode cX12_rest 54 = .ok (.bipush 6, 2) := by decide +kernel
theorem drest_56 : decode cX12_rest 56 = .ok (.if_icmp .ge 43, 3) := by decide +kernel
theorem drest_59 : decode cX12_rest 59 = .ok (.aload_n 0, 1) := by decide +kernel
theorem drest_60 : decode cX12_rest 60 = .ok (.getfield 333, 3) := by decide +kernel
theorem drest_63 : decode cX12_rest 63 = .ok (.bipush 6, 2) := by decide +kernel
theorem drest_65 : decode cX12_rest 65 = .ok (.iload_n 1, 1) := by decide +kernel
theorem drest_66 : decode cX12_rest 66 = .ok (.imul, 1) := by decide +kernel
theorem drest_67 : decode cX12_rest 67 = .ok (.iload_n 2, 1) := by decide +kernel
theorem drest_68 : decode cX12_rest 68 = .ok (.iadd, 1) := by decide +kernel
theorem drest_69 : decode cX12_rest 69 = .ok (.aload_n 0, 1) := by decide +kernel
theorem drest_70 : decode cX12_rest 70 = .ok (.getfield 393, 3) := by decide +kernel
theorem drest_73 : decode cX12_rest 73 = .ok (.iload_n 2, 1) := by decide +kernel
theorem drest_74 : decode cX12_rest 74 = .ok (.iaload, 1) := by decide +kernel
theorem drest_75 : decode cX12_rest 75 = .ok (.iastore, 1) := by decide +kernel
theorem drest_76 : decode cX12_rest 76 = .ok (.aload_n 0, 1) := by decide +kernel
theorem drest_77 : decode cX12_rest 77 = .ok (.getfield 336, 3) := by decide +kernel
theorem drest_80 : decode cX12_rest 80 = .ok (.bipush 6, 2) := by decide +kernel
theorem drest_82 : decode cX12_rest 82 = .ok (.iload_n 1, 1) := by decide +kernel
theorem drest_83 : decode cX12_rest 83 = .ok (.imul, 1) := by decide +kernel
theorem drest_84 : decode cX12_rest 84 = .ok (.iload_n 2, 1) := by decide +kernel
theorem drest_85 : decode cX12_rest 85 = .ok (.iadd, 1) := by decide +kernel
theorem drest_86 : decode cX12_rest 86 = .ok (.aload_n 0, 1) := by decide +kernel
theorem drest_87 : decode cX12_rest 87 = .ok (.getfield 396, 3) := by decide +kernel
theorem drest_90 : decode cX12_rest 90 = .ok (.iload_n 2, 1) := by decide +kernel
theorem drest_91 : decode cX12_rest 91 = .ok (.iaload, 1) := by decide +kernel
theorem drest_92 : decode cX12_rest 92 = .ok (.iastore, 1) := by decide +kernel
theorem drest_93 : decode cX12_rest 93 = .ok (.iinc 2 1, 3) := by decide +kernel
theorem drest_96 : decode cX12_rest 96 = .ok (.goto (-43), 3) := by decide +kernel
theorem drest_99 : decode cX12_rest 99 = .ok (.aload_n 0, 1) := by decide +kernel
theorem drest_100 : decode cX12_rest 100 = .ok (.getfield 89, 3) := by decide +kernel
theorem drest_103 : decode cX12_rest 103 = .ok (.aload_n 0, 1) := by decide +kernel
theorem drest_104 : decode cX12_rest 104 = .ok (.getfield 381, 3) := by decide +kernel
theorem drest_107 : decode cX12_rest 107 = .ok (.bipush 24, 2) := by decide +kernel
theorem drest_109 : decode cX12_rest 109 = .ok (.aload_n 0, 1) := by decide +kernel
theorem drest_110 : decode cX12_rest 110 = .ok (.getfield 1057, 3) := by decide +kernel
theorem drest_113 : decode cX12_rest 113 = .ok (.imul, 1) := by decide +kernel
theorem drest_114 : decode cX12_rest 114 = .ok (.aload_n 0, 1) := by decide +kernel
theorem drest_115 : decode cX12_rest 115 = .ok (.getfield 1060, 3) := by decide +kernel
theorem drest_118 : decode cX12_rest 118 = .ok (.iadd, 1) := by decide +kernel
theorem drest_119 : decode cX12_rest 119 = .ok (.iaload, 1) := by decide +kernel
theorem drest_120 : decode cX12_rest 120 = .ok (.iaload, 1) := by decide +kernel
theorem drest_121 : decode cX12_rest 121 = .ok (.istore_n 2, 1) := by decide +kernel
theorem drest_122 : decode cX12_rest 122 = .ok (.iload_n 2, 1) := by decide +kernel
theorem drest_123 : decode cX12_rest 123 = .ok (.iconst 1, 1) := by decide +kernel
theorem drest_124 : decode cX12_rest 124 = .ok (.if_icmp .ne 23, 3) := by decide +kernel
theorem drest_127 : decode cX12_rest 127 = .ok (.aload_n 0, 1) := by decide +kernel
theorem drest_128 : decode cX12_rest 128 = .ok (.getfield 321, 3) := by decide +kernel
theorem drest_131 : decode cX12_rest 131 = .ok (.iload_n 1, 1) := by decide +kernel
theorem drest_132 : decode cX12_rest 132 = .ok (.iconst 2, 1) := by decide +kernel
theorem drest_133 : decode cX12_rest 133 = .ok (.iastore, 1) := by decide +kernel
theorem drest_134 : decode cX12_rest 134 = .ok (.aload_n 0, 1) := by decide +kernel
theorem drest_135 : decode cX12_rest 135 = .ok (.dup, 1) := by decide +kernel
theorem drest_136 : decode cX12_rest 136 = .ok (.getfield 1060, 3) := by decide +kernel
theorem drest_139 : decode cX12_rest 139 = .ok (.iconst 1, 1) := by decide +kernel
theorem drest_140 : decode cX12_rest 140 = .ok (.iadd, 1) := by decide +kernel
theorem drest_141 : decode cX12_rest 141 = .ok (.putfield 1060, 3) := by decide +kernel
theorem drest_144 : decode cX12_rest 144 = .ok (.goto 23, 3) := by decide +kernel
theorem drest_147 : decode cX12_rest 147 = .ok (.aload_n 0, 1) := by decide +kernel
theorem drest_148 : decode cX12_rest 148 = .ok (.getfield 321, 3) := by decide +kernel
theorem drest_151 : decode cX12_rest 151 = .ok (.iload_n 1, 1) := by decide +kernel
theorem drest_152 : decode cX12_rest 152 = .ok (.iload_n 2, 1) := by decide +kernel
theorem drest_153 : decode cX12_rest 153 = .ok (.ifCond .ne 7, 3) := by decide +kernel
theorem drest_156 : decode cX12_rest 156 = .ok (.iconst 1, 1) := by decide +kernel
theorem drest_157 : decode cX12_rest 157 = .ok (.goto 4, 3) := by decide +kernel
theorem drest_160 : decode cX12_rest 160 = .ok (.iconst 4, 1) := by decide +kernel
theorem drest_161 : decode cX12_rest 161 = .ok (.iastore, 1) := by decide +kernel
theorem drest_162 : decode cX12_rest 162 = .ok (.aload_n 0, 1) := by decide +kernel
theorem drest_163 : decode cX12_rest 163 = .ok (.iload_n 1, 1) := by decide +kernel
theorem drest_164 : decode cX12_rest 164 = .ok (.invokevirtual 1066, 3) := by decide +kernel
theorem drest_167 : decode cX12_rest 167 = .ok (.return_, 1) := by decide +kernel
section
variable {l : Launch} {D : va_G} {cA : Nat → ClassId} {ad : Nat → Nat}
theorem s_rest {ht st rg : Nat → Int} {h : ja_H} {Q : Option ja_V → ja_H → Prop} (g : mo_G mo_zr h) (p1 : RB h ht st rg) (p2 : RI h ht st rg) (p3 : (h 0 186) = 2) (k1 : ∀ (h' : ja_H), (RO h h' ht st rg) → mo_G mo_zr h' → Q none h') : mM_rest l D cA ad  h Q := by
  show mJ l D cA ad 13 cX12_rest 3 none 0 [(0, (2, ((0 : Nat) : Int)))] [] h Q
  have kn_frames := gF_frames g
  have kn_restRow := gF_restRow g
  have kn_restLevel := gF_restLevel g
  have CUT : ∀ n : Nat, (∀ (x2 : Int) (u : ja_H), mo_G mo_zr u → (-2147483648 ≤ x2 ∧ x2 ≤ 2147483647) → ((0 ≤ x2 ∧ x2 ≤ 6 ∧ (h 0 191) ≠ (h 123 (h 0 190).toNat)) ∧ mo_ag FAK (mo_RS h) u ∧ VI u) → (((20 : Int) - x2).toNat) = n → mJ l D cA ad 13 cX12_rest 3 none 53 [(0, (2, ((0 : Nat) : Int))), (1, (0, (h 0 150))), (2, (0, x2))] [] u Q) := by
    intro n
    induction n using Nat.strongRecOn with
    | _ n ih =>
      skip
      · intro x2 u gu qx2 iv hm
        subst hm
        have ku_frames := gF_frames gu
        have ku_restRow := gF_restRow gu
        have ku_restLevel := gF_restLevel gu
        obtain ⟨iv, ag, qv⟩ := iv
        have hrs := rs_f g p1 p2 p3 (by omega) (ag_sub (X_X (by decide) (by decide)) ag) (fun j _ => ag 104 j rfl)
        have hrs2 := hrs.2.2.2.2
        clear hrs
        have e_restRow : (u 0 190) = (h 0 190) := ag 0 190 rfl
        have e_restLevel : (u 0 191) = (h 0 191) := ag 0 191 rfl
        have ghm := gC_heldMany g (h 0 190).toNat
        refine ja_iload_n drest_53 rfl rfl ?_
        refine ja_bipush 6 drest_54 rfl ?_
        refine ja_icmp_ge 99 drest_56 rfl ⟨by omega, by omega⟩ ⟨by decide, by decide⟩ (fun c56 => ?_) (fun c56 => ?_)
        · refine ja_aload_n drest_99 rfl rfl ?_
          refine fa_adviceKind drest_100 ?_
          refine ja_aload_n drest_103 rfl rfl ?_
          refine fa_heldAdvice drest_104 ?_
          refine ja_bipush 24 drest_107 rfl ?_
          refine ja_aload_n drest_109 rfl rfl ?_
          refine fg_restRow (v := u 0 190) rfl drest_110 ?_
          have f1 := gF_restRow gu
          refine ja_imul drest_113 ?_
          refine ja_aload_n drest_114 rfl rfl ?_
          refine fg_restLevel (v := u 0 191) rfl drest_115 ?_
          have f2 := gF_restLevel gu
          refine ja_iadd drest_118 ?_
          refine il_heldAdvice (v := u 124 ((24 * (u 0 190)) + (u 0 191)).toNat) rfl ⟨by omega, by omega⟩ drest_119 ?_
          have f3 := gC_heldAdvice gu ((24 * (u 0 190)) + (u 0 191)).toNat
          refine il_adviceKind (v := u 27 (u 124 ((24 * (u 0 190)) + (u 0 191)).toNat).toNat) rfl ⟨by omega, by omega⟩ drest_120 ?_
          have f4 := gC_adviceKind gu (u 124 ((24 * (u 0 190)) + (u 0 191)).toNat).toNat
          refine ja_istore_n drest_121 rfl (by decide) (L2 := [(2, (0, (u 27 (u 124 ((24 * (u 0 190)) + (u 0 191)).toNat).toNat))), (0, (2, ((0 : Nat) : Int))), (1, (0, (h 0 150)))]) rfl ?_
          refine ja_iload_n drest_122 rfl rfl ?_
          refine ja_iconst drest_123 ?_
          refine ja_icmp_ne 147 drest_124 rfl ⟨by omega, by omega⟩ ⟨by decide, by decide⟩ (fun c124 => ?_) (fun c124 => ?_)
          · refine ja_aload_n drest_147 rfl rfl ?_
            refine fa_frameStage drest_148 ?_
            refine ja_iload_n drest_151 rfl rfl ?_
            refine ja_iload_n drest_152 rfl rfl ?_
            refine ja_if_ne 160 drest_153 rfl ⟨by omega, by omega⟩ (fun c153 => ?_) (fun c153 => ?_)
            · refine ja_iconst drest_160 ?_
              have g5 := gW_frameStage gu (h 0 150).toNat (x := 4) ⟨by decide, by decide⟩
              refine is_frameStage ⟨by omega, by omega⟩ drest_161 ?_
              refine ja_aload_n drest_162 rfl rfl ?_
              refine ja_iload_n drest_163 rfl rfl ?_
              refine t_beginAdvice (by decide) (show (0 : Nat) ≤ 8 by decide) drest_164 g5 ⟨by omega, by omega⟩ ((rs_ba g p1 p2 p3 (by omega) (ag_trans (ag_sub (X_X (by decide) (by decide)) ag) (by (repeat (first | exact ag_refl | refine ag_up rfl ?_)))) (fun j hj => (mo_upJ hj).trans (ag 104 j rfl)) (by (repeat (first | exact qv | refine vi_set (by decide) (by decide) (by decide) ?_ (by first | exact (fun z => absurd z (by decide)) | exact vi_aS qv (by decide) _ | exact qv.2 | exact (fun z => ⟨by omega, hca⟩) | exact (fun z => ⟨by omega, hca z⟩) | (intro z; exfalso; omega)) | refine vi_res ?_ (by first | exact (fun z => absurd z (by decide)) | exact vi_aS qv (by decide) _ | exact qv.2 | exact (fun z => ⟨by omega, hca⟩) | exact (fun z => ⟨by omega, hca z⟩) | (intro z; exfalso; omega)) | refine vi_arr (by decide) (by decide) ?_ | refine vi_up (by decide) (by decide) ?_ | refine vi_val (ck := 106) (by decide) (by decide) (by decide) ?_ ⟨by omega, by omega⟩))))) ?_
              intro h6 k164_0 g7
              replace k164_0 : BO (ja_up u 104 ((h 0 150).toNat) 4) h6 ht st rg := k164_0
              refine ja_return drest_167 rfl ?_
              exact k1 h6 ((rs_begun g g7 p1 p2 p3 (by omega) (ag_trans (ag_sub (X_X (by decide) (by decide)) ag) (by (repeat (first | exact ag_refl | refine ag_up rfl ?_)))) (fun j hj => (mo_upJ hj).trans (ag 104 j rfl)) k164_0)) g7
            · refine ja_iconst drest_156 ?_
              refine ja_goto 161 drest_157 rfl ?_
              have g8 := gW_frameStage gu (h 0 150).toNat (x := 1) ⟨by decide, by decide⟩
              refine is_frameStage ⟨by omega, by omega⟩ drest_161 ?_
              refine ja_aload_n drest_162 rfl rfl ?_
              refine ja_iload_n drest_163 rfl rfl ?_
              refine t_beginAdvice (by decide) (show (0 : Nat) ≤ 8 by decide) drest_164 g8 ⟨by omega, by omega⟩ ((rs_ba g p1 p2 p3 (by omega) (ag_trans (ag_sub (X_X (by decide) (by decide)) ag) (by (repeat (first | exact ag_refl | refine ag_up rfl ?_)))) (fun j hj => (mo_upJ hj).trans (ag 104 j rfl)) (by (repeat (first | exact qv | refine vi_set (by decide) (by decide) (by decide) ?_ (by first | exact (fun z => absurd z (by decide)) | exact vi_aS qv (by decide) _ | exact qv.2 | exact (fun z => ⟨by omega, hca⟩) | exact (fun z => ⟨by omega, hca z⟩) | (intro z; exfalso; omega)) | refine vi_res ?_ (by first | exact (fun z => absurd z (by decide)) | exact vi_aS qv (by decide) _ | exact qv.2 | exact (fun z => ⟨by omega, hca⟩) | exact (fun z => ⟨by omega, hca z⟩) | (intro z; exfalso; omega)) | refine vi_arr (by decide) (by decide) ?_ | refine vi_up (by decide) (by decide) ?_ | refine vi_val (ck := 106) (by decide) (by decide) (by decide) ?_ ⟨by omega, by omega⟩))))) ?_
              intro h9 k164_0 g10
              replace k164_0 : BO (ja_up u 104 ((h 0 150).toNat) 1) h9 ht st rg := k164_0
              refine ja_return drest_167 rfl ?_
              exact k1 h9 ((rs_begun g g10 p1 p2 p3 (by omega) (ag_trans (ag_sub (X_X (by decide) (by decide)) ag) (by (repeat (first | exact ag_refl | refine ag_up rfl ?_)))) (fun j hj => (mo_upJ hj).trans (ag 104 j rfl)) k164_0)) g10
          · refine ja_aload_n drest_127 rfl rfl ?_
            refine fa_frameStage drest_128 ?_
            refine ja_iload_n drest_131 rfl rfl ?_
            refine ja_iconst drest_132 ?_
            have g11 := gW_frameStage gu (h 0 150).toNat (x := 2) ⟨by decide, by decide⟩
            refine is_frameStage ⟨by omega, by omega⟩ drest_133 ?_
            refine ja_aload_n drest_134 rfl rfl ?_
            refine ja_dup drest_135 (by decide) ?_
            refine fg_restLevel (v := u 0 191) rfl drest_136 ?_
            refine ja_iconst drest_139 ?_
            refine ja_iadd drest_140 ?_
            have g12 := gP_restLevel g11 (x := (u 0 191) + 1) ⟨by omega, by omega⟩
            refine fp_restLevel drest_141 ?_
            refine ja_goto 167 drest_144 rfl ?_
            refine ja_return drest_167 rfl ?_
            exact k1 (ja_up (ja_up u 104 ((h 0 150).toNat) 2) 0 191 ((u 0 191) + 1)) ((rs_behind g g12 p1 p2 p3 (by omega) (ag_trans (ag_sub (X_X (by decide) (by decide)) ag) (by (repeat (first | exact ag_refl | refine ag_up rfl ?_)))) (fun j hj => (mo_upJ hj).trans (ag 104 j rfl)) mo_upS (show (((u 0 191) + 1) : Int) = (h 0 191) + 1 by omega) (by (repeat (first | exact qv | refine vi_set (by decide) (by decide) (by decide) ?_ (by first | exact (fun z => absurd z (by decide)) | exact vi_aS qv (by decide) _ | exact qv.2 | exact (fun z => ⟨by omega, hca⟩) | exact (fun z => ⟨by omega, hca z⟩) | (intro z; exfalso; omega)) | refine vi_res ?_ (by first | exact (fun z => absurd z (by decide)) | exact vi_aS qv (by decide) _ | exact qv.2 | exact (fun z => ⟨by omega, hca⟩) | exact (fun z => ⟨by omega, hca z⟩) | (intro z; exfalso; omega)) | refine vi_arr (by decide) (by decide) ?_ | refine vi_up (by decide) (by decide) ?_ | refine vi_val (ck := 106) (by decide) (by decide) (by decide) ?_ ⟨by omega, by omega⟩))))) g12
        · refine ja_aload_n drest_59 rfl rfl ?_
          refine fa_frameArgKind drest_60 ?_
          refine ja_bipush 6 drest_63 rfl ?_
          refine ja_iload_n drest_65 rfl rfl ?_
          refine ja_imul drest_66 ?_
          refine ja_iload_n drest_67 rfl rfl ?_
          refine ja_iadd drest_68 ?_
          refine ja_aload_n drest_69 rfl rfl ?_
          refine fa_argKind drest_70 ?_
          refine ja_iload_n drest_73 rfl rfl ?_
          refine il_argKind (v := u 128 (x2).toNat) rfl ⟨by omega, by omega⟩ drest_74 ?_
          have f13 := gC_argKind gu (x2).toNat
          have g14 := gW_frameArgKind gu ((6 * (h 0 150)) + x2).toNat (x := u 128 (x2).toNat) ⟨by omega, by omega⟩
          refine is_frameArgKind ⟨by omega, by omega⟩ drest_75 ?_
          refine ja_aload_n drest_76 rfl rfl ?_
          refine fa_frameArgValue drest_77 ?_
          refine ja_bipush 6 drest_80 rfl ?_
          refine ja_iload_n drest_82 rfl rfl ?_
          refine ja_imul drest_83 ?_
          refine ja_iload_n drest_84 rfl rfl ?_
          refine ja_iadd drest_85 ?_
          refine ja_aload_n drest_86 rfl rfl ?_
          refine fa_argValue drest_87 ?_
          refine ja_iload_n drest_90 rfl rfl ?_
          refine il_argValue (v := u 129 (x2).toNat) rfl ⟨by omega, by omega⟩ drest_91 ?_
          have f15 := gC_argValue gu (x2).toNat
          have g16 := gW_frameArgValue g14 ((6 * (h 0 150)) + x2).toNat (x := u 129 (x2).toNat) ⟨by omega, by omega⟩
          refine is_frameArgValue ⟨by omega, by omega⟩ drest_92 ?_
          refine ja_iinc drest_93 rfl (by decide) (L2 := [(2, (0, (x2 + 1))), (0, (2, ((0 : Nat) : Int))), (1, (0, (h 0 150)))]) rfl ?_
          refine ja_goto 53 drest_96 rfl ?_
          exact ja_wk (fun q hq => by simp only [List.mem_cons, List.not_mem_nil, or_false] at hq; rcases hq with rfl | rfl | rfl <;> rfl) ((ih (((20 : Int) - (x2 + 1)).toNat) (by omega)) (x2 + 1) (ja_up (ja_up u 108 (((6 * (h 0 150)) + x2).toNat) (u 128 (x2).toNat)) 109 (((6 * (h 0 150)) + x2).toNat) (u 129 (x2).toNat)) g16 ⟨by omega, by omega⟩ (⟨by omega, (ag_trans ag (by (repeat (first | exact ag_refl | refine ag_up rfl ?_)))), (by (repeat (first | exact qv | refine vi_set (by decide) (by decide) (by decide) ?_ (by first | exact (fun z => absurd z (by decide)) | exact vi_aS qv (by decide) _ | exact qv.2 | exact (fun z => ⟨by omega, hca⟩) | exact (fun z => ⟨by omega, hca z⟩) | (intro z; exfalso; omega)) | refine vi_res ?_ (by first | exact (fun z => absurd z (by decide)) | exact vi_aS qv (by decide) _ | exact qv.2 | exact (fun z => ⟨by omega, hca⟩) | exact (fun z => ⟨by omega, hca z⟩) | (intro z; exfalso; omega)) | refine vi_arr (by decide) (by decide) ?_ | refine vi_up (by decide) (by decide) ?_ | refine vi_val (ck := 106) (by decide) (by decide) (by decide) ?_ ⟨by omega, by omega⟩)))⟩) rfl)
  refine ja_aload_n drest_0 rfl rfl ?_
  refine fg_restLevel (v := h 0 191) rfl drest_1 ?_
  have f17 := gF_restLevel g
  refine ja_aload_n drest_4 rfl rfl ?_
  refine fa_heldMany drest_5 ?_
  refine ja_aload_n drest_8 rfl rfl ?_
  refine fg_restRow (v := h 0 190) rfl drest_9 ?_
  have f18 := gF_restRow g
  refine il_heldMany (v := h 123 (h 0 190).toNat) rfl ⟨by omega, by omega⟩ drest_12 ?_
  have f19 := gC_heldMany g (h 0 190).toNat
  refine ja_icmp_ne 25 drest_13 rfl ⟨by omega, by omega⟩ ⟨by omega, by omega⟩ (fun c13 => ?_) (fun c13 => ?_)
  · have hrs := (rs_f g p1 p2 p3 (by omega) (v := mo_RS h) ag_refl (fun _ _ => rfl)).2.2.2.2
    have ghm := gC_heldMany g (h 0 190).toNat
    refine ja_aload_n drest_25 rfl rfl ?_
    refine ja_iconst drest_26 ?_
    refine t_push (by decide) (show (0 : Nat) ≤ 8 by decide) drest_27 g ⟨by decide, by decide⟩ (show 0 ≤ 4 ∧ 4 ≤ 5 by omega) (show (h 0 150) < 3000 by omega) ?_
    intro g20
    replace g20 : mo_G mo_zr (ja_up (ja_up h 0 150 ((h 0 150) + 1)) 96 ((h 0 150).toNat) 4) := g20
    show mJ l D cA ad 13 cX12_rest 3 none 30 [(0, (2, ((0 : Nat) : Int)))] [(0, (h 0 150))] (ja_up (ja_up h 0 150 ((h 0 150) + 1)) 96 ((h 0 150).toNat) 4) Q
    refine ja_istore_n drest_30 rfl (by decide) (L2 := [(1, (0, (h 0 150))), (0, (2, ((0 : Nat) : Int)))]) rfl ?_
    refine ja_aload_n drest_31 rfl rfl ?_
    refine fa_frameRow drest_32 ?_
    refine ja_iload_n drest_35 rfl rfl ?_
    refine ja_aload_n drest_36 rfl rfl ?_
    refine fg_restRow (v := h 0 190) rfl drest_37 ?_
    have g21 := gW_frameRow g20 (h 0 150).toNat (x := h 0 190) ⟨by omega, by omega⟩
    refine is_frameRow ⟨by omega, by omega⟩ drest_40 ?_
    refine ja_aload_n drest_41 rfl rfl ?_
    refine fa_frameLevel drest_42 ?_
    refine ja_iload_n drest_45 rfl rfl ?_
    refine ja_aload_n drest_46 rfl rfl ?_
    refine fg_restLevel (v := h 0 191) rfl drest_47 ?_
    have g22 := gW_frameLevel g21 (h 0 150).toNat (x := h 0 191) ⟨by omega, by omega⟩
    refine is_frameLevel ⟨by omega, by omega⟩ drest_50 ?_
    refine ja_iconst drest_51 ?_
    refine ja_istore_n drest_52 rfl (by decide) (L2 := [(2, (0, 0)), (1, (0, (h 0 150))), (0, (2, ((0 : Nat) : Int)))]) rfl ?_
    exact ja_wk (fun q hq => by simp only [List.mem_cons, List.not_mem_nil, or_false] at hq; rcases hq with rfl | rfl | rfl <;> rfl) ((CUT _) 0 (ja_up (ja_up (ja_up (ja_up h 0 150 ((h 0 150) + 1)) 96 ((h 0 150).toNat) 4) 102 ((h 0 150).toNat) (h 0 190)) 103 ((h 0 150).toNat) (h 0 191)) g22 ⟨by decide, by decide⟩ (⟨by omega, (show mo_ag FAK (mo_RS h) (ja_up (ja_up (ja_up (ja_up h 0 150 ((h 0 150) + 1)) 96 ((h 0 150).toNat) 4) 102 ((h 0 150).toNat) (h 0 190)) 103 ((h 0 150).toNat) (h 0 191)) from fun _ _ _ => rfl), (by have qv := p1.1; exact (by (repeat (first | exact qv | refine vi_set (by decide) (by decide) (by decide) ?_ (by first | exact (fun z => absurd z (by decide)) | exact vi_aS qv (by decide) _ | exact qv.2 | exact (fun z => ⟨by omega, hca⟩) | exact (fun z => ⟨by omega, hca z⟩) | (intro z; exfalso; omega)) | refine vi_res ?_ (by first | exact (fun z => absurd z (by decide)) | exact vi_aS qv (by decide) _ | exact qv.2 | exact (fun z => ⟨by omega, hca⟩) | exact (fun z => ⟨by omega, hca z⟩) | (intro z; exfalso; omega)) | refine vi_arr (by decide) (by decide) ?_ | refine vi_up (by decide) (by decide) ?_ | refine vi_val (ck := 106) (by decide) (by decide) (by decide) ?_ ⟨by omega, by omega⟩))))⟩) rfl)
  · refine ja_aload_n drest_16 rfl rfl ?_
    refine ja_aload_n drest_17 rfl rfl ?_
    refine fg_restRow (v := h 0 190) rfl drest_18 ?_
    refine t_act (by decide) (show (0 : Nat) ≤ 8 by decide) drest_21 g ⟨by omega, by omega⟩ ((⟨p1, p2, p3, rfl, by omega⟩)) ?_
    intro h23 k21_0 g24
    refine ja_return drest_24 rfl ?_
    exact k1 h23 (k21_0) g24
theorem t_rest {ht st rg : Nat → Int} {d nL pc : Nat} {cc : ByteArray} {rt : Option FieldType} {L : List (Nat × ja_V)} {S : List ja_V} {h : ja_H} {Q : Option ja_V → ja_H → Prop} (hdd : 13 < d) (hwd : ja_wd S ≤ 8) (hd : decode cc pc = .ok (.invokevirtual 1033, 3)) (g : mo_G mo_zr h) (p1 : RB h ht st rg) (p2 : RI h ht st rg) (p3 : (h 0 186) = 2) (k1 : ∀ (h' : ja_H), (RO h h' ht st rg) → mo_G mo_zr h' → mJ l D cA ad d cc nL rt (pc + 3) L S h' Q) : mJ l D cA ad d cc nL rt pc L ((2, ((0 : Nat) : Int)) :: S) h Q :=
  mc_rest hdd hwd hd (s_rest g p1 p2 p3 k1)
end
