/-! the reference: a run, its smallest methods (written by a program) -/
/-! the reference: values -/
def vps : List (Nat × Nat) := [(90, 91), (92, 93), (94, 95), (106, 107), (108, 109), (110, 111), (120, 121), (126, 127), (128, 129), (130, 131), (136, 137), (117, 118)]
/-- an object's number lies in 0 .. 200 -/
def caN (h : ja_H) : Prop := ¬ h 12 0 = 0
def VI (h : ja_H) : Prop := (∀ p ∈ vps, ∀ j : Nat, h p.1 j = 2 → (0 ≤ h p.2 j ∧ h p.2 j ≤ 200) ∧ caN h) ∧ ((h 0 188) = 2 → (0 ≤ (h 0 189) ∧ (h 0 189) ≤ 200) ∧ caN h)
theorem caN_e {h u : ja_H} (e : u 12 0 = h 12 0) (q : caN h) : caN u := by
  unfold caN at q ⊢; rw [e]; exact q
theorem vi_aS {h : ja_H} {ck cv : Nat} (q : VI h) (d : (ck, cv) ∈ vps) (j : Nat) : h ck j = 2 → (0 ≤ h cv j ∧ h cv j ≤ 200) ∧ caN h := q.1 (ck, cv) d j
theorem vi_at {h : ja_H} {ck cv : Nat} (q : VI h) (d : (ck, cv) ∈ vps) (j : Nat) : h ck j = 2 → 0 ≤ h cv j ∧ h cv j ≤ 200 := fun z => (q.1 (ck, cv) d j z).1
theorem vi_set {h : ja_H} {ck cv j : Nat} {k v : Int} (d1 : (ck, cv) ∈ vps) (d : vps.all (fun p => decide (p = (ck, cv) ∨ (p.1 ≠ ck ∧ p.1 ≠ cv ∧ p.2 ≠ ck ∧ p.2 ≠ cv))) = true) (d0 : ck ≠ 0 ∧ cv ≠ 0 ∧ ck ≠ cv ∧ ck ≠ 12 ∧ cv ≠ 12) (q : VI h) (hv : k = 2 → (0 ≤ v ∧ v ≤ 200) ∧ caN h) : VI (ja_up (ja_up h ck j k) cv j v) := by
  obtain ⟨q1, q2⟩ := q
  have ec : caN h → caN (ja_up (ja_up h ck j k) cv j v) := caN_e ((mo_upK (fun y => d0.2.2.2.2 y.symm)).trans (mo_upK (fun y => d0.2.2.2.1 y.symm)))
  refine ⟨fun p hp i => ?_, ?_⟩
  · have dp := List.all_eq_true.mp d p hp
    rcases of_decide_eq_true dp with e | ⟨e1, e2, e3, e4⟩
    · subst e
      show (ja_up (ja_up h ck j k) cv j v) ck i = 2 → (0 ≤ (ja_up (ja_up h ck j k) cv j v) cv i ∧ (ja_up (ja_up h ck j k) cv j v) cv i ≤ 200) ∧ _
      rw [mo_upK d0.2.2.1]
      by_cases z : i = j
      · subst z; rw [mo_upS, mo_upS]; exact fun y => ⟨(hv y).1, ec (hv y).2⟩
      · rw [mo_upJ z, mo_upJ z, mo_upK (fun y => d0.2.2.1 y.symm)]; exact fun y => ⟨(q1 (ck, cv) d1 i y).1, ec (q1 (ck, cv) d1 i y).2⟩
    · rw [mo_upK e2, mo_upK e1, mo_upK e4, mo_upK e3]; exact fun y => ⟨(q1 p hp i y).1, ec (q1 p hp i y).2⟩
  · rw [mo_upK (fun y => d0.2.1 y.symm), mo_upK (fun y => d0.1 y.symm), mo_upK (fun y => d0.2.1 y.symm), mo_upK (fun y => d0.1 y.symm)]; exact fun y => ⟨(q2 y).1, ec (q2 y).2⟩
theorem vi_up {h : ja_H} {k j : Nat} {x : Int} (d : (decide (k ≠ 12) && vps.all (fun p => decide (p.1 ≠ k ∧ p.2 ≠ k))) = true) (d0 : k ≠ 0 ∨ (j ≠ 188 ∧ j ≠ 189)) (q : VI h) : VI (ja_up h k j x) := by
  obtain ⟨q1, q2⟩ := q
  obtain ⟨d9, d⟩ := Bool.and_eq_true_iff.mp d
  have ec : caN h → caN (ja_up h k j x) := caN_e (mo_upK (fun y => of_decide_eq_true d9 y.symm))
  refine ⟨fun p hp i => ?_, ?_⟩
  · have dp := of_decide_eq_true (List.all_eq_true.mp d p hp)
    rw [mo_upK dp.1, mo_upK dp.2]; exact fun y => ⟨(q1 p hp i y).1, ec (q1 p hp i y).2⟩
  · rw [mo_upN (by omega), mo_upN (by omega)]; exact fun y => ⟨(q2 y).1, ec (q2 y).2⟩
theorem vi_res {h : ja_H} {k v : Int} (q : VI h) (hv : k = 2 → (0 ≤ v ∧ v ≤ 200) ∧ caN h) : VI (ja_up (ja_up h 0 188 k) 0 189 v) := by
  obtain ⟨q1, q2⟩ := q
  have ec : caN h → caN (ja_up (ja_up h 0 188 k) 0 189 v) := caN_e ((mo_upK (by decide)).trans (mo_upK (by decide)))
  refine ⟨fun p hp i => ?_, ?_⟩
  · have e : p.1 ≠ 0 ∧ p.2 ≠ 0 := of_decide_eq_true (List.all_eq_true.mp (show vps.all (fun p => decide (p.1 ≠ 0 ∧ p.2 ≠ 0)) = true by decide) p hp)
    rw [mo_upK e.1, mo_upK e.1, mo_upK e.2, mo_upK e.2]; exact fun y => ⟨(q1 p hp i y).1, ec (q1 p hp i y).2⟩
  · rw [mo_upN (by decide), mo_upS, mo_upS]; exact fun y => ⟨(hv y).1, ec (hv y).2⟩
def FVI : Nat → Nat → Bool := mo_F [188, 189] [12, 90, 91, 92, 93, 94, 95, 106, 107, 108, 109, 110, 111, 120, 121, 126, 127, 128, 129, 130, 131, 136, 137, 117, 118]
theorem vi_ag {h u : ja_H} (q : VI h) (ag : mo_ag FVI h u) : VI u := by
  obtain ⟨q1, q2⟩ := q
  have ec : caN h → caN u := caN_e (ag _ _ rfl)
  refine ⟨fun p hp i => ?_, ?_⟩
  · have e : FVI p.1 i = true ∧ FVI p.2 i = true := by
      have d := of_decide_eq_true (List.all_eq_true.mp (show vps.all (fun p => decide (p.1 ≠ 0 ∧ p.2 ≠ 0 ∧ [12, 90, 91, 92, 93, 94, 95, 106, 107, 108, 109, 110, 111, 120, 121, 126, 127, 128, 129, 130, 131, 136, 137, 117, 118].contains p.1 = true ∧ [12, 90, 91, 92, 93, 94, 95, 106, 107, 108, 109, 110, 111, 120, 121, 126, 127, 128, 129, 130, 131, 136, 137, 117, 118].contains p.2 = true)) = true by decide) p hp)
      unfold FVI mo_F
      rw [if_neg d.1, if_neg d.2.1]
      exact d.2.2
    rw [ag _ _ e.1, ag _ _ e.2]; exact fun y => ⟨(q1 p hp i y).1, ec (q1 p hp i y).2⟩
  · have e1 : (u 0 188) = (h 0 188) := ag _ _ rfl
    have e2 : (u 0 189) = (h 0 189) := ag _ _ rfl
    rw [e1, e2]; exact fun y => ⟨(q2 y).1, ec (q2 y).2⟩
/-- what the tests of a P change -/
def FEV : Nat → Nat → Bool := mo_X [206, 207] [136, 137]
def FBI : Nat → Nat → Bool := mo_X [206, 207] [136, 137, 130, 131, 1]
/-- a word of an if -/
def ifW (h : ja_H) (w : Nat) : Prop := ((h 74) w = 8 → 0 ≤ (h 75) w ∧ (h 75) w ≤ 11) ∧ ((h 74) w = 8 ∨ (h 74) w = 9 ∨ (h 74) w = 10 ∨ (h 74) w = 11 ∨ (h 74) w = 14)
theorem if_tr {o : Int} (d : o = 1 ∨ o = 2 ∨ o = 4 ∨ o = 6 ∨ (8 ≤ o ∧ o ≤ 14) ∨ o = 26) : pw_tr o = 0 := by
  unfold pw_tr; rw [if_neg (by omega), if_neg (by omega)]
theorem if_25 {o : Int} (d : o = 1 ∨ o = 2 ∨ o = 4 ∨ o = 6 ∨ (8 ≤ o ∧ o ≤ 14) ∨ o = 26) : o ≠ 25 := by omega
theorem d814 {o : Int} (d : 8 ≤ o ∧ o ≤ 14) : o = 8 ∨ o = 9 ∨ o = 10 ∨ o = 11 ∨ o = 12 ∨ o = 13 ∨ o = 14 := by omega
theorem if_in {h : ja_H} {rg : Nat → Int} {a : Int} (q200 : rg ((h 0 113)).toNat = 200) (j2 : a ≤ (h 0 113)) (h4 : rg a.toNat = 4) : a < (h 0 113) := by
  rcases Int.lt_or_le a (h 0 113) with l | l
  · exact l
  · exfalso
    have e : a = (h 0 113) := by omega
    rw [e, q200] at h4; omega
theorem if_aim {h : ja_H} {ht st rg : Nat → Int} {w : Int} (q1 : ∀ w : Nat, (w : Int) < (h 0 113) → pf h ht st rg (h 0 113) w) (q200 : rg ((h 0 113)).toNat = 200) (h0 : 0 ≤ w) (o : (h 74) w.toNat = 12 ∨ (h 74) w.toNat = 13) (j1 : 0 ≤ (h 75) w.toNat) (j2 : (h 75) w.toNat ≤ (h 0 113)) (h4 : rg ((h 75) w.toNat).toNat = 4) (j6 : ((w.toNat : Nat) : Int) < (h 75) w.toNat ∨ ((h 75) w.toNat < w.toNat ∧ st ((h 75) w.toNat).toNat = 0 ∧ st (((h 75) w.toNat).toNat + 1) = 1)) : w < (h 75) w.toNat := by
  rcases j6 with l | ⟨-, l2, l3⟩
  · omega
  · exfalso
    have lt := if_in q200 j2 h4
    have P := q1 ((h 75) w.toNat).toNat (by omega)
    obtain ⟨-, -, -, -, -, c6, c7, -, -, -, -, -, -, -, -, c16⟩ := P
    have d4 := (c16 (by rw [h4]; rfl)).2
    by_cases z : (h 74) ((h 75) w.toNat).toNat = 26
    · have e := (c6 z).2
      rw [l3] at e; exact absurd e (by decide)
    · have e := (c7 z).2.2.2 (if_25 d4)
      rw [l2, l3] at e; exact absurd e (by decide)
/-- what an if asks of the word it stands at -/
theorem ci_if {h : ja_H} {ht st rg : Nat → Int} {w : Int} (q : CI h ht st rg) (h0 : 0 ≤ w) (h1 : w < (h 0 113)) (hr : rg w.toNat = 4) : (0 ≤ ht w.toNat ∧ ht w.toNat ≤ 60) ∧ ((h 74) w.toNat = 26 ∨ (w + 1 < (h 0 113) ∧ rg (w + 1).toNat = 4 ∧ ((h 74) w.toNat = 1 ∨ (h 74) w.toNat = 2 ∨ ((h 74) w.toNat = 4 ∧ 0 ≤ (h 75) w.toNat ∧ (h 75) w.toNat ≤ 6) ∨ ((h 74) w.toNat = 6 ∧ 0 ≤ (h 75) w.toNat ∧ (h 75) w.toNat ≤ 9 ∧ 0 ≤ (h 76) w.toNat ∧ (h 76) w.toNat ≤ 7)) ∧ ht (w + 1).toNat = ht w.toNat + 1) ∨
    (w + 1 < (h 0 113) ∧ rg (w + 1).toNat = 4 ∧ ((h 74) w.toNat = 12 ∨ (h 74) w.toNat = 13) ∧ 1 ≤ ht w.toNat ∧ ht (w + 1).toNat = ht w.toNat - 1 ∧ w < (h 75) w.toNat ∧ (h 75) w.toNat < (h 0 113) ∧ rg ((h 75) w.toNat).toNat = 4 ∧ ht ((h 75) w.toNat).toNat = ht w.toNat) ∨
    (w + 1 < (h 0 113) ∧ rg (w + 1).toNat = 4 ∧ ((h 74) w.toNat = 8 ∧ 0 ≤ (h 75) w.toNat ∧ (h 75) w.toNat ≤ 11 ∨ (h 74) w.toNat = 10 ∨ (h 74) w.toNat = 11 ∨ (h 74) w.toNat = 14) ∧ 1 ≤ ht w.toNat ∧ ht (w + 1).toNat = ht w.toNat) ∨
    (w + 1 < (h 0 113) ∧ rg (w + 1).toNat = 4 ∧ (h 74) w.toNat = 9 ∧ 2 ≤ ht w.toNat ∧ ht (w + 1).toNat = ht w.toNat - 1)) := by
  obtain ⟨q1, q200, -⟩ := q
  have e1 : (w + 1).toNat = w.toNat + 1 := by omega
  have P := q1 w.toNat (by omega)
  have hr8 : rg w.toNat % 8 = 4 := by rw [hr]; rfl
  obtain ⟨-, c2, -, -, c5, -, c7, -, -, c10, c11, -, -, c14, c15, c16⟩ := P
  obtain ⟨⟨-, d2, d3⟩, d4⟩ := c16 hr8
  refine ⟨⟨c2.1, d2⟩, ?_⟩
  by_cases z26 : (h 74) w.toNat = 26
  · exact Or.inl z26
  right
  obtain ⟨b1, b2, -, -⟩ := c7 z26
  rw [if_tr d4, hr] at b2
  have r4 : rg (w + 1).toNat = 4 := by rw [e1, b2]; rfl
  have lt : w + 1 < (h 0 113) := if_in q200 (by clear c5 c7 c10 c11 c14 c15 c16 d3 d4; omega) r4
  rw [e1] at r4 ⊢
  have jm : pw_jmp ((h 74) w.toNat) → pw_th ((h 74) w.toNat) = 0 → pw_tj ((h 74) w.toNat) = 0 → ((h 74) w.toNat = 12 ∨ (h 74) w.toNat = 13) → w < (h 75) w.toNat ∧ (h 75) w.toNat < (h 0 113) ∧ rg ((h 75) w.toNat).toNat = 4 ∧ ht ((h 75) w.toNat).toNat = ht w.toNat := by
    intro z y1 y2 o
    obtain ⟨j1, j2, j3, j4, j5, j6⟩ := c10 z
    rw [y1] at j3
    rw [y2, hr] at j4
    have h4 : rg ((h 75) w.toNat).toNat = 4 := j4
    exact ⟨if_aim q1 q200 h0 o j1 j2 h4 j6, if_in q200 j2 h4, h4, by rw [j3]; exact Int.add_zero _⟩
  rcases d4 with o | o | o | o | o | o
  · left; unfold pw_eff at b1; simp [o] at b1; exact ⟨lt, r4, Or.inl o, b1⟩
  · left; unfold pw_eff at b1; simp [o] at b1; exact ⟨lt, r4, Or.inr (Or.inl o), b1⟩
  · left; unfold pw_eff at b1; simp [o] at b1; exact ⟨lt, r4, Or.inr (Or.inr (Or.inl ⟨o, (c11 (Or.inl o)).1, d3 o⟩)), b1⟩
  · left; unfold pw_eff at b1; simp [o] at b1
    obtain ⟨a1, a2, a3, a4, -⟩ := c14 (Or.inl o)
    exact ⟨lt, r4, Or.inr (Or.inr (Or.inr ⟨o, a1, a2, a3, a4⟩)), b1⟩
  · rcases d814 o with o | o | o | o | o | o | o
    · right; right; left; unfold pw_eff at b1; unfold pw_need at c5; simp [o] at b1 c5; exact ⟨lt, r4, Or.inl ⟨o, c15 o⟩, c5, b1⟩
    · right; right; right; unfold pw_eff at b1; unfold pw_need at c5; simp [o] at b1 c5; exact ⟨lt, r4, o, c5, b1.trans Int.sub_eq_add_neg.symm⟩
    · right; right; left; unfold pw_eff at b1; unfold pw_need at c5; simp [o] at b1 c5; exact ⟨lt, r4, Or.inr (Or.inl o), c5, b1⟩
    · right; right; left; unfold pw_eff at b1; unfold pw_need at c5; simp [o] at b1 c5; exact ⟨lt, r4, Or.inr (Or.inr (Or.inl o)), c5, b1⟩
    · right; left; unfold pw_eff at b1; unfold pw_need at c5; simp [o] at b1 c5
      exact ⟨lt, r4, Or.inl o, c5, b1.trans Int.sub_eq_add_neg.symm, jm (Or.inl o) (by unfold pw_th; simp [o]) (by unfold pw_tj; simp [o]) (Or.inl o)⟩
    · right; left; unfold pw_eff at b1; unfold pw_need at c5; simp [o] at b1 c5
      exact ⟨lt, r4, Or.inr o, c5, b1.trans Int.sub_eq_add_neg.symm, jm (Or.inr (Or.inl o)) (by unfold pw_th; simp [o]) (by unfold pw_tj; simp [o]) (Or.inr o)⟩
    · right; right; left; unfold pw_eff at b1; unfold pw_need at c5; simp [o] at b1 c5; exact ⟨lt, r4, Or.inr (Or.inr (Or.inr o)), c5, b1⟩
  · exact absurd o z26
theorem dpush_0 : decode cX12_push 0 = .ok (.aload_n 0, 1) := by decide +kernel
theorem dpush_1 : decode cX12_push 1 = .ok (.getfield 996, 3) := by decide +kernel
theorem dpush_4 : decode cX12_push 4 = .ok (.istore_n 2, 1) := by decide +kernel
theorem dpush_5 : decode cX12_push 5 = .ok (.aload_n 0, 1) := by decide +kernel
theorem dpush_6 : decode cX12_push 6 = .ok (.dup, 1) := by decide +kernel
theorem dpush_7 : decode cX12_push 7 = .ok (.getfield 996, 3) := by decide +kernel
theorem dpush_10 : decode cX12_push 10 = .ok (.iconst 1, 1) := by decide +kernel
theorem dpush_11 : decode cX12_push 11 = .ok (.iadd, 1) := by decide +kernel
theorem dpush_12 : decode cX12_push 12 = .ok (.putfield 996, 3) := by decide +kernel
theorem dpush_15 : decode cX12_push 15 = .ok (.aload_n 0, 1) := by decide +kernel
theorem dpush_16 : decode cX12_push 16 = .ok (.getfield 297, 3) := by decide +kernel
theorem dpush_19 : decode cX12_push 19 = .ok (.iload_n 2, 1) := by decide +kernel
theorem dpush_20 : decode cX12_push 20 = .ok (.iload_n 1, 1) := by decide +kernel
theorem dpush_21 : decode cX12_push 21 = .ok (.iastore, 1) := by decide +kernel
theorem dpush_22 : decode cX12_push 22 = .ok (.iload_n 2, 1) := by decide +kernel
theorem dpush_23 : decode cX12_push 23 = .ok (.ireturn, 1) := by decide +kernel
section
variable {l : Launch} {D : va_G} {cA : Nat → ClassId} {ad : Nat → Nat}
theorem s_push {a1 : Int} {h : ja_H} {Q : Option ja_V → ja_H → Prop} (g : mo_G mo_zr h) (r1 : -2147483648 ≤ a1 ∧ a1 ≤ 2147483647) (p1 : 0 ≤ a1 ∧ a1 ≤ 5) (p2 : (h 0 150) < 3000) (k1 : mo_G mo_zr (ja_up (ja_up h 0 150 ((h 0 150) + 1)) 96 (((h 0 150)).toNat) a1) → Q (some (0, (h 0 150))) (ja_up (ja_up h 0 150 ((h 0 150) + 1)) 96 (((h 0 150)).toNat) a1)) : mM_push l D cA ad a1 h Q := by
  show mJ l D cA ad 1 cX12_push 3 (some .int) 0 [(0, (2, ((0 : Nat) : Int))), (1, (0, a1))] [] h Q
  refine ja_aload_n dpush_0 rfl rfl ?_
  refine fg_frames (v := h 0 150) rfl dpush_1 ?_
  have f1 := gF_frames g
  refine ja_istore_n dpush_4 rfl (by decide) (L2 := [(2, (0, (h 0 150))), (0, (2, ((0 : Nat) : Int))), (1, (0, a1))]) rfl ?_
  refine ja_aload_n dpush_5 rfl rfl ?_
  refine ja_dup dpush_6 (by decide) ?_
  refine fg_frames (v := h 0 150) rfl dpush_7 ?_
  refine ja_iconst dpush_10 ?_
  refine ja_iadd dpush_11 ?_
  have g2 := gP_frames g (x := (h 0 150) + 1) ⟨by omega, by omega⟩
  refine fp_frames dpush_12 ?_
  refine ja_aload_n dpush_15 rfl rfl ?_
  refine fa_frameType dpush_16 ?_
  refine ja_iload_n dpush_19 rfl rfl ?_
  refine ja_iload_n dpush_20 rfl rfl ?_
  have g3 := gW_frameType g2 (h 0 150).toNat (x := a1) ⟨by omega, by omega⟩
  refine is_frameType ⟨by omega, by omega⟩ dpush_21 ?_
  refine ja_iload_n dpush_22 rfl rfl ?_
  refine ja_ireturn dpush_23 rfl ?_
  exact mo_fin (by omega) rfl (k1 g3)
theorem t_push {a1 : Int} {d nL pc : Nat} {cc : ByteArray} {rt : Option FieldType} {L : List (Nat × ja_V)} {S : List ja_V} {h : ja_H} {Q : Option ja_V → ja_H → Prop} (hdd : 1 < d) (hwd : ja_wd S ≤ 8) (hd : decode cc pc = .ok (.invokevirtual 1021, 3)) (g : mo_G mo_zr h) (r1 : -2147483648 ≤ a1 ∧ a1 ≤ 2147483647) (p1 : 0 ≤ a1 ∧ a1 ≤ 5) (p2 : (h 0 150) < 3000) (k1 : mo_G mo_zr (ja_up (ja_up h 0 150 ((h 0 150) + 1)) 96 (((h 0 150)).toNat) a1) → mJ l D cA ad d cc nL rt (pc + 3) L ((0, (h 0 150)) :: S) (ja_up (ja_up h 0 150 ((h 0 150) + 1)) 96 (((h 0 150)).toNat) a1) Q) : mJ l D cA ad d cc nL rt pc L ((0, a1) :: (2, ((0 : Nat) : Int)) :: S) h Q :=
  mc_push hdd hwd hd (s_push g r1 p1 p2 k1)
end
theorem dresult_0 : decode cX12_result 0 = .ok (.aload_n 0, 1) := by decide +kernel
theorem dresult_1 : decode cX12_result 1 = .ok (.iconst 1, 1) := by decide +kernel
theorem dresult_2 : decode cX12_result 2 = .ok (.putfield 1008, 3) := by decide +kernel
theorem dresult_5 : decode cX12_result 5 = .ok (.aload_n 0, 1) := by decide +kernel
theorem dresult_6 : decode cX12_result 6 = .ok (.iconst 0, 1) := by decide +kernel
theorem dresult_7 : decode cX12_result 7 = .ok (.putfield 1024, 3) := by decide +kernel
theorem dresult_10 : decode cX12_result 10 = .ok (.aload_n 0, 1) := by decide +kernel
theorem dresult_11 : decode cX12_result 11 = .ok (.iload_n 1, 1) := by decide +kernel
theorem dresult_12 : decode cX12_result 12 = .ok (.putfield 1027, 3) := by decide +kernel
theorem dresult_15 : decode cX12_result 15 = .ok (.aload_n 0, 1) := by decide +kernel
theorem dresult_16 : decode cX12_result 16 = .ok (.iload_n 2, 1) := by decide +kernel
theorem dresult_17 : decode cX12_result 17 = .ok (.putfield 1030, 3) := by decide +kernel
theorem dresult_20 : decode cX12_result 20 = .ok (.return_, 1) := by decide +kernel
section
variable {l : Launch} {D : va_G} {cA : Nat → ClassId} {ad : Nat → Nat}
theorem s_result {a1 a2 : Int} {h : ja_H} {Q : Option ja_V → ja_H → Prop} (g : mo_G mo_zr h) (r1 : -2147483648 ≤ a1 ∧ a1 ≤ 2147483647) (r2 : -2147483648 ≤ a2 ∧ a2 ≤ 2147483647) (p1 : 0 ≤ a1 ∧ a1 ≤ 2) (k1 : mo_G mo_zr (ja_up (ja_up (ja_up (ja_up h 0 186 1) 0 187 0) 0 188 a1) 0 189 a2) → Q none (ja_up (ja_up (ja_up (ja_up h 0 186 1) 0 187 0) 0 188 a1) 0 189 a2)) : mM_result l D cA ad a1 a2 h Q := by
  show mJ l D cA ad 1 cX12_result 3 none 0 [(0, (2, ((0 : Nat) : Int))), (1, (0, a1)), (2, (0, a2))] [] h Q
  refine ja_aload_n dresult_0 rfl rfl ?_
  refine ja_iconst dresult_1 ?_
  have g1 := gP_under g (x := 1) ⟨by decide, by decide⟩
  refine fp_under dresult_2 ?_
  refine ja_aload_n dresult_5 rfl rfl ?_
  refine ja_iconst dresult_6 ?_
  have g2 := gP_resultFails g1 (x := 0) ⟨by decide, by decide⟩
  refine fp_resultFails (by omega) dresult_7 ?_
  refine ja_aload_n dresult_10 rfl rfl ?_
  refine ja_iload_n dresult_11 rfl rfl ?_
  have g3 := gP_resultKind g2 (x := a1) ⟨by omega, by omega⟩
  refine fp_resultKind dresult_12 ?_
  refine ja_aload_n dresult_15 rfl rfl ?_
  refine ja_iload_n dresult_16 rfl rfl ?_
  have g4 := gP_resultValue g3 (x := a2) ⟨by omega, by omega⟩
  refine fp_resultValue dresult_17 ?_
  refine ja_return dresult_20 rfl ?_
  exact k1 g4
theorem t_result {a1 a2 : Int} {d nL pc : Nat} {cc : ByteArray} {rt : Option FieldType} {L : List (Nat × ja_V)} {S : List ja_V} {h : ja_H} {Q : Option ja_V → ja_H → Prop} (hdd : 1 < d) (hwd : ja_wd S ≤ 8) (hd : decode cc pc = .ok (.invokevirtual 1051, 3)) (g : mo_G mo_zr h) (r1 : -2147483648 ≤ a1 ∧ a1 ≤ 2147483647) (r2 : -2147483648 ≤ a2 ∧ a2 ≤ 2147483647) (p1 : 0 ≤ a1 ∧ a1 ≤ 2) (k1 : mo_G mo_zr (ja_up (ja_up (ja_up (ja_up h 0 186 1) 0 187 0) 0 188 a1) 0 189 a2) → mJ l D cA ad d cc nL rt (pc + 3) L S (ja_up (ja_up (ja_up (ja_up h 0 186 1) 0 187 0) 0 188 a1) 0 189 a2) Q) : mJ l D cA ad d cc nL rt pc L ((0, a2) :: (0, a1) :: (2, ((0 : Nat) : Int)) :: S) h Q :=
  mc_result hdd hwd hd (s_result g r1 r2 p1 k1)
end
theorem dfails_0 : decode cX12_fails 0 = .ok (.aload_n 0, 1) := by decide +kernel
theorem dfails_1 : decode cX12_fails 1 = .ok (.iconst 1, 1) := by decide +kernel
theorem dfails_2 : decode cX12_fails 2 = .ok (.putfield 1008, 3) := by decide +kernel
theorem dfails_5 : decode cX12_fails 5 = .ok (.aload_n 0, 1) := by decide +kernel
theorem dfails_6 : decode cX12_fails 6 = .ok (.iconst 1, 1) := by decide +kernel
theorem dfails_7 : decode cX12_fails 7 = .ok (.putfield 1024, 3) := by decide +kernel
theorem dfails_10 : decode cX12_fails 10 = .ok (.aload_n 0, 1) := by decide +kernel
theorem dfails_11 : decode cX12_fails 11 = .ok (.iconst 1, 1) := by decide +kernel
theorem dfails_12 : decode cX12_fails 12 = .ok (.putfield 1027, 3) := by decide +kernel
theorem dfails_15 : decode cX12_fails 15 = .ok (.aload_n 0, 1) := by decide +kernel
theorem dfails_16 : decode cX12_fails 16 = .ok (.iload_n 1, 1) := by decide +kernel
theorem dfails_17 : decode cX12_fails 17 = .ok (.putfield 1030, 3) := by decide +kernel
theorem dfails_20 : decode cX12_fails 20 = .ok (.return_, 1) := by decide +kernel
section
variable {l : Launch} {D : va_G} {cA : Nat → ClassId} {ad : Nat → Nat}
theorem s_fails {a1 : Int} {h : ja_H} {Q : Option ja_V → ja_H → Prop} (g : mo_G mo_zr h) (r1 : -2147483648 ≤ a1 ∧ a1 ≤ 2147483647) (k1 : mo_G mo_zr (ja_up (ja_up (ja_up (ja_up h 0 186 1) 0 187 1) 0 188 1) 0 189 a1) → Q none (ja_up (ja_up (ja_up (ja_up h 0 186 1) 0 187 1) 0 188 1) 0 189 a1)) : mM_fails l D cA ad a1 h Q := by
  show mJ l D cA ad 1 cX12_fails 2 none 0 [(0, (2, ((0 : Nat) : Int))), (1, (0, a1))] [] h Q
  refine ja_aload_n dfails_0 rfl rfl ?_
  refine ja_iconst dfails_1 ?_
  have g1 := gP_under g (x := 1) ⟨by decide, by decide⟩
  refine fp_under dfails_2 ?_
  refine ja_aload_n dfails_5 rfl rfl ?_
  refine ja_iconst dfails_6 ?_
  have g2 := gP_resultFails g1 (x := 1) ⟨by decide, by decide⟩
  refine fp_resultFails (by omega) dfails_7 ?_
  refine ja_aload_n dfails_10 rfl rfl ?_
  refine ja_iconst dfails_11 ?_
  have g3 := gP_resultKind g2 (x := 1) ⟨by decide, by decide⟩
  refine fp_resultKind dfails_12 ?_
  refine ja_aload_n dfails_15 rfl rfl ?_
  refine ja_iload_n dfails_16 rfl rfl ?_
  have g4 := gP_resultValue g3 (x := a1) ⟨by omega, by omega⟩
  refine fp_resultValue dfails_17 ?_
  refine ja_return dfails_20 rfl ?_
  exact k1 g4
theorem t_fails {a1 : Int} {d nL pc : Nat} {cc : ByteArray} {rt : Option FieldType} {L : List (Nat × ja_V)} {S : List ja_V} {h : ja_H} {Q : Option ja_V → ja_H → Prop} (hdd : 1 < d) (hwd : ja_wd S ≤ 8) (hd : decode cc pc = .ok (.invokevirtual 1072, 3)) (g : mo_G mo_zr h) (r1 : -2147483648 ≤ a1 ∧ a1 ≤ 2147483647) (k1 : mo_G mo_zr (ja_up (ja_up (ja_up (ja_up h 0 186 1) 0 187 1) 0 188 1) 0 189 a1) → mJ l D cA ad d cc nL rt (pc + 3) L S (ja_up (ja_up (ja_up (ja_up h 0 186 1) 0 187 1) 0 188 1) 0 189 a1) Q) : mJ l D cA ad d cc nL rt pc L ((0, a1) :: (2, ((0 : Nat) : Int)) :: S) h Q :=
  mc_fails hdd hwd hd (s_fails g r1 k1)
end
theorem dput_0 : decode cX12_put 0 = .ok (.aload_n 0, 1) := by decide +kernel
theorem dput_1 : decode cX12_put 1 = .ok (.getfield 291, 3) := by decide +kernel
theorem dput_4 : decode cX12_put 4 = .ok (.aload_n 0, 1) := by decide +kernel
theorem dput_5 : decode cX12_put 5 = .ok (.getfield 993, 3) := by decide +kernel
theorem dput_8 : decode cX12_put 8 = .ok (.iload_n 1, 1) := by decide +kernel
theorem dput_9 : decode cX12_put 9 = .ok (.iastore, 1) := by decide +kernel
theorem dput_10 : decode cX12_put 10 = .ok (.aload_n 0, 1) := by decide +kernel
theorem dput_11 : decode cX12_put 11 = .ok (.getfield 294, 3) := by decide +kernel
theorem dput_14 : decode cX12_put 14 = .ok (.aload_n 0, 1) := by decide +kernel
theorem dput_15 : decode cX12_put 15 = .ok (.getfield 993, 3) := by decide +kernel
theorem dput_18 : decode cX12_put 18 = .ok (.iload_n 2, 1) := by decide +kernel
theorem dput_19 : decode cX12_put 19 = .ok (.iastore, 1) := by decide +kernel
theorem dput_20 : decode cX12_put 20 = .ok (.aload_n 0, 1) := by decide +kernel
theorem dput_21 : decode cX12_put 21 = .ok (.dup, 1) := by decide +kernel
theorem dput_22 : decode cX12_put 22 = .ok (.getfield 993, 3) := by decide +kernel
theorem dput_25 : decode cX12_put 25 = .ok (.iconst 1, 1) := by decide +kernel
theorem dput_26 : decode cX12_put 26 = .ok (.iadd, 1) := by decide +kernel
theorem dput_27 : decode cX12_put 27 = .ok (.putfield 993, 3) := by decide +kernel
theorem dput_30 : decode cX12_put 30 = .ok (.return_, 1) := by decide +kernel
section
variable {l : Launch} {D : va_G} {cA : Nat → ClassId} {ad : Nat → Nat}
theorem s_put {a1 a2 : Int} {h : ja_H} {Q : Option ja_V → ja_H → Prop} (g : mo_G mo_zr h) (r1 : -2147483648 ≤ a1 ∧ a1 ≤ 2147483647) (r2 : -2147483648 ≤ a2 ∧ a2 ≤ 2147483647) (p1 : 0 ≤ a1 ∧ a1 ≤ 2) (p2 : (h 0 149) < 6000) (k1 : mo_G mo_zr (ja_up (ja_up (ja_up h 94 (((h 0 149)).toNat) a1) 95 (((h 0 149)).toNat) a2) 0 149 ((h 0 149) + 1)) → Q none (ja_up (ja_up (ja_up h 94 (((h 0 149)).toNat) a1) 95 (((h 0 149)).toNat) a2) 0 149 ((h 0 149) + 1))) : mM_put l D cA ad a1 a2 h Q := by
  show mJ l D cA ad 1 cX12_put 3 none 0 [(0, (2, ((0 : Nat) : Int))), (1, (0, a1)), (2, (0, a2))] [] h Q
  refine ja_aload_n dput_0 rfl rfl ?_
  refine fa_pileKind dput_1 ?_
  refine ja_aload_n dput_4 rfl rfl ?_
  refine fg_pile (v := h 0 149) rfl dput_5 ?_
  have f1 := gF_pile g
  refine ja_iload_n dput_8 rfl rfl ?_
  have g2 := gW_pileKind g (h 0 149).toNat (x := a1) ⟨by omega, by omega⟩
  refine is_pileKind ⟨by omega, by omega⟩ dput_9 ?_
  refine ja_aload_n dput_10 rfl rfl ?_
  refine fa_pileValue dput_11 ?_
  refine ja_aload_n dput_14 rfl rfl ?_
  refine fg_pile (v := h 0 149) rfl dput_15 ?_
  refine ja_iload_n dput_18 rfl rfl ?_
  have g3 := gW_pileValue g2 (h 0 149).toNat (x := a2) ⟨by omega, by omega⟩
  refine is_pileValue ⟨by omega, by omega⟩ dput_19 ?_
  refine ja_aload_n dput_20 rfl rfl ?_
  refine ja_dup dput_21 (by decide) ?_
  refine fg_pile (v := h 0 149) rfl dput_22 ?_
  refine ja_iconst dput_25 ?_
  refine ja_iadd dput_26 ?_
  have g4 := gP_pile g3 (x := (h 0 149) + 1) ⟨by omega, by omega⟩
  refine fp_pile dput_27 ?_
  refine ja_return dput_30 rfl ?_
  exact k1 g4
theorem t_put {a1 a2 : Int} {d nL pc : Nat} {cc : ByteArray} {rt : Option FieldType} {L : List (Nat × ja_V)} {S : List ja_V} {h : ja_H} {Q : Option ja_V → ja_H → Prop} (hdd : 1 < d) (hwd : ja_wd S ≤ 8) (hd : decode cc pc = .ok (.invokevirtual 1045, 3)) (g : mo_G mo_zr h) (r1 : -2147483648 ≤ a1 ∧ a1 ≤ 2147483647) (r2 : -2147483648 ≤ a2 ∧ a2 ≤ 2147483647) (p1 : 0 ≤ a1 ∧ a1 ≤ 2) (p2 : (h 0 149) < 6000) (k1 : mo_G mo_zr (ja_up (ja_up (ja_up h 94 (((h 0 149)).toNat) a1) 95 (((h 0 149)).toNat) a2) 0 149 ((h 0 149) + 1)) → mJ l D cA ad d cc nL rt (pc + 3) L S (ja_up (ja_up (ja_up h 94 (((h 0 149)).toNat) a1) 95 (((h 0 149)).toNat) a2) 0 149 ((h 0 149) + 1)) Q) : mJ l D cA ad d cc nL rt pc L ((0, a2) :: (0, a1) :: (2, ((0 : Nat) : Int)) :: S) h Q :=
  mc_put hdd hwd hd (s_put g r1 r2 p1 p2 k1)
end
theorem disTrue_0 : decode cX12_isTrue 0 = .ok (.iload_n 0, 1) := by decide +kernel
theorem disTrue_1 : decode cX12_isTrue 1 = .ok (.iconst 2, 1) := by decide +kernel
theorem disTrue_2 : decode cX12_isTrue 2 = .ok (.if_icmp .eq 12, 3) := by decide +kernel
theorem disTrue_5 : decode cX12_isTrue 5 = .ok (.iload_n 0, 1) := by decide +kernel
theorem disTrue_6 : decode cX12_isTrue 6 = .ok (.iconst 1, 1) := by decide +kernel
theorem disTrue_7 : decode cX12_isTrue 7 = .ok (.if_icmp .ne 11, 3) := by decide +kernel
theorem disTrue_10 : decode cX12_isTrue 10 = .ok (.iload_n 1, 1) := by decide +kernel
theorem disTrue_11 : decode cX12_isTrue 11 = .ok (.ifCond .eq 7, 3) := by decide +kernel
theorem disTrue_14 : decode cX12_isTrue 14 = .ok (.iconst 1, 1) := by decide +kernel
theorem disTrue_15 : decode cX12_isTrue 15 = .ok (.goto 4, 3) := by decide +kernel
theorem disTrue_18 : decode cX12_isTrue 18 = .ok (.iconst 0, 1) := by decide +kernel
theorem disTrue_19 : decode cX12_isTrue 19 = .ok (.ireturn, 1) := by decide +kernel
section
variable {l : Launch} {D : va_G} {cA : Nat → ClassId} {ad : Nat → Nat}
theorem s_isTrue {a1 a2 : Int} {h : ja_H} {Q : Option ja_V → ja_H → Prop} (g : mo_G mo_zr h) (r1 : -2147483648 ≤ a1 ∧ a1 ≤ 2147483647) (r2 : -2147483648 ≤ a2 ∧ a2 ≤ 2147483647) (k1 : ∀ (v : Int), (0 ≤ v ∧ v ≤ 1) → Q (some (0, v)) h) : mM_isTrue l D cA ad a1 a2 h Q := by
  show mJ l D cA ad 1 cX12_isTrue 2 (some .boolean) 0 [(0, (0, a1)), (1, (0, a2))] [] h Q
  refine ja_iload_n disTrue_0 rfl rfl ?_
  refine ja_iconst disTrue_1 ?_
  refine ja_icmp_eq 14 disTrue_2 rfl ⟨by omega, by omega⟩ ⟨by decide, by decide⟩ (fun c2 => ?_) (fun c2 => ?_)
  · refine ja_iconst disTrue_14 ?_
    refine ja_goto 19 disTrue_15 rfl ?_
    refine ja_zreturn disTrue_19 rfl (by omega) ?_
    exact mo_fin (by omega) rfl (k1 1 (by omega))
  · refine ja_iload_n disTrue_5 rfl rfl ?_
    refine ja_iconst disTrue_6 ?_
    refine ja_icmp_ne 18 disTrue_7 rfl ⟨by omega, by omega⟩ ⟨by decide, by decide⟩ (fun c7 => ?_) (fun c7 => ?_)
    · refine ja_iconst disTrue_18 ?_
      refine ja_zreturn disTrue_19 rfl (by omega) ?_
      exact mo_fin (by omega) rfl (k1 0 (by omega))
    · refine ja_iload_n disTrue_10 rfl rfl ?_
      refine ja_if_eq 18 disTrue_11 rfl ⟨by omega, by omega⟩ (fun c11 => ?_) (fun c11 => ?_)
      · refine ja_iconst disTrue_18 ?_
        refine ja_zreturn disTrue_19 rfl (by omega) ?_
        exact mo_fin (by omega) rfl (k1 0 (by omega))
      · refine ja_iconst disTrue_14 ?_
        refine ja_goto 19 disTrue_15 rfl ?_
        refine ja_zreturn disTrue_19 rfl (by omega) ?_
        exact mo_fin (by omega) rfl (k1 1 (by omega))
theorem t_isTrue {a1 a2 : Int} {d nL pc : Nat} {cc : ByteArray} {rt : Option FieldType} {L : List (Nat × ja_V)} {S : List ja_V} {h : ja_H} {Q : Option ja_V → ja_H → Prop} (hdd : 1 < d) (hwd : ja_wd S ≤ 8) (hd : decode cc pc = .ok (.invokestatic 1111, 3)) (g : mo_G mo_zr h) (r1 : -2147483648 ≤ a1 ∧ a1 ≤ 2147483647) (r2 : -2147483648 ≤ a2 ∧ a2 ≤ 2147483647) (k1 : ∀ (v : Int), (0 ≤ v ∧ v ≤ 1) → mJ l D cA ad d cc nL rt (pc + 3) L ((0, v) :: S) h Q) : mJ l D cA ad d cc nL rt pc L ((0, a2) :: (0, a1) :: S) h Q :=
  mc_isTrue hdd hwd hd (s_isTrue g r1 r2 k1)
end
theorem disOf_0 : decode cX12_isOf 0 = .ok (.iload_n 1, 1) := by decide +kernel
theorem disOf_1 : decode cX12_isOf 1 = .ok (.iconst 2, 1) := by decide +kernel
theorem disOf_2 : decode cX12_isOf 2 = .ok (.if_icmp .ne 26, 3) := by decide +kernel
theorem disOf_5 : decode cX12_isOf 5 = .ok (.aload_n 0, 1) := by decide +kernel
theorem disOf_6 : decode cX12_isOf 6 = .ok (.getfield 261, 3) := by decide +kernel
theorem disOf_9 : decode cX12_isOf 9 = .ok (.iload_n 3, 1) := by decide +kernel
theorem disOf_10 : decode cX12_isOf 10 = .ok (.iaload, 1) := by decide +kernel
theorem disOf_11 : decode cX12_isOf 11 = .ok (.aload_n 0, 1) := by decide +kernel
theorem disOf_12 : decode cX12_isOf 12 = .ok (.getfield 276, 3) := by decide +kernel
theorem disOf_15 : decode cX12_isOf 15 = .ok (.iload_n 2, 1) := by decide +kernel
theorem disOf_16 : decode cX12_isOf 16 = .ok (.iaload, 1) := by decide +kernel
theorem disOf_17 : decode cX12_isOf 17 = .ok (.ishr, 1) := by decide +kernel
theorem disOf_18 : decode cX12_isOf 18 = .ok (.iconst 1, 1) := by decide +kernel
theorem disOf_19 : decode cX12_isOf 19 = .ok (.iand, 1) := by decide +kernel
theorem disOf_20 : decode cX12_isOf 20 = .ok (.iconst 1, 1) := by decide +kernel
theorem disOf_21 : decode cX12_isOf 21 = .ok (.if_icmp .ne 7, 3) := by decide +kernel
theorem disOf_24 : decode cX12_isOf 24 = .ok (.iconst 1, 1) := by decide +kernel
theorem disOf_25 : decode cX12_isOf 25 = .ok (.goto 4, 3) := by decide +kernel
theorem disOf_28 : decode cX12_isOf 28 = .ok (.iconst 0, 1) := by decide +kernel
theorem disOf_29 : decode cX12_isOf 29 = .ok (.ireturn, 1) := by decide +kernel
section
variable {l : Launch} {D : va_G} {cA : Nat → ClassId} {ad : Nat → Nat}
theorem s_isOf {a1 a2 a3 : Int} {h : ja_H} {Q : Option ja_V → ja_H → Prop} (g : mo_G mo_zr h) (r1 : -2147483648 ≤ a1 ∧ a1 ≤ 2147483647) (r2 : -2147483648 ≤ a2 ∧ a2 ≤ 2147483647) (r3 : -2147483648 ≤ a3 ∧ a3 ≤ 2147483647) (p1 : a1 = 2 → 0 ≤ a2 ∧ a2 ≤ 200) (p2 : 0 ≤ a3 ∧ a3 ≤ 12) (k1 : ∀ (v : Int), (0 ≤ v ∧ v ≤ 1) → Q (some (0, v)) h) : mM_isOf l D cA ad a1 a2 a3 h Q := by
  show mJ l D cA ad 1 cX12_isOf 4 (some .boolean) 0 [(0, (2, ((0 : Nat) : Int))), (1, (0, a1)), (2, (0, a2)), (3, (0, a3))] [] h Q
  refine ja_iload_n disOf_0 rfl rfl ?_
  refine ja_iconst disOf_1 ?_
  refine ja_icmp_ne 28 disOf_2 rfl ⟨by omega, by omega⟩ ⟨by decide, by decide⟩ (fun c2 => ?_) (fun c2 => ?_)
  · refine ja_iconst disOf_28 ?_
    refine ja_zreturn disOf_29 rfl (by omega) ?_
    exact mo_fin (by omega) rfl (k1 0 (by omega))
  · refine ja_aload_n disOf_5 rfl rfl ?_
    refine fa_below disOf_6 ?_
    refine ja_iload_n disOf_9 rfl rfl ?_
    refine il_below (v := h 84 (a3).toNat) rfl ⟨by omega, by omega⟩ disOf_10 ?_
    have f1 := gC_below g (a3).toNat
    refine ja_aload_n disOf_11 rfl rfl ?_
    refine fa_objectClass disOf_12 ?_
    refine ja_iload_n disOf_15 rfl rfl ?_
    refine il_objectClass (v := h 89 (a2).toNat) rfl ⟨by omega, by omega⟩ disOf_16 ?_
    have f2 := gC_objectClass g (a2).toNat
    refine mo_hishr disOf_17 (fun v3 rv3 => ?_)
    refine ja_iconst disOf_18 ?_
    refine mo_iandc disOf_19 (by decide) (fun v4 rv4 => ?_)
    refine ja_iconst disOf_20 ?_
    refine ja_icmp_ne 28 disOf_21 rfl ⟨by omega, by omega⟩ ⟨by decide, by decide⟩ (fun c21 => ?_) (fun c21 => ?_)
    · refine ja_iconst disOf_28 ?_
      refine ja_zreturn disOf_29 rfl (by omega) ?_
      exact mo_fin (by omega) rfl (k1 0 (by omega))
    · refine ja_iconst disOf_24 ?_
      refine ja_goto 29 disOf_25 rfl ?_
      refine ja_zreturn disOf_29 rfl (by omega) ?_
      exact mo_fin (by omega) rfl (k1 1 (by omega))
theorem t_isOf {a1 a2 a3 : Int} {d nL pc : Nat} {cc : ByteArray} {rt : Option FieldType} {L : List (Nat × ja_V)} {S : List ja_V} {h : ja_H} {Q : Option ja_V → ja_H → Prop} (hdd : 1 < d) (hwd : ja_wd S ≤ 8) (hd : decode cc pc = .ok (.invokevirtual 1105, 3)) (g : mo_G mo_zr h) (r1 : -2147483648 ≤ a1 ∧ a1 ≤ 2147483647) (r2 : -2147483648 ≤ a2 ∧ a2 ≤ 2147483647) (r3 : -2147483648 ≤ a3 ∧ a3 ≤ 2147483647) (p1 : a1 = 2 → 0 ≤ a2 ∧ a2 ≤ 200) (p2 : 0 ≤ a3 ∧ a3 ≤ 12) (k1 : ∀ (v : Int), (0 ≤ v ∧ v ≤ 1) → mJ l D cA ad d cc nL rt (pc + 3) L ((0, v) :: S) h Q) : mJ l D cA ad d cc nL rt pc L ((0, a3) :: (0, a2) :: (0, a1) :: (2, ((0 : Nat) : Int)) :: S) h Q :=
  mc_isOf hdd hwd hd (s_isOf g r1 r2 r3 p1 p2 k1)
end
theorem dasWhole_0 : decode cX12_asWhole 0 = .ok (.iload_n 0, 1) := by decide +kernel
theorem dasWhole_1 : decode cX12_asWhole 1 = .ok (.ifCond .eq 7, 3) := by decide +kernel
theorem dasWhole_4 : decode cX12_asWhole 4 = .ok (.iconst 1, 1) := by decide +kernel
theorem dasWhole_5 : decode cX12_asWhole 5 = .ok (.goto 4, 3) := by decide +kernel
theorem dasWhole_8 : decode cX12_asWhole 8 = .ok (.iconst 0, 1) := by decide +kernel
theorem dasWhole_9 : decode cX12_asWhole 9 = .ok (.ireturn, 1) := by decide +kernel
section
variable {l : Launch} {D : va_G} {cA : Nat → ClassId} {ad : Nat → Nat}
theorem s_asWhole {a1 : Int} {h : ja_H} {Q : Option ja_V → ja_H → Prop} (g : mo_G mo_zr h) (r1 : 0 ≤ a1 ∧ a1 ≤ 1) (k1 : ∀ (v : Int), (0 ≤ v ∧ v ≤ 1) → Q (some (0, v)) h) : mM_asWhole l D cA ad a1 h Q := by
  show mJ l D cA ad 1 cX12_asWhole 1 (some .int) 0 [(0, (0, a1))] [] h Q
  refine ja_iload_n dasWhole_0 rfl rfl ?_
  refine ja_if_eq 8 dasWhole_1 rfl ⟨by omega, by omega⟩ (fun c1 => ?_) (fun c1 => ?_)
  · refine ja_iconst dasWhole_8 ?_
    refine ja_ireturn dasWhole_9 rfl ?_
    exact mo_fin (by omega) rfl (k1 0 (by omega))
  · refine ja_iconst dasWhole_4 ?_
    refine ja_goto 9 dasWhole_5 rfl ?_
    refine ja_ireturn dasWhole_9 rfl ?_
    exact mo_fin (by omega) rfl (k1 1 (by omega))
theorem t_asWhole {a1 : Int} {d nL pc : Nat} {cc : ByteArray} {rt : Option FieldType} {L : List (Nat × ja_V)} {S : List ja_V} {h : ja_H} {Q : Option ja_V → ja_H → Prop} (hdd : 1 < d) (hwd : ja_wd S ≤ 8) (hd : decode cc pc = .ok (.invokestatic 1098, 3)) (g : mo_G mo_zr h) (r1 : 0 ≤ a1 ∧ a1 ≤ 1) (k1 : ∀ (v : Int), (0 ≤ v ∧ v ≤ 1) → mJ l D cA ad d cc nL rt (pc + 3) L ((0, v) :: S) h Q) : mJ l D cA ad d cc nL rt pc L ((0, a1) :: S) h Q :=
  mc_asWhole hdd hwd hd (s_asWhole g r1 k1)
end
theorem dboth_0 : decode cX12_both 0 = .ok (.iload_n 0, 1) := by decide +kernel
theorem dboth_1 : decode cX12_both 1 = .ok (.lookupswitch 137 #[(37, 91), (42, 83), (43, 75), (45, 79), (47, 87), (60, 95), (62, 109), (302, 123)], 75) := by decide +kernel
theorem dboth_76 : decode cX12_both 76 = .ok (.iload_n 1, 1) := by decide +kernel
theorem dboth_77 : decode cX12_both 77 = .ok (.iload_n 2, 1) := by decide +kernel
theorem dboth_78 : decode cX12_both 78 = .ok (.iadd, 1) := by decide +kernel
theorem dboth_79 : decode cX12_both 79 = .ok (.ireturn, 1) := by decide +kernel
theorem dboth_80 : decode cX12_both 80 = .ok (.iload_n 1, 1) := by decide +kernel
theorem dboth_81 : decode cX12_both 81 = .ok (.iload_n 2, 1) := by decide +kernel
theorem dboth_82 : decode cX12_both 82 = .ok (.isub, 1) := by decide +kernel
theorem dboth_83 : decode cX12_both 83 = .ok (.ireturn, 1) := by decide +kernel
theorem dboth_84 : decode cX12_both 84 = .ok (.iload_n 1, 1) := by decide +kernel
theorem dboth_85 : decode cX12_both 85 = .ok (.iload_n 2, 1) := by decide +kernel
theorem dboth_86 : decode cX12_both 86 = .ok (.imul, 1) := by decide +kernel
theorem dboth_87 : decode cX12_both 87 = .ok (.ireturn, 1) := by decide +kernel
theorem dboth_88 : decode cX12_both 88 = .ok (.iload_n 1, 1) := by decide +kernel
theorem dboth_89 : decode cX12_both 89 = .ok (.iload_n 2, 1) := by decide +kernel
theorem dboth_90 : decode cX12_both 90 = .ok (.idiv, 1) := by decide +kernel
theorem dboth_91 : decode cX12_both 91 = .ok (.ireturn, 1) := by decide +kernel
theorem dboth_92 : decode cX12_both 92 = .ok (.iload_n 1, 1) := by decide +kernel
theorem dboth_93 : decode cX12_both 93 = .ok (.iload_n 2, 1) := by decide +kernel
theorem dboth_94 : decode cX12_both 94 = .ok (.irem, 1) := by decide +kernel
theorem dboth_95 : decode cX12_both 95 = .ok (.ireturn, 1) := by decide +kernel
theorem dboth_96 : decode cX12_both 96 = .ok (.iload_n 1, 1) := by decide +kernel
theorem dboth_97 : decode cX12_both 97 = .ok (.iload_n 2, 1) := by decide +kernel
theorem dboth_98 : decode cX12_both 98 = .ok (.if_icmp .ge 7, 3) := by decide +kernel
theorem dboth_101 : decode cX12_both 101 = .ok (.iconst 1, 1) := by decide +kernel
theorem dboth_102 : decode cX12_both 102 = .ok (.goto 4, 3) := by decide +kernel
theorem dboth_105 : decode cX12_both 105 = .ok (.iconst 0, 1) := by decide +kernel
theorem dboth_106 : decode cX12_both 106 = .ok (.invokestatic 1098, 3) := by decide +kernel
theorem dboth_109 : decode cX12_both 109 = .ok (.ireturn, 1) := by decide +kernel
theorem dboth_110 : decode cX12_both 110 = .ok (.iload_n 1, 1) := by decide +kernel
theorem dboth_111 : decode cX12_both 111 = .ok (.iload_n 2, 1) := by decide +kernel
theorem dboth_112 : decode cX12_both 112 = .ok (.if_icmp .le 7, 3) := by decide +kernel
theorem dboth_115 : decode cX12_both 115 = .ok (.iconst 1, 1) := by decide +kernel
theorem dboth_116 : decode cX12_both 116 = .ok (.goto 4, 3) := by decide +kernel
theorem dboth_119 : decode cX12_both 119 = .ok (.iconst 0, 1) := by decide +kernel
theorem dboth_120 : decode cX12_both 120 = .ok (.invokestatic 1098, 3) := by decide +kernel
theorem dboth_123 : decode cX12_both 123 = .ok (.ireturn, 1) := by decide +kernel
theorem dboth_124 : decode cX12_both 124 = .ok (.iload_n 1, 1) := by decide +kernel
theorem dboth_125 : decode cX12_both 125 = .ok (.iload_n 2, 1) := by decide +kernel
theorem dboth_126 : decode cX12_both 126 = .ok (.if_icmp .gt 7, 3) := by decide +kernel
theorem dboth_129 : decode cX12_both 129 = .ok (.iconst 1, 1) := by decide +kernel
theorem dboth_130 : decode cX12_both 130 = .ok (.goto 4, 3) := by decide +kernel
theorem dboth_133 : decode cX12_both 133 = .ok (.iconst 0, 1) := by decide +kernel
theorem dboth_134 : decode cX12_both 134 = .ok (.invokestatic 1098, 3) := by decide +kernel
theorem dboth_137 : decode cX12_both 137 = .ok (.ireturn, 1) := by decide +kernel
theorem dboth_138 : decode cX12_both 138 = .ok (.iload_n 1, 1) := by decide +kernel
theorem dboth_139 : decode cX12_both 139 = .ok (.iload_n 2, 1) := by decide +kernel
theorem dboth_140 : decode cX12_both 140 = .ok (.if_icmp .lt 7, 3) := by decide +kernel
theorem dboth_143 : decode cX12_both 143 = .ok (.iconst 1, 1) := by decide +kernel
theorem dboth_144 : decode cX12_both 144 = .ok (.goto 4, 3) := by decide +kernel
theorem dboth_147 : decode cX12_both 147 = .ok (.iconst 0, 1) := by decide +kernel
theorem dboth_148 : decode cX12_both 148 = .ok (.invokestatic 1098, 3) := by decide +kernel
theorem dboth_151 : decode cX12_both 151 = .ok (.ireturn, 1) := by decide +kernel
section
variable {l : Launch} {D : va_G} {cA : Nat → ClassId} {ad : Nat → Nat}
theorem s_both {a1 a2 a3 : Int} {h : ja_H} {Q : Option ja_V → ja_H → Prop} (g : mo_G mo_zr h) (r1 : -2147483648 ≤ a1 ∧ a1 ≤ 2147483647) (r2 : -2147483648 ≤ a2 ∧ a2 ≤ 2147483647) (r3 : -2147483648 ≤ a3 ∧ a3 ≤ 2147483647) (p1 : ¬ ((a1 = 47 ∨ a1 = 37) ∧ a3 = 0)) (k1 : ∀ (v : Int), (-2147483648 ≤ v ∧ v ≤ 2147483647) → Q (some (0, v)) h) : mM_both l D cA ad a1 a2 a3 h Q := by
  show mJ l D cA ad 2 cX12_both 3 (some .int) 0 [(0, (0, a1)), (1, (0, a2)), (2, (0, a3))] [] h Q
  refine ja_iload_n dboth_0 rfl rfl ?_
  have T1_92 : (a1 = 37) → mJ l D cA ad 2 cX12_both 3 (some .int) 92 [(0, (0, a1)), (1, (0, a2)), (2, (0, a3))] [] h Q := by
    intro e1
    refine ja_iload_n dboth_92 rfl rfl ?_
    refine ja_iload_n dboth_93 rfl rfl ?_
    refine mo_hirem dboth_94 (by omega) ⟨by omega, by omega⟩ (fun v1 rv1 => ?_)
    refine ja_ireturn dboth_95 rfl ?_
    exact mo_fin (by omega) rfl (k1 v1 (by omega))
  have T1_84 : (a1 = 42) → mJ l D cA ad 2 cX12_both 3 (some .int) 84 [(0, (0, a1)), (1, (0, a2)), (2, (0, a3))] [] h Q := by
    intro e1
    refine ja_iload_n dboth_84 rfl rfl ?_
    refine ja_iload_n dboth_85 rfl rfl ?_
    refine mo_himul dboth_86 (fun v2 rv2 => ?_)
    refine ja_ireturn dboth_87 rfl ?_
    exact mo_fin (by omega) rfl (k1 v2 (by omega))
  have T1_76 : (a1 = 43) → mJ l D cA ad 2 cX12_both 3 (some .int) 76 [(0, (0, a1)), (1, (0, a2)), (2, (0, a3))] [] h Q := by
    intro e1
    refine ja_iload_n dboth_76 rfl rfl ?_
    refine ja_iload_n dboth_77 rfl rfl ?_
    refine mo_hiadd dboth_78 (fun v3 rv3 => ?_)
    refine ja_ireturn dboth_79 rfl ?_
    exact mo_fin (by omega) rfl (k1 v3 (by omega))
  have T1_80 : (a1 = 45) → mJ l D cA ad 2 cX12_both 3 (some .int) 80 [(0, (0, a1)), (1, (0, a2)), (2, (0, a3))] [] h Q := by
    intro e1
    refine ja_iload_n dboth_80 rfl rfl ?_
    refine ja_iload_n dboth_81 rfl rfl ?_
    refine mo_hisub dboth_82 (fun v4 rv4 => ?_)
    refine ja_ireturn dboth_83 rfl ?_
    exact mo_fin (by omega) rfl (k1 v4 (by omega))
  have T1_88 : (a1 = 47) → mJ l D cA ad 2 cX12_both 3 (some .int) 88 [(0, (0, a1)), (1, (0, a2)), (2, (0, a3))] [] h Q := by
    intro e1
    refine ja_iload_n dboth_88 rfl rfl ?_
    refine ja_iload_n dboth_89 rfl rfl ?_
    refine mo_hidiv dboth_90 (by omega) ⟨by omega, by omega⟩ (fun v5 rv5 => ?_)
    refine ja_ireturn dboth_91 rfl ?_
    exact mo_fin (by omega) rfl (k1 v5 (by omega))
  have T1_96 : (a1 = 60) → mJ l D cA ad 2 cX12_both 3 (some .int) 96 [(0, (0, a1)), (1, (0, a2)), (2, (0, a3))] [] h Q := by
    intro e1
    refine ja_iload_n dboth_96 rfl rfl ?_
    refine ja_iload_n dboth_97 rfl rfl ?_
    refine ja_icmp_ge 105 dboth_98 rfl ⟨by omega, by omega⟩ ⟨by omega, by omega⟩ (fun c98 => ?_) (fun c98 => ?_)
    · refine ja_iconst dboth_105 ?_
      refine t_asWhole (by decide) (show (0 : Nat) ≤ 8 by decide) dboth_106 g ⟨by decide, by decide⟩ ?_
      intro w6 k106_0
      refine ja_ireturn dboth_109 rfl ?_
      exact mo_fin (by omega) rfl (k1 w6 (by omega))
    · refine ja_iconst dboth_101 ?_
      refine ja_goto 106 dboth_102 rfl ?_
      refine t_asWhole (by decide) (show (0 : Nat) ≤ 8 by decide) dboth_106 g ⟨by decide, by decide⟩ ?_
      intro w7 k106_0
      refine ja_ireturn dboth_109 rfl ?_
      exact mo_fin (by omega) rfl (k1 w7 (by omega))
  have T1_110 : (a1 = 62) → mJ l D cA ad 2 cX12_both 3 (some .int) 110 [(0, (0, a1)), (1, (0, a2)), (2, (0, a3))] [] h Q := by
    intro e1
    refine ja_iload_n dboth_110 rfl rfl ?_
    refine ja_iload_n dboth_111 rfl rfl ?_
    refine ja_icmp_le 119 dboth_112 rfl ⟨by omega, by omega⟩ ⟨by omega, by omega⟩ (fun c112 => ?_) (fun c112 => ?_)
    · refine ja_iconst dboth_119 ?_
      refine t_asWhole (by decide) (show (0 : Nat) ≤ 8 by decide) dboth_120 g ⟨by decide, by decide⟩ ?_
      intro w8 k120_0
      refine ja_ireturn dboth_123 rfl ?_
      exact mo_fin (by omega) rfl (k1 w8 (by omega))
    · refine ja_iconst dboth_115 ?_
      refine ja_goto 120 dboth_116 rfl ?_
      refine t_asWhole (by decide) (show (0 : Nat) ≤ 8 by decide) dboth_120 g ⟨by decide, by decide⟩ ?_
      intro w9 k120_0
      refine ja_ireturn dboth_123 rfl ?_
      exact mo_fin (by omega) rfl (k1 w9 (by omega))
  have T1_124 : (a1 = 302) → mJ l D cA ad 2 cX12_both 3 (some .int) 124 [(0, (0, a1)), (1, (0, a2)), (2, (0, a3))] [] h Q := by
    intro e1
    refine ja_iload_n dboth_124 rfl rfl ?_
    refine ja_iload_n dboth_125 rfl rfl ?_
    refine ja_icmp_gt 133 dboth_126 rfl ⟨by omega, by omega⟩ ⟨by omega, by omega⟩ (fun c126 => ?_) (fun c126 => ?_)
    · refine ja_iconst dboth_133 ?_
      refine t_asWhole (by decide) (show (0 : Nat) ≤ 8 by decide) dboth_134 g ⟨by decide, by decide⟩ ?_
      intro w10 k134_0
      refine ja_ireturn dboth_137 rfl ?_
      exact mo_fin (by omega) rfl (k1 w10 (by omega))
    · refine ja_iconst dboth_129 ?_
      refine ja_goto 134 dboth_130 rfl ?_
      refine t_asWhole (by decide) (show (0 : Nat) ≤ 8 by decide) dboth_134 g ⟨by decide, by decide⟩ ?_
      intro w11 k134_0
      refine ja_ireturn dboth_137 rfl ?_
      exact mo_fin (by omega) rfl (k1 w11 (by omega))
  have T1_138 : (¬ a1 = 37 ∧ ¬ a1 = 42 ∧ ¬ a1 = 43 ∧ ¬ a1 = 45 ∧ ¬ a1 = 47 ∧ ¬ a1 = 60 ∧ ¬ a1 = 62 ∧ ¬ a1 = 302) → mJ l D cA ad 2 cX12_both 3 (some .int) 138 [(0, (0, a1)), (1, (0, a2)), (2, (0, a3))] [] h Q := by
    intro e1
    refine ja_iload_n dboth_138 rfl rfl ?_
    refine ja_iload_n dboth_139 rfl rfl ?_
    refine ja_icmp_lt 147 dboth_140 rfl ⟨by omega, by omega⟩ ⟨by omega, by omega⟩ (fun c140 => ?_) (fun c140 => ?_)
    · refine ja_iconst dboth_147 ?_
      refine t_asWhole (by decide) (show (0 : Nat) ≤ 8 by decide) dboth_148 g ⟨by decide, by decide⟩ ?_
      intro w12 k148_0
      refine ja_ireturn dboth_151 rfl ?_
      exact mo_fin (by omega) rfl (k1 w12 (by omega))
    · refine ja_iconst dboth_143 ?_
      refine ja_goto 148 dboth_144 rfl ?_
      refine t_asWhole (by decide) (show (0 : Nat) ≤ 8 by decide) dboth_148 g ⟨by decide, by decide⟩ ?_
      intro w13 k148_0
      refine ja_ireturn dboth_151 rfl ?_
      exact mo_fin (by omega) rfl (k1 w13 (by omega))
  rcases (by omega : a1 = 37 ∨ a1 = 42 ∨ a1 = 43 ∨ a1 = 45 ∨ a1 = 47 ∨ a1 = 60 ∨ a1 = 62 ∨ a1 = 302 ∨ (¬ a1 = 37 ∧ ¬ a1 = 42 ∧ ¬ a1 = 43 ∧ ¬ a1 = 45 ∧ ¬ a1 = 47 ∧ ¬ a1 = 60 ∧ ¬ a1 = 62 ∧ ¬ a1 = 302)) with e | e | e | e | e | e | e | e | e
  · exact ja_lookup 91 92 dboth_1 (by decide) ⟨by omega, by omega⟩ (by rw [e]; rfl) rfl (T1_92 (by omega))
  · exact ja_lookup 83 84 dboth_1 (by decide) ⟨by omega, by omega⟩ (by rw [e]; rfl) rfl (T1_84 (by omega))
  · exact ja_lookup 75 76 dboth_1 (by decide) ⟨by omega, by omega⟩ (by rw [e]; rfl) rfl (T1_76 (by omega))
  · exact ja_lookup 79 80 dboth_1 (by decide) ⟨by omega, by omega⟩ (by rw [e]; rfl) rfl (T1_80 (by omega))
  · exact ja_lookup 87 88 dboth_1 (by decide) ⟨by omega, by omega⟩ (by rw [e]; rfl) rfl (T1_88 (by omega))
  · exact ja_lookup 95 96 dboth_1 (by decide) ⟨by omega, by omega⟩ (by rw [e]; rfl) rfl (T1_96 (by omega))
  · exact ja_lookup 109 110 dboth_1 (by decide) ⟨by omega, by omega⟩ (by rw [e]; rfl) rfl (T1_110 (by omega))
  · exact ja_lookup 123 124 dboth_1 (by decide) ⟨by omega, by omega⟩ (by rw [e]; rfl) rfl (T1_124 (by omega))
  · refine ja_lookup 137 138 dboth_1 (by decide) ⟨by omega, by omega⟩ ?_ rfl (T1_138 (by omega))
    simp only [Op.lookupswitch.offset]; repeat (rw [if_neg (by omega)])
theorem t_both {a1 a2 a3 : Int} {d nL pc : Nat} {cc : ByteArray} {rt : Option FieldType} {L : List (Nat × ja_V)} {S : List ja_V} {h : ja_H} {Q : Option ja_V → ja_H → Prop} (hdd : 2 < d) (hwd : ja_wd S ≤ 8) (hd : decode cc pc = .ok (.invokestatic 1123, 3)) (g : mo_G mo_zr h) (r1 : -2147483648 ≤ a1 ∧ a1 ≤ 2147483647) (r2 : -2147483648 ≤ a2 ∧ a2 ≤ 2147483647) (r3 : -2147483648 ≤ a3 ∧ a3 ≤ 2147483647) (p1 : ¬ ((a1 = 47 ∨ a1 = 37) ∧ a3 = 0)) (k1 : ∀ (v : Int), (-2147483648 ≤ v ∧ v ≤ 2147483647) → mJ l D cA ad d cc nL rt (pc + 3) L ((0, v) :: S) h Q) : mJ l D cA ad d cc nL rt pc L ((0, a3) :: (0, a2) :: (0, a1) :: S) h Q :=
  mc_both hdd hwd hd (s_both g r1 r2 r3 p1 k1)
end
theorem dePut_0 : decode cX12_ePut 0 = .ok (.aload_n 0, 1) := by decide +kernel
theorem dePut_1 : decode cX12_ePut 1 = .ok (.getfield 417, 3) := by decide +kernel
theorem dePut_4 : decode cX12_ePut 4 = .ok (.aload_n 0, 1) := by decide +kernel
theorem dePut_5 : decode cX12_ePut 5 = .ok (.getfield 1166, 3) := by decide +kernel
theorem dePut_8 : decode cX12_ePut 8 = .ok (.iload_n 1, 1) := by decide +kernel
theorem dePut_9 : decode cX12_ePut 9 = .ok (.iastore, 1) := by decide +kernel
theorem dePut_10 : decode cX12_ePut 10 = .ok (.aload_n 0, 1) := by decide +kernel
theorem dePut_11 : decode cX12_ePut 11 = .ok (.getfield 420, 3) := by decide +kernel
theorem dePut_14 : decode cX12_ePut 14 = .ok (.aload_n 0, 1) := by decide +kernel
theorem dePut_15 : decode cX12_ePut 15 = .ok (.getfield 1166, 3) := by decide +kernel
theorem dePut_18 : decode cX12_ePut 18 = .ok (.iload_n 2, 1) := by decide +kernel
theorem dePut_19 : decode cX12_ePut 19 = .ok (.iastore, 1) := by decide +kernel
theorem dePut_20 : decode cX12_ePut 20 = .ok (.aload_n 0, 1) := by decide +kernel
theorem dePut_21 : decode cX12_ePut 21 = .ok (.dup, 1) := by decide +kernel
theorem dePut_22 : decode cX12_ePut 22 = .ok (.getfield 1166, 3) := by decide +kernel
theorem dePut_25 : decode cX12_ePut 25 = .ok (.iconst 1, 1) := by decide +kernel
theorem dePut_26 : decode cX12_ePut 26 = .ok (.iadd, 1) := by decide +kernel
theorem dePut_27 : decode cX12_ePut 27 = .ok (.putfield 1166, 3) := by decide +kernel
theorem dePut_30 : decode cX12_ePut 30 = .ok (.return_, 1) := by decide +kernel
section
variable {l : Launch} {D : va_G} {cA : Nat → ClassId} {ad : Nat → Nat}
theorem s_ePut {a1 a2 : Int} {h : ja_H} {Q : Option ja_V → ja_H → Prop} (g : mo_G mo_zr h) (r1 : -2147483648 ≤ a1 ∧ a1 ≤ 2147483647) (r2 : -2147483648 ≤ a2 ∧ a2 ≤ 2147483647) (p1 : 0 ≤ a1 ∧ a1 ≤ 2) (p2 : (h 0 206) < 64) (k1 : mo_G mo_zr (ja_up (ja_up (ja_up h 136 (((h 0 206)).toNat) a1) 137 (((h 0 206)).toNat) a2) 0 206 ((h 0 206) + 1)) → Q none (ja_up (ja_up (ja_up h 136 (((h 0 206)).toNat) a1) 137 (((h 0 206)).toNat) a2) 0 206 ((h 0 206) + 1))) : mM_ePut l D cA ad a1 a2 h Q := by
  show mJ l D cA ad 1 cX12_ePut 3 none 0 [(0, (2, ((0 : Nat) : Int))), (1, (0, a1)), (2, (0, a2))] [] h Q
  refine ja_aload_n dePut_0 rfl rfl ?_
  refine fa_ePileKind dePut_1 ?_
  refine ja_aload_n dePut_4 rfl rfl ?_
  refine fg_ePile (v := h 0 206) rfl dePut_5 ?_
  have f1 := gF_ePile g
  refine ja_iload_n dePut_8 rfl rfl ?_
  have g2 := gW_ePileKind g (h 0 206).toNat (x := a1) ⟨by omega, by omega⟩
  refine is_ePileKind ⟨by omega, by omega⟩ dePut_9 ?_
  refine ja_aload_n dePut_10 rfl rfl ?_
  refine fa_ePileValue dePut_11 ?_
  refine ja_aload_n dePut_14 rfl rfl ?_
  refine fg_ePile (v := h 0 206) rfl dePut_15 ?_
  refine ja_iload_n dePut_18 rfl rfl ?_
  have g3 := gW_ePileValue g2 (h 0 206).toNat (x := a2) ⟨by omega, by omega⟩
  refine is_ePileValue ⟨by omega, by omega⟩ dePut_19 ?_
  refine ja_aload_n dePut_20 rfl rfl ?_
  refine ja_dup dePut_21 (by decide) ?_
  refine fg_ePile (v := h 0 206) rfl dePut_22 ?_
  refine ja_iconst dePut_25 ?_
  refine ja_iadd dePut_26 ?_
  have g4 := gP_ePile g3 (x := (h 0 206) + 1) ⟨by omega, by omega⟩
  refine fp_ePile dePut_27 ?_
  refine ja_return dePut_30 rfl ?_
  exact k1 g4
theorem t_ePut {a1 a2 : Int} {d nL pc : Nat} {cc : ByteArray} {rt : Option FieldType} {L : List (Nat × ja_V)} {S : List ja_V} {h : ja_H} {Q : Option ja_V → ja_H → Prop} (hdd : 1 < d) (hwd : ja_wd S ≤ 8) (hd : decode cc pc = .ok (.invokevirtual 1172, 3)) (g : mo_G mo_zr h) (r1 : -2147483648 ≤ a1 ∧ a1 ≤ 2147483647) (r2 : -2147483648 ≤ a2 ∧ a2 ≤ 2147483647) (p1 : 0 ≤ a1 ∧ a1 ≤ 2) (p2 : (h 0 206) < 64) (k1 : mo_G mo_zr (ja_up (ja_up (ja_up h 136 (((h 0 206)).toNat) a1) 137 (((h 0 206)).toNat) a2) 0 206 ((h 0 206) + 1)) → mJ l D cA ad d cc nL rt (pc + 3) L S (ja_up (ja_up (ja_up h 136 (((h 0 206)).toNat) a1) 137 (((h 0 206)).toNat) a2) 0 206 ((h 0 206) + 1)) Q) : mJ l D cA ad d cc nL rt pc L ((0, a2) :: (0, a1) :: (2, ((0 : Nat) : Int)) :: S) h Q :=
  mc_ePut hdd hwd hd (s_ePut g r1 r2 p1 p2 k1)
end
