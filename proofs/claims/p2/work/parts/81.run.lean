/-! the reference: a row is reached (written by a program) -/
/-! the reference: a row is reached -/
def mo_RP (h : ja_H) (a1 a2 a3 a4 : Int) : ja_H := ja_up (ja_up (ja_up (ja_up (ja_up (ja_up h 0 172 ((h 0 172) + 1)) 115 ((h 0 172).toNat) a1) 116 ((h 0 172).toNat) a2) 117 ((h 0 172).toNat) a3) 118 ((h 0 172).toNat) a4) 119 ((h 0 172).toNat) (h 55 (a1).toNat)
def FRL : Nat → Nat → Bool := mo_X [] [120, 121]
def FRY : Nat → Nat → Bool := mo_X [172, 150] [115, 116, 117, 118, 119, 120, 121, 96, 102]
/-- ahead of what it holds -/
def rpY (h y : ja_H) (a1 a2 : Int) : Prop := mo_ag FRY h y ∧ ((y 0 172) = (h 0 172) + 1 ∧ (y 0 150) = (h 0 150) + 1) ∧ (∀ j : Nat, j ≠ ((h 0 172)).toNat → (y 115) j = (h 115) j ∧ (y 116) j = (h 116) j) ∧ ((y 115) ((h 0 172)).toNat = a1 ∧ (y 116) ((h 0 172)).toNat = a2) ∧ (∀ j : Nat, j ≠ ((h 0 150)).toNat → (y 96) j = (h 96) j ∧ (y 102) j = (h 102) j) ∧ (y 96) ((h 0 150)).toNat = 3 ∧ (y 102) ((h 0 150)).toNat = (h 0 172)
theorem rp_y {h x : ja_H} {a1 a2 a3 a4 : Int} (ag : mo_ag FRL (mo_RP h a1 a2 a3 a4) x) : rpY h (ja_up (ja_up (ja_up x 0 150 ((x 0 150) + 1)) 96 ((x 0 150)).toNat 3) 102 ((x 0 150)).toNat (h 0 172)) a1 a2 := by
  have e1 : (x 0 150) = (h 0 150) := ag _ _ rfl
  have e2 : (x 0 172) = (h 0 172) + 1 := ag _ _ rfl
  have f1 : ∀ j, (x 115) j = (mo_RP h a1 a2 a3 a4) 115 j := fun j => ag _ _ rfl
  have f2 : ∀ j, (x 116) j = (mo_RP h a1 a2 a3 a4) 116 j := fun j => ag _ _ rfl
  have f3 : ∀ j, (x 96) j = (h 96) j := fun j => ag _ _ rfl
  have f4 : ∀ j, (x 102) j = (h 102) j := fun j => ag _ _ rfl
  refine ⟨?_, ⟨e2, by show (x 0 150) + 1 = _; rw [e1]⟩, fun j hj => ⟨?_, ?_⟩, ⟨?_, ?_⟩, fun j hj => ⟨?_, ?_⟩, ?_, ?_⟩
  · refine ag_up rfl (ag_up rfl (ag_up rfl (ag_trans (h' := mo_RP h a1 a2 a3 a4) ?_ (ag_sub (X_X (by decide) (by decide)) ag))))
    unfold mo_RP; repeat (first | exact ag_refl | refine ag_up rfl ?_)
  · exact (f1 j).trans (by simp [mo_RP, ja_up, hj])
  · exact (f2 j).trans (by simp [mo_RP, ja_up, hj])
  · exact (f1 _).trans (by simp [mo_RP, ja_up])
  · exact (f2 _).trans (by simp [mo_RP, ja_up])
  · rw [e1]; exact (by simp [ja_up, hj] : _ = (x 96) j).trans (f3 j)
  · rw [e1]; exact (by simp [ja_up, hj] : _ = (x 102) j).trans (f4 j)
  · rw [e1]; simp [ja_up]
  · rw [e1]; simp [ja_up]
/-- what a row asks of its POINT -/
def reP (h : ja_H) (a1 a2 : Int) : Prop := (0 < a2 → caN h) ∧ ((h 52) a1.toNat = 1 → caN h) ∧ (if (h 52) a1.toNat = 1 then 24 else 50) < pot h ((h 0 150) - 1).toNat ∧ (if (h 52) a1.toNat = 1 then 0 else 1) + 1 ≤ rpot h ((h 0 150) - 1).toNat
theorem rp_RW {h y : ja_H} {a1 a2 : Int} (p : rpY h y a1 a2) (q : rwI h) (h1 : a1 < (h 0 88)) (h0 : 0 ≤ (h 0 172)) (hs : 0 < a2 → caN h) : RW y := fun r hr => by
  obtain ⟨ag, ⟨e1, e2⟩, N, ⟨p1, p2⟩, -⟩ := p
  have ec : caN h → caN y := caN_e (ag _ _ rfl)
  have e3 : (y 0 88) = (h 0 88) := ag _ _ rfl
  by_cases e : r = ((h 0 172)).toNat
  · subst e; rw [p1, p2, e3]; exact ⟨h1, fun z => ec (hs z)⟩
  · rw [(N r e).1, (N r e).2, e3]
    have := q r (by omega)
    exact ⟨this.1.1, fun z => ec (this.1.2.1 z)⟩
/-- a row is reached -/
def RE (h u : ja_H) (ht st rg : Nat → Int) : Prop := RB u ht st rg ∧ RC u ht st rg 1 ∧ pnd u ∧ ((u 0 186) = 2 ∧ (u 0 150) = (h 0 150) + 1 ∧ (u 96) ((h 0 150)).toNat = 3) ∧ dAg h u ((h 0 150)).toNat ∧ mo_ag FRO h u
def FRZ : Nat → Nat → Bool := mo_X [172, 150, 197, 196, 202, 203, 131, 206, 207, 190, 191, 186] [115, 116, 117, 118, 119, 120, 121, 96, 102, 123, 124, 125, 126, 127, 132, 133, 134, 135, 130, 131, 136, 137, 1]
theorem re_fin {h y w u : ja_H} {ht st rg : Nat → Int} {a1 a2 : Int} (g : mo_G mo_zr h) (gu : mo_G mo_zr u) (b : RB h ht st rg) (q : RC h ht st rg 1) (h1 : 0 ≤ a1 ∧ a1 < (h 0 88)) (rp : reP h a1 a2) (p : rpY h y a1 a2) (ag : mo_ag FHO y w) (ho : hoR y w (h 0 172)) (agu : mo_ag (mo_X [190, 191, 186] []) w u) (u1 : (u 0 190) = (h 0 172)) (u2 : (u 0 191) = 0) (u3 : (u 0 186) = 2) (vu : VI u) : RE h u ht st rg := by
  have hf := q.1.1
  have h0 := (gF_reached g).1
  have q6 := q.2.2.2.1
  obtain ⟨r1, r2, r3, r4⟩ := rp
  obtain ⟨agy, ⟨y1, y2⟩, y3, ⟨y4, y5⟩, y6, y7, y8⟩ := p
  obtain ⟨o1, o2, o3⟩ := ho
  have agh : mo_ag FRZ h u := ag_trans (ag_sub (X_X (by decide) (by decide)) agy) (ag_trans (ag_sub (X_X (by decide) (by decide)) ag) (ag_sub (X_X (by decide) (by decide)) agu))
  have F : ∀ k j, mo_X [197, 196, 202, 203, 131, 206, 207, 190, 191, 186] [123, 124, 125, 126, 127, 132, 133, 134, 135, 130, 131, 136, 137, 1] k j = true → u k j = y k j := ag_trans (ag_sub (X_X (by decide) (by decide)) ag) (ag_sub (X_X (by decide) (by decide)) agu)
  have e1 : (u 0 172) = (h 0 172) + 1 := (F _ _ rfl).trans y1
  have e2 : (u 0 150) = (h 0 150) + 1 := (F _ _ rfl).trans y2
  have eN : ((h 0 150)).toNat = ((u 0 150) - 1).toNat := by omega
  have t3 : (u 96) ((h 0 150)).toNat = 3 := (F _ _ rfl).trans y7
  have t4 : (u 102) ((h 0 150)).toNat = (h 0 172) := (F _ _ rfl).trans y8
  have t5 : (u 115) ((h 0 172)).toNat = a1 := (F _ _ rfl).trans y4
  have t6 : (u 116) ((h 0 172)).toNat = a2 := (F _ _ rfl).trans y5
  have k1 : (u 52) = (h 52) := funext fun j => agh _ _ rfl
  have k2 : (u 0 88) = (h 0 88) := agh _ _ rfl
  have k3 : (u 0 44) = (h 0 44) := agh _ _ rfl
  have ec : caN h → caN u := caN_e (agh _ _ rfl)
  have hm : ∀ r : Nat, r ≠ ((h 0 172)).toNat → (u 123) r = (h 123) r := fun r hr => (agu _ _ rfl).trans ((o1 r hr).trans (agy _ _ rfl))
  have ha : ∀ j : Nat, ((j : Int) < 24 * (h 0 172) ∨ 24 * (h 0 172) + 24 ≤ j) → (u 124) j = (h 124) j := fun j hj => (agu _ _ rfl).trans ((o2 j hj).trans (agy _ _ rfl))
  have fa : fAg h u ((h 0 150)).toNat := fun j hj => by
    obtain ⟨z1, z2⟩ := y6 j (by omega)
    exact ⟨(F _ _ rfl).trans z1, agh _ _ rfl, agh _ _ rfl, agh _ _ rfl, agh _ _ rfl, agh _ _ rfl, (F _ _ rfl).trans z2, agh _ _ rfl⟩
  have ra : rAg h u (h 0 172) := ⟨k1, fun r hr => ⟨(F _ _ rfl).trans (y3 r (by omega)).1, hm r (by omega)⟩⟩
  have X : rwX u ((h 0 172)).toNat = (if (h 52) a1.toNat = 1 then 24 else 50) ∧ rwY u ((h 0 172)).toNat = (if (h 52) a1.toNat = 1 then 0 else 1) := by
    unfold rwX rwY; rw [t5, k1]; exact ⟨rfl, rfl⟩
  have pu : pot u ((h 0 150)).toNat = rwX u ((h 0 172)).toNat := by
    unfold pot; rw [if_neg (by omega), if_pos t3, t4]
  have ru : rpot u ((h 0 150)).toNat = rwY u ((h 0 172)).toNat := by
    unfold rpot; rw [if_neg (by omega), if_neg (by omega), t4]
  have rI : rwI u := fun r hr => by
    by_cases e : r = ((h 0 172)).toNat
    · subst e
      rw [t5, t6, k1, k2, k3]
      refine ⟨⟨h1.2, fun z => ec (r1 z), fun z => ec (r2 z)⟩, fun l hl => ?_⟩
      have eA : (u 124) = (w 124) := funext fun j => agu _ _ rfl
      have eM : (u 123) = (w 123) := funext fun j => agu _ _ rfl
      rw [eM] at hl
      rw [eA, ← (agy _ _ rfl : (y 0 44) = (h 0 44))]
      exact o3 l hl
    · obtain ⟨⟨a, b, c⟩, d⟩ := q6 r (by omega)
      rw [(F _ _ rfl : (u 115) r = (y 115) r), (F _ _ rfl : (u 116) r = (y 116) r), (y3 r e).1, (y3 r e).2, k1, k2, k3, hm r e]
      have gm := gC_heldMany g r
      exact ⟨⟨a, fun z => ec (b z), fun z => ec (c z)⟩, fun l hl => by rw [ha _ (by omega)]; exact d l hl⟩
  have rc : RC u ht st rg 1 := rc_pushn g q (ag_sub (X_sub (by decide) (by decide)) agh) e2 fa ra (by omega) (by rw [if_pos t3]; exact e1) (fun _ => t4) (fun z => by omega) (fun z => by omega) (by rw [pu, X.1]; exact r3) (by rw [ru, X.2, if_pos t3]; exact r4) rI
  have gm := gC_heldMany gu ((u 0 190)).toNat
  refine ⟨rb_ag b vu (ag_sub (X_sub (by decide) (by decide)) agh), rc, pnd_row (by rw [← eN]; exact t3) (by rw [← eN, t4, u1]) (by omega) u2 gm.1, ⟨u3, e2, t3⟩, ⟨funext fun j => agh _ _ rfl, fun j hj => ?_⟩, ag_sub (X_sub (by decide) (by decide)) agh⟩
  obtain ⟨z1, z2⟩ := y6 j (by omega)
  exact ⟨(F _ _ rfl).trans z1, agh _ _ rfl, agh _ _ rfl, agh _ _ rfl⟩
theorem dreach_0 : decode cX12_reach 0 = .ok (.aload_n 0, 1) := by decide +kernel
theorem dreach_1 : decode cX12_reach 1 = .ok (.getfield 1005, 3) := by decide +kernel
theorem dreach_4 : decode cX12_reach 4 = .ok (.istore 5, 2) := by decide +kernel
theorem dreach_6 : decode cX12_reach 6 = .ok (.aload_n 0, 1) := by decide +kernel
theorem dreach_7 : decode cX12_reach 7 = .ok (.dup, 1) := by decide +kernel
theorem dreach_8 : decode cX12_reach 8 = .ok (.getfield 1005, 3) := by decide +kernel
theorem dreach_11 : decode cX12_reach 11 = .ok (.iconst 1, 1) := by decide +kernel
theorem dreach_12 : decode cX12_reach 12 = .ok (.iadd, 1) := by decide +kernel
theorem dreach_13 : decode cX12_reach 13 = .ok (.putfield 1005, 3) := by decide +kernel
theorem dreach_16 : decode cX12_reach 16 = .ok (.aload_n 0, 1) := by decide +kernel
theorem dreach_17 : decode cX12_reach 17 = .ok (.getfield 354, 3) := by decide +kernel
theorem dreach_20 : decode cX12_reach 20 = .ok (.iload 5, 2) := by decide +kernel
theorem dreach_22 : decode cX12_reach 22 = .ok (.iload_n 1, 1) := by decide +kernel
theorem dreach_23 : decode cX12_reach 23 = .ok (.iastore, 1) := by decide +kernel
theorem dreach_24 : decode cX12_reach 24 = .ok (.aload_n 0, 1) := by decide +kernel
theorem dreach_25 : decode cX12_reach 25 = .ok (.getfield 357, 3) := by decide +kernel
theorem dreach_28 : decode cX12_reach 28 = .ok (.iload 5, 2) := by decide +kernel
theorem dreach_30 : decode cX12_reach 30 = .ok (.iload_n 2, 1) := by decide +kernel
theorem dreach_31 : decode cX12_reach 31 = .ok (.iastore, 1) := by decide +kernel
theorem dreach_32 : decode cX12_reach 32 = .ok (.aload_n 0, 1) := by decide +kernel
theorem dreach_33 : decode cX12_reach 33 = .ok (.getfield 360, 3) := by decide +kernel
theorem dreach_36 : decode cX12_reach 36 = .ok (.iload 5, 2) := by decide +kernel
theorem dreach_38 : decode cX12_reach 38 = .ok (.iload_n 3, 1) := by decide +kernel
theorem dreach_39 : decode cX12_reach 39 = .ok (.iastore, 1) := by decide +kernel
theorem dreach_40 : decode cX12_reach 40 = .ok (.aload_n 0, 1) := by decide +kernel
theorem dreach_41 : decode cX12_reach 41 = .ok (.getfield 363, 3) := by decide +kernel
theorem dreach_44 : decode cX12_reach 44 = .ok (.iload 5, 2) := by decide +kernel
theorem dreach_46 : decode cX12_reach 46 = .ok (.iload 4, 2) := by decide +kernel
theorem dreach_48 : decode cX12_reach 48 = .ok (.iastore, 1) := by decide +kernel
theorem dreach_49 : decode cX12_reach 49 = .ok (.aload_n 0, 1) := by decide +kernel
theorem dreach_50 : decode cX12_reach 50 = .ok (.getfield 366, 3) := by decide +kernel
theorem dreach_53 : decode cX12_reach 53 = .ok (.iload 5, 2) := by decide +kernel
theorem dreach_55 : decode cX12_reach 55 = .ok (.aload_n 0, 1) := by decide +kernel
theorem dreach_56 : decode cX12_reach 56 = .ok (.getfield 173, 3) := by decide +kernel
theorem dreach_59 : decode cX12_reach 59 = .ok (.iload_n 1, 1) := by decide +kernel
theorem dreach_60 : decode cX12_reach 60 = .ok (.iaload, 1) := by decide +kernel
theorem dreach_61 : decode cX12_reach 61 = .ok (.iastore, 1) := by decide +kernel
theorem dreach_62 : decode cX12_reach 62 = .ok (.iconst 0, 1) := by decide +kernel
theorem dreach_63 : decode cX12_reach 63 = .ok (.istore 6, 2) := by decide +kernel
theorem dreach_65 : decode cX12_reach 65 = .ok (.iload 6, 2) := by decide +kernel
theorem dreach_67 : decode cX12_reach 67 = .ok (.bipush 6, 2) := by decide +kernel
theorem dreach_69 : decode cX12_reach 69 = .ok (.if_icmp .ge 49, 3) := by decide +kernel
theorem dreach_72 : decode cX12_reach 72 = .ok (.aload_n 0, 1) := by decide +kernel
theorem dreach_73 : decode cX12_reach 73 = .ok (.getfield 369, 3) := by decide +kernel
theorem dreach_76 : decode cX12_reach 76 = .ok (.bipush 6, 2) := by decide +kernel
theorem dreach_78 : decode cX12_reach 78 = .ok (.iload 5, 2) := by decide +kernel
theorem dreach_80 : decode cX12_reach 80 = .ok (.imul, 1) := by decide +kernel
theorem dreach_81 : decode cX12_reach 81 = .ok (.iload 6, 2) := by decide +kernel
theorem dreach_83 : decode cX12_reach 83 = .ok (.iadd, 1) := by decide +kernel
theorem dreach_84 : decode cX12_reach 84 = .ok (.aload_n 0, 1) := by decide +kernel
theorem dreach_85 : decode cX12_reach 85 = .ok (.getfield 393, 3) := by decide +kernel
theorem dreach_88 : decode cX12_reach 88 = .ok (.iload 6, 2) := by decide +kernel
theorem dreach_90 : decode cX12_reach 90 = .ok (.iaload, 1) := by decide +kernel
theorem dreach_91 : decode cX12_reach 91 = .ok (.iastore, 1) := by decide +kernel
theorem dreach_92 : decode cX12_reach 92 = .ok (.aload_n 0, 1) := by decide +kernel
theorem dreach_93 : decode cX12_reach 93 = .ok (.getfield 372, 3) := by decide +kernel
theorem dreach_96 : decode cX12_reach 96 = .ok (.bipush 6, 2) := by decide +kernel
theorem dreach_98 : decode cX12_reach 98 = .ok (.iload 5, 2) := by decide +kernel
theorem dreach_100 : decode cX12_reach 100 = .ok (.imul, 1) := by decide +kernel
theorem dreach_101 : decode cX12_reach 101 = .ok (.iload 6, 2) := by decide +kernel
theorem dreach_103 : decode cX12_reach 103 = .ok (.iadd, 1) := by decide +kernel
theorem dreach_104 : decode cX12_reach 104 = .ok (.aload_n 0, 1) := by decide +kernel
theorem dreach_105 : decode cX12_reach 105 = .ok (.getfield 396, 3) := by decide +kernel
theorem dreach_108 : decode cX12_reach 108 = .ok (.iload 6, 2) := by decide +kernel
theorem dreach_110 : decode cX12_reach 110 = .ok (.iaload, 1) := by decide +kernel
theorem dreach_111 : decode cX12_reach 111 = .ok (.iastore, 1) := by decide +kernel
theorem dreach_112 : decode cX12_reach 112 = .ok (.iinc 6 1, 3) := by decide +kernel
theorem dreach_115 : decode cX12_reach 115 = .ok (.goto (-50), 3) := by decide +kernel
theorem dreach_118 : decode cX12_reach 118 = .ok (.aload_n 0, 1) := by decide +kernel
theorem dreach_119 : decode cX12_reach 119 = .ok (.iconst 3, 1) := by decide +kernel
theorem dreach_120 : decode cX12_reach 120 = .ok (.invokevirtual 1021, 3) := by decide +kernel
theorem dreach_123 : decode cX12_reach 123 = .ok (.istore 6, 2) := by decide +kernel
theorem dreach_125 : decode cX12_reach 125 = .ok (.aload_n 0, 1) := by decide +kernel
theorem dreach_126 : decode cX12_reach 126 = .ok (.getfield 315, 3) := by decide +kernel
theorem dreach_129 : decode cX12_reach 129 = .ok (.iload 6, 2) := by decide +kernel
theorem dreach_131 : decode cX12_reach 131 = .ok (.iload 5, 2) := by decide +kernel
theorem dreach_133 : decode cX12_reach 133 = .ok (.iastore, 1) := by decide +kernel
theorem dreach_134 : decode cX12_reach 134 = .ok (.aload_n 0, 1) := by decide +kernel
theorem dreach_135 : decode cX12_reach 135 = .ok (.iload 5, 2) := by decide +kernel
theorem dreach_137 : decode cX12_reach 137 = .ok (.invokevirtual 1076, 3) := by decide +kernel
theorem dreach_140 : decode cX12_reach 140 = .ok (.aload_n 0, 1) := by decide +kernel
theorem dreach_141 : decode cX12_reach 141 = .ok (.iload 5, 2) := by decide +kernel
theorem dreach_143 : decode cX12_reach 143 = .ok (.putfield 1057, 3) := by decide +kernel
theorem dreach_146 : decode cX12_reach 146 = .ok (.aload_n 0, 1) := by decide +kernel
theorem dreach_147 : decode cX12_reach 147 = .ok (.iconst 0, 1) := by decide +kernel
theorem dreach_148 : decode cX12_reach 148 = .ok (.putfield 1060, 3) := by decide +kernel
theorem dreach_151 : decode cX12_reach 151 = .ok (.aload_n 0, 1) := by decide +kernel
theorem dreach_152 : decode cX12_reach 152 = .ok (.iconst 2, 1) := by decide +kernel
theorem dreach_153 : decode cX12_reach 153 = .ok (.putfield 1008, 3) := by decide +kernel
theorem dreach_156 : decode cX12_reach 156 = .ok (.return_, 1) := by decide +kernel
section
variable {l : Launch} {D : va_G} {cA : Nat → ClassId} {ad : Nat → Nat}
theorem s_reach {a1 a2 a3 a4 : Int} {ht st rg : Nat → Int} {h : ja_H} {Q : Option ja_V → ja_H → Prop} (g : mo_G mo_zr h) (r1 : -2147483648 ≤ a1 ∧ a1 ≤ 2147483647) (r2 : -2147483648 ≤ a2 ∧ a2 ≤ 2147483647) (r3 : -2147483648 ≤ a3 ∧ a3 ≤ 2147483647) (r4 : -2147483648 ≤ a4 ∧ a4 ≤ 2147483647) (p1 : 0 ≤ a1 ∧ a1 < (h 0 88)) (p2 : 0 ≤ a2 ∧ a2 ≤ 200) (p3 : 0 ≤ a3 ∧ a3 ≤ 2) (p4 : a3 = 2 → 0 ≤ a4 ∧ a4 ≤ 200) (p5 : a3 = 2 → caN h) (p6 : RB h ht st rg) (p7 : RC h ht st rg 1) (p8 : reP h a1 a2) (k1 : ∀ (h' : ja_H), (RE h h' ht st rg) → mo_G mo_zr h' → Q none h') : mM_reach l D cA ad a1 a2 a3 a4 h Q := by
  show mJ l D cA ad 10 cX12_reach 7 none 0 [(0, (2, ((0 : Nat) : Int))), (1, (0, a1)), (2, (0, a2)), (3, (0, a3)), (4, (0, a4))] [] h Q
  have kn_reached := gF_reached g
  have kn_frames := gF_frames g
  have hca := p5
  have hn := rc_num g p6.2.1 (by decide) p7
  have hp := gF_points g
  have hrb := p7.2.1.2
  have hpb := pot_bd g ((h 0 150) - 1).toNat
  have hre := p8.2.2.2
  have hre2 : 1 ≤ rpot h ((h 0 150) - 1).toNat := (by split at hre <;> omega)
  clear hre
  have CUT : ∀ n : Nat, (∀ (x6 : Int) (u : ja_H), mo_G mo_zr u → (-2147483648 ≤ x6 ∧ x6 ≤ 2147483647) → ((0 ≤ x6 ∧ x6 ≤ 6) ∧ mo_ag FRL (mo_RP h a1 a2 a3 a4) u ∧ VI u) → (((20 : Int) - x6).toNat) = n → mJ l D cA ad 10 cX12_reach 7 none 65 [(0, (2, ((0 : Nat) : Int))), (5, (0, (h 0 172))), (6, (0, x6))] [] u Q) := by
    intro n
    induction n using Nat.strongRecOn with
    | _ n ih =>
      skip
      · intro x6 u gu qx6 iv hm
        subst hm
        have ku_reached := gF_reached gu
        have ku_frames := gF_frames gu
        obtain ⟨iv, ag, qv⟩ := iv
        have e_frames : (u 0 150) = (h 0 150) := ag 0 150 rfl
        refine ja_iload dreach_65 rfl ?_
        refine ja_bipush 6 dreach_67 rfl ?_
        refine ja_icmp_ge 118 dreach_69 rfl ⟨by omega, by omega⟩ ⟨by decide, by decide⟩ (fun c69 => ?_) (fun c69 => ?_)
        · refine ja_aload_n dreach_118 rfl rfl ?_
          refine ja_iconst dreach_119 ?_
          refine t_push (by decide) (show (0 : Nat) ≤ 8 by decide) dreach_120 gu ⟨by decide, by decide⟩ (show 0 ≤ 3 ∧ 3 ≤ 5 by omega) (show (u 0 150) < 3000 by omega) ?_
          intro g1
          replace g1 : mo_G mo_zr (ja_up (ja_up u 0 150 ((u 0 150) + 1)) 96 ((u 0 150).toNat) 3) := g1
          show mJ l D cA ad 10 cX12_reach 7 none 123 [(0, (2, ((0 : Nat) : Int))), (5, (0, (h 0 172))), (6, (0, x6))] [(0, (u 0 150))] (ja_up (ja_up u 0 150 ((u 0 150) + 1)) 96 ((u 0 150).toNat) 3) Q
          refine ja_istore dreach_123 (by decide) (L2 := [(6, (0, (u 0 150))), (0, (2, ((0 : Nat) : Int))), (5, (0, (h 0 172)))]) rfl ?_
          refine ja_aload_n dreach_125 rfl rfl ?_
          refine fa_frameRow dreach_126 ?_
          refine ja_iload dreach_129 rfl ?_
          refine ja_iload dreach_131 rfl ?_
          have g2 := gW_frameRow g1 (u 0 150).toNat (x := h 0 172) ⟨by omega, by omega⟩
          refine is_frameRow ⟨by omega, by omega⟩ dreach_133 ?_
          refine ja_aload_n dreach_134 rfl rfl ?_
          refine ja_iload dreach_135 rfl ?_
          have hy := rp_y ag
          have hyr : (u 0 172) = (h 0 172) + 1 := ag 0 172 rfl
          refine t_hold (by decide) (show (0 : Nat) ≤ 8 by decide) dreach_137 g2 ⟨by omega, by omega⟩ (show 0 ≤ (h 0 172) ∧ (h 0 172) < (u 0 172) by omega) ((by (repeat (first | exact qv | refine vi_set (by decide) (by decide) (by decide) ?_ (by first | exact (fun z => absurd z (by decide)) | exact vi_aS qv (by decide) _ | exact (fun z => ⟨by omega, hca⟩) | exact (fun z => ⟨by omega, hca z⟩) | (intro z; exfalso; omega)) | refine vi_res ?_ (by first | exact (fun z => absurd z (by decide)) | exact vi_aS qv (by decide) _ | exact (fun z => ⟨by omega, hca⟩) | exact (fun z => ⟨by omega, hca z⟩) | (intro z; exfalso; omega)) | refine vi_arr (by decide) (by decide) ?_ | refine vi_up (by decide) (by decide) ?_)))) ((ci_g p6.2.1 (ag_sub (X_sub (by decide) (by decide)) hy.1))) ((rp_RW hy p7.2.2.2.1 p1.2 (by omega) p8.1)) ?_
          intro h3 k137_0 g4
          replace k137_0 : mo_ag FHO (ja_up (ja_up (ja_up u 0 150 ((u 0 150) + 1)) 96 ((u 0 150).toNat) 3) 102 ((u 0 150).toNat) (h 0 172)) h3 ∧ VI h3 ∧ hoR (ja_up (ja_up (ja_up u 0 150 ((u 0 150) + 1)) 96 ((u 0 150).toNat) 3) 102 ((u 0 150).toNat) (h 0 172)) h3 (h 0 172) := k137_0
          refine ja_aload_n dreach_140 rfl rfl ?_
          refine ja_iload dreach_141 rfl ?_
          have g5 := gP_restRow g4 (x := h 0 172) ⟨by omega, by omega⟩
          refine fp_restRow dreach_143 ?_
          refine ja_aload_n dreach_146 rfl rfl ?_
          refine ja_iconst dreach_147 ?_
          have g6 := gP_restLevel g5 (x := 0) ⟨by decide, by decide⟩
          refine fp_restLevel dreach_148 ?_
          refine ja_aload_n dreach_151 rfl rfl ?_
          refine ja_iconst dreach_152 ?_
          have g7 := gP_under g6 (x := 2) ⟨by decide, by decide⟩
          refine fp_under dreach_153 ?_
          refine ja_return dreach_156 rfl ?_
          exact k1 (ja_up (ja_up (ja_up h3 0 190 (h 0 172)) 0 191 0) 0 186 2) ((re_fin g g7 p6 p7 p1 p8 hy k137_0.1 k137_0.2.2 (by (repeat (first | exact ag_refl | refine ag_up rfl ?_))) (by simp [ja_up]) (by simp [ja_up]) (by simp [ja_up]) (by have qv := k137_0.2.1; exact (by (repeat (first | exact qv | refine vi_set (by decide) (by decide) (by decide) ?_ (by first | exact (fun z => absurd z (by decide)) | exact vi_aS qv (by decide) _ | exact (fun z => ⟨by omega, hca⟩) | exact (fun z => ⟨by omega, hca z⟩) | (intro z; exfalso; omega)) | refine vi_res ?_ (by first | exact (fun z => absurd z (by decide)) | exact vi_aS qv (by decide) _ | exact (fun z => ⟨by omega, hca⟩) | exact (fun z => ⟨by omega, hca z⟩) | (intro z; exfalso; omega)) | refine vi_arr (by decide) (by decide) ?_ | refine vi_up (by decide) (by decide) ?_)))))) g7
        · refine ja_aload_n dreach_72 rfl rfl ?_
          refine fa_reachKind dreach_73 ?_
          refine ja_bipush 6 dreach_76 rfl ?_
          refine ja_iload dreach_78 rfl ?_
          refine ja_imul dreach_80 ?_
          refine ja_iload dreach_81 rfl ?_
          refine ja_iadd dreach_83 ?_
          refine ja_aload_n dreach_84 rfl rfl ?_
          refine fa_argKind dreach_85 ?_
          refine ja_iload dreach_88 rfl ?_
          refine il_argKind (v := u 128 (x6).toNat) rfl ⟨by omega, by omega⟩ dreach_90 ?_
          have f8 := gC_argKind gu (x6).toNat
          have g9 := gW_reachKind gu ((6 * (h 0 172)) + x6).toNat (x := u 128 (x6).toNat) ⟨by omega, by omega⟩
          refine is_reachKind ⟨by omega, by omega⟩ dreach_91 ?_
          refine ja_aload_n dreach_92 rfl rfl ?_
          refine fa_reachValue dreach_93 ?_
          refine ja_bipush 6 dreach_96 rfl ?_
          refine ja_iload dreach_98 rfl ?_
          refine ja_imul dreach_100 ?_
          refine ja_iload dreach_101 rfl ?_
          refine ja_iadd dreach_103 ?_
          refine ja_aload_n dreach_104 rfl rfl ?_
          refine fa_argValue dreach_105 ?_
          refine ja_iload dreach_108 rfl ?_
          refine il_argValue (v := u 129 (x6).toNat) rfl ⟨by omega, by omega⟩ dreach_110 ?_
          have f10 := gC_argValue gu (x6).toNat
          have g11 := gW_reachValue g9 ((6 * (h 0 172)) + x6).toNat (x := u 129 (x6).toNat) ⟨by omega, by omega⟩
          refine is_reachValue ⟨by omega, by omega⟩ dreach_111 ?_
          refine ja_iinc dreach_112 rfl (by decide) (L2 := [(6, (0, (x6 + 1))), (0, (2, ((0 : Nat) : Int))), (5, (0, (h 0 172)))]) rfl ?_
          refine ja_goto 65 dreach_115 rfl ?_
          exact ja_wk (fun q hq => by simp only [List.mem_cons, List.not_mem_nil, or_false] at hq; rcases hq with rfl | rfl | rfl <;> rfl) ((ih (((20 : Int) - (x6 + 1)).toNat) (by omega)) (x6 + 1) (ja_up (ja_up u 120 (((6 * (h 0 172)) + x6).toNat) (u 128 (x6).toNat)) 121 (((6 * (h 0 172)) + x6).toNat) (u 129 (x6).toNat)) g11 ⟨by omega, by omega⟩ (⟨by omega, (ag_trans ag (by (repeat (first | exact ag_refl | refine ag_up rfl ?_)))), (by (repeat (first | exact qv | refine vi_set (by decide) (by decide) (by decide) ?_ (by first | exact (fun z => absurd z (by decide)) | exact vi_aS qv (by decide) _ | exact (fun z => ⟨by omega, hca⟩) | exact (fun z => ⟨by omega, hca z⟩) | (intro z; exfalso; omega)) | refine vi_res ?_ (by first | exact (fun z => absurd z (by decide)) | exact vi_aS qv (by decide) _ | exact (fun z => ⟨by omega, hca⟩) | exact (fun z => ⟨by omega, hca z⟩) | (intro z; exfalso; omega)) | refine vi_arr (by decide) (by decide) ?_ | refine vi_up (by decide) (by decide) ?_)))⟩) rfl)
  refine ja_aload_n dreach_0 rfl rfl ?_
  refine fg_reached (v := h 0 172) rfl dreach_1 ?_
  have f12 := gF_reached g
  refine ja_istore dreach_4 (by decide) (L2 := [(5, (0, (h 0 172))), (0, (2, ((0 : Nat) : Int))), (1, (0, a1)), (2, (0, a2)), (3, (0, a3)), (4, (0, a4))]) rfl ?_
  refine ja_aload_n dreach_6 rfl rfl ?_
  refine ja_dup dreach_7 (by decide) ?_
  refine fg_reached (v := h 0 172) rfl dreach_8 ?_
  refine ja_iconst dreach_11 ?_
  refine ja_iadd dreach_12 ?_
  have g13 := gP_reached g (x := (h 0 172) + 1) ⟨by omega, by omega⟩
  refine fp_reached dreach_13 ?_
  refine ja_aload_n dreach_16 rfl rfl ?_
  refine fa_reachPoint dreach_17 ?_
  refine ja_iload dreach_20 rfl ?_
  refine ja_iload_n dreach_22 rfl rfl ?_
  have g14 := gW_reachPoint g13 (h 0 172).toNat (x := a1) ⟨by omega, by omega⟩
  refine is_reachPoint ⟨by omega, by omega⟩ dreach_23 ?_
  refine ja_aload_n dreach_24 rfl rfl ?_
  refine fa_reachSelf dreach_25 ?_
  refine ja_iload dreach_28 rfl ?_
  refine ja_iload_n dreach_30 rfl rfl ?_
  have g15 := gW_reachSelf g14 (h 0 172).toNat (x := a2) ⟨by omega, by omega⟩
  refine is_reachSelf ⟨by omega, by omega⟩ dreach_31 ?_
  refine ja_aload_n dreach_32 rfl rfl ?_
  refine fa_reachTargetKind dreach_33 ?_
  refine ja_iload dreach_36 rfl ?_
  refine ja_iload_n dreach_38 rfl rfl ?_
  have g16 := gW_reachTargetKind g15 (h 0 172).toNat (x := a3) ⟨by omega, by omega⟩
  refine is_reachTargetKind ⟨by omega, by omega⟩ dreach_39 ?_
  refine ja_aload_n dreach_40 rfl rfl ?_
  refine fa_reachTarget dreach_41 ?_
  refine ja_iload dreach_44 rfl ?_
  refine ja_iload dreach_46 rfl ?_
  have g17 := gW_reachTarget g16 (h 0 172).toNat (x := a4) ⟨by omega, by omega⟩
  refine is_reachTarget ⟨by omega, by omega⟩ dreach_48 ?_
  refine ja_aload_n dreach_49 rfl rfl ?_
  refine fa_reachMany dreach_50 ?_
  refine ja_iload dreach_53 rfl ?_
  refine ja_aload_n dreach_55 rfl rfl ?_
  refine fa_pointArgs dreach_56 ?_
  refine ja_iload_n dreach_59 rfl rfl ?_
  refine il_pointArgs (v := h 55 (a1).toNat) rfl ⟨by omega, by omega⟩ dreach_60 ?_
  have f18 := gC_pointArgs g (a1).toNat
  have g19 := gW_reachMany g17 (h 0 172).toNat (x := h 55 (a1).toNat) ⟨by omega, by omega⟩
  refine is_reachMany ⟨by omega, by omega⟩ dreach_61 ?_
  refine ja_iconst dreach_62 ?_
  refine ja_istore dreach_63 (by decide) (L2 := [(6, (0, 0)), (5, (0, (h 0 172))), (0, (2, ((0 : Nat) : Int))), (1, (0, a1)), (2, (0, a2)), (3, (0, a3)), (4, (0, a4))]) rfl ?_
  exact ja_wk (fun q hq => by simp only [List.mem_cons, List.not_mem_nil, or_false] at hq; rcases hq with rfl | rfl | rfl <;> rfl) ((CUT _) 0 (ja_up (ja_up (ja_up (ja_up (ja_up (ja_up h 0 172 ((h 0 172) + 1)) 115 ((h 0 172).toNat) a1) 116 ((h 0 172).toNat) a2) 117 ((h 0 172).toNat) a3) 118 ((h 0 172).toNat) a4) 119 ((h 0 172).toNat) (h 55 (a1).toNat)) g19 ⟨by decide, by decide⟩ (⟨by omega, (show mo_ag FRL (mo_RP h a1 a2 a3 a4) (ja_up (ja_up (ja_up (ja_up (ja_up (ja_up h 0 172 ((h 0 172) + 1)) 115 ((h 0 172).toNat) a1) 116 ((h 0 172).toNat) a2) 117 ((h 0 172).toNat) a3) 118 ((h 0 172).toNat) a4) 119 ((h 0 172).toNat) (h 55 (a1).toNat)) from fun _ _ _ => rfl), (by have qv := p6.1; exact (by (repeat (first | exact qv | refine vi_set (by decide) (by decide) (by decide) ?_ (by first | exact (fun z => absurd z (by decide)) | exact vi_aS qv (by decide) _ | exact (fun z => ⟨by omega, hca⟩) | exact (fun z => ⟨by omega, hca z⟩) | (intro z; exfalso; omega)) | refine vi_res ?_ (by first | exact (fun z => absurd z (by decide)) | exact vi_aS qv (by decide) _ | exact (fun z => ⟨by omega, hca⟩) | exact (fun z => ⟨by omega, hca z⟩) | (intro z; exfalso; omega)) | refine vi_arr (by decide) (by decide) ?_ | refine vi_up (by decide) (by decide) ?_))))⟩) rfl)
theorem t_reach {a1 a2 a3 a4 : Int} {ht st rg : Nat → Int} {d nL pc : Nat} {cc : ByteArray} {rt : Option FieldType} {L : List (Nat × ja_V)} {S : List ja_V} {h : ja_H} {Q : Option ja_V → ja_H → Prop} (hdd : 10 < d) (hwd : ja_wd S ≤ 8) (hd : decode cc pc = .ok (.invokevirtual 1085, 3)) (g : mo_G mo_zr h) (r1 : -2147483648 ≤ a1 ∧ a1 ≤ 2147483647) (r2 : -2147483648 ≤ a2 ∧ a2 ≤ 2147483647) (r3 : -2147483648 ≤ a3 ∧ a3 ≤ 2147483647) (r4 : -2147483648 ≤ a4 ∧ a4 ≤ 2147483647) (p1 : 0 ≤ a1 ∧ a1 < (h 0 88)) (p2 : 0 ≤ a2 ∧ a2 ≤ 200) (p3 : 0 ≤ a3 ∧ a3 ≤ 2) (p4 : a3 = 2 → 0 ≤ a4 ∧ a4 ≤ 200) (p5 : a3 = 2 → caN h) (p6 : RB h ht st rg) (p7 : RC h ht st rg 1) (p8 : reP h a1 a2) (k1 : ∀ (h' : ja_H), (RE h h' ht st rg) → mo_G mo_zr h' → mJ l D cA ad d cc nL rt (pc + 3) L S h' Q) : mJ l D cA ad d cc nL rt pc L ((0, a4) :: (0, a3) :: (0, a2) :: (0, a1) :: (2, ((0 : Nat) : Int)) :: S) h Q :=
  mc_reach hdd hwd hd (s_reach g r1 r2 r3 r4 p1 p2 p3 p4 p5 p6 p7 p8 k1)
end
