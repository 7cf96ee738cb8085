/-! the reference: ITEMS, bars, advice (written by a program) -/
variable {Zz : Zc}
/-! the reference's parser: bars, advice -/
theorem lt_eqI {a b c : Int} (e : a = b) (q : b < c) : a < c := e ▸ q
/-- an advice behind its tree -/
def adI (h : ja_H) (ht st rg : Nat → Int) (u : ja_H) : Prop := ∃ (u1 h3 : ja_H) (ht3 st3 rg3 : Nat → Int) (tu : Int), mo_G Zz h3 ∧ ((h 0 7) < (u1 0 7) ∧ mo_ag FTU h u1) ∧ ((u1 0 85) = 0 ∧ (u1 0 44) = (h 0 44) + 1 ∧ (u1 0 52) = (h 0 52) ∧ (u1 0 57) = (h 0 57) ∧ (∀ j : Nat, j ≠ ((h 0 44)).toNat → (u1 29) j = (h 29) j) ∧ (u1 29) ((h 0 44)).toNat < (h 0 26) ∧ ((u1 0 74) = 2 ∨ (u1 0 74) = 3) ∧ (u1 0 75) ≤ 24) ∧ pi h3 (u1 0 74) 4 1 (1, (u1 0 113) - 1, ht, st, rg, fun a => a ≤ -10 ∧ pi_nf u1 a) 0 [] ht3 st3 rg3 tu ∧ (mo_ag FK u1 h3 ∧ (u1 0 7) ≤ (h3 0 7)) ∧ mo_ag FTH h3 u ∧ (h3 0 7) ≤ (u 0 7) ∧ ((u 0 11) = 0 → (h3 0 11) = 0) ∧ (u 0 109) = 0 ∧ (u 0 85) = 0 ∧ (u 0 84) = 0 ∧ (∀ j : Nat, j ≠ ((h 0 44)).toNat → (u 31) j = (h3 31) j ∧ (u 32) j = (h3 32) j) ∧ (u 31) ((h 0 44)).toNat = (h3 70) ((h3 0 109) - 1).toNat ∧ (u 37) = (h3 37) ∧ (u 38) = (h3 38)
theorem ad_ag {h u H : ja_H} {ht st rg : Nat → Int} (A : adI (Zz := Zz) h ht st rg u) (ag : mo_ag FMK u H) : adI (Zz := Zz) h ht st rg H := by
  obtain ⟨u1, h3, ht3, st3, rg3, tu, g3, a1, a2, hp, a3, agH, hat2, hf, h1, h0, h2, r1, r2, r3, r4⟩ := A
  have e1 : (H 0 7) = (u 0 7) := ag _ _ rfl
  have e2 : (H 0 11) = (u 0 11) := ag _ _ rfl
  have e3 : (H 0 109) = (u 0 109) := ag _ _ rfl
  have e4 : (H 0 85) = (u 0 85) := ag _ _ rfl
  have e5 : (H 0 84) = (u 0 84) := ag _ _ rfl
  have f1 : (H 31) = (u 31) := funext fun j => ag _ _ rfl
  have f2 : (H 32) = (u 32) := funext fun j => ag _ _ rfl
  have f3 : (H 37) = (u 37) := funext fun j => ag _ _ rfl
  have f4 : (H 38) = (u 38) := funext fun j => ag _ _ rfl
  exact ⟨u1, h3, ht3, st3, rg3, tu, g3, a1, a2, hp, a3, ag_trans agH (ag_sub (X_X (by decide) (by decide)) ag), by rw [e1]; exact hat2, by rw [e2]; exact hf, by rw [e3]; exact h1, by rw [e4]; exact h0, by rw [e5]; exact h2, by rw [f1, f2]; exact r1, by rw [f1]; exact r2, by rw [f3]; exact r3, by rw [f4]; exact r4⟩
theorem ad_start {h u : ja_H} {ht st rg : Nat → Int} {w : Int} (A : adI (Zz := Zz) h ht st rg u) : adI (Zz := Zz) h ht st rg (ja_up u 32 ((h 0 44)).toNat w) := by
  obtain ⟨u1, h3, ht3, st3, rg3, tu, g3, a1, a2, hp, a3, agH, hat2, hf, h1, h0, h2, r1, r2, r3, r4⟩ := A
  exact ⟨u1, h3, ht3, st3, rg3, tu, g3, a1, a2, hp, a3, ag_up rfl agH, hat2, hf, h1, h0, h2, fun j hj => ⟨(r1 j hj).1, by rw [mo_upJ hj]; exact (r1 j hj).2⟩, r2, r3, r4⟩
theorem ad_kp {h u : ja_H} {ht st rg : Nat → Int} (A : adI (Zz := Zz) h ht st rg u) : mo_ag FKP h u ∧ (h 0 7) < (u 0 7) ∧ (u 0 44) = (h 0 44) + 1 ∧ ((u 0 74) = 2 ∨ (u 0 74) = 3) ∧ (u 0 75) ≤ 24 := by
  obtain ⟨u1, h3, ht3, st3, rg3, tu, g3, ⟨a1, agU⟩, ⟨i1, i2, i3, i4, i5, i6, i7, i8⟩, hp, ⟨agB, hatB⟩, agH, hat2, -⟩ := A
  have e1 : (u 0 44) = (u1 0 44) := (agH _ _ rfl).trans (agB _ _ rfl)
  have e2 : (u 0 74) = (u1 0 74) := (agH _ _ rfl).trans (agB _ _ rfl)
  have e3 : (u 0 75) = (u1 0 75) := (agH _ _ rfl).trans (agB _ _ rfl)
  exact ⟨ag_trans (kp_X agU (by decide)) (ag_trans (kp_FK agB) (kp_X agH (by decide))), by omega, by omega, by omega, by omega⟩
theorem ad_blk {h u : ja_H} {ht st rg : Nat → Int} (g : mo_G Zz h) (gu : mo_G Zz u) (q : it h ht st rg) (A : adI (Zz := Zz) h ht st rg u) (b2 : (u 0 79) ≤ (u 0 77)) (b3 : (u 0 77) ≤ 10) (hst : (u 32) ((h 0 44)).toNat = (u 0 113)) : ∃ (tf : mo_TF) (ht3 st3 rg3 : Nat → Int),
    (piB (mo_L (ja_up u 0 17 0) 14 0 0 0) (u 0 74) (u 0 74) 0 tf 0 [(14, 0, 0)] ht3 st3 rg3 0 ∧ tf_ok 0 tf) ∧ ∀ (h4 : ja_H) (ht4 st4 rg4 : Nat → Int) (tu4 : Int), mo_G Zz h4 → pi h4 (u 0 74) (u 0 74) 0 tf 0 [] ht4 st4 rg4 tu4 → mo_ag FK u h4 → (u 0 7) ≤ (h4 0 7) → ∃ ht2 st2 rg2 : Nat → Int, it (mo_E h4 26 0 0) ht2 st2 rg2 := by
  obtain ⟨u1, h3, ht3, st3, rg3, tu, g3, ⟨hat, agU⟩, ⟨i1, i2, i3, i4, i5, i6, i7, i8⟩, hp, ⟨agB, hatB⟩, agH, hat2, hf, h1, h0, h2, r1, r2, r3, r4⟩ := A
  obtain ⟨⟨c1, c2, c3, c4⟩, ⟨gh, nf, hw⟩, ⟨t1, t2, t3⟩, ⟨e1, e2, e3, e4, e5, e6, e7, e8⟩, ⟨f1, f2, f3, f4, f5⟩, s1, s2, s3⟩ := tr_all g3 q hat agU hp agB hatB agH hat2 hf h0 h1 h2
  obtain ⟨z1, z2, z3, z4, z5, z6, z7, z8, z9, z10, z11, z12, z13, z14, z15, z16⟩ := c3
  have hT : pi_T u := fun k hk => by rw [h1] at hk; omega
  have bd : (u 0 74) = (u1 0 74) := (agH _ _ rfl).trans (agB _ _ rfl)
  have hB := it_block gu rfl c1 c2 hT s1 s2 s3 z4 z9 z10 z11 z12 b2 b3
  refine ⟨_, _, _, _, hB, ?_⟩
  intro h4 ht4 st4 rg4 tu4 g4 hp4 ag4 hat4
  obtain ⟨ht2, st2, rg2, hcd, hP, -, gh2, nf2⟩ := it_end g4 ⟨by omega, by omega⟩ hp4
  obtain ⟨k1, k2, k3, k4, k5, k6, k7, k8, k9, k10, -⟩ := it_num hp4
  dsimp only at k9 k10 gh2 nf2
  have gad := (gF_advices g).1
  have gw := (gF_words gu).1
  have gr := gC_adviceRoot gu ((h 0 44)).toNat
  rw [t1] at r2
  have B2 : (h4 0 31) = (u 0 31) := ag4 _ _ rfl
  have B3 : (h4 0 64) = (u 0 64) := ag4 _ _ rfl
  have B4 : (h4 0 61) = (u 0 61) := ag4 _ _ rfl
  have B5 : (h4 0 85) = (u 0 85) := ag4 _ _ rfl
  have B6 : (h4 0 41) = (u 0 41) := ag4 _ _ rfl
  have B7 : (h4 0 34) = (u 0 34) := ag4 _ _ rfl
  have B8 : (h4 0 44) = (u 0 44) := ag4 _ _ rfl
  have B9 : (h4 0 66) = (u 0 66) := ag4 _ _ rfl
  have B10 : (h4 0 67) = (u 0 67) := ag4 _ _ rfl
  have B11 : (h4 0 52) = (u 0 52) := ag4 _ _ rfl
  have B12 : (h4 0 57) = (u 0 57) := ag4 _ _ rfl
  have B13 : (h4 0 26) = (u 0 26) := ag4 _ _ rfl
  have F1 : (h4 23) = (u 23) := funext fun j => ag4 _ _ rfl
  have F2 : (h4 32) = (u 32) := funext fun j => ag4 _ _ rfl
  have F3 : (h4 31) = (u 31) := funext fun j => ag4 _ _ rfl
  have F4 : (h4 29) = (u 29) := funext fun j => ag4 _ _ rfl
  have F5 : (h4 37) = (u 37) := funext fun j => ag4 _ _ rfl
  have F6 : (h4 38) = (u 38) := funext fun j => ag4 _ _ rfl
  have F7 : (h4 18) = (u 18) := funext fun j => ag4 _ _ rfl
  have W3 : (mo_E h4 26 0 0) 0 113 = (h4 0 113) + 1 := rfl
  have ghA : ∀ j : Nat, (j : Int) < (u 0 113) → ht2 j = ht3 j ∧ st2 j = st3 j ∧ rg2 j = rg3 j := fun j hj => by
    obtain ⟨y1, y2, y3⟩ := gh2 j (by omega)
    exact ⟨y1.trans (mo_zo hj), y2.trans (mo_zo hj), y3.trans (mo_zo hj)⟩
  refine ⟨ht2, st2, rg2, hcd, hP, (show it_nn (h4 0 7) ((h4 0 113) + 1) (h4 0 95) (h4 0 68) (h4 0 72) (h4 0 31) (h4 0 41) (h4 0 64) (h4 0 61) (h4 0 18) (h4 0 84) (h4 0 87) (h4 0 86) (h4 0 85) (h4 0 109) (h4 0 66) from ?_), ?_, ?_⟩
  · refine ⟨?_, ?_, ?_, ?_, ?_, ?_, ?_, ?_, ?_, ?_, ?_, ?_, ?_, ?_, ?_, ?_⟩ <;> omega
  · refine it_S_more (h := h) (H := mo_E h4 26 0 0) g q.2.2.2.1 (by rw [W3]; omega) (fun j hj => ?_) (fun a z => nf2 a ⟨z.1, nf a z⟩) (show (h 0 26) ≤ (h4 0 26) by omega) (fun m hm => Or.inl ⟨(show (m : Int) < (h 0 34) by have z : (m : Int) < (h4 0 34) := hm; omega), (show (h4 23) m = (h 23) m by rw [F1, e2])⟩) (fun a ha => ?_) (fun z => Or.inl ⟨(show 0 < (h 0 66) by have z : 0 < (h4 0 66) := z; omega), (show (h4 0 67) = (h 0 67) by omega)⟩) (fun p hp2 => Or.inl ⟨(show (p : Int) < (h 0 52) by have z : (p : Int) < (h4 0 52) := hp2; omega), (show (h4 37) p = (h 37) p by rw [F5, r3, f1])⟩) (fun b hb => Or.inl ⟨(show (b : Int) < (h 0 57) by have z : (b : Int) < (h4 0 57) := hb; omega), (show (h4 38) b = (h 38) b by rw [F6, r4, f2])⟩)
    · obtain ⟨y1, y2, y3⟩ := ghA j (by omega)
      obtain ⟨x1, x2, x3⟩ := gh j hj
      exact ⟨y1.trans x1, y2.trans x2, y3.trans x3⟩
    · have ha' : (a : Int) < (h4 0 44) := ha
      by_cases e : a = ((h 0 44)).toNat
      · right
        have es : (mo_E h4 26 0 0) 32 a = (u 0 113) := by
          show h4 32 a = _; rw [F2, e]; exact hst
        have er : (mo_E h4 26 0 0) 31 a = (h3 70) 0 := by
          show h4 31 a = _; rw [F3, e]; exact r2
        have ea : (mo_E h4 26 0 0) 29 a = (u1 29) ((h 0 44)).toNat := by
          show h4 29 a = _; rw [F4, f5, e]
        rw [es, er, ea, W3]
        obtain ⟨y1, y2, y3⟩ := gh2 (u 0 113).toNat (by omega)
        have y3' := y3.trans mo_zn
        obtain ⟨x1, x2⟩ := nf_root (h := u) (h' := mo_E h4 26 0 0) (b := 0) (Or.inl rfl) (gC_treePile g3 0).1 ⟨t2, t3.trans i1⟩ nf2
        exact ⟨⟨gw, by omega, y1.trans mo_zn, y2.trans mo_zn, by omega⟩, x1, x2, (show _ < (h4 0 26) by omega)⟩
      · left
        refine ⟨by omega, ?_, ?_, ?_⟩
        · show h4 32 a = _; rw [F2, (r1 a e).2, f4]
        · show h4 31 a = _; rw [F3, (r1 a e).1, f3]
        · show h4 29 a = _; rw [F4, f5]; exact i5 a e
  · exact it_F_eq (h := u) (H := mo_E h4 26 0 0) c4 (show (h4 0 31) = (u 0 31) by omega) F7
def acI (h u : ja_H) : Prop := mo_ag FTU h u ∧ (h 0 7) < (u 0 7) ∧ ((u 0 11) = 0 → (h 0 11) = 0) ∧ (u 0 82) ≤ 6 ∧ ((u 0 85) = (h 0 85) ∧ (u 0 84) = (h 0 84) ∧ (u 0 44) = (h 0 44) ∧ (u 0 52) = (h 0 52) ∧ (u 0 57) = (h 0 57) ∧ ((u 0 74) = 2 ∨ (u 0 74) = 3) ∧ (u 0 75) = (h 0 44)) ∧ (∀ j : Nat, j ≠ ((h 0 44)).toNat → (u 29) j = (h 29) j) ∧ (u 29) ((h 0 44)).toNat = (h 0 76)
theorem ac_row {h h1 u : ja_H} (ag : mo_ag FPR h1 u) (e1 : ∀ j : Nat, j ≠ ((h 0 44)).toNat → (h1 29) j = (h 29) j) (e2 : (h1 29) ((h 0 44)).toNat = (h 0 76)) : (∀ j : Nat, j ≠ ((h 0 44)).toNat → (u 29) j = (h 29) j) ∧ (u 29) ((h 0 44)).toNat = (h 0 76) :=
  ⟨fun j hj => (ag _ _ rfl).trans (e1 j hj), (ag _ _ rfl).trans e2⟩
theorem dbar_0 : decode cX12_bar 0 = .ok (.aload_n 0, 1) := by decide +kernel
theorem dbar_1 : decode cX12_bar 1 = .ok (.getfield 668, 3) := by decide +kernel
theorem dbar_4 : decode cX12_bar 4 = .ok (.bipush 12, 2) := by decide +kernel
theorem dbar_6 : decode cX12_bar 6 = .ok (.if_icmp .ne 9, 3) := by decide +kernel
theorem dbar_9 : decode cX12_bar 9 = .ok (.aload_n 0, 1) := by decide +kernel
theorem dbar_10 : decode cX12_bar 10 = .ok (.iconst 3, 1) := by decide +kernel
theorem dbar_11 : decode cX12_bar 11 = .ok (.invokevirtual 583, 3) := by decide +kernel
theorem dbar_14 : decode cX12_bar 14 = .ok (.ireturn, 1) := by decide +kernel
theorem dbar_15 : decode cX12_bar 15 = .ok (.aload_n 0, 1) := by decide +kernel
theorem dbar_16 : decode cX12_bar 16 = .ok (.getfield 668, 3) := by decide +kernel
theorem dbar_19 : decode cX12_bar 19 = .ok (.istore_n 1, 1) := by decide +kernel
theorem dbar_20 : decode cX12_bar 20 = .ok (.aload_n 0, 1) := by decide +kernel
theorem dbar_21 : decode cX12_bar 21 = .ok (.getfield 128, 3) := by decide +kernel
theorem dbar_24 : decode cX12_bar 24 = .ok (.iload_n 1, 1) := by decide +kernel
theorem dbar_25 : decode cX12_bar 25 = .ok (.aload_n 0, 1) := by decide +kernel
theorem dbar_26 : decode cX12_bar 26 = .ok (.getfield 574, 3) := by decide +kernel
theorem dbar_29 : decode cX12_bar 29 = .ok (.iastore, 1) := by decide +kernel
theorem dbar_30 : decode cX12_bar 30 = .ok (.aload_n 0, 1) := by decide +kernel
theorem dbar_31 : decode cX12_bar 31 = .ok (.getfield 125, 3) := by decide +kernel
theorem dbar_34 : decode cX12_bar 34 = .ok (.iload_n 1, 1) := by decide +kernel
theorem dbar_35 : decode cX12_bar 35 = .ok (.aload_n 0, 1) := by decide +kernel
theorem dbar_36 : decode cX12_bar 36 = .ok (.bipush 42, 2) := by decide +kernel
theorem dbar_38 : decode cX12_bar 38 = .ok (.invokevirtual 596, 3) := by decide +kernel
theorem dbar_41 : decode cX12_bar 41 = .ok (.bastore, 1) := by decide +kernel
theorem dbar_42 : decode cX12_bar 42 = .ok (.aload_n 0, 1) := by decide +kernel
theorem dbar_43 : decode cX12_bar 43 = .ok (.iconst 0, 1) := by decide +kernel
theorem dbar_44 : decode cX12_bar 44 = .ok (.putfield 704, 3) := by decide +kernel
theorem dbar_47 : decode cX12_bar 47 = .ok (.aload_n 0, 1) := by decide +kernel
theorem dbar_48 : decode cX12_bar 48 = .ok (.invokevirtual 589, 3) := by decide +kernel
theorem dbar_51 : decode cX12_bar 51 = .ok (.ifCond .ne 5, 3) := by decide +kernel
theorem dbar_54 : decode cX12_bar 54 = .ok (.iconst 0, 1) := by decide +kernel
theorem dbar_55 : decode cX12_bar 55 = .ok (.ireturn, 1) := by decide +kernel
theorem dbar_56 : decode cX12_bar 56 = .ok (.aload_n 0, 1) := by decide +kernel
theorem dbar_57 : decode cX12_bar 57 = .ok (.dup, 1) := by decide +kernel
theorem dbar_58 : decode cX12_bar 58 = .ok (.getfield 668, 3) := by decide +kernel
theorem dbar_61 : decode cX12_bar 61 = .ok (.iconst 1, 1) := by decide +kernel
theorem dbar_62 : decode cX12_bar 62 = .ok (.iadd, 1) := by decide +kernel
theorem dbar_63 : decode cX12_bar 63 = .ok (.putfield 668, 3) := by decide +kernel
theorem dbar_66 : decode cX12_bar 66 = .ok (.aload_n 0, 1) := by decide +kernel
theorem dbar_67 : decode cX12_bar 67 = .ok (.iconst 1, 1) := by decide +kernel
theorem dbar_68 : decode cX12_bar 68 = .ok (.putfield 692, 3) := by decide +kernel
theorem dbar_71 : decode cX12_bar 71 = .ok (.aload_n 0, 1) := by decide +kernel
theorem dbar_72 : decode cX12_bar 72 = .ok (.invokevirtual 787, 3) := by decide +kernel
theorem dbar_75 : decode cX12_bar 75 = .ok (.ifCond .ne 5, 3) := by decide +kernel
theorem dbar_78 : decode cX12_bar 78 = .ok (.iconst 0, 1) := by decide +kernel
theorem dbar_79 : decode cX12_bar 79 = .ok (.ireturn, 1) := by decide +kernel
theorem dbar_80 : decode cX12_bar 80 = .ok (.aload_n 0, 1) := by decide +kernel
theorem dbar_81 : decode cX12_bar 81 = .ok (.iconst 0, 1) := by decide +kernel
theorem dbar_82 : decode cX12_bar 82 = .ok (.putfield 692, 3) := by decide +kernel
theorem dbar_85 : decode cX12_bar 85 = .ok (.aload_n 0, 1) := by decide +kernel
theorem dbar_86 : decode cX12_bar 86 = .ok (.dup, 1) := by decide +kernel
theorem dbar_87 : decode cX12_bar 87 = .ok (.getfield 689, 3) := by decide +kernel
theorem dbar_90 : decode cX12_bar 90 = .ok (.iconst 1, 1) := by decide +kernel
theorem dbar_91 : decode cX12_bar 91 = .ok (.isub, 1) := by decide +kernel
theorem dbar_92 : decode cX12_bar 92 = .ok (.putfield 689, 3) := by decide +kernel
theorem dbar_95 : decode cX12_bar 95 = .ok (.aload_n 0, 1) := by decide +kernel
theorem dbar_96 : decode cX12_bar 96 = .ok (.getfield 122, 3) := by decide +kernel
theorem dbar_99 : decode cX12_bar 99 = .ok (.iload_n 1, 1) := by decide +kernel
theorem dbar_100 : decode cX12_bar 100 = .ok (.aload_n 0, 1) := by decide +kernel
theorem dbar_101 : decode cX12_bar 101 = .ok (.getfield 218, 3) := by decide +kernel
theorem dbar_104 : decode cX12_bar 104 = .ok (.aload_n 0, 1) := by decide +kernel
theorem dbar_105 : decode cX12_bar 105 = .ok (.getfield 689, 3) := by decide +kernel
theorem dbar_108 : decode cX12_bar 108 = .ok (.iaload, 1) := by decide +kernel
theorem dbar_109 : decode cX12_bar 109 = .ok (.iastore, 1) := by decide +kernel
theorem dbar_110 : decode cX12_bar 110 = .ok (.aload_n 0, 1) := by decide +kernel
theorem dbar_111 : decode cX12_bar 111 = .ok (.bipush 59, 2) := by decide +kernel
theorem dbar_113 : decode cX12_bar 113 = .ok (.invokevirtual 742, 3) := by decide +kernel
theorem dbar_116 : decode cX12_bar 116 = .ok (.ireturn, 1) := by decide +kernel
section
variable {l : Launch} {D : va_G} {cA : Nat → ClassId} {ad : Nat → Nat}
theorem s_bar {ht st rg : Nat → Int} {h : ja_H} {Q : Option ja_V → ja_H → Prop} (g : mo_G Zz h) (p1 : it h ht st rg) (k1 : ∀ (h' : ja_H), ((∃ ht st rg : Nat → Int, it h' ht st rg) ∧ (h 0 7) < (h' 0 7) ∧ mo_ag FKP h h') → mo_G Zz h' → Q (some (0, 1)) h') (k2 : ∀ (h' : ja_H), (0 < (h' 0 8) ∧ (h' 0 1) = (h 0 1) ∧ (h' 0 118) = (h 0 118) ∧ (h' 0 127) = (h 0 127)) → mo_G Zz h' → Q (some (0, 0)) h') : mM_bar l D cA ad  h Q := by
  show mJ l D cA ad 9 cX12_bar 2 (some .boolean) 0 [(0, (2, ((0 : Nat) : Int)))] [] h Q
  have kn_at := gF_at g
  have kn_bars := gF_bars g
  obtain ⟨z1, z2, z3, z4, z5, z6, z7, z8, z9, z10, z11, z12, z13, z14⟩ := p1.2.2.1
  refine ja_aload_n dbar_0 rfl rfl ?_
  refine fg_bars (v := h 0 57) rfl dbar_1 ?_
  have f1 := gF_bars g
  refine ja_bipush 12 dbar_4 rfl ?_
  refine ja_icmp_ne 15 dbar_6 rfl ⟨by omega, by omega⟩ ⟨by decide, by decide⟩ (fun c6 => ?_) (fun c6 => ?_)
  · refine ja_aload_n dbar_15 rfl rfl ?_
    refine fg_bars (v := h 0 57) rfl dbar_16 ?_
    refine ja_istore_n dbar_19 rfl (by decide) (L2 := [(1, (0, (h 0 57))), (0, (2, ((0 : Nat) : Int)))]) rfl ?_
    refine ja_aload_n dbar_20 rfl rfl ?_
    refine fa_barToken dbar_21 ?_
    refine ja_iload_n dbar_24 rfl rfl ?_
    refine ja_aload_n dbar_25 rfl rfl ?_
    refine fg_at (v := h 0 7) rfl dbar_26 ?_
    have f2 := gF_at g
    have g3 := gW_barToken g (h 0 57).toNat (x := h 0 7) ⟨by omega, by omega⟩
    refine is_barToken ⟨by omega, by omega⟩ dbar_29 ?_
    refine ja_aload_n dbar_30 rfl rfl ?_
    refine fa_barWarns dbar_31 ?_
    refine ja_iload_n dbar_34 rfl rfl ?_
    refine ja_aload_n dbar_35 rfl rfl ?_
    refine ja_bipush 42 dbar_36 rfl ?_
    refine t_isWord (by decide) (show (2 : Nat) ≤ 8 by decide) dbar_38 g3 ⟨by decide, by decide⟩ ?_
    intro w4 k38_0
    replace k38_0 : (w4 = 1 ∧ (h 2 (h 0 7).toNat) = 1 ∧ (h 5 (h 0 7).toNat) = 42) ∨ (w4 = 0 ∧ ¬ ((h 2 (h 0 7).toNat) = 1 ∧ (h 5 (h 0 7).toNat) = 42)) := k38_0
    have g5 := gW_barWarns g3 (h 0 57).toNat (x := w4) ⟨by omega, by omega⟩
    refine is_barWarns ⟨by omega, by omega⟩ (by omega) dbar_41 ?_
    refine ja_aload_n dbar_42 rfl rfl ?_
    refine ja_iconst dbar_43 ?_
    have g6 := gP_params g5 (x := 0) ⟨by decide, by decide⟩
    refine fp_params dbar_44 ?_
    refine ja_aload_n dbar_47 rfl rfl ?_
    refine t_take (by decide) (show (0 : Nat) ≤ 8 by decide) dbar_48 g6  ?_ ?_
    · intro k48_0 g7
      replace k48_0 : (h 0 7) < 900 := k48_0
      replace g7 : mo_G Zz (ja_up (ja_up (ja_up (ja_up h 40 ((h 0 57).toNat) (h 0 7)) 39 ((h 0 57).toNat) w4) 0 82 0) 0 7 ((h 0 7) + 1)) := g7
      show mJ l D cA ad 9 cX12_bar 2 (some .boolean) 51 [(1, (0, (h 0 57))), (0, (2, ((0 : Nat) : Int)))] [(0, 1)] (ja_up (ja_up (ja_up (ja_up h 40 ((h 0 57).toNat) (h 0 7)) 39 ((h 0 57).toNat) w4) 0 82 0) 0 7 ((h 0 7) + 1)) Q
      refine ja_if_ne 56 dbar_51 rfl ⟨by decide, by decide⟩ (fun c51 => ?_) (fun c51 => absurd c51 (by omega))
      refine ja_aload_n dbar_56 rfl rfl ?_
      refine ja_dup dbar_57 (by decide) ?_
      refine fg_bars (v := h 0 57) rfl dbar_58 ?_
      refine ja_iconst dbar_61 ?_
      refine ja_iadd dbar_62 ?_
      have g8 := gP_bars g7 (x := (h 0 57) + 1) ⟨by omega, by omega⟩
      refine fp_bars dbar_63 ?_
      refine ja_aload_n dbar_66 rfl rfl ?_
      refine ja_iconst dbar_67 ?_
      have g9 := gP_quiet g8 (x := 1) ⟨by decide, by decide⟩
      refine fp_quiet dbar_68 ?_
      refine ja_aload_n dbar_71 rfl rfl ?_
      refine t_pickTree (by decide) (show (0 : Nat) ≤ 8 by decide) dbar_72 g9 ((tr_begin g9 p1 (ag_sub FTU_FTR (by (repeat (first | exact ag_refl | refine ag_up rfl ?_)))) (show (h 0 7) < ((h 0 7) + 1) by omega) (fun z => by have z2 : (h 0 11) = 0 := z; omega) (show (1 : Int) = 1 by omega) (by decide)).1) ((tr_begin g9 p1 (ag_sub FTU_FTR (by (repeat (first | exact ag_refl | refine ag_up rfl ?_)))) (show (h 0 7) < ((h 0 7) + 1) by omega) (fun z => by have z2 : (h 0 11) = 0 := z; omega) (show (1 : Int) = 1 by omega) (by decide)).2) ?_ ?_
      · intro h10 k72_0 g11
        obtain ⟨⟨ht3, st3, rg3, tu3, hp3⟩, agB, hatB⟩ := k72_0
        have nm := it_num hp3
        dsimp only at nm
        have hatR : ((h 0 7) + 1) ≤ (h10 0 7) := hatB
        have b_size : (h10 0 1) = (h 0 1) := agB 0 1 rfl
        have b_compiled : (h10 0 118) = (h 0 118) := agB 0 118 rfl
        have b_started : (h10 0 127) = (h 0 127) := agB 0 127 rfl
        have b_params : (h10 0 82) = 0 := agB 0 82 rfl
        have b_inPick : (h10 0 85) = (h 0 85) := agB 0 85 rfl
        have b_advices : (h10 0 44) = (h 0 44) := agB 0 44 rfl
        refine ja_if_ne 80 dbar_75 rfl ⟨by decide, by decide⟩ (fun c75 => ?_) (fun c75 => absurd c75 (by omega))
        refine ja_aload_n dbar_80 rfl rfl ?_
        refine ja_iconst dbar_81 ?_
        have g12 := gP_quiet g11 (x := 0) ⟨by decide, by decide⟩
        refine fp_quiet dbar_82 ?_
        refine ja_aload_n dbar_85 rfl rfl ?_
        refine ja_dup dbar_86 (by decide) ?_
        refine fg_treeTop (v := h10 0 109) rfl dbar_87 ?_
        have f13 := gF_treeTop g11
        refine ja_iconst dbar_90 ?_
        refine ja_isub dbar_91 ?_
        have g14 := gP_treeTop g12 (x := (h10 0 109) - 1) ⟨by omega, by omega⟩
        refine fp_treeTop dbar_92 ?_
        refine ja_aload_n dbar_95 rfl rfl ?_
        refine fa_barRoot dbar_96 ?_
        refine ja_iload_n dbar_99 rfl rfl ?_
        refine ja_aload_n dbar_100 rfl rfl ?_
        refine fa_treePile dbar_101 ?_
        refine ja_aload_n dbar_104 rfl rfl ?_
        refine fg_treeTop (v := (h10 0 109) - 1) rfl dbar_105 ?_
        refine il_treePile (v := h10 70 ((h10 0 109) - 1).toNat) rfl ⟨by omega, by omega⟩ dbar_108 ?_
        have f15 := gC_treePile g11 ((h10 0 109) - 1).toNat
        have g16 := gW_barRoot g14 (h 0 57).toNat (x := h10 70 ((h10 0 109) - 1).toNat) ⟨by omega, by omega⟩
        refine is_barRoot ⟨by omega, by omega⟩ dbar_109 ?_
        refine ja_aload_n dbar_110 rfl rfl ?_
        refine ja_bipush 59 dbar_111 rfl ?_
        refine t_sign (by decide) (show (0 : Nat) ≤ 8 by decide) dbar_113 g16 ⟨by decide, by decide⟩ ?_ ?_
        · intro k113_0 g17
          replace k113_0 : (h10 0 7) < 900 ∧ (h10 2 (h10 0 7).toNat) = 5 ∧ (h10 5 (h10 0 7).toNat) = 59 := k113_0
          replace g17 : mo_G Zz (ja_up (ja_up (ja_up (ja_up h10 0 84 0) 0 109 ((h10 0 109) - 1)) 38 ((h 0 57).toNat) (h10 70 ((h10 0 109) - 1).toNat)) 0 7 ((h10 0 7) + 1)) := g17
          show mJ l D cA ad 9 cX12_bar 2 (some .boolean) 116 [(1, (0, (h 0 57))), (0, (2, ((0 : Nat) : Int)))] [(0, 1)] (ja_up (ja_up (ja_up (ja_up h10 0 84 0) 0 109 ((h10 0 109) - 1)) 38 ((h 0 57).toNat) (h10 70 ((h10 0 109) - 1).toNat)) 0 7 ((h10 0 7) + 1)) Q
          refine ja_zreturn dbar_116 rfl (by omega) ?_
          exact mo_fin (by omega) rfl (k1 (ja_up (ja_up (ja_up (ja_up h10 0 84 0) 0 109 ((h10 0 109) - 1)) 38 ((h 0 57).toNat) (h10 70 ((h10 0 109) - 1).toNat)) 0 7 ((h10 0 7) + 1)) (⟨⟨_, _, _, bar_end g g11 p1 (show (h 0 7) < ((h 0 7) + 1) by omega) (show mo_ag FTU h (ja_up (ja_up (ja_up (ja_up (ja_up (ja_up h 40 ((h 0 57).toNat) (h 0 7)) 39 ((h 0 57).toNat) w4) 0 82 0) 0 7 ((h 0 7) + 1)) 0 57 ((h 0 57) + 1)) 0 84 1) from (by (repeat (first | exact ag_refl | refine ag_up rfl ?_)))) (show ((h 0 52) : Int) = (h 0 52) by omega) (show ((h 0 85) : Int) = 0 by omega) (show (((h 0 57) + 1) : Int) = (h 0 57) + 1 by omega) (show ((h 0 44) : Int) = (h 0 44) by omega) rfl hp3 agB hatB (by (repeat (first | exact ag_refl | refine ag_up rfl ?_))) (show (h10 0 7) ≤ ((h10 0 7) + 1) by omega) (fun z => by have z2 : (h10 0 11) = 0 := z; omega) (show ((h10 0 85) : Int) = 0 by omega) (show (((h10 0 109) - 1) : Int) = 0 by omega) (show (0 : Int) = 0 by omega) (by simp [ja_up]) (fun j hj => by simp [ja_up, hj]) rfl rfl rfl⟩, (show (h 0 7) < ((h10 0 7) + 1) by omega), ag_trans (kp_X (show mo_ag FTU h (ja_up (ja_up (ja_up (ja_up (ja_up (ja_up h 40 ((h 0 57).toNat) (h 0 7)) 39 ((h 0 57).toNat) w4) 0 82 0) 0 7 ((h 0 7) + 1)) 0 57 ((h 0 57) + 1)) 0 84 1) from (by (repeat (first | exact ag_refl | refine ag_up rfl ?_)))) (by decide)) (ag_trans (kp_FK agB) (by (repeat (first | exact ag_refl | refine ag_up rfl ?_))))⟩) g17)
        · intro h18 k113_1 g19
          replace k113_1 : 0 < (h18 0 8) ∧ (h18 0 1) = (h10 0 1) ∧ (h18 0 118) = (h10 0 118) ∧ (h18 0 127) = (h10 0 127) := k113_1
          refine ja_zreturn dbar_116 rfl (by omega) ?_
          exact mo_fin (by omega) rfl (k2 h18 (by omega) g19)
      · intro h20 k72_1 g21
        replace k72_1 : 0 < (h20 0 8) ∧ (h20 0 1) = (h 0 1) ∧ (h20 0 118) = (h 0 118) ∧ (h20 0 127) = (h 0 127) := k72_1
        refine ja_if_ne 80 dbar_75 rfl ⟨by decide, by decide⟩ (fun c75 => absurd c75 (by omega)) (fun c75 => ?_)
        refine ja_iconst dbar_78 ?_
        refine ja_zreturn dbar_79 rfl (by omega) ?_
        exact mo_fin (by omega) rfl (k2 h20 (by omega) g21)
    · intro h22 k48_1 g23
      replace k48_1 : 0 < (h22 0 8) ∧ (h22 0 1) = (h 0 1) ∧ (h22 0 118) = (h 0 118) ∧ (h22 0 127) = (h 0 127) := k48_1
      refine ja_if_ne 56 dbar_51 rfl ⟨by decide, by decide⟩ (fun c51 => absurd c51 (by omega)) (fun c51 => ?_)
      refine ja_iconst dbar_54 ?_
      refine ja_zreturn dbar_55 rfl (by omega) ?_
      exact mo_fin (by omega) rfl (k2 h22 (by omega) g23)
  · refine ja_aload_n dbar_9 rfl rfl ?_
    refine ja_iconst dbar_10 ?_
    refine t_halt (by decide) (show (0 : Nat) ≤ 8 by decide) dbar_11 g ⟨by decide, by decide⟩ (show 1 ≤ 3 ∧ 3 ≤ 8 by omega) ?_
    intro h24 k11_0 g25
    refine ja_zreturn dbar_14 rfl (by omega) ?_
    exact mo_fin (by omega) rfl (k2 h24 (by omega) g25)
theorem t_bar {ht st rg : Nat → Int} {d nL pc : Nat} {cc : ByteArray} {rt : Option FieldType} {L : List (Nat × ja_V)} {S : List ja_V} {h : ja_H} {Q : Option ja_V → ja_H → Prop} (hdd : 9 < d) (hwd : ja_wd S ≤ 8) (hd : decode cc pc = .ok (.invokevirtual 780, 3)) (g : mo_G Zz h) (p1 : it h ht st rg) (k1 : ∀ (h' : ja_H), ((∃ ht st rg : Nat → Int, it h' ht st rg) ∧ (h 0 7) < (h' 0 7) ∧ mo_ag FKP h h') → mo_G Zz h' → mJ l D cA ad d cc nL rt (pc + 3) L ((0, 1) :: S) h' Q) (k2 : ∀ (h' : ja_H), (0 < (h' 0 8) ∧ (h' 0 1) = (h 0 1) ∧ (h' 0 118) = (h 0 118) ∧ (h' 0 127) = (h 0 127)) → mo_G Zz h' → mJ l D cA ad d cc nL rt (pc + 3) L ((0, 0) :: S) h' Q) : mJ l D cA ad d cc nL rt pc L ((2, ((0 : Nat) : Int)) :: S) h Q :=
  mc_bar hdd hwd hd (s_bar g p1 k1 k2)
end
theorem dadvice_0 : decode cX12_advice 0 = .ok (.aload_n 0, 1) := by decide +kernel
theorem dadvice_1 : decode cX12_advice 1 = .ok (.getfield 662, 3) := by decide +kernel
theorem dadvice_4 : decode cX12_advice 4 = .ok (.bipush 24, 2) := by decide +kernel
theorem dadvice_6 : decode cX12_advice 6 = .ok (.if_icmp .ne 9, 3) := by decide +kernel
theorem dadvice_9 : decode cX12_advice 9 = .ok (.aload_n 0, 1) := by decide +kernel
theorem dadvice_10 : decode cX12_advice 10 = .ok (.iconst 3, 1) := by decide +kernel
theorem dadvice_11 : decode cX12_advice 11 = .ok (.invokevirtual 583, 3) := by decide +kernel
theorem dadvice_14 : decode cX12_advice 14 = .ok (.ireturn, 1) := by decide +kernel
theorem dadvice_15 : decode cX12_advice 15 = .ok (.aload_n 0, 1) := by decide +kernel
theorem dadvice_16 : decode cX12_advice 16 = .ok (.getfield 662, 3) := by decide +kernel
theorem dadvice_19 : decode cX12_advice 19 = .ok (.istore_n 1, 1) := by decide +kernel
theorem dadvice_20 : decode cX12_advice 20 = .ok (.aload_n 0, 1) := by decide +kernel
theorem dadvice_21 : decode cX12_advice 21 = .ok (.getfield 89, 3) := by decide +kernel
theorem dadvice_24 : decode cX12_advice 24 = .ok (.iload_n 1, 1) := by decide +kernel
theorem dadvice_25 : decode cX12_advice 25 = .ok (.aload_n 0, 1) := by decide +kernel
theorem dadvice_26 : decode cX12_advice 26 = .ok (.bipush 6, 2) := by decide +kernel
theorem dadvice_28 : decode cX12_advice 28 = .ok (.invokevirtual 596, 3) := by decide +kernel
theorem dadvice_31 : decode cX12_advice 31 = .ok (.ifCond .eq 7, 3) := by decide +kernel
theorem dadvice_34 : decode cX12_advice 34 = .ok (.iconst 0, 1) := by decide +kernel
theorem dadvice_35 : decode cX12_advice 35 = .ok (.goto 17, 3) := by decide +kernel
theorem dadvice_38 : decode cX12_advice 38 = .ok (.aload_n 0, 1) := by decide +kernel
theorem dadvice_39 : decode cX12_advice 39 = .ok (.bipush 7, 2) := by decide +kernel
theorem dadvice_41 : decode cX12_advice 41 = .ok (.invokevirtual 596, 3) := by decide +kernel
theorem dadvice_44 : decode cX12_advice 44 = .ok (.ifCond .eq 7, 3) := by decide +kernel
theorem dadvice_47 : decode cX12_advice 47 = .ok (.iconst 1, 1) := by decide +kernel
theorem dadvice_48 : decode cX12_advice 48 = .ok (.goto 4, 3) := by decide +kernel
theorem dadvice_51 : decode cX12_advice 51 = .ok (.iconst 2, 1) := by decide +kernel
theorem dadvice_52 : decode cX12_advice 52 = .ok (.iastore, 1) := by decide +kernel
theorem dadvice_53 : decode cX12_advice 53 = .ok (.aload_n 0, 1) := by decide +kernel
theorem dadvice_54 : decode cX12_advice 54 = .ok (.getfield 92, 3) := by decide +kernel
theorem dadvice_57 : decode cX12_advice 57 = .ok (.iload_n 1, 1) := by decide +kernel
theorem dadvice_58 : decode cX12_advice 58 = .ok (.iconst 0, 1) := by decide +kernel
theorem dadvice_59 : decode cX12_advice 59 = .ok (.iastore, 1) := by decide +kernel
theorem dadvice_60 : decode cX12_advice 60 = .ok (.aload_n 0, 1) := by decide +kernel
theorem dadvice_61 : decode cX12_advice 61 = .ok (.getfield 95, 3) := by decide +kernel
theorem dadvice_64 : decode cX12_advice 64 = .ok (.iload_n 1, 1) := by decide +kernel
theorem dadvice_65 : decode cX12_advice 65 = .ok (.aload_n 0, 1) := by decide +kernel
theorem dadvice_66 : decode cX12_advice 66 = .ok (.getfield 760, 3) := by decide +kernel
theorem dadvice_69 : decode cX12_advice 69 = .ok (.iastore, 1) := by decide +kernel
theorem dadvice_70 : decode cX12_advice 70 = .ok (.aload_n 0, 1) := by decide +kernel
theorem dadvice_71 : decode cX12_advice 71 = .ok (.getfield 107, 3) := by decide +kernel
theorem dadvice_74 : decode cX12_advice 74 = .ok (.iload_n 1, 1) := by decide +kernel
theorem dadvice_75 : decode cX12_advice 75 = .ok (.aload_n 0, 1) := by decide +kernel
theorem dadvice_76 : decode cX12_advice 76 = .ok (.getfield 574, 3) := by decide +kernel
theorem dadvice_79 : decode cX12_advice 79 = .ok (.iastore, 1) := by decide +kernel
theorem dadvice_80 : decode cX12_advice 80 = .ok (.aload_n 0, 1) := by decide +kernel
theorem dadvice_81 : decode cX12_advice 81 = .ok (.aload_n 0, 1) := by decide +kernel
theorem dadvice_82 : decode cX12_advice 82 = .ok (.getfield 89, 3) := by decide +kernel
theorem dadvice_85 : decode cX12_advice 85 = .ok (.iload_n 1, 1) := by decide +kernel
theorem dadvice_86 : decode cX12_advice 86 = .ok (.iaload, 1) := by decide +kernel
theorem dadvice_87 : decode cX12_advice 87 = .ok (.iconst 2, 1) := by decide +kernel
theorem dadvice_88 : decode cX12_advice 88 = .ok (.if_icmp .ne 7, 3) := by decide +kernel
theorem dadvice_91 : decode cX12_advice 91 = .ok (.iconst 3, 1) := by decide +kernel
theorem dadvice_92 : decode cX12_advice 92 = .ok (.goto 4, 3) := by decide +kernel
theorem dadvice_95 : decode cX12_advice 95 = .ok (.iconst 2, 1) := by decide +kernel
theorem dadvice_96 : decode cX12_advice 96 = .ok (.iload_n 1, 1) := by decide +kernel
theorem dadvice_97 : decode cX12_advice 97 = .ok (.invokevirtual 726, 3) := by decide +kernel
theorem dadvice_100 : decode cX12_advice 100 = .ok (.aload_n 0, 1) := by decide +kernel
theorem dadvice_101 : decode cX12_advice 101 = .ok (.invokevirtual 589, 3) := by decide +kernel
theorem dadvice_104 : decode cX12_advice 104 = .ok (.ifCond .eq 10, 3) := by decide +kernel
theorem dadvice_107 : decode cX12_advice 107 = .ok (.aload_n 0, 1) := by decide +kernel
theorem dadvice_108 : decode cX12_advice 108 = .ok (.invokevirtual 754, 3) := by decide +kernel
theorem dadvice_111 : decode cX12_advice 111 = .ok (.ifCond .ne 5, 3) := by decide +kernel
theorem dadvice_114 : decode cX12_advice 114 = .ok (.iconst 0, 1) := by decide +kernel
theorem dadvice_115 : decode cX12_advice 115 = .ok (.ireturn, 1) := by decide +kernel
theorem dadvice_116 : decode cX12_advice 116 = .ok (.iconst 1, 1) := by decide +kernel
theorem dadvice_117 : decode cX12_advice 117 = .ok (.aload_n 0, 1) := by decide +kernel
theorem dadvice_118 : decode cX12_advice 118 = .ok (.getfield 704, 3) := by decide +kernel
theorem dadvice_121 : decode cX12_advice 121 = .ok (.ishl, 1) := by decide +kernel
theorem dadvice_122 : decode cX12_advice 122 = .ok (.iconst 1, 1) := by decide +kernel
theorem dadvice_123 : decode cX12_advice 123 = .ok (.isub, 1) := by decide +kernel
theorem dadvice_124 : decode cX12_advice 124 = .ok (.istore_n 2, 1) := by decide +kernel
theorem dadvice_125 : decode cX12_advice 125 = .ok (.aload_n 0, 1) := by decide +kernel
theorem dadvice_126 : decode cX12_advice 126 = .ok (.getfield 89, 3) := by decide +kernel
theorem dadvice_129 : decode cX12_advice 129 = .ok (.iload_n 1, 1) := by decide +kernel
theorem dadvice_130 : decode cX12_advice 130 = .ok (.iaload, 1) := by decide +kernel
theorem dadvice_131 : decode cX12_advice 131 = .ok (.iconst 1, 1) := by decide +kernel
theorem dadvice_132 : decode cX12_advice 132 = .ok (.if_icmp .ne 91, 3) := by decide +kernel
theorem dadvice_135 : decode cX12_advice 135 = .ok (.aload_n 0, 1) := by decide +kernel
theorem dadvice_136 : decode cX12_advice 136 = .ok (.bipush 17, 2) := by decide +kernel
theorem dadvice_138 : decode cX12_advice 138 = .ok (.invokevirtual 596, 3) := by decide +kernel
theorem dadvice_141 : decode cX12_advice 141 = .ok (.ifCond .ne 12, 3) := by decide +kernel
theorem dadvice_144 : decode cX12_advice 144 = .ok (.aload_n 0, 1) := by decide +kernel
theorem dadvice_145 : decode cX12_advice 145 = .ok (.bipush 13, 2) := by decide +kernel
theorem dadvice_147 : decode cX12_advice 147 = .ok (.invokevirtual 596, 3) := by decide +kernel
theorem dadvice_150 : decode cX12_advice 150 = .ok (.ifCond .eq 73, 3) := by decide +kernel
theorem dadvice_153 : decode cX12_advice 153 = .ok (.aload_n 0, 1) := by decide +kernel
theorem dadvice_154 : decode cX12_advice 154 = .ok (.getfield 92, 3) := by decide +kernel
theorem dadvice_157 : decode cX12_advice 157 = .ok (.iload_n 1, 1) := by decide +kernel
theorem dadvice_158 : decode cX12_advice 158 = .ok (.aload_n 0, 1) := by decide +kernel
theorem dadvice_159 : decode cX12_advice 159 = .ok (.bipush 17, 2) := by decide +kernel
theorem dadvice_161 : decode cX12_advice 161 = .ok (.invokevirtual 596, 3) := by decide +kernel
theorem dadvice_164 : decode cX12_advice 164 = .ok (.ifCond .eq 7, 3) := by decide +kernel
theorem dadvice_167 : decode cX12_advice 167 = .ok (.iconst 1, 1) := by decide +kernel
theorem dadvice_168 : decode cX12_advice 168 = .ok (.goto 4, 3) := by decide +kernel
theorem dadvice_171 : decode cX12_advice 171 = .ok (.iconst 2, 1) := by decide +kernel
theorem dadvice_172 : decode cX12_advice 172 = .ok (.iastore, 1) := by decide +kernel
theorem dadvice_173 : decode cX12_advice 173 = .ok (.aload_n 0, 1) := by decide +kernel
theorem dadvice_174 : decode cX12_advice 174 = .ok (.invokevirtual 589, 3) := by decide +kernel
theorem dadvice_177 : decode cX12_advice 177 = .ok (.ifCond .ne 5, 3) := by decide +kernel
theorem dadvice_180 : decode cX12_advice 180 = .ok (.iconst 0, 1) := by decide +kernel
theorem dadvice_181 : decode cX12_advice 181 = .ok (.ireturn, 1) := by decide +kernel
theorem dadvice_182 : decode cX12_advice 182 = .ok (.aload_n 0, 1) := by decide +kernel
theorem dadvice_183 : decode cX12_advice 183 = .ok (.invokevirtual 599, 3) := by decide +kernel
theorem dadvice_186 : decode cX12_advice 186 = .ok (.ifCond .eq 18, 3) := by decide +kernel
theorem dadvice_189 : decode cX12_advice 189 = .ok (.aload_n 0, 1) := by decide +kernel
theorem dadvice_190 : decode cX12_advice 190 = .ok (.getfield 704, 3) := by decide +kernel
theorem dadvice_193 : decode cX12_advice 193 = .ok (.bipush 6, 2) := by decide +kernel
theorem dadvice_195 : decode cX12_advice 195 = .ok (.if_icmp .ne 9, 3) := by decide +kernel
theorem dadvice_198 : decode cX12_advice 198 = .ok (.aload_n 0, 1) := by decide +kernel
theorem dadvice_199 : decode cX12_advice 199 = .ok (.iconst 3, 1) := by decide +kernel
theorem dadvice_200 : decode cX12_advice 200 = .ok (.invokevirtual 583, 3) := by decide +kernel
theorem dadvice_203 : decode cX12_advice 203 = .ok (.ireturn, 1) := by decide +kernel
theorem dadvice_204 : decode cX12_advice 204 = .ok (.aload_n 0, 1) := by decide +kernel
theorem dadvice_205 : decode cX12_advice 205 = .ok (.getfield 574, 3) := by decide +kernel
theorem dadvice_208 : decode cX12_advice 208 = .ok (.istore_n 3, 1) := by decide +kernel
theorem dadvice_209 : decode cX12_advice 209 = .ok (.aload_n 0, 1) := by decide +kernel
theorem dadvice_210 : decode cX12_advice 210 = .ok (.invokevirtual 739, 3) := by decide +kernel
theorem dadvice_213 : decode cX12_advice 213 = .ok (.ifCond .ne 5, 3) := by decide +kernel
theorem dadvice_216 : decode cX12_advice 216 = .ok (.iconst 0, 1) := by decide +kernel
theorem dadvice_217 : decode cX12_advice 217 = .ok (.ireturn, 1) := by decide +kernel
theorem dadvice_218 : decode cX12_advice 218 = .ok (.aload_n 0, 1) := by decide +kernel
theorem dadvice_219 : decode cX12_advice 219 = .ok (.iload_n 3, 1) := by decide +kernel
theorem dadvice_220 : decode cX12_advice 220 = .ok (.invokevirtual 757, 3) := by decide +kernel
theorem dadvice_223 : decode cX12_advice 223 = .ok (.aload_n 0, 1) := by decide +kernel
theorem dadvice_224 : decode cX12_advice 224 = .ok (.dup, 1) := by decide +kernel
theorem dadvice_225 : decode cX12_advice 225 = .ok (.getfield 662, 3) := by decide +kernel
theorem dadvice_228 : decode cX12_advice 228 = .ok (.iconst 1, 1) := by decide +kernel
theorem dadvice_229 : decode cX12_advice 229 = .ok (.iadd, 1) := by decide +kernel
theorem dadvice_230 : decode cX12_advice 230 = .ok (.putfield 662, 3) := by decide +kernel
theorem dadvice_233 : decode cX12_advice 233 = .ok (.aload_n 0, 1) := by decide +kernel
theorem dadvice_234 : decode cX12_advice 234 = .ok (.getfield 98, 3) := by decide +kernel
theorem dadvice_237 : decode cX12_advice 237 = .ok (.iload_n 1, 1) := by decide +kernel
theorem dadvice_238 : decode cX12_advice 238 = .ok (.aload_n 0, 1) := by decide +kernel
theorem dadvice_239 : decode cX12_advice 239 = .ok (.getfield 704, 3) := by decide +kernel
theorem dadvice_242 : decode cX12_advice 242 = .ok (.iastore, 1) := by decide +kernel
theorem dadvice_243 : decode cX12_advice 243 = .ok (.aload_n 0, 1) := by decide +kernel
theorem dadvice_244 : decode cX12_advice 244 = .ok (.invokevirtual 787, 3) := by decide +kernel
theorem dadvice_247 : decode cX12_advice 247 = .ok (.ifCond .ne 5, 3) := by decide +kernel
theorem dadvice_250 : decode cX12_advice 250 = .ok (.iconst 0, 1) := by decide +kernel
theorem dadvice_251 : decode cX12_advice 251 = .ok (.ireturn, 1) := by decide +kernel
theorem dadvice_252 : decode cX12_advice 252 = .ok (.aload_n 0, 1) := by decide +kernel
theorem dadvice_253 : decode cX12_advice 253 = .ok (.dup, 1) := by decide +kernel
theorem dadvice_254 : decode cX12_advice 254 = .ok (.getfield 689, 3) := by decide +kernel
theorem dadvice_257 : decode cX12_advice 257 = .ok (.iconst 1, 1) := by decide +kernel
theorem dadvice_258 : decode cX12_advice 258 = .ok (.isub, 1) := by decide +kernel
theorem dadvice_259 : decode cX12_advice 259 = .ok (.putfield 689, 3) := by decide +kernel
theorem dadvice_262 : decode cX12_advice 262 = .ok (.aload_n 0, 1) := by decide +kernel
theorem dadvice_263 : decode cX12_advice 263 = .ok (.getfield 101, 3) := by decide +kernel
theorem dadvice_266 : decode cX12_advice 266 = .ok (.iload_n 1, 1) := by decide +kernel
theorem dadvice_267 : decode cX12_advice 267 = .ok (.aload_n 0, 1) := by decide +kernel
theorem dadvice_268 : decode cX12_advice 268 = .ok (.getfield 218, 3) := by decide +kernel
theorem dadvice_271 : decode cX12_advice 271 = .ok (.aload_n 0, 1) := by decide +kernel
theorem dadvice_272 : decode cX12_advice 272 = .ok (.getfield 689, 3) := by decide +kernel
theorem dadvice_275 : decode cX12_advice 275 = .ok (.iaload, 1) := by decide +kernel
theorem dadvice_276 : decode cX12_advice 276 = .ok (.iastore, 1) := by decide +kernel
theorem dadvice_277 : decode cX12_advice 277 = .ok (.aload_n 0, 1) := by decide +kernel
theorem dadvice_278 : decode cX12_advice 278 = .ok (.getfield 206, 3) := by decide +kernel
theorem dadvice_281 : decode cX12_advice 281 = .ok (.aload_n 0, 1) := by decide +kernel
theorem dadvice_282 : decode cX12_advice 282 = .ok (.getfield 101, 3) := by decide +kernel
theorem dadvice_285 : decode cX12_advice 285 = .ok (.iload_n 1, 1) := by decide +kernel
theorem dadvice_286 : decode cX12_advice 286 = .ok (.iaload, 1) := by decide +kernel
theorem dadvice_287 : decode cX12_advice 287 = .ok (.baload, 1) := by decide +kernel
theorem dadvice_288 : decode cX12_advice 288 = .ok (.ifCond .ne 18, 3) := by decide +kernel
theorem dadvice_291 : decode cX12_advice 291 = .ok (.aload_n 0, 1) := by decide +kernel
theorem dadvice_292 : decode cX12_advice 292 = .ok (.getfield 203, 3) := by decide +kernel
theorem dadvice_295 : decode cX12_advice 295 = .ok (.aload_n 0, 1) := by decide +kernel
theorem dadvice_296 : decode cX12_advice 296 = .ok (.getfield 101, 3) := by decide +kernel
theorem dadvice_299 : decode cX12_advice 299 = .ok (.iload_n 1, 1) := by decide +kernel
theorem dadvice_300 : decode cX12_advice 300 = .ok (.iaload, 1) := by decide +kernel
theorem dadvice_301 : decode cX12_advice 301 = .ok (.iaload, 1) := by decide +kernel
theorem dadvice_302 : decode cX12_advice 302 = .ok (.iload_n 2, 1) := by decide +kernel
theorem dadvice_303 : decode cX12_advice 303 = .ok (.if_icmp .eq 15, 3) := by decide +kernel
theorem dadvice_306 : decode cX12_advice 306 = .ok (.aload_n 0, 1) := by decide +kernel
theorem dadvice_307 : decode cX12_advice 307 = .ok (.bipush 6, 2) := by decide +kernel
theorem dadvice_309 : decode cX12_advice 309 = .ok (.aload_n 0, 1) := by decide +kernel
theorem dadvice_310 : decode cX12_advice 310 = .ok (.getfield 107, 3) := by decide +kernel
theorem dadvice_313 : decode cX12_advice 313 = .ok (.iload_n 1, 1) := by decide +kernel
theorem dadvice_314 : decode cX12_advice 314 = .ok (.iaload, 1) := by decide +kernel
theorem dadvice_315 : decode cX12_advice 315 = .ok (.invokevirtual 719, 3) := by decide +kernel
theorem dadvice_318 : decode cX12_advice 318 = .ok (.iconst 0, 1) := by decide +kernel
theorem dadvice_319 : decode cX12_advice 319 = .ok (.istore_n 3, 1) := by decide +kernel
theorem dadvice_320 : decode cX12_advice 320 = .ok (.iload_n 3, 1) := by decide +kernel
theorem dadvice_321 : decode cX12_advice 321 = .ok (.aload_n 0, 1) := by decide +kernel
theorem dadvice_322 : decode cX12_advice 322 = .ok (.getfield 704, 3) := by decide +kernel
theorem dadvice_325 : decode cX12_advice 325 = .ok (.if_icmp .ge 32, 3) := by decide +kernel
theorem dadvice_328 : decode cX12_advice 328 = .ok (.aload_n 0, 1) := by decide +kernel
theorem dadvice_329 : decode cX12_advice 329 = .ok (.getfield 155, 3) := by decide +kernel
theorem dadvice_332 : decode cX12_advice 332 = .ok (.iload_n 3, 1) := by decide +kernel
theorem dadvice_333 : decode cX12_advice 333 = .ok (.aload_n 0, 1) := by decide +kernel
theorem dadvice_334 : decode cX12_advice 334 = .ok (.aload_n 0, 1) := by decide +kernel
theorem dadvice_335 : decode cX12_advice 335 = .ok (.getfield 161, 3) := by decide +kernel
theorem dadvice_338 : decode cX12_advice 338 = .ok (.iload_n 3, 1) := by decide +kernel
theorem dadvice_339 : decode cX12_advice 339 = .ok (.iaload, 1) := by decide +kernel
theorem dadvice_340 : decode cX12_advice 340 = .ok (.invokevirtual 716, 3) := by decide +kernel
theorem dadvice_343 : decode cX12_advice 343 = .ok (.iastore, 1) := by decide +kernel
theorem dadvice_344 : decode cX12_advice 344 = .ok (.aload_n 0, 1) := by decide +kernel
theorem dadvice_345 : decode cX12_advice 345 = .ok (.getfield 158, 3) := by decide +kernel
theorem dadvice_348 : decode cX12_advice 348 = .ok (.iload_n 3, 1) := by decide +kernel
theorem dadvice_349 : decode cX12_advice 349 = .ok (.iload_n 3, 1) := by decide +kernel
theorem dadvice_350 : decode cX12_advice 350 = .ok (.iastore, 1) := by decide +kernel
theorem dadvice_351 : decode cX12_advice 351 = .ok (.iinc 3 1, 3) := by decide +kernel
theorem dadvice_354 : decode cX12_advice 354 = .ok (.goto (-34), 3) := by decide +kernel
theorem dadvice_357 : decode cX12_advice 357 = .ok (.aload_n 0, 1) := by decide +kernel
theorem dadvice_358 : decode cX12_advice 358 = .ok (.aload_n 0, 1) := by decide +kernel
theorem dadvice_359 : decode cX12_advice 359 = .ok (.getfield 704, 3) := by decide +kernel
theorem dadvice_362 : decode cX12_advice 362 = .ok (.putfield 713, 3) := by decide +kernel
theorem dadvice_365 : decode cX12_advice 365 = .ok (.aload_n 0, 1) := by decide +kernel
theorem dadvice_366 : decode cX12_advice 366 = .ok (.aload_n 0, 1) := by decide +kernel
theorem dadvice_367 : decode cX12_advice 367 = .ok (.getfield 704, 3) := by decide +kernel
theorem dadvice_370 : decode cX12_advice 370 = .ok (.putfield 710, 3) := by decide +kernel
theorem dadvice_373 : decode cX12_advice 373 = .ok (.aload_n 0, 1) := by decide +kernel
theorem dadvice_374 : decode cX12_advice 374 = .ok (.getfield 104, 3) := by decide +kernel
theorem dadvice_377 : decode cX12_advice 377 = .ok (.iload_n 1, 1) := by decide +kernel
theorem dadvice_378 : decode cX12_advice 378 = .ok (.aload_n 0, 1) := by decide +kernel
theorem dadvice_379 : decode cX12_advice 379 = .ok (.getfield 611, 3) := by decide +kernel
theorem dadvice_382 : decode cX12_advice 382 = .ok (.iastore, 1) := by decide +kernel
theorem dadvice_383 : decode cX12_advice 383 = .ok (.aload_n 0, 1) := by decide +kernel
theorem dadvice_384 : decode cX12_advice 384 = .ok (.invokevirtual 729, 3) := by decide +kernel
theorem dadvice_387 : decode cX12_advice 387 = .ok (.ifCond .ne 5, 3) := by decide +kernel
theorem dadvice_390 : decode cX12_advice 390 = .ok (.iconst 0, 1) := by decide +kernel
theorem dadvice_391 : decode cX12_advice 391 = .ok (.ireturn, 1) := by decide +kernel
theorem dadvice_392 : decode cX12_advice 392 = .ok (.aload_n 0, 1) := by decide +kernel
theorem dadvice_393 : decode cX12_advice 393 = .ok (.bipush 26, 2) := by decide +kernel
theorem dadvice_395 : decode cX12_advice 395 = .ok (.iconst 0, 1) := by decide +kernel
theorem dadvice_396 : decode cX12_advice 396 = .ok (.iconst 0, 1) := by decide +kernel
theorem dadvice_397 : decode cX12_advice 397 = .ok (.invokevirtual 732, 3) := by decide +kernel
theorem dadvice_400 : decode cX12_advice 400 = .ok (.istore_n 3, 1) := by decide +kernel
theorem dadvice_401 : decode cX12_advice 401 = .ok (.iconst 1, 1) := by decide +kernel
theorem dadvice_402 : decode cX12_advice 402 = .ok (.ireturn, 1) := by decide +kernel
section
variable {l : Launch} {D : va_G} {cA : Nat → ClassId} {ad : Nat → Nat}
theorem s_advice {ht st rg : Nat → Int} {h : ja_H} {Q : Option ja_V → ja_H → Prop} (g : mo_G Zz h) (p1 : it h ht st rg) (p2 : (h 0 76) < (h 0 26)) (k1 : ∀ (h' : ja_H), ((∃ ht st rg : Nat → Int, it h' ht st rg) ∧ (h 0 7) < (h' 0 7) ∧ mo_ag FKP h h') → mo_G Zz h' → Q (some (0, 1)) h') (k2 : ∀ (h' : ja_H), (0 < (h' 0 8) ∧ (h' 0 1) = (h 0 1) ∧ (h' 0 118) = (h 0 118) ∧ (h' 0 127) = (h 0 127)) → mo_G Zz h' → Q (some (0, 0)) h') : mM_advice l D cA ad  h Q := by
  show mJ l D cA ad 9 cX12_advice 4 (some .boolean) 0 [(0, (2, ((0 : Nat) : Int)))] [] h Q
  have kn_at := gF_at g
  have kn_advices := gF_advices g
  have kn_params := gF_params g
  have CUT : ∀ n : Nat, (∀ (s0 : Int), (-2147483648 ≤ s0 ∧ s0 ≤ 2147483647) → (0 ≤ s0 ∧ s0 ≤ 2 ∧ ¬ ((h 0 44) = 24)) → (40) = n → mJ l D cA ad 9 cX12_advice 4 (some .boolean) 52 [(0, (2, ((0 : Nat) : Int))), (1, (0, (h 0 44)))] [(0, s0), (0, (h 0 44)), (2, ((27 : Nat) : Int))] h Q) ∧ (∀ (k b : Int), mo_G Zz (ja_up (ja_up (ja_up (ja_up (ja_up (ja_up (ja_up (ja_up h 27 ((h 0 44).toNat) k) 28 ((h 0 44).toNat) 0) 29 ((h 0 44).toNat) (h 0 76)) 33 ((h 0 44).toNat) (h 0 7)) 0 74 b) 0 75 (h 0 44)) 0 77 0) 0 79 0) → (-2147483648 ≤ k ∧ k ≤ 2147483647) → (-2147483648 ≤ b ∧ b ≤ 2147483647) → (0 ≤ k ∧ k ≤ 2 ∧ (b = 2 ∨ b = 3) ∧ ¬ ((h 0 44) = 24)) → (30) = n → mJ l D cA ad 9 cX12_advice 4 (some .boolean) 100 [(0, (2, ((0 : Nat) : Int))), (1, (0, (h 0 44)))] [] (ja_up (ja_up (ja_up (ja_up (ja_up (ja_up (ja_up (ja_up h 27 ((h 0 44).toNat) k) 28 ((h 0 44).toNat) 0) 29 ((h 0 44).toNat) (h 0 76)) 33 ((h 0 44).toNat) (h 0 7)) 0 74 b) 0 75 (h 0 44)) 0 77 0) 0 79 0) Q) ∧ (∀ (x2 : Int) (u : ja_H), mo_G Zz u → (-2147483648 ≤ x2 ∧ x2 ≤ 2147483647) → (acI h u ∧ ¬ ((h 0 44) = 24)) → (20) = n → mJ l D cA ad 9 cX12_advice 4 (some .boolean) 223 [(0, (2, ((0 : Nat) : Int))), (1, (0, (h 0 44))), (2, (0, x2))] [] u Q) ∧ (∀ (x3 : Int) (u : ja_H), mo_G Zz u → (-2147483648 ≤ x3 ∧ x3 ≤ 2147483647) → (adI (Zz := Zz) h ht st rg u ∧ (u 0 82) ≤ 6 ∧ 0 ≤ x3 ∧ x3 ≤ 6) → (((10 : Int) - x3).toNat) = n → mJ l D cA ad 9 cX12_advice 4 (some .boolean) 320 [(0, (2, ((0 : Nat) : Int))), (1, (0, (h 0 44))), (3, (0, x3))] [] u Q) := by
    intro n
    induction n using Nat.strongRecOn with
    | _ n ih =>
      refine ⟨?_, ?_, ?_, ?_⟩
      · intro s0 qs0 iv hm
        subst hm
        have g1 := gW_adviceKind g (h 0 44).toNat (x := s0) ⟨by omega, by omega⟩
        refine is_adviceKind ⟨by omega, by omega⟩ dadvice_52 ?_
        refine ja_aload_n dadvice_53 rfl rfl ?_
        refine fa_adviceGive dadvice_54 ?_
        refine ja_iload_n dadvice_57 rfl rfl ?_
        refine ja_iconst dadvice_58 ?_
        have g2 := gW_adviceGive g1 (h 0 44).toNat (x := 0) ⟨by decide, by decide⟩
        refine is_adviceGive ⟨by omega, by omega⟩ dadvice_59 ?_
        refine ja_aload_n dadvice_60 rfl rfl ?_
        refine fa_adviceAspect dadvice_61 ?_
        refine ja_iload_n dadvice_64 rfl rfl ?_
        refine ja_aload_n dadvice_65 rfl rfl ?_
        refine fg_inAspect (v := h 0 76) rfl dadvice_66 ?_
        have f3 := gF_inAspect g
        have g4 := gW_adviceAspect g2 (h 0 44).toNat (x := h 0 76) ⟨by omega, by omega⟩
        refine is_adviceAspect ⟨by omega, by omega⟩ dadvice_69 ?_
        refine ja_aload_n dadvice_70 rfl rfl ?_
        refine fa_adviceToken dadvice_71 ?_
        refine ja_iload_n dadvice_74 rfl rfl ?_
        refine ja_aload_n dadvice_75 rfl rfl ?_
        refine fg_at (v := h 0 7) rfl dadvice_76 ?_
        have f5 := gF_at g
        have g6 := gW_adviceToken g4 (h 0 44).toNat (x := h 0 7) ⟨by omega, by omega⟩
        refine is_adviceToken ⟨by omega, by omega⟩ dadvice_79 ?_
        refine ja_aload_n dadvice_80 rfl rfl ?_
        refine ja_aload_n dadvice_81 rfl rfl ?_
        refine fa_adviceKind dadvice_82 ?_
        refine ja_iload_n dadvice_85 rfl rfl ?_
        refine il_adviceKind (v := s0) (by simp [ja_up]) ⟨by omega, by omega⟩ dadvice_86 ?_
        refine ja_iconst dadvice_87 ?_
        refine ja_icmp_ne 95 dadvice_88 rfl ⟨by omega, by omega⟩ ⟨by decide, by decide⟩ (fun c88 => ?_) (fun c88 => ?_)
        · refine ja_iconst dadvice_95 ?_
          refine ja_iload_n dadvice_96 rfl rfl ?_
          refine t_beginBody (by decide) (show (0 : Nat) ≤ 8 by decide) dadvice_97 g6 ⟨by decide, by decide⟩ ⟨by omega, by omega⟩ (show 0 ≤ 2 ∧ 2 ≤ 3 by omega) (show 0 ≤ (h 0 44) ∧ (h 0 44) ≤ 60 by omega) ?_
          intro g7
          replace g7 : mo_G Zz (ja_up (ja_up (ja_up (ja_up (ja_up (ja_up (ja_up (ja_up h 27 ((h 0 44).toNat) s0) 28 ((h 0 44).toNat) 0) 29 ((h 0 44).toNat) (h 0 76)) 33 ((h 0 44).toNat) (h 0 7)) 0 74 2) 0 75 (h 0 44)) 0 77 0) 0 79 0) := g7
          show mJ l D cA ad 9 cX12_advice 4 (some .boolean) 100 [(0, (2, ((0 : Nat) : Int))), (1, (0, (h 0 44)))] [] (ja_up (ja_up (ja_up (ja_up (ja_up (ja_up (ja_up (ja_up h 27 ((h 0 44).toNat) s0) 28 ((h 0 44).toNat) 0) 29 ((h 0 44).toNat) (h 0 76)) 33 ((h 0 44).toNat) (h 0 7)) 0 74 2) 0 75 (h 0 44)) 0 77 0) 0 79 0) Q
          exact ja_wk (fun q hq => by simp only [List.mem_cons, List.not_mem_nil, or_false] at hq; rcases hq with rfl | rfl <;> rfl) ((ih (30) (by omega)).2.1 s0 2 g7 ⟨by omega, by omega⟩ ⟨by decide, by decide⟩ (show 0 ≤ s0 ∧ s0 ≤ 2 ∧ (2 = 2 ∨ 2 = 3) ∧ ¬ ((h 0 44) = 24) by omega) rfl)
        · refine ja_iconst dadvice_91 ?_
          refine ja_goto 96 dadvice_92 rfl ?_
          refine ja_iload_n dadvice_96 rfl rfl ?_
          refine t_beginBody (by decide) (show (0 : Nat) ≤ 8 by decide) dadvice_97 g6 ⟨by decide, by decide⟩ ⟨by omega, by omega⟩ (show 0 ≤ 3 ∧ 3 ≤ 3 by omega) (show 0 ≤ (h 0 44) ∧ (h 0 44) ≤ 60 by omega) ?_
          intro g8
          replace g8 : mo_G Zz (ja_up (ja_up (ja_up (ja_up (ja_up (ja_up (ja_up (ja_up h 27 ((h 0 44).toNat) s0) 28 ((h 0 44).toNat) 0) 29 ((h 0 44).toNat) (h 0 76)) 33 ((h 0 44).toNat) (h 0 7)) 0 74 3) 0 75 (h 0 44)) 0 77 0) 0 79 0) := g8
          show mJ l D cA ad 9 cX12_advice 4 (some .boolean) 100 [(0, (2, ((0 : Nat) : Int))), (1, (0, (h 0 44)))] [] (ja_up (ja_up (ja_up (ja_up (ja_up (ja_up (ja_up (ja_up h 27 ((h 0 44).toNat) s0) 28 ((h 0 44).toNat) 0) 29 ((h 0 44).toNat) (h 0 76)) 33 ((h 0 44).toNat) (h 0 7)) 0 74 3) 0 75 (h 0 44)) 0 77 0) 0 79 0) Q
          exact ja_wk (fun q hq => by simp only [List.mem_cons, List.not_mem_nil, or_false] at hq; rcases hq with rfl | rfl <;> rfl) ((ih (30) (by omega)).2.1 s0 3 g8 ⟨by omega, by omega⟩ ⟨by decide, by decide⟩ (show 0 ≤ s0 ∧ s0 ≤ 2 ∧ (3 = 2 ∨ 3 = 3) ∧ ¬ ((h 0 44) = 24) by omega) rfl)
      · intro k b gu qk qb iv hm
        subst hm
        refine ja_aload_n dadvice_100 rfl rfl ?_
        refine t_take (by decide) (show (0 : Nat) ≤ 8 by decide) dadvice_101 gu  ?_ ?_
        · intro k101_0 g9
          replace k101_0 : (h 0 7) < 900 := k101_0
          replace g9 : mo_G Zz (ja_up (ja_up (ja_up (ja_up (ja_up (ja_up (ja_up (ja_up (ja_up h 27 ((h 0 44).toNat) k) 28 ((h 0 44).toNat) 0) 29 ((h 0 44).toNat) (h 0 76)) 33 ((h 0 44).toNat) (h 0 7)) 0 74 b) 0 75 (h 0 44)) 0 77 0) 0 79 0) 0 7 ((h 0 7) + 1)) := g9
          show mJ l D cA ad 9 cX12_advice 4 (some .boolean) 104 [(0, (2, ((0 : Nat) : Int))), (1, (0, (h 0 44)))] [(0, 1)] (ja_up (ja_up (ja_up (ja_up (ja_up (ja_up (ja_up (ja_up (ja_up h 27 ((h 0 44).toNat) k) 28 ((h 0 44).toNat) 0) 29 ((h 0 44).toNat) (h 0 76)) 33 ((h 0 44).toNat) (h 0 7)) 0 74 b) 0 75 (h 0 44)) 0 77 0) 0 79 0) 0 7 ((h 0 7) + 1)) Q
          refine ja_if_eq 114 dadvice_104 rfl ⟨by decide, by decide⟩ (fun c104 => absurd c104 (by omega)) (fun c104 => ?_)
          refine ja_aload_n dadvice_107 rfl rfl ?_
          refine t_paramRow (by decide) (show (0 : Nat) ≤ 8 by decide) dadvice_108 g9  ?_ ?_
          · intro h10 k108_0 g11
            replace k108_0 : mo_ag FPR (ja_up (ja_up (ja_up (ja_up (ja_up (ja_up (ja_up (ja_up (ja_up h 27 ((h 0 44).toNat) k) 28 ((h 0 44).toNat) 0) 29 ((h 0 44).toNat) (h 0 76)) 33 ((h 0 44).toNat) (h 0 7)) 0 74 b) 0 75 (h 0 44)) 0 77 0) 0 79 0) 0 7 ((h 0 7) + 1)) h10 ∧ ((h 0 7) + 1) < (h10 0 7) ∧ ((h10 0 11) = 0 → (h 0 11) = 0) ∧ (h10 0 82) ≤ 6 := k108_0
            have r_size : (h10 0 1) = (h 0 1) := k108_0.1 0 1 rfl
            have r_compiled : (h10 0 118) = (h 0 118) := k108_0.1 0 118 rfl
            have r_started : (h10 0 127) = (h 0 127) := k108_0.1 0 127 rfl
            have r_inPick : (h10 0 85) = (h 0 85) := k108_0.1 0 85 rfl
            have r_quiet : (h10 0 84) = (h 0 84) := k108_0.1 0 84 rfl
            have r_picks : (h10 0 52) = (h 0 52) := k108_0.1 0 52 rfl
            have r_bars : (h10 0 57) = (h 0 57) := k108_0.1 0 57 rfl
            have r_advices : (h10 0 44) = (h 0 44) := k108_0.1 0 44 rfl
            have r_body : (h10 0 74) = b := k108_0.1 0 74 rfl
            have r_bodyNumber : (h10 0 75) = (h 0 44) := k108_0.1 0 75 rfl
            have r_row := ac_row (h := h) k108_0.1 (fun j hj => by simp [ja_up, hj]) (by simp [ja_up])
            refine ja_if_ne 116 dadvice_111 rfl ⟨by decide, by decide⟩ (fun c111 => ?_) (fun c111 => absurd c111 (by omega))
            refine ja_iconst dadvice_116 ?_
            refine ja_aload_n dadvice_117 rfl rfl ?_
            refine fg_params (v := h10 0 82) rfl dadvice_118 ?_
            have f12 := gF_params g11
            refine mo_hishl dadvice_121 (fun v13 rv13 => ?_)
            refine ja_iconst dadvice_122 ?_
            refine mo_hisub dadvice_123 (fun v14 rv14 => ?_)
            refine ja_istore_n dadvice_124 rfl (by decide) (L2 := [(2, (0, v14)), (0, (2, ((0 : Nat) : Int))), (1, (0, (h 0 44)))]) rfl ?_
            refine ja_aload_n dadvice_125 rfl rfl ?_
            refine fa_adviceKind dadvice_126 ?_
            refine ja_iload_n dadvice_129 rfl rfl ?_
            refine il_adviceKind (v := h10 27 (h 0 44).toNat) rfl ⟨by omega, by omega⟩ dadvice_130 ?_
            have f15 := gC_adviceKind g11 (h 0 44).toNat
            refine ja_iconst dadvice_131 ?_
            refine ja_icmp_ne 223 dadvice_132 rfl ⟨by omega, by omega⟩ ⟨by decide, by decide⟩ (fun c132 => ?_) (fun c132 => ?_)
            · exact ja_wk (fun q hq => by simp only [List.mem_cons, List.not_mem_nil, or_false] at hq; rcases hq with rfl | rfl | rfl <;> rfl) ((ih (20) (by omega)).2.2.1 v14 h10 g11 ⟨by omega, by omega⟩ (⟨⟨ag_trans (by (repeat (first | exact ag_refl | refine ag_up rfl ?_))) (ag_trans (ag_sub (X_X (by decide) (by decide)) k108_0.1) (by (repeat (first | exact ag_refl | refine ag_up rfl ?_)))), (show (h 0 7) < (h10 0 7) by omega), (fun z => by have z2 : (h10 0 11) = 0 := z; omega), (show ((h10 0 82) : Int) ≤ 6 by omega), ⟨(show ((h10 0 85) : Int) = (h 0 85) by omega), (show ((h10 0 84) : Int) = (h 0 84) by omega), (show ((h10 0 44) : Int) = (h 0 44) by omega), (show ((h10 0 52) : Int) = (h 0 52) by omega), (show ((h10 0 57) : Int) = (h 0 57) by omega), (show ((h10 0 74) : Int) = 2 ∨ ((h10 0 74) : Int) = 3 by omega), (show ((h10 0 75) : Int) = (h 0 44) by omega)⟩, r_row⟩, by omega⟩) rfl)
            · refine ja_aload_n dadvice_135 rfl rfl ?_
              refine ja_bipush 17 dadvice_136 rfl ?_
              refine t_isWord (by decide) (show (0 : Nat) ≤ 8 by decide) dadvice_138 g11 ⟨by decide, by decide⟩ ?_
              intro w16 k138_0
              refine ja_if_ne 153 dadvice_141 rfl ⟨by omega, by omega⟩ (fun c141 => ?_) (fun c141 => ?_)
              · have z141 := is1v k138_0 c141
                replace k138_0 := is1 k138_0 c141
                refine ja_aload_n dadvice_153 rfl rfl ?_
                refine fa_adviceGive dadvice_154 ?_
                refine ja_iload_n dadvice_157 rfl rfl ?_
                refine ja_aload_n dadvice_158 rfl rfl ?_
                refine ja_bipush 17 dadvice_159 rfl ?_
                refine t_isWord (by decide) (show (2 : Nat) ≤ 8 by decide) dadvice_161 g11 ⟨by decide, by decide⟩ ?_
                intro w17 k161_0
                refine ja_if_eq 171 dadvice_164 rfl ⟨by omega, by omega⟩ (fun c164 => ?_) (fun c164 => ?_)
                · replace k161_0 := is0 k161_0 c164
                  refine ja_iconst dadvice_171 ?_
                  have g18 := gW_adviceGive g11 (h 0 44).toNat (x := 2) ⟨by decide, by decide⟩
                  refine is_adviceGive ⟨by omega, by omega⟩ dadvice_172 ?_
                  refine ja_aload_n dadvice_173 rfl rfl ?_
                  refine t_take (by decide) (show (0 : Nat) ≤ 8 by decide) dadvice_174 g18  ?_ ?_
                  · intro k174_0 g19
                    replace k174_0 : (h10 0 7) < 900 := k174_0
                    replace g19 : mo_G Zz (ja_up (ja_up h10 28 ((h 0 44).toNat) 2) 0 7 ((h10 0 7) + 1)) := g19
                    show mJ l D cA ad 9 cX12_advice 4 (some .boolean) 177 [(2, (0, v14)), (0, (2, ((0 : Nat) : Int))), (1, (0, (h 0 44)))] [(0, 1)] (ja_up (ja_up h10 28 ((h 0 44).toNat) 2) 0 7 ((h10 0 7) + 1)) Q
                    refine ja_if_ne 182 dadvice_177 rfl ⟨by decide, by decide⟩ (fun c177 => ?_) (fun c177 => absurd c177 (by omega))
                    refine ja_aload_n dadvice_182 rfl rfl ?_
                    refine t_isName (by decide) (show (0 : Nat) ≤ 8 by decide) dadvice_183 g19  ?_
                    intro w20 k183_0
                    replace k183_0 : (w20 = 1 ∧ (h10 2 ((h10 0 7) + 1).toNat) = 2) ∨ (w20 = 0 ∧ ¬ (h10 2 ((h10 0 7) + 1).toNat) = 2) := k183_0
                    refine ja_if_eq 204 dadvice_186 rfl ⟨by omega, by omega⟩ (fun c186 => ?_) (fun c186 => ?_)
                    · replace k183_0 := is0 k183_0 c186
                      refine ja_aload_n dadvice_204 rfl rfl ?_
                      refine fg_at (v := (h10 0 7) + 1) rfl dadvice_205 ?_
                      refine ja_istore_n dadvice_208 rfl (by decide) (L2 := [(3, (0, ((h10 0 7) + 1))), (2, (0, v14)), (0, (2, ((0 : Nat) : Int))), (1, (0, (h 0 44)))]) rfl ?_
                      refine ja_aload_n dadvice_209 rfl rfl ?_
                      refine t_name (by decide) (show (0 : Nat) ≤ 8 by decide) dadvice_210 g19  ?_ ?_
                      · intro k210_0 g21
                        replace k210_0 : ((h10 0 7) + 1) < 900 ∧ (h10 2 ((h10 0 7) + 1).toNat) = 2 := k210_0
                        replace g21 : mo_G Zz (ja_up (ja_up (ja_up h10 28 ((h 0 44).toNat) 2) 0 7 ((h10 0 7) + 1)) 0 7 (((h10 0 7) + 1) + 1)) := g21
                        show mJ l D cA ad 9 cX12_advice 4 (some .boolean) 213 [(3, (0, ((h10 0 7) + 1))), (2, (0, v14)), (0, (2, ((0 : Nat) : Int))), (1, (0, (h 0 44)))] [(0, 1)] (ja_up (ja_up (ja_up h10 28 ((h 0 44).toNat) 2) 0 7 ((h10 0 7) + 1)) 0 7 (((h10 0 7) + 1) + 1)) Q
                        refine ja_if_ne 218 dadvice_213 rfl ⟨by decide, by decide⟩ (fun c213 => ?_) (fun c213 => absurd c213 (by omega))
                        refine ja_aload_n dadvice_218 rfl rfl ?_
                        refine ja_iload_n dadvice_219 rfl rfl ?_
                        refine t_param (by decide) (show (0 : Nat) ≤ 8 by decide) dadvice_220 g21 ⟨by omega, by omega⟩ (show 0 ≤ ((h10 0 7) + 1) ∧ ((h10 0 7) + 1) ≤ 900 by omega) (show (h10 0 82) ≤ 6 by omega) ?_
                        intro w22 w23 k220_0 g24
                        replace k220_0 : 0 ≤ w22 ∧ w22 ≤ 8 ∧ (1 ≤ w22 ∨ w22 = (h10 0 11)) ∧ -2147483648 ≤ w23 ∧ w23 ≤ 2147483647 := k220_0
                        replace g24 : mo_G Zz (ja_up (ja_up (ja_up (ja_up (ja_up (ja_up (ja_up h10 28 ((h 0 44).toNat) 2) 0 7 ((h10 0 7) + 1)) 0 7 (((h10 0 7) + 1) + 1)) 0 11 w22) 0 12 w23) 51 ((h10 0 82).toNat) ((h10 0 7) + 1)) 0 82 ((h10 0 82) + 1)) := g24
                        show mJ l D cA ad 9 cX12_advice 4 (some .boolean) 223 [(3, (0, ((h10 0 7) + 1))), (2, (0, v14)), (0, (2, ((0 : Nat) : Int))), (1, (0, (h 0 44)))] [] (ja_up (ja_up (ja_up (ja_up (ja_up (ja_up (ja_up h10 28 ((h 0 44).toNat) 2) 0 7 ((h10 0 7) + 1)) 0 7 (((h10 0 7) + 1) + 1)) 0 11 w22) 0 12 w23) 51 ((h10 0 82).toNat) ((h10 0 7) + 1)) 0 82 ((h10 0 82) + 1)) Q
                        exact ja_wk (fun q hq => by simp only [List.mem_cons, List.not_mem_nil, or_false] at hq; rcases hq with rfl | rfl | rfl <;> rfl) ((ih (20) (by omega)).2.2.1 v14 (ja_up (ja_up (ja_up (ja_up (ja_up (ja_up (ja_up h10 28 ((h 0 44).toNat) 2) 0 7 ((h10 0 7) + 1)) 0 7 (((h10 0 7) + 1) + 1)) 0 11 w22) 0 12 w23) 51 ((h10 0 82).toNat) ((h10 0 7) + 1)) 0 82 ((h10 0 82) + 1)) g24 ⟨by omega, by omega⟩ (⟨⟨ag_trans (by (repeat (first | exact ag_refl | refine ag_up rfl ?_))) (ag_trans (ag_sub (X_X (by decide) (by decide)) k108_0.1) (by (repeat (first | exact ag_refl | refine ag_up rfl ?_)))), (show (h 0 7) < (((h10 0 7) + 1) + 1) by omega), (fun z => by have z2 : w22 = 0 := z; omega), (show (((h10 0 82) + 1) : Int) ≤ 6 by omega), ⟨(show ((h10 0 85) : Int) = (h 0 85) by omega), (show ((h10 0 84) : Int) = (h 0 84) by omega), (show ((h10 0 44) : Int) = (h 0 44) by omega), (show ((h10 0 52) : Int) = (h 0 52) by omega), (show ((h10 0 57) : Int) = (h 0 57) by omega), (show ((h10 0 74) : Int) = 2 ∨ ((h10 0 74) : Int) = 3 by omega), (show ((h10 0 75) : Int) = (h 0 44) by omega)⟩, r_row⟩, by omega⟩) rfl)
                      · intro h25 k210_1 g26
                        replace k210_1 : 0 < (h25 0 8) ∧ (h25 0 1) = (h10 0 1) ∧ (h25 0 118) = (h10 0 118) ∧ (h25 0 127) = (h10 0 127) := k210_1
                        refine ja_if_ne 218 dadvice_213 rfl ⟨by decide, by decide⟩ (fun c213 => absurd c213 (by omega)) (fun c213 => ?_)
                        refine ja_iconst dadvice_216 ?_
                        refine ja_zreturn dadvice_217 rfl (by omega) ?_
                        exact mo_fin (by omega) rfl (k2 h25 (by omega) g26)
                    · have z186 := is1v k183_0 c186
                      replace k183_0 := is1 k183_0 c186
                      refine ja_aload_n dadvice_189 rfl rfl ?_
                      refine fg_params (v := h10 0 82) rfl dadvice_190 ?_
                      refine ja_bipush 6 dadvice_193 rfl ?_
                      refine ja_icmp_ne 204 dadvice_195 rfl ⟨by omega, by omega⟩ ⟨by decide, by decide⟩ (fun c195 => ?_) (fun c195 => ?_)
                      · refine ja_aload_n dadvice_204 rfl rfl ?_
                        refine fg_at (v := (h10 0 7) + 1) rfl dadvice_205 ?_
                        refine ja_istore_n dadvice_208 rfl (by decide) (L2 := [(3, (0, ((h10 0 7) + 1))), (2, (0, v14)), (0, (2, ((0 : Nat) : Int))), (1, (0, (h 0 44)))]) rfl ?_
                        refine ja_aload_n dadvice_209 rfl rfl ?_
                        refine t_name (by decide) (show (0 : Nat) ≤ 8 by decide) dadvice_210 g19  ?_ ?_
                        · intro k210_0 g27
                          replace k210_0 : ((h10 0 7) + 1) < 900 ∧ (h10 2 ((h10 0 7) + 1).toNat) = 2 := k210_0
                          replace g27 : mo_G Zz (ja_up (ja_up (ja_up h10 28 ((h 0 44).toNat) 2) 0 7 ((h10 0 7) + 1)) 0 7 (((h10 0 7) + 1) + 1)) := g27
                          show mJ l D cA ad 9 cX12_advice 4 (some .boolean) 213 [(3, (0, ((h10 0 7) + 1))), (2, (0, v14)), (0, (2, ((0 : Nat) : Int))), (1, (0, (h 0 44)))] [(0, 1)] (ja_up (ja_up (ja_up h10 28 ((h 0 44).toNat) 2) 0 7 ((h10 0 7) + 1)) 0 7 (((h10 0 7) + 1) + 1)) Q
                          refine ja_if_ne 218 dadvice_213 rfl ⟨by decide, by decide⟩ (fun c213 => ?_) (fun c213 => absurd c213 (by omega))
                          refine ja_aload_n dadvice_218 rfl rfl ?_
                          refine ja_iload_n dadvice_219 rfl rfl ?_
                          refine t_param (by decide) (show (0 : Nat) ≤ 8 by decide) dadvice_220 g27 ⟨by omega, by omega⟩ (show 0 ≤ ((h10 0 7) + 1) ∧ ((h10 0 7) + 1) ≤ 900 by omega) (show (h10 0 82) ≤ 6 by omega) ?_
                          intro w28 w29 k220_0 g30
                          replace k220_0 : 0 ≤ w28 ∧ w28 ≤ 8 ∧ (1 ≤ w28 ∨ w28 = (h10 0 11)) ∧ -2147483648 ≤ w29 ∧ w29 ≤ 2147483647 := k220_0
                          replace g30 : mo_G Zz (ja_up (ja_up (ja_up (ja_up (ja_up (ja_up (ja_up h10 28 ((h 0 44).toNat) 2) 0 7 ((h10 0 7) + 1)) 0 7 (((h10 0 7) + 1) + 1)) 0 11 w28) 0 12 w29) 51 ((h10 0 82).toNat) ((h10 0 7) + 1)) 0 82 ((h10 0 82) + 1)) := g30
                          show mJ l D cA ad 9 cX12_advice 4 (some .boolean) 223 [(3, (0, ((h10 0 7) + 1))), (2, (0, v14)), (0, (2, ((0 : Nat) : Int))), (1, (0, (h 0 44)))] [] (ja_up (ja_up (ja_up (ja_up (ja_up (ja_up (ja_up h10 28 ((h 0 44).toNat) 2) 0 7 ((h10 0 7) + 1)) 0 7 (((h10 0 7) + 1) + 1)) 0 11 w28) 0 12 w29) 51 ((h10 0 82).toNat) ((h10 0 7) + 1)) 0 82 ((h10 0 82) + 1)) Q
                          exact ja_wk (fun q hq => by simp only [List.mem_cons, List.not_mem_nil, or_false] at hq; rcases hq with rfl | rfl | rfl <;> rfl) ((ih (20) (by omega)).2.2.1 v14 (ja_up (ja_up (ja_up (ja_up (ja_up (ja_up (ja_up h10 28 ((h 0 44).toNat) 2) 0 7 ((h10 0 7) + 1)) 0 7 (((h10 0 7) + 1) + 1)) 0 11 w28) 0 12 w29) 51 ((h10 0 82).toNat) ((h10 0 7) + 1)) 0 82 ((h10 0 82) + 1)) g30 ⟨by omega, by omega⟩ (⟨⟨ag_trans (by (repeat (first | exact ag_refl | refine ag_up rfl ?_))) (ag_trans (ag_sub (X_X (by decide) (by decide)) k108_0.1) (by (repeat (first | exact ag_refl | refine ag_up rfl ?_)))), (show (h 0 7) < (((h10 0 7) + 1) + 1) by omega), (fun z => by have z2 : w28 = 0 := z; omega), (show (((h10 0 82) + 1) : Int) ≤ 6 by omega), ⟨(show ((h10 0 85) : Int) = (h 0 85) by omega), (show ((h10 0 84) : Int) = (h 0 84) by omega), (show ((h10 0 44) : Int) = (h 0 44) by omega), (show ((h10 0 52) : Int) = (h 0 52) by omega), (show ((h10 0 57) : Int) = (h 0 57) by omega), (show ((h10 0 74) : Int) = 2 ∨ ((h10 0 74) : Int) = 3 by omega), (show ((h10 0 75) : Int) = (h 0 44) by omega)⟩, r_row⟩, by omega⟩) rfl)
                        · intro h31 k210_1 g32
                          replace k210_1 : 0 < (h31 0 8) ∧ (h31 0 1) = (h10 0 1) ∧ (h31 0 118) = (h10 0 118) ∧ (h31 0 127) = (h10 0 127) := k210_1
                          refine ja_if_ne 218 dadvice_213 rfl ⟨by decide, by decide⟩ (fun c213 => absurd c213 (by omega)) (fun c213 => ?_)
                          refine ja_iconst dadvice_216 ?_
                          refine ja_zreturn dadvice_217 rfl (by omega) ?_
                          exact mo_fin (by omega) rfl (k2 h31 (by omega) g32)
                      · refine ja_aload_n dadvice_198 rfl rfl ?_
                        refine ja_iconst dadvice_199 ?_
                        refine t_halt (by decide) (show (0 : Nat) ≤ 8 by decide) dadvice_200 g19 ⟨by decide, by decide⟩ (show 1 ≤ 3 ∧ 3 ≤ 8 by omega) ?_
                        intro h33 k200_0 g34
                        replace k200_0 : 0 < (h33 0 8) ∧ (h33 0 1) = (h10 0 1) ∧ (h33 0 118) = (h10 0 118) ∧ (h33 0 127) = (h10 0 127) ∧ (h33 0 41) = (h10 0 41) := k200_0
                        refine ja_zreturn dadvice_203 rfl (by omega) ?_
                        exact mo_fin (by omega) rfl (k2 h33 (by omega) g34)
                  · intro h35 k174_1 g36
                    replace k174_1 : 0 < (h35 0 8) ∧ (h35 0 1) = (h10 0 1) ∧ (h35 0 118) = (h10 0 118) ∧ (h35 0 127) = (h10 0 127) := k174_1
                    refine ja_if_ne 182 dadvice_177 rfl ⟨by decide, by decide⟩ (fun c177 => absurd c177 (by omega)) (fun c177 => ?_)
                    refine ja_iconst dadvice_180 ?_
                    refine ja_zreturn dadvice_181 rfl (by omega) ?_
                    exact mo_fin (by omega) rfl (k2 h35 (by omega) g36)
                · have z164 := is1v k161_0 c164
                  replace k161_0 := is1 k161_0 c164
                  refine ja_iconst dadvice_167 ?_
                  refine ja_goto 172 dadvice_168 rfl ?_
                  have g37 := gW_adviceGive g11 (h 0 44).toNat (x := 1) ⟨by decide, by decide⟩
                  refine is_adviceGive ⟨by omega, by omega⟩ dadvice_172 ?_
                  refine ja_aload_n dadvice_173 rfl rfl ?_
                  refine t_take (by decide) (show (0 : Nat) ≤ 8 by decide) dadvice_174 g37  ?_ ?_
                  · intro k174_0 g38
                    replace k174_0 : (h10 0 7) < 900 := k174_0
                    replace g38 : mo_G Zz (ja_up (ja_up h10 28 ((h 0 44).toNat) 1) 0 7 ((h10 0 7) + 1)) := g38
                    show mJ l D cA ad 9 cX12_advice 4 (some .boolean) 177 [(2, (0, v14)), (0, (2, ((0 : Nat) : Int))), (1, (0, (h 0 44)))] [(0, 1)] (ja_up (ja_up h10 28 ((h 0 44).toNat) 1) 0 7 ((h10 0 7) + 1)) Q
                    refine ja_if_ne 182 dadvice_177 rfl ⟨by decide, by decide⟩ (fun c177 => ?_) (fun c177 => absurd c177 (by omega))
                    refine ja_aload_n dadvice_182 rfl rfl ?_
                    refine t_isName (by decide) (show (0 : Nat) ≤ 8 by decide) dadvice_183 g38  ?_
                    intro w39 k183_0
                    replace k183_0 : (w39 = 1 ∧ (h10 2 ((h10 0 7) + 1).toNat) = 2) ∨ (w39 = 0 ∧ ¬ (h10 2 ((h10 0 7) + 1).toNat) = 2) := k183_0
                    refine ja_if_eq 204 dadvice_186 rfl ⟨by omega, by omega⟩ (fun c186 => ?_) (fun c186 => ?_)
                    · replace k183_0 := is0 k183_0 c186
                      refine ja_aload_n dadvice_204 rfl rfl ?_
                      refine fg_at (v := (h10 0 7) + 1) rfl dadvice_205 ?_
                      refine ja_istore_n dadvice_208 rfl (by decide) (L2 := [(3, (0, ((h10 0 7) + 1))), (2, (0, v14)), (0, (2, ((0 : Nat) : Int))), (1, (0, (h 0 44)))]) rfl ?_
                      refine ja_aload_n dadvice_209 rfl rfl ?_
                      refine t_name (by decide) (show (0 : Nat) ≤ 8 by decide) dadvice_210 g38  ?_ ?_
                      · intro k210_0 g40
                        replace k210_0 : ((h10 0 7) + 1) < 900 ∧ (h10 2 ((h10 0 7) + 1).toNat) = 2 := k210_0
                        replace g40 : mo_G Zz (ja_up (ja_up (ja_up h10 28 ((h 0 44).toNat) 1) 0 7 ((h10 0 7) + 1)) 0 7 (((h10 0 7) + 1) + 1)) := g40
                        show mJ l D cA ad 9 cX12_advice 4 (some .boolean) 213 [(3, (0, ((h10 0 7) + 1))), (2, (0, v14)), (0, (2, ((0 : Nat) : Int))), (1, (0, (h 0 44)))] [(0, 1)] (ja_up (ja_up (ja_up h10 28 ((h 0 44).toNat) 1) 0 7 ((h10 0 7) + 1)) 0 7 (((h10 0 7) + 1) + 1)) Q
                        refine ja_if_ne 218 dadvice_213 rfl ⟨by decide, by decide⟩ (fun c213 => ?_) (fun c213 => absurd c213 (by omega))
                        refine ja_aload_n dadvice_218 rfl rfl ?_
                        refine ja_iload_n dadvice_219 rfl rfl ?_
                        refine t_param (by decide) (show (0 : Nat) ≤ 8 by decide) dadvice_220 g40 ⟨by omega, by omega⟩ (show 0 ≤ ((h10 0 7) + 1) ∧ ((h10 0 7) + 1) ≤ 900 by omega) (show (h10 0 82) ≤ 6 by omega) ?_
                        intro w41 w42 k220_0 g43
                        replace k220_0 : 0 ≤ w41 ∧ w41 ≤ 8 ∧ (1 ≤ w41 ∨ w41 = (h10 0 11)) ∧ -2147483648 ≤ w42 ∧ w42 ≤ 2147483647 := k220_0
                        replace g43 : mo_G Zz (ja_up (ja_up (ja_up (ja_up (ja_up (ja_up (ja_up h10 28 ((h 0 44).toNat) 1) 0 7 ((h10 0 7) + 1)) 0 7 (((h10 0 7) + 1) + 1)) 0 11 w41) 0 12 w42) 51 ((h10 0 82).toNat) ((h10 0 7) + 1)) 0 82 ((h10 0 82) + 1)) := g43
                        show mJ l D cA ad 9 cX12_advice 4 (some .boolean) 223 [(3, (0, ((h10 0 7) + 1))), (2, (0, v14)), (0, (2, ((0 : Nat) : Int))), (1, (0, (h 0 44)))] [] (ja_up (ja_up (ja_up (ja_up (ja_up (ja_up (ja_up h10 28 ((h 0 44).toNat) 1) 0 7 ((h10 0 7) + 1)) 0 7 (((h10 0 7) + 1) + 1)) 0 11 w41) 0 12 w42) 51 ((h10 0 82).toNat) ((h10 0 7) + 1)) 0 82 ((h10 0 82) + 1)) Q
                        exact ja_wk (fun q hq => by simp only [List.mem_cons, List.not_mem_nil, or_false] at hq; rcases hq with rfl | rfl | rfl <;> rfl) ((ih (20) (by omega)).2.2.1 v14 (ja_up (ja_up (ja_up (ja_up (ja_up (ja_up (ja_up h10 28 ((h 0 44).toNat) 1) 0 7 ((h10 0 7) + 1)) 0 7 (((h10 0 7) + 1) + 1)) 0 11 w41) 0 12 w42) 51 ((h10 0 82).toNat) ((h10 0 7) + 1)) 0 82 ((h10 0 82) + 1)) g43 ⟨by omega, by omega⟩ (⟨⟨ag_trans (by (repeat (first | exact ag_refl | refine ag_up rfl ?_))) (ag_trans (ag_sub (X_X (by decide) (by decide)) k108_0.1) (by (repeat (first | exact ag_refl | refine ag_up rfl ?_)))), (show (h 0 7) < (((h10 0 7) + 1) + 1) by omega), (fun z => by have z2 : w41 = 0 := z; omega), (show (((h10 0 82) + 1) : Int) ≤ 6 by omega), ⟨(show ((h10 0 85) : Int) = (h 0 85) by omega), (show ((h10 0 84) : Int) = (h 0 84) by omega), (show ((h10 0 44) : Int) = (h 0 44) by omega), (show ((h10 0 52) : Int) = (h 0 52) by omega), (show ((h10 0 57) : Int) = (h 0 57) by omega), (show ((h10 0 74) : Int) = 2 ∨ ((h10 0 74) : Int) = 3 by omega), (show ((h10 0 75) : Int) = (h 0 44) by omega)⟩, r_row⟩, by omega⟩) rfl)
                      · intro h44 k210_1 g45
                        replace k210_1 : 0 < (h44 0 8) ∧ (h44 0 1) = (h10 0 1) ∧ (h44 0 118) = (h10 0 118) ∧ (h44 0 127) = (h10 0 127) := k210_1
                        refine ja_if_ne 218 dadvice_213 rfl ⟨by decide, by decide⟩ (fun c213 => absurd c213 (by omega)) (fun c213 => ?_)
                        refine ja_iconst dadvice_216 ?_
                        refine ja_zreturn dadvice_217 rfl (by omega) ?_
                        exact mo_fin (by omega) rfl (k2 h44 (by omega) g45)
                    · have z186 := is1v k183_0 c186
                      replace k183_0 := is1 k183_0 c186
                      refine ja_aload_n dadvice_189 rfl rfl ?_
                      refine fg_params (v := h10 0 82) rfl dadvice_190 ?_
                      refine ja_bipush 6 dadvice_193 rfl ?_
                      refine ja_icmp_ne 204 dadvice_195 rfl ⟨by omega, by omega⟩ ⟨by decide, by decide⟩ (fun c195 => ?_) (fun c195 => ?_)
                      · refine ja_aload_n dadvice_204 rfl rfl ?_
                        refine fg_at (v := (h10 0 7) + 1) rfl dadvice_205 ?_
                        refine ja_istore_n dadvice_208 rfl (by decide) (L2 := [(3, (0, ((h10 0 7) + 1))), (2, (0, v14)), (0, (2, ((0 : Nat) : Int))), (1, (0, (h 0 44)))]) rfl ?_
                        refine ja_aload_n dadvice_209 rfl rfl ?_
                        refine t_name (by decide) (show (0 : Nat) ≤ 8 by decide) dadvice_210 g38  ?_ ?_
                        · intro k210_0 g46
                          replace k210_0 : ((h10 0 7) + 1) < 900 ∧ (h10 2 ((h10 0 7) + 1).toNat) = 2 := k210_0
                          replace g46 : mo_G Zz (ja_up (ja_up (ja_up h10 28 ((h 0 44).toNat) 1) 0 7 ((h10 0 7) + 1)) 0 7 (((h10 0 7) + 1) + 1)) := g46
                          show mJ l D cA ad 9 cX12_advice 4 (some .boolean) 213 [(3, (0, ((h10 0 7) + 1))), (2, (0, v14)), (0, (2, ((0 : Nat) : Int))), (1, (0, (h 0 44)))] [(0, 1)] (ja_up (ja_up (ja_up h10 28 ((h 0 44).toNat) 1) 0 7 ((h10 0 7) + 1)) 0 7 (((h10 0 7) + 1) + 1)) Q
                          refine ja_if_ne 218 dadvice_213 rfl ⟨by decide, by decide⟩ (fun c213 => ?_) (fun c213 => absurd c213 (by omega))
                          refine ja_aload_n dadvice_218 rfl rfl ?_
                          refine ja_iload_n dadvice_219 rfl rfl ?_
                          refine t_param (by decide) (show (0 : Nat) ≤ 8 by decide) dadvice_220 g46 ⟨by omega, by omega⟩ (show 0 ≤ ((h10 0 7) + 1) ∧ ((h10 0 7) + 1) ≤ 900 by omega) (show (h10 0 82) ≤ 6 by omega) ?_
                          intro w47 w48 k220_0 g49
                          replace k220_0 : 0 ≤ w47 ∧ w47 ≤ 8 ∧ (1 ≤ w47 ∨ w47 = (h10 0 11)) ∧ -2147483648 ≤ w48 ∧ w48 ≤ 2147483647 := k220_0
                          replace g49 : mo_G Zz (ja_up (ja_up (ja_up (ja_up (ja_up (ja_up (ja_up h10 28 ((h 0 44).toNat) 1) 0 7 ((h10 0 7) + 1)) 0 7 (((h10 0 7) + 1) + 1)) 0 11 w47) 0 12 w48) 51 ((h10 0 82).toNat) ((h10 0 7) + 1)) 0 82 ((h10 0 82) + 1)) := g49
                          show mJ l D cA ad 9 cX12_advice 4 (some .boolean) 223 [(3, (0, ((h10 0 7) + 1))), (2, (0, v14)), (0, (2, ((0 : Nat) : Int))), (1, (0, (h 0 44)))] [] (ja_up (ja_up (ja_up (ja_up (ja_up (ja_up (ja_up h10 28 ((h 0 44).toNat) 1) 0 7 ((h10 0 7) + 1)) 0 7 (((h10 0 7) + 1) + 1)) 0 11 w47) 0 12 w48) 51 ((h10 0 82).toNat) ((h10 0 7) + 1)) 0 82 ((h10 0 82) + 1)) Q
                          exact ja_wk (fun q hq => by simp only [List.mem_cons, List.not_mem_nil, or_false] at hq; rcases hq with rfl | rfl | rfl <;> rfl) ((ih (20) (by omega)).2.2.1 v14 (ja_up (ja_up (ja_up (ja_up (ja_up (ja_up (ja_up h10 28 ((h 0 44).toNat) 1) 0 7 ((h10 0 7) + 1)) 0 7 (((h10 0 7) + 1) + 1)) 0 11 w47) 0 12 w48) 51 ((h10 0 82).toNat) ((h10 0 7) + 1)) 0 82 ((h10 0 82) + 1)) g49 ⟨by omega, by omega⟩ (⟨⟨ag_trans (by (repeat (first | exact ag_refl | refine ag_up rfl ?_))) (ag_trans (ag_sub (X_X (by decide) (by decide)) k108_0.1) (by (repeat (first | exact ag_refl | refine ag_up rfl ?_)))), (show (h 0 7) < (((h10 0 7) + 1) + 1) by omega), (fun z => by have z2 : w47 = 0 := z; omega), (show (((h10 0 82) + 1) : Int) ≤ 6 by omega), ⟨(show ((h10 0 85) : Int) = (h 0 85) by omega), (show ((h10 0 84) : Int) = (h 0 84) by omega), (show ((h10 0 44) : Int) = (h 0 44) by omega), (show ((h10 0 52) : Int) = (h 0 52) by omega), (show ((h10 0 57) : Int) = (h 0 57) by omega), (show ((h10 0 74) : Int) = 2 ∨ ((h10 0 74) : Int) = 3 by omega), (show ((h10 0 75) : Int) = (h 0 44) by omega)⟩, r_row⟩, by omega⟩) rfl)
                        · intro h50 k210_1 g51
                          replace k210_1 : 0 < (h50 0 8) ∧ (h50 0 1) = (h10 0 1) ∧ (h50 0 118) = (h10 0 118) ∧ (h50 0 127) = (h10 0 127) := k210_1
                          refine ja_if_ne 218 dadvice_213 rfl ⟨by decide, by decide⟩ (fun c213 => absurd c213 (by omega)) (fun c213 => ?_)
                          refine ja_iconst dadvice_216 ?_
                          refine ja_zreturn dadvice_217 rfl (by omega) ?_
                          exact mo_fin (by omega) rfl (k2 h50 (by omega) g51)
                      · refine ja_aload_n dadvice_198 rfl rfl ?_
                        refine ja_iconst dadvice_199 ?_
                        refine t_halt (by decide) (show (0 : Nat) ≤ 8 by decide) dadvice_200 g38 ⟨by decide, by decide⟩ (show 1 ≤ 3 ∧ 3 ≤ 8 by omega) ?_
                        intro h52 k200_0 g53
                        replace k200_0 : 0 < (h52 0 8) ∧ (h52 0 1) = (h10 0 1) ∧ (h52 0 118) = (h10 0 118) ∧ (h52 0 127) = (h10 0 127) ∧ (h52 0 41) = (h10 0 41) := k200_0
                        refine ja_zreturn dadvice_203 rfl (by omega) ?_
                        exact mo_fin (by omega) rfl (k2 h52 (by omega) g53)
                  · intro h54 k174_1 g55
                    replace k174_1 : 0 < (h54 0 8) ∧ (h54 0 1) = (h10 0 1) ∧ (h54 0 118) = (h10 0 118) ∧ (h54 0 127) = (h10 0 127) := k174_1
                    refine ja_if_ne 182 dadvice_177 rfl ⟨by decide, by decide⟩ (fun c177 => absurd c177 (by omega)) (fun c177 => ?_)
                    refine ja_iconst dadvice_180 ?_
                    refine ja_zreturn dadvice_181 rfl (by omega) ?_
                    exact mo_fin (by omega) rfl (k2 h54 (by omega) g55)
              · replace k138_0 := is0 k138_0 c141
                refine ja_aload_n dadvice_144 rfl rfl ?_
                refine ja_bipush 13 dadvice_145 rfl ?_
                refine t_isWord (by decide) (show (0 : Nat) ≤ 8 by decide) dadvice_147 g11 ⟨by decide, by decide⟩ ?_
                intro w56 k147_0
                refine ja_if_eq 223 dadvice_150 rfl ⟨by omega, by omega⟩ (fun c150 => ?_) (fun c150 => ?_)
                · replace k147_0 := is0 k147_0 c150
                  exact ja_wk (fun q hq => by simp only [List.mem_cons, List.not_mem_nil, or_false] at hq; rcases hq with rfl | rfl | rfl <;> rfl) ((ih (20) (by omega)).2.2.1 v14 h10 g11 ⟨by omega, by omega⟩ (⟨⟨ag_trans (by (repeat (first | exact ag_refl | refine ag_up rfl ?_))) (ag_trans (ag_sub (X_X (by decide) (by decide)) k108_0.1) (by (repeat (first | exact ag_refl | refine ag_up rfl ?_)))), (show (h 0 7) < (h10 0 7) by omega), (fun z => by have z2 : (h10 0 11) = 0 := z; omega), (show ((h10 0 82) : Int) ≤ 6 by omega), ⟨(show ((h10 0 85) : Int) = (h 0 85) by omega), (show ((h10 0 84) : Int) = (h 0 84) by omega), (show ((h10 0 44) : Int) = (h 0 44) by omega), (show ((h10 0 52) : Int) = (h 0 52) by omega), (show ((h10 0 57) : Int) = (h 0 57) by omega), (show ((h10 0 74) : Int) = 2 ∨ ((h10 0 74) : Int) = 3 by omega), (show ((h10 0 75) : Int) = (h 0 44) by omega)⟩, r_row⟩, by omega⟩) rfl)
                · have z150 := is1v k147_0 c150
                  replace k147_0 := is1 k147_0 c150
                  refine ja_aload_n dadvice_153 rfl rfl ?_
                  refine fa_adviceGive dadvice_154 ?_
                  refine ja_iload_n dadvice_157 rfl rfl ?_
                  refine ja_aload_n dadvice_158 rfl rfl ?_
                  refine ja_bipush 17 dadvice_159 rfl ?_
                  refine t_isWord (by decide) (show (2 : Nat) ≤ 8 by decide) dadvice_161 g11 ⟨by decide, by decide⟩ ?_
                  intro w57 k161_0
                  refine ja_if_eq 171 dadvice_164 rfl ⟨by omega, by omega⟩ (fun c164 => ?_) (fun c164 => ?_)
                  · replace k161_0 := is0 k161_0 c164
                    refine ja_iconst dadvice_171 ?_
                    have g58 := gW_adviceGive g11 (h 0 44).toNat (x := 2) ⟨by decide, by decide⟩
                    refine is_adviceGive ⟨by omega, by omega⟩ dadvice_172 ?_
                    refine ja_aload_n dadvice_173 rfl rfl ?_
                    refine t_take (by decide) (show (0 : Nat) ≤ 8 by decide) dadvice_174 g58  ?_ ?_
                    · intro k174_0 g59
                      replace k174_0 : (h10 0 7) < 900 := k174_0
                      replace g59 : mo_G Zz (ja_up (ja_up h10 28 ((h 0 44).toNat) 2) 0 7 ((h10 0 7) + 1)) := g59
                      show mJ l D cA ad 9 cX12_advice 4 (some .boolean) 177 [(2, (0, v14)), (0, (2, ((0 : Nat) : Int))), (1, (0, (h 0 44)))] [(0, 1)] (ja_up (ja_up h10 28 ((h 0 44).toNat) 2) 0 7 ((h10 0 7) + 1)) Q
                      refine ja_if_ne 182 dadvice_177 rfl ⟨by decide, by decide⟩ (fun c177 => ?_) (fun c177 => absurd c177 (by omega))
                      refine ja_aload_n dadvice_182 rfl rfl ?_
                      refine t_isName (by decide) (show (0 : Nat) ≤ 8 by decide) dadvice_183 g59  ?_
                      intro w60 k183_0
                      replace k183_0 : (w60 = 1 ∧ (h10 2 ((h10 0 7) + 1).toNat) = 2) ∨ (w60 = 0 ∧ ¬ (h10 2 ((h10 0 7) + 1).toNat) = 2) := k183_0
                      refine ja_if_eq 204 dadvice_186 rfl ⟨by omega, by omega⟩ (fun c186 => ?_) (fun c186 => ?_)
                      · replace k183_0 := is0 k183_0 c186
                        refine ja_aload_n dadvice_204 rfl rfl ?_
                        refine fg_at (v := (h10 0 7) + 1) rfl dadvice_205 ?_
                        refine ja_istore_n dadvice_208 rfl (by decide) (L2 := [(3, (0, ((h10 0 7) + 1))), (2, (0, v14)), (0, (2, ((0 : Nat) : Int))), (1, (0, (h 0 44)))]) rfl ?_
                        refine ja_aload_n dadvice_209 rfl rfl ?_
                        refine t_name (by decide) (show (0 : Nat) ≤ 8 by decide) dadvice_210 g59  ?_ ?_
                        · intro k210_0 g61
                          replace k210_0 : ((h10 0 7) + 1) < 900 ∧ (h10 2 ((h10 0 7) + 1).toNat) = 2 := k210_0
                          replace g61 : mo_G Zz (ja_up (ja_up (ja_up h10 28 ((h 0 44).toNat) 2) 0 7 ((h10 0 7) + 1)) 0 7 (((h10 0 7) + 1) + 1)) := g61
                          show mJ l D cA ad 9 cX12_advice 4 (some .boolean) 213 [(3, (0, ((h10 0 7) + 1))), (2, (0, v14)), (0, (2, ((0 : Nat) : Int))), (1, (0, (h 0 44)))] [(0, 1)] (ja_up (ja_up (ja_up h10 28 ((h 0 44).toNat) 2) 0 7 ((h10 0 7) + 1)) 0 7 (((h10 0 7) + 1) + 1)) Q
                          refine ja_if_ne 218 dadvice_213 rfl ⟨by decide, by decide⟩ (fun c213 => ?_) (fun c213 => absurd c213 (by omega))
                          refine ja_aload_n dadvice_218 rfl rfl ?_
                          refine ja_iload_n dadvice_219 rfl rfl ?_
                          refine t_param (by decide) (show (0 : Nat) ≤ 8 by decide) dadvice_220 g61 ⟨by omega, by omega⟩ (show 0 ≤ ((h10 0 7) + 1) ∧ ((h10 0 7) + 1) ≤ 900 by omega) (show (h10 0 82) ≤ 6 by omega) ?_
                          intro w62 w63 k220_0 g64
                          replace k220_0 : 0 ≤ w62 ∧ w62 ≤ 8 ∧ (1 ≤ w62 ∨ w62 = (h10 0 11)) ∧ -2147483648 ≤ w63 ∧ w63 ≤ 2147483647 := k220_0
                          replace g64 : mo_G Zz (ja_up (ja_up (ja_up (ja_up (ja_up (ja_up (ja_up h10 28 ((h 0 44).toNat) 2) 0 7 ((h10 0 7) + 1)) 0 7 (((h10 0 7) + 1) + 1)) 0 11 w62) 0 12 w63) 51 ((h10 0 82).toNat) ((h10 0 7) + 1)) 0 82 ((h10 0 82) + 1)) := g64
                          show mJ l D cA ad 9 cX12_advice 4 (some .boolean) 223 [(3, (0, ((h10 0 7) + 1))), (2, (0, v14)), (0, (2, ((0 : Nat) : Int))), (1, (0, (h 0 44)))] [] (ja_up (ja_up (ja_up (ja_up (ja_up (ja_up (ja_up h10 28 ((h 0 44).toNat) 2) 0 7 ((h10 0 7) + 1)) 0 7 (((h10 0 7) + 1) + 1)) 0 11 w62) 0 12 w63) 51 ((h10 0 82).toNat) ((h10 0 7) + 1)) 0 82 ((h10 0 82) + 1)) Q
                          exact ja_wk (fun q hq => by simp only [List.mem_cons, List.not_mem_nil, or_false] at hq; rcases hq with rfl | rfl | rfl <;> rfl) ((ih (20) (by omega)).2.2.1 v14 (ja_up (ja_up (ja_up (ja_up (ja_up (ja_up (ja_up h10 28 ((h 0 44).toNat) 2) 0 7 ((h10 0 7) + 1)) 0 7 (((h10 0 7) + 1) + 1)) 0 11 w62) 0 12 w63) 51 ((h10 0 82).toNat) ((h10 0 7) + 1)) 0 82 ((h10 0 82) + 1)) g64 ⟨by omega, by omega⟩ (⟨⟨ag_trans (by (repeat (first | exact ag_refl | refine ag_up rfl ?_))) (ag_trans (ag_sub (X_X (by decide) (by decide)) k108_0.1) (by (repeat (first | exact ag_refl | refine ag_up rfl ?_)))), (show (h 0 7) < (((h10 0 7) + 1) + 1) by omega), (fun z => by have z2 : w62 = 0 := z; omega), (show (((h10 0 82) + 1) : Int) ≤ 6 by omega), ⟨(show ((h10 0 85) : Int) = (h 0 85) by omega), (show ((h10 0 84) : Int) = (h 0 84) by omega), (show ((h10 0 44) : Int) = (h 0 44) by omega), (show ((h10 0 52) : Int) = (h 0 52) by omega), (show ((h10 0 57) : Int) = (h 0 57) by omega), (show ((h10 0 74) : Int) = 2 ∨ ((h10 0 74) : Int) = 3 by omega), (show ((h10 0 75) : Int) = (h 0 44) by omega)⟩, r_row⟩, by omega⟩) rfl)
                        · intro h65 k210_1 g66
                          replace k210_1 : 0 < (h65 0 8) ∧ (h65 0 1) = (h10 0 1) ∧ (h65 0 118) = (h10 0 118) ∧ (h65 0 127) = (h10 0 127) := k210_1
                          refine ja_if_ne 218 dadvice_213 rfl ⟨by decide, by decide⟩ (fun c213 => absurd c213 (by omega)) (fun c213 => ?_)
                          refine ja_iconst dadvice_216 ?_
                          refine ja_zreturn dadvice_217 rfl (by omega) ?_
                          exact mo_fin (by omega) rfl (k2 h65 (by omega) g66)
                      · have z186 := is1v k183_0 c186
                        replace k183_0 := is1 k183_0 c186
                        refine ja_aload_n dadvice_189 rfl rfl ?_
                        refine fg_params (v := h10 0 82) rfl dadvice_190 ?_
                        refine ja_bipush 6 dadvice_193 rfl ?_
                        refine ja_icmp_ne 204 dadvice_195 rfl ⟨by omega, by omega⟩ ⟨by decide, by decide⟩ (fun c195 => ?_) (fun c195 => ?_)
                        · refine ja_aload_n dadvice_204 rfl rfl ?_
                          refine fg_at (v := (h10 0 7) + 1) rfl dadvice_205 ?_
                          refine ja_istore_n dadvice_208 rfl (by decide) (L2 := [(3, (0, ((h10 0 7) + 1))), (2, (0, v14)), (0, (2, ((0 : Nat) : Int))), (1, (0, (h 0 44)))]) rfl ?_
                          refine ja_aload_n dadvice_209 rfl rfl ?_
                          refine t_name (by decide) (show (0 : Nat) ≤ 8 by decide) dadvice_210 g59  ?_ ?_
                          · intro k210_0 g67
                            replace k210_0 : ((h10 0 7) + 1) < 900 ∧ (h10 2 ((h10 0 7) + 1).toNat) = 2 := k210_0
                            replace g67 : mo_G Zz (ja_up (ja_up (ja_up h10 28 ((h 0 44).toNat) 2) 0 7 ((h10 0 7) + 1)) 0 7 (((h10 0 7) + 1) + 1)) := g67
                            show mJ l D cA ad 9 cX12_advice 4 (some .boolean) 213 [(3, (0, ((h10 0 7) + 1))), (2, (0, v14)), (0, (2, ((0 : Nat) : Int))), (1, (0, (h 0 44)))] [(0, 1)] (ja_up (ja_up (ja_up h10 28 ((h 0 44).toNat) 2) 0 7 ((h10 0 7) + 1)) 0 7 (((h10 0 7) + 1) + 1)) Q
                            refine ja_if_ne 218 dadvice_213 rfl ⟨by decide, by decide⟩ (fun c213 => ?_) (fun c213 => absurd c213 (by omega))
                            refine ja_aload_n dadvice_218 rfl rfl ?_
                            refine ja_iload_n dadvice_219 rfl rfl ?_
                            refine t_param (by decide) (show (0 : Nat) ≤ 8 by decide) dadvice_220 g67 ⟨by omega, by omega⟩ (show 0 ≤ ((h10 0 7) + 1) ∧ ((h10 0 7) + 1) ≤ 900 by omega) (show (h10 0 82) ≤ 6 by omega) ?_
                            intro w68 w69 k220_0 g70
                            replace k220_0 : 0 ≤ w68 ∧ w68 ≤ 8 ∧ (1 ≤ w68 ∨ w68 = (h10 0 11)) ∧ -2147483648 ≤ w69 ∧ w69 ≤ 2147483647 := k220_0
                            replace g70 : mo_G Zz (ja_up (ja_up (ja_up (ja_up (ja_up (ja_up (ja_up h10 28 ((h 0 44).toNat) 2) 0 7 ((h10 0 7) + 1)) 0 7 (((h10 0 7) + 1) + 1)) 0 11 w68) 0 12 w69) 51 ((h10 0 82).toNat) ((h10 0 7) + 1)) 0 82 ((h10 0 82) + 1)) := g70
                            show mJ l D cA ad 9 cX12_advice 4 (some .boolean) 223 [(3, (0, ((h10 0 7) + 1))), (2, (0, v14)), (0, (2, ((0 : Nat) : Int))), (1, (0, (h 0 44)))] [] (ja_up (ja_up (ja_up (ja_up (ja_up (ja_up (ja_up h10 28 ((h 0 44).toNat) 2) 0 7 ((h10 0 7) + 1)) 0 7 (((h10 0 7) + 1) + 1)) 0 11 w68) 0 12 w69) 51 ((h10 0 82).toNat) ((h10 0 7) + 1)) 0 82 ((h10 0 82) + 1)) Q
                            exact ja_wk (fun q hq => by simp only [List.mem_cons, List.not_mem_nil, or_false] at hq; rcases hq with rfl | rfl | rfl <;> rfl) ((ih (20) (by omega)).2.2.1 v14 (ja_up (ja_up (ja_up (ja_up (ja_up (ja_up (ja_up h10 28 ((h 0 44).toNat) 2) 0 7 ((h10 0 7) + 1)) 0 7 (((h10 0 7) + 1) + 1)) 0 11 w68) 0 12 w69) 51 ((h10 0 82).toNat) ((h10 0 7) + 1)) 0 82 ((h10 0 82) + 1)) g70 ⟨by omega, by omega⟩ (⟨⟨ag_trans (by (repeat (first | exact ag_refl | refine ag_up rfl ?_))) (ag_trans (ag_sub (X_X (by decide) (by decide)) k108_0.1) (by (repeat (first | exact ag_refl | refine ag_up rfl ?_)))), (show (h 0 7) < (((h10 0 7) + 1) + 1) by omega), (fun z => by have z2 : w68 = 0 := z; omega), (show (((h10 0 82) + 1) : Int) ≤ 6 by omega), ⟨(show ((h10 0 85) : Int) = (h 0 85) by omega), (show ((h10 0 84) : Int) = (h 0 84) by omega), (show ((h10 0 44) : Int) = (h 0 44) by omega), (show ((h10 0 52) : Int) = (h 0 52) by omega), (show ((h10 0 57) : Int) = (h 0 57) by omega), (show ((h10 0 74) : Int) = 2 ∨ ((h10 0 74) : Int) = 3 by omega), (show ((h10 0 75) : Int) = (h 0 44) by omega)⟩, r_row⟩, by omega⟩) rfl)
                          · intro h71 k210_1 g72
                            replace k210_1 : 0 < (h71 0 8) ∧ (h71 0 1) = (h10 0 1) ∧ (h71 0 118) = (h10 0 118) ∧ (h71 0 127) = (h10 0 127) := k210_1
                            refine ja_if_ne 218 dadvice_213 rfl ⟨by decide, by decide⟩ (fun c213 => absurd c213 (by omega)) (fun c213 => ?_)
                            refine ja_iconst dadvice_216 ?_
                            refine ja_zreturn dadvice_217 rfl (by omega) ?_
                            exact mo_fin (by omega) rfl (k2 h71 (by omega) g72)
                        · refine ja_aload_n dadvice_198 rfl rfl ?_
                          refine ja_iconst dadvice_199 ?_
                          refine t_halt (by decide) (show (0 : Nat) ≤ 8 by decide) dadvice_200 g59 ⟨by decide, by decide⟩ (show 1 ≤ 3 ∧ 3 ≤ 8 by omega) ?_
                          intro h73 k200_0 g74
                          replace k200_0 : 0 < (h73 0 8) ∧ (h73 0 1) = (h10 0 1) ∧ (h73 0 118) = (h10 0 118) ∧ (h73 0 127) = (h10 0 127) ∧ (h73 0 41) = (h10 0 41) := k200_0
                          refine ja_zreturn dadvice_203 rfl (by omega) ?_
                          exact mo_fin (by omega) rfl (k2 h73 (by omega) g74)
                    · intro h75 k174_1 g76
                      replace k174_1 : 0 < (h75 0 8) ∧ (h75 0 1) = (h10 0 1) ∧ (h75 0 118) = (h10 0 118) ∧ (h75 0 127) = (h10 0 127) := k174_1
                      refine ja_if_ne 182 dadvice_177 rfl ⟨by decide, by decide⟩ (fun c177 => absurd c177 (by omega)) (fun c177 => ?_)
                      refine ja_iconst dadvice_180 ?_
                      refine ja_zreturn dadvice_181 rfl (by omega) ?_
                      exact mo_fin (by omega) rfl (k2 h75 (by omega) g76)
                  · have z164 := is1v k161_0 c164
                    replace k161_0 := is1 k161_0 c164
                    refine ja_iconst dadvice_167 ?_
                    refine ja_goto 172 dadvice_168 rfl ?_
                    have g77 := gW_adviceGive g11 (h 0 44).toNat (x := 1) ⟨by decide, by decide⟩
                    refine is_adviceGive ⟨by omega, by omega⟩ dadvice_172 ?_
                    refine ja_aload_n dadvice_173 rfl rfl ?_
                    refine t_take (by decide) (show (0 : Nat) ≤ 8 by decide) dadvice_174 g77  ?_ ?_
                    · intro k174_0 g78
                      replace k174_0 : (h10 0 7) < 900 := k174_0
                      replace g78 : mo_G Zz (ja_up (ja_up h10 28 ((h 0 44).toNat) 1) 0 7 ((h10 0 7) + 1)) := g78
                      show mJ l D cA ad 9 cX12_advice 4 (some .boolean) 177 [(2, (0, v14)), (0, (2, ((0 : Nat) : Int))), (1, (0, (h 0 44)))] [(0, 1)] (ja_up (ja_up h10 28 ((h 0 44).toNat) 1) 0 7 ((h10 0 7) + 1)) Q
                      refine ja_if_ne 182 dadvice_177 rfl ⟨by decide, by decide⟩ (fun c177 => ?_) (fun c177 => absurd c177 (by omega))
                      refine ja_aload_n dadvice_182 rfl rfl ?_
                      refine t_isName (by decide) (show (0 : Nat) ≤ 8 by decide) dadvice_183 g78  ?_
                      intro w79 k183_0
                      replace k183_0 : (w79 = 1 ∧ (h10 2 ((h10 0 7) + 1).toNat) = 2) ∨ (w79 = 0 ∧ ¬ (h10 2 ((h10 0 7) + 1).toNat) = 2) := k183_0
                      refine ja_if_eq 204 dadvice_186 rfl ⟨by omega, by omega⟩ (fun c186 => ?_) (fun c186 => ?_)
                      · replace k183_0 := is0 k183_0 c186
                        refine ja_aload_n dadvice_204 rfl rfl ?_
                        refine fg_at (v := (h10 0 7) + 1) rfl dadvice_205 ?_
                        refine ja_istore_n dadvice_208 rfl (by decide) (L2 := [(3, (0, ((h10 0 7) + 1))), (2, (0, v14)), (0, (2, ((0 : Nat) : Int))), (1, (0, (h 0 44)))]) rfl ?_
                        refine ja_aload_n dadvice_209 rfl rfl ?_
                        refine t_name (by decide) (show (0 : Nat) ≤ 8 by decide) dadvice_210 g78  ?_ ?_
                        · intro k210_0 g80
                          replace k210_0 : ((h10 0 7) + 1) < 900 ∧ (h10 2 ((h10 0 7) + 1).toNat) = 2 := k210_0
                          replace g80 : mo_G Zz (ja_up (ja_up (ja_up h10 28 ((h 0 44).toNat) 1) 0 7 ((h10 0 7) + 1)) 0 7 (((h10 0 7) + 1) + 1)) := g80
                          show mJ l D cA ad 9 cX12_advice 4 (some .boolean) 213 [(3, (0, ((h10 0 7) + 1))), (2, (0, v14)), (0, (2, ((0 : Nat) : Int))), (1, (0, (h 0 44)))] [(0, 1)] (ja_up (ja_up (ja_up h10 28 ((h 0 44).toNat) 1) 0 7 ((h10 0 7) + 1)) 0 7 (((h10 0 7) + 1) + 1)) Q
                          refine ja_if_ne 218 dadvice_213 rfl ⟨by decide, by decide⟩ (fun c213 => ?_) (fun c213 => absurd c213 (by omega))
                          refine ja_aload_n dadvice_218 rfl rfl ?_
                          refine ja_iload_n dadvice_219 rfl rfl ?_
                          refine t_param (by decide) (show (0 : Nat) ≤ 8 by decide) dadvice_220 g80 ⟨by omega, by omega⟩ (show 0 ≤ ((h10 0 7) + 1) ∧ ((h10 0 7) + 1) ≤ 900 by omega) (show (h10 0 82) ≤ 6 by omega) ?_
                          intro w81 w82 k220_0 g83
                          replace k220_0 : 0 ≤ w81 ∧ w81 ≤ 8 ∧ (1 ≤ w81 ∨ w81 = (h10 0 11)) ∧ -2147483648 ≤ w82 ∧ w82 ≤ 2147483647 := k220_0
                          replace g83 : mo_G Zz (ja_up (ja_up (ja_up (ja_up (ja_up (ja_up (ja_up h10 28 ((h 0 44).toNat) 1) 0 7 ((h10 0 7) + 1)) 0 7 (((h10 0 7) + 1) + 1)) 0 11 w81) 0 12 w82) 51 ((h10 0 82).toNat) ((h10 0 7) + 1)) 0 82 ((h10 0 82) + 1)) := g83
                          show mJ l D cA ad 9 cX12_advice 4 (some .boolean) 223 [(3, (0, ((h10 0 7) + 1))), (2, (0, v14)), (0, (2, ((0 : Nat) : Int))), (1, (0, (h 0 44)))] [] (ja_up (ja_up (ja_up (ja_up (ja_up (ja_up (ja_up h10 28 ((h 0 44).toNat) 1) 0 7 ((h10 0 7) + 1)) 0 7 (((h10 0 7) + 1) + 1)) 0 11 w81) 0 12 w82) 51 ((h10 0 82).toNat) ((h10 0 7) + 1)) 0 82 ((h10 0 82) + 1)) Q
                          exact ja_wk (fun q hq => by simp only [List.mem_cons, List.not_mem_nil, or_false] at hq; rcases hq with rfl | rfl | rfl <;> rfl) ((ih (20) (by omega)).2.2.1 v14 (ja_up (ja_up (ja_up (ja_up (ja_up (ja_up (ja_up h10 28 ((h 0 44).toNat) 1) 0 7 ((h10 0 7) + 1)) 0 7 (((h10 0 7) + 1) + 1)) 0 11 w81) 0 12 w82) 51 ((h10 0 82).toNat) ((h10 0 7) + 1)) 0 82 ((h10 0 82) + 1)) g83 ⟨by omega, by omega⟩ (⟨⟨ag_trans (by (repeat (first | exact ag_refl | refine ag_up rfl ?_))) (ag_trans (ag_sub (X_X (by decide) (by decide)) k108_0.1) (by (repeat (first | exact ag_refl | refine ag_up rfl ?_)))), (show (h 0 7) < (((h10 0 7) + 1) + 1) by omega), (fun z => by have z2 : w81 = 0 := z; omega), (show (((h10 0 82) + 1) : Int) ≤ 6 by omega), ⟨(show ((h10 0 85) : Int) = (h 0 85) by omega), (show ((h10 0 84) : Int) = (h 0 84) by omega), (show ((h10 0 44) : Int) = (h 0 44) by omega), (show ((h10 0 52) : Int) = (h 0 52) by omega), (show ((h10 0 57) : Int) = (h 0 57) by omega), (show ((h10 0 74) : Int) = 2 ∨ ((h10 0 74) : Int) = 3 by omega), (show ((h10 0 75) : Int) = (h 0 44) by omega)⟩, r_row⟩, by omega⟩) rfl)
                        · intro h84 k210_1 g85
                          replace k210_1 : 0 < (h84 0 8) ∧ (h84 0 1) = (h10 0 1) ∧ (h84 0 118) = (h10 0 118) ∧ (h84 0 127) = (h10 0 127) := k210_1
                          refine ja_if_ne 218 dadvice_213 rfl ⟨by decide, by decide⟩ (fun c213 => absurd c213 (by omega)) (fun c213 => ?_)
                          refine ja_iconst dadvice_216 ?_
                          refine ja_zreturn dadvice_217 rfl (by omega) ?_
                          exact mo_fin (by omega) rfl (k2 h84 (by omega) g85)
                      · have z186 := is1v k183_0 c186
                        replace k183_0 := is1 k183_0 c186
                        refine ja_aload_n dadvice_189 rfl rfl ?_
                        refine fg_params (v := h10 0 82) rfl dadvice_190 ?_
                        refine ja_bipush 6 dadvice_193 rfl ?_
                        refine ja_icmp_ne 204 dadvice_195 rfl ⟨by omega, by omega⟩ ⟨by decide, by decide⟩ (fun c195 => ?_) (fun c195 => ?_)
                        · refine ja_aload_n dadvice_204 rfl rfl ?_
                          refine fg_at (v := (h10 0 7) + 1) rfl dadvice_205 ?_
                          refine ja_istore_n dadvice_208 rfl (by decide) (L2 := [(3, (0, ((h10 0 7) + 1))), (2, (0, v14)), (0, (2, ((0 : Nat) : Int))), (1, (0, (h 0 44)))]) rfl ?_
                          refine ja_aload_n dadvice_209 rfl rfl ?_
                          refine t_name (by decide) (show (0 : Nat) ≤ 8 by decide) dadvice_210 g78  ?_ ?_
                          · intro k210_0 g86
                            replace k210_0 : ((h10 0 7) + 1) < 900 ∧ (h10 2 ((h10 0 7) + 1).toNat) = 2 := k210_0
                            replace g86 : mo_G Zz (ja_up (ja_up (ja_up h10 28 ((h 0 44).toNat) 1) 0 7 ((h10 0 7) + 1)) 0 7 (((h10 0 7) + 1) + 1)) := g86
                            show mJ l D cA ad 9 cX12_advice 4 (some .boolean) 213 [(3, (0, ((h10 0 7) + 1))), (2, (0, v14)), (0, (2, ((0 : Nat) : Int))), (1, (0, (h 0 44)))] [(0, 1)] (ja_up (ja_up (ja_up h10 28 ((h 0 44).toNat) 1) 0 7 ((h10 0 7) + 1)) 0 7 (((h10 0 7) + 1) + 1)) Q
                            refine ja_if_ne 218 dadvice_213 rfl ⟨by decide, by decide⟩ (fun c213 => ?_) (fun c213 => absurd c213 (by omega))
                            refine ja_aload_n dadvice_218 rfl rfl ?_
                            refine ja_iload_n dadvice_219 rfl rfl ?_
                            refine t_param (by decide) (show (0 : Nat) ≤ 8 by decide) dadvice_220 g86 ⟨by omega, by omega⟩ (show 0 ≤ ((h10 0 7) + 1) ∧ ((h10 0 7) + 1) ≤ 900 by omega) (show (h10 0 82) ≤ 6 by omega) ?_
                            intro w87 w88 k220_0 g89
                            replace k220_0 : 0 ≤ w87 ∧ w87 ≤ 8 ∧ (1 ≤ w87 ∨ w87 = (h10 0 11)) ∧ -2147483648 ≤ w88 ∧ w88 ≤ 2147483647 := k220_0
                            replace g89 : mo_G Zz (ja_up (ja_up (ja_up (ja_up (ja_up (ja_up (ja_up h10 28 ((h 0 44).toNat) 1) 0 7 ((h10 0 7) + 1)) 0 7 (((h10 0 7) + 1) + 1)) 0 11 w87) 0 12 w88) 51 ((h10 0 82).toNat) ((h10 0 7) + 1)) 0 82 ((h10 0 82) + 1)) := g89
                            show mJ l D cA ad 9 cX12_advice 4 (some .boolean) 223 [(3, (0, ((h10 0 7) + 1))), (2, (0, v14)), (0, (2, ((0 : Nat) : Int))), (1, (0, (h 0 44)))] [] (ja_up (ja_up (ja_up (ja_up (ja_up (ja_up (ja_up h10 28 ((h 0 44).toNat) 1) 0 7 ((h10 0 7) + 1)) 0 7 (((h10 0 7) + 1) + 1)) 0 11 w87) 0 12 w88) 51 ((h10 0 82).toNat) ((h10 0 7) + 1)) 0 82 ((h10 0 82) + 1)) Q
                            exact ja_wk (fun q hq => by simp only [List.mem_cons, List.not_mem_nil, or_false] at hq; rcases hq with rfl | rfl | rfl <;> rfl) ((ih (20) (by omega)).2.2.1 v14 (ja_up (ja_up (ja_up (ja_up (ja_up (ja_up (ja_up h10 28 ((h 0 44).toNat) 1) 0 7 ((h10 0 7) + 1)) 0 7 (((h10 0 7) + 1) + 1)) 0 11 w87) 0 12 w88) 51 ((h10 0 82).toNat) ((h10 0 7) + 1)) 0 82 ((h10 0 82) + 1)) g89 ⟨by omega, by omega⟩ (⟨⟨ag_trans (by (repeat (first | exact ag_refl | refine ag_up rfl ?_))) (ag_trans (ag_sub (X_X (by decide) (by decide)) k108_0.1) (by (repeat (first | exact ag_refl | refine ag_up rfl ?_)))), (show (h 0 7) < (((h10 0 7) + 1) + 1) by omega), (fun z => by have z2 : w87 = 0 := z; omega), (show (((h10 0 82) + 1) : Int) ≤ 6 by omega), ⟨(show ((h10 0 85) : Int) = (h 0 85) by omega), (show ((h10 0 84) : Int) = (h 0 84) by omega), (show ((h10 0 44) : Int) = (h 0 44) by omega), (show ((h10 0 52) : Int) = (h 0 52) by omega), (show ((h10 0 57) : Int) = (h 0 57) by omega), (show ((h10 0 74) : Int) = 2 ∨ ((h10 0 74) : Int) = 3 by omega), (show ((h10 0 75) : Int) = (h 0 44) by omega)⟩, r_row⟩, by omega⟩) rfl)
                          · intro h90 k210_1 g91
                            replace k210_1 : 0 < (h90 0 8) ∧ (h90 0 1) = (h10 0 1) ∧ (h90 0 118) = (h10 0 118) ∧ (h90 0 127) = (h10 0 127) := k210_1
                            refine ja_if_ne 218 dadvice_213 rfl ⟨by decide, by decide⟩ (fun c213 => absurd c213 (by omega)) (fun c213 => ?_)
                            refine ja_iconst dadvice_216 ?_
                            refine ja_zreturn dadvice_217 rfl (by omega) ?_
                            exact mo_fin (by omega) rfl (k2 h90 (by omega) g91)
                        · refine ja_aload_n dadvice_198 rfl rfl ?_
                          refine ja_iconst dadvice_199 ?_
                          refine t_halt (by decide) (show (0 : Nat) ≤ 8 by decide) dadvice_200 g78 ⟨by decide, by decide⟩ (show 1 ≤ 3 ∧ 3 ≤ 8 by omega) ?_
                          intro h92 k200_0 g93
                          replace k200_0 : 0 < (h92 0 8) ∧ (h92 0 1) = (h10 0 1) ∧ (h92 0 118) = (h10 0 118) ∧ (h92 0 127) = (h10 0 127) ∧ (h92 0 41) = (h10 0 41) := k200_0
                          refine ja_zreturn dadvice_203 rfl (by omega) ?_
                          exact mo_fin (by omega) rfl (k2 h92 (by omega) g93)
                    · intro h94 k174_1 g95
                      replace k174_1 : 0 < (h94 0 8) ∧ (h94 0 1) = (h10 0 1) ∧ (h94 0 118) = (h10 0 118) ∧ (h94 0 127) = (h10 0 127) := k174_1
                      refine ja_if_ne 182 dadvice_177 rfl ⟨by decide, by decide⟩ (fun c177 => absurd c177 (by omega)) (fun c177 => ?_)
                      refine ja_iconst dadvice_180 ?_
                      refine ja_zreturn dadvice_181 rfl (by omega) ?_
                      exact mo_fin (by omega) rfl (k2 h94 (by omega) g95)
          · intro h96 k108_1 g97
            replace k108_1 : 0 < (h96 0 8) ∧ (h96 0 1) = (h 0 1) ∧ (h96 0 118) = (h 0 118) ∧ (h96 0 127) = (h 0 127) := k108_1
            refine ja_if_ne 116 dadvice_111 rfl ⟨by decide, by decide⟩ (fun c111 => absurd c111 (by omega)) (fun c111 => ?_)
            refine ja_iconst dadvice_114 ?_
            refine ja_zreturn dadvice_115 rfl (by omega) ?_
            exact mo_fin (by omega) rfl (k2 h96 (by omega) g97)
        · intro h98 k101_1 g99
          replace k101_1 : 0 < (h98 0 8) ∧ (h98 0 1) = (h 0 1) ∧ (h98 0 118) = (h 0 118) ∧ (h98 0 127) = (h 0 127) := k101_1
          refine ja_if_eq 114 dadvice_104 rfl ⟨by decide, by decide⟩ (fun c104 => ?_) (fun c104 => absurd c104 (by omega))
          refine ja_iconst dadvice_114 ?_
          refine ja_zreturn dadvice_115 rfl (by omega) ?_
          exact mo_fin (by omega) rfl (k2 h98 (by omega) g99)
      · intro x2 u gu qx2 iv hm
        subst hm
        have ku_at := gF_at gu
        have ku_advices := gF_advices gu
        have ku_params := gF_params gu
        obtain ⟨iv, i0⟩ := iv
        obtain ⟨z1, z2, z3, z4, z5, z6, z7, z8, z9, z10, z11, z12, z13, z14⟩ := p1.2.2.1
        obtain ⟨ag, i2, i3, i4, ⟨i5, i6, i7, i8, i9, i10, i11⟩, i12, i13⟩ := iv
        have e_size : (u 0 1) = (h 0 1) := ag 0 1 rfl
        have e_compiled : (u 0 118) = (h 0 118) := ag 0 118 rfl
        have e_started : (u 0 127) = (h 0 127) := ag 0 127 rfl
        refine ja_aload_n dadvice_223 rfl rfl ?_
        refine ja_dup dadvice_224 (by decide) ?_
        refine fg_advices (v := u 0 44) rfl dadvice_225 ?_
        have f100 := gF_advices gu
        refine ja_iconst dadvice_228 ?_
        refine ja_iadd dadvice_229 ?_
        have g101 := gP_advices gu (x := (u 0 44) + 1) ⟨by omega, by omega⟩
        refine fp_advices dadvice_230 ?_
        refine ja_aload_n dadvice_233 rfl rfl ?_
        refine fa_adviceParams dadvice_234 ?_
        refine ja_iload_n dadvice_237 rfl rfl ?_
        refine ja_aload_n dadvice_238 rfl rfl ?_
        refine fg_params (v := u 0 82) rfl dadvice_239 ?_
        have f102 := gF_params gu
        have g103 := gW_adviceParams g101 (h 0 44).toNat (x := u 0 82) ⟨by omega, by omega⟩
        refine is_adviceParams ⟨by omega, by omega⟩ dadvice_242 ?_
        refine ja_aload_n dadvice_243 rfl rfl ?_
        refine t_pickTree (by decide) (show (0 : Nat) ≤ 8 by decide) dadvice_244 g103 ((tr_begin g103 p1 (ag_sub FTU_FTR (ag_trans ag (by (repeat (first | exact ag_refl | refine ag_up rfl ?_))))) (show (h 0 7) < (u 0 7) by omega) (fun z => by have z2 : (u 0 11) = 0 := z; omega) (show ((u 0 84) : Int) = 0 by omega) (by decide)).1) ((tr_begin g103 p1 (ag_sub FTU_FTR (ag_trans ag (by (repeat (first | exact ag_refl | refine ag_up rfl ?_))))) (show (h 0 7) < (u 0 7) by omega) (fun z => by have z2 : (u 0 11) = 0 := z; omega) (show ((u 0 84) : Int) = 0 by omega) (by decide)).2) ?_ ?_
        · intro h104 k244_0 g105
          obtain ⟨⟨ht3, st3, rg3, tu3, hp3⟩, agB, hatB⟩ := k244_0
          have nm := it_num hp3
          dsimp only at nm
          have hatR : (u 0 7) ≤ (h104 0 7) := hatB
          have b_size : (h104 0 1) = (u 0 1) := agB 0 1 rfl
          have b_compiled : (h104 0 118) = (u 0 118) := agB 0 118 rfl
          have b_started : (h104 0 127) = (u 0 127) := agB 0 127 rfl
          have b_params : (h104 0 82) = (u 0 82) := agB 0 82 rfl
          have b_inPick : (h104 0 85) = (u 0 85) := agB 0 85 rfl
          have b_advices : (h104 0 44) = ((u 0 44) + 1) := agB 0 44 rfl
          refine ja_if_ne 252 dadvice_247 rfl ⟨by decide, by decide⟩ (fun c247 => ?_) (fun c247 => absurd c247 (by omega))
          refine ja_aload_n dadvice_252 rfl rfl ?_
          refine ja_dup dadvice_253 (by decide) ?_
          refine fg_treeTop (v := h104 0 109) rfl dadvice_254 ?_
          have f106 := gF_treeTop g105
          refine ja_iconst dadvice_257 ?_
          refine ja_isub dadvice_258 ?_
          have g107 := gP_treeTop g105 (x := (h104 0 109) - 1) ⟨by omega, by omega⟩
          refine fp_treeTop dadvice_259 ?_
          refine ja_aload_n dadvice_262 rfl rfl ?_
          refine fa_adviceRoot dadvice_263 ?_
          refine ja_iload_n dadvice_266 rfl rfl ?_
          refine ja_aload_n dadvice_267 rfl rfl ?_
          refine fa_treePile dadvice_268 ?_
          refine ja_aload_n dadvice_271 rfl rfl ?_
          refine fg_treeTop (v := (h104 0 109) - 1) rfl dadvice_272 ?_
          refine il_treePile (v := h104 70 ((h104 0 109) - 1).toNat) rfl ⟨by omega, by omega⟩ dadvice_275 ?_
          have f108 := gC_treePile g105 ((h104 0 109) - 1).toNat
          have g109 := gW_adviceRoot g107 (h 0 44).toNat (x := h104 70 ((h104 0 109) - 1).toNat) ⟨by omega, by omega⟩
          refine is_adviceRoot ⟨by omega, by omega⟩ dadvice_276 ?_
          refine ja_aload_n dadvice_277 rfl rfl ?_
          refine fa_nodeTwice dadvice_278 ?_
          refine ja_aload_n dadvice_281 rfl rfl ?_
          refine fa_adviceRoot dadvice_282 ?_
          refine ja_iload_n dadvice_285 rfl rfl ?_
          refine il_adviceRoot (v := h104 70 ((h104 0 109) - 1).toNat) (by simp [ja_up]) ⟨by omega, by omega⟩ dadvice_286 ?_
          refine il_nodeTwice (v := h104 66 (h104 70 ((h104 0 109) - 1).toNat).toNat) rfl ⟨by omega, by omega⟩ dadvice_287 ?_
          have f110 := gC_nodeTwice g105 (h104 70 ((h104 0 109) - 1).toNat).toNat
          refine ja_if_ne 306 dadvice_288 rfl ⟨by omega, by omega⟩ (fun c288 => ?_) (fun c288 => ?_)
          · refine ja_aload_n dadvice_306 rfl rfl ?_
            refine ja_bipush 6 dadvice_307 rfl ?_
            refine ja_aload_n dadvice_309 rfl rfl ?_
            refine fa_adviceToken dadvice_310 ?_
            refine ja_iload_n dadvice_313 rfl rfl ?_
            refine il_adviceToken (v := h104 33 (h 0 44).toNat) rfl ⟨by omega, by omega⟩ dadvice_314 ?_
            have f111 := gC_adviceToken g105 (h 0 44).toNat
            refine t_judge (by decide) (show (0 : Nat) ≤ 8 by decide) dadvice_315 g109 ⟨by decide, by decide⟩ ⟨by omega, by omega⟩ (show 1 ≤ 6 ∧ 6 ≤ 8 by omega) (show 0 ≤ (h104 33 (h 0 44).toNat) ∧ (h104 33 (h 0 44).toNat) ≤ 900 by omega) ?_
            intro w112 w113 k315_0 g114
            replace k315_0 : 1 ≤ w112 ∧ w112 ≤ 8 ∧ -2147483648 ≤ w113 ∧ w113 ≤ 2147483647 := k315_0
            replace g114 : mo_G Zz (ja_up (ja_up (ja_up (ja_up h104 0 109 ((h104 0 109) - 1)) 31 ((h 0 44).toNat) (h104 70 ((h104 0 109) - 1).toNat)) 0 11 w112) 0 12 w113) := g114
            show mJ l D cA ad 9 cX12_advice 4 (some .boolean) 318 [(0, (2, ((0 : Nat) : Int))), (1, (0, (h 0 44))), (2, (0, x2))] [] (ja_up (ja_up (ja_up (ja_up h104 0 109 ((h104 0 109) - 1)) 31 ((h 0 44).toNat) (h104 70 ((h104 0 109) - 1).toNat)) 0 11 w112) 0 12 w113) Q
            refine ja_iconst dadvice_318 ?_
            refine ja_istore_n dadvice_319 rfl (by decide) (L2 := [(3, (0, 0)), (0, (2, ((0 : Nat) : Int))), (1, (0, (h 0 44))), (2, (0, x2))]) rfl ?_
            exact ja_wk (fun q hq => by simp only [List.mem_cons, List.not_mem_nil, or_false] at hq; rcases hq with rfl | rfl | rfl <;> rfl) ((ih (((10 : Int) - 0).toNat) (by omega)).2.2.2 0 (ja_up (ja_up (ja_up (ja_up h104 0 109 ((h104 0 109) - 1)) 31 ((h 0 44).toNat) (h104 70 ((h104 0 109) - 1).toNat)) 0 11 w112) 0 12 w113) g114 ⟨by decide, by decide⟩ (⟨⟨(ja_up (ja_up u 0 44 ((u 0 44) + 1)) 30 ((h 0 44).toNat) (u 0 82)), _, _, _, _, _, g105, ⟨(show (h 0 7) < (u 0 7) by omega), ag_trans ag (by (repeat (first | exact ag_refl | refine ag_up rfl ?_)))⟩, ⟨(show ((u 0 85) : Int) = 0 by omega), (show (((u 0 44) + 1) : Int) = (h 0 44) + 1 by omega), (show ((u 0 52) : Int) = (h 0 52) by omega), (show ((u 0 57) : Int) = (h 0 57) by omega), i12, (lt_eqI i13 p2), (show ((u 0 74) : Int) = 2 ∨ ((u 0 74) : Int) = 3 by omega), (show ((u 0 75) : Int) ≤ 24 by omega)⟩, hp3, ⟨agB, hatB⟩, (by (repeat (first | exact ag_refl | refine ag_up rfl ?_))), (show (h104 0 7) ≤ (h104 0 7) by omega), (fun z => by have z2 : w112 = 0 := z; omega), (show (((h104 0 109) - 1) : Int) = 0 by omega), (show ((h104 0 85) : Int) = 0 by omega), (show ((h104 0 84) : Int) = 0 by omega), (fun j hj => by refine ⟨?_, ?_⟩ <;> simp [ja_up, hj]), (by simp [ja_up]), rfl, rfl⟩, (show ((h104 0 82) : Int) ≤ 6 by omega), by omega⟩) rfl)
          · refine ja_aload_n dadvice_291 rfl rfl ?_
            refine fa_nodeBinds dadvice_292 ?_
            refine ja_aload_n dadvice_295 rfl rfl ?_
            refine fa_adviceRoot dadvice_296 ?_
            refine ja_iload_n dadvice_299 rfl rfl ?_
            refine il_adviceRoot (v := h104 70 ((h104 0 109) - 1).toNat) (by simp [ja_up]) ⟨by omega, by omega⟩ dadvice_300 ?_
            refine il_nodeBinds (v := h104 65 (h104 70 ((h104 0 109) - 1).toNat).toNat) rfl ⟨by omega, by omega⟩ dadvice_301 ?_
            have f115 := gC_nodeBinds g105 (h104 70 ((h104 0 109) - 1).toNat).toNat
            refine ja_iload_n dadvice_302 rfl rfl ?_
            refine ja_icmp_eq 318 dadvice_303 rfl ⟨by omega, by omega⟩ ⟨by omega, by omega⟩ (fun c303 => ?_) (fun c303 => ?_)
            · refine ja_iconst dadvice_318 ?_
              refine ja_istore_n dadvice_319 rfl (by decide) (L2 := [(3, (0, 0)), (0, (2, ((0 : Nat) : Int))), (1, (0, (h 0 44))), (2, (0, x2))]) rfl ?_
              exact ja_wk (fun q hq => by simp only [List.mem_cons, List.not_mem_nil, or_false] at hq; rcases hq with rfl | rfl | rfl <;> rfl) ((ih (((10 : Int) - 0).toNat) (by omega)).2.2.2 0 (ja_up (ja_up h104 0 109 ((h104 0 109) - 1)) 31 ((h 0 44).toNat) (h104 70 ((h104 0 109) - 1).toNat)) g109 ⟨by decide, by decide⟩ (⟨⟨(ja_up (ja_up u 0 44 ((u 0 44) + 1)) 30 ((h 0 44).toNat) (u 0 82)), _, _, _, _, _, g105, ⟨(show (h 0 7) < (u 0 7) by omega), ag_trans ag (by (repeat (first | exact ag_refl | refine ag_up rfl ?_)))⟩, ⟨(show ((u 0 85) : Int) = 0 by omega), (show (((u 0 44) + 1) : Int) = (h 0 44) + 1 by omega), (show ((u 0 52) : Int) = (h 0 52) by omega), (show ((u 0 57) : Int) = (h 0 57) by omega), i12, (lt_eqI i13 p2), (show ((u 0 74) : Int) = 2 ∨ ((u 0 74) : Int) = 3 by omega), (show ((u 0 75) : Int) ≤ 24 by omega)⟩, hp3, ⟨agB, hatB⟩, (by (repeat (first | exact ag_refl | refine ag_up rfl ?_))), (show (h104 0 7) ≤ (h104 0 7) by omega), (fun z => by have z2 : (h104 0 11) = 0 := z; omega), (show (((h104 0 109) - 1) : Int) = 0 by omega), (show ((h104 0 85) : Int) = 0 by omega), (show ((h104 0 84) : Int) = 0 by omega), (fun j hj => by refine ⟨?_, ?_⟩ <;> simp [ja_up, hj]), (by simp [ja_up]), rfl, rfl⟩, (show ((h104 0 82) : Int) ≤ 6 by omega), by omega⟩) rfl)
            · refine ja_aload_n dadvice_306 rfl rfl ?_
              refine ja_bipush 6 dadvice_307 rfl ?_
              refine ja_aload_n dadvice_309 rfl rfl ?_
              refine fa_adviceToken dadvice_310 ?_
              refine ja_iload_n dadvice_313 rfl rfl ?_
              refine il_adviceToken (v := h104 33 (h 0 44).toNat) rfl ⟨by omega, by omega⟩ dadvice_314 ?_
              have f116 := gC_adviceToken g105 (h 0 44).toNat
              refine t_judge (by decide) (show (0 : Nat) ≤ 8 by decide) dadvice_315 g109 ⟨by decide, by decide⟩ ⟨by omega, by omega⟩ (show 1 ≤ 6 ∧ 6 ≤ 8 by omega) (show 0 ≤ (h104 33 (h 0 44).toNat) ∧ (h104 33 (h 0 44).toNat) ≤ 900 by omega) ?_
              intro w117 w118 k315_0 g119
              replace k315_0 : 1 ≤ w117 ∧ w117 ≤ 8 ∧ -2147483648 ≤ w118 ∧ w118 ≤ 2147483647 := k315_0
              replace g119 : mo_G Zz (ja_up (ja_up (ja_up (ja_up h104 0 109 ((h104 0 109) - 1)) 31 ((h 0 44).toNat) (h104 70 ((h104 0 109) - 1).toNat)) 0 11 w117) 0 12 w118) := g119
              show mJ l D cA ad 9 cX12_advice 4 (some .boolean) 318 [(0, (2, ((0 : Nat) : Int))), (1, (0, (h 0 44))), (2, (0, x2))] [] (ja_up (ja_up (ja_up (ja_up h104 0 109 ((h104 0 109) - 1)) 31 ((h 0 44).toNat) (h104 70 ((h104 0 109) - 1).toNat)) 0 11 w117) 0 12 w118) Q
              refine ja_iconst dadvice_318 ?_
              refine ja_istore_n dadvice_319 rfl (by decide) (L2 := [(3, (0, 0)), (0, (2, ((0 : Nat) : Int))), (1, (0, (h 0 44))), (2, (0, x2))]) rfl ?_
              exact ja_wk (fun q hq => by simp only [List.mem_cons, List.not_mem_nil, or_false] at hq; rcases hq with rfl | rfl | rfl <;> rfl) ((ih (((10 : Int) - 0).toNat) (by omega)).2.2.2 0 (ja_up (ja_up (ja_up (ja_up h104 0 109 ((h104 0 109) - 1)) 31 ((h 0 44).toNat) (h104 70 ((h104 0 109) - 1).toNat)) 0 11 w117) 0 12 w118) g119 ⟨by decide, by decide⟩ (⟨⟨(ja_up (ja_up u 0 44 ((u 0 44) + 1)) 30 ((h 0 44).toNat) (u 0 82)), _, _, _, _, _, g105, ⟨(show (h 0 7) < (u 0 7) by omega), ag_trans ag (by (repeat (first | exact ag_refl | refine ag_up rfl ?_)))⟩, ⟨(show ((u 0 85) : Int) = 0 by omega), (show (((u 0 44) + 1) : Int) = (h 0 44) + 1 by omega), (show ((u 0 52) : Int) = (h 0 52) by omega), (show ((u 0 57) : Int) = (h 0 57) by omega), i12, (lt_eqI i13 p2), (show ((u 0 74) : Int) = 2 ∨ ((u 0 74) : Int) = 3 by omega), (show ((u 0 75) : Int) ≤ 24 by omega)⟩, hp3, ⟨agB, hatB⟩, (by (repeat (first | exact ag_refl | refine ag_up rfl ?_))), (show (h104 0 7) ≤ (h104 0 7) by omega), (fun z => by have z2 : w117 = 0 := z; omega), (show (((h104 0 109) - 1) : Int) = 0 by omega), (show ((h104 0 85) : Int) = 0 by omega), (show ((h104 0 84) : Int) = 0 by omega), (fun j hj => by refine ⟨?_, ?_⟩ <;> simp [ja_up, hj]), (by simp [ja_up]), rfl, rfl⟩, (show ((h104 0 82) : Int) ≤ 6 by omega), by omega⟩) rfl)
        · intro h120 k244_1 g121
          replace k244_1 : 0 < (h120 0 8) ∧ (h120 0 1) = (u 0 1) ∧ (h120 0 118) = (u 0 118) ∧ (h120 0 127) = (u 0 127) := k244_1
          refine ja_if_ne 252 dadvice_247 rfl ⟨by decide, by decide⟩ (fun c247 => absurd c247 (by omega)) (fun c247 => ?_)
          refine ja_iconst dadvice_250 ?_
          refine ja_zreturn dadvice_251 rfl (by omega) ?_
          exact mo_fin (by omega) rfl (k2 h120 (by omega) g121)
      · intro x3 u gu qx3 iv hm
        subst hm
        have ku_at := gF_at gu
        have ku_advices := gF_advices gu
        have ku_params := gF_params gu
        obtain ⟨z1, z2, z3, z4, z5, z6, z7, z8, z9, z10, z11, z12, z13, z14⟩ := p1.2.2.1
        obtain ⟨A, i2, i3⟩ := iv
        obtain ⟨kag, kat, kad, kbd, kbn⟩ := ad_kp A
        have e_size : (u 0 1) = (h 0 1) := kag 0 1 rfl
        have e_compiled : (u 0 118) = (h 0 118) := kag 0 118 rfl
        have e_started : (u 0 127) = (h 0 127) := kag 0 127 rfl
        refine ja_iload_n dadvice_320 rfl rfl ?_
        refine ja_aload_n dadvice_321 rfl rfl ?_
        refine fg_params (v := u 0 82) rfl dadvice_322 ?_
        have f122 := gF_params gu
        refine ja_icmp_ge 357 dadvice_325 rfl ⟨by omega, by omega⟩ ⟨by omega, by omega⟩ (fun c325 => ?_) (fun c325 => ?_)
        · refine ja_aload_n dadvice_357 rfl rfl ?_
          refine ja_aload_n dadvice_358 rfl rfl ?_
          refine fg_params (v := u 0 82) rfl dadvice_359 ?_
          have g123 := gP_known gu (x := u 0 82) ⟨by omega, by omega⟩
          refine fp_known dadvice_362 ?_
          refine ja_aload_n dadvice_365 rfl rfl ?_
          refine ja_aload_n dadvice_366 rfl rfl ?_
          refine fg_params (v := u 0 82) rfl dadvice_367 ?_
          have g124 := gP_locals g123 (x := u 0 82) ⟨by omega, by omega⟩
          refine fp_locals dadvice_370 ?_
          refine ja_aload_n dadvice_373 rfl rfl ?_
          refine fa_adviceStart dadvice_374 ?_
          refine ja_iload_n dadvice_377 rfl rfl ?_
          refine ja_aload_n dadvice_378 rfl rfl ?_
          refine fg_words (v := u 0 113) rfl dadvice_379 ?_
          have f125 := gF_words gu
          have g126 := gW_adviceStart g124 (h 0 44).toNat (x := u 0 113) ⟨by omega, by omega⟩
          refine is_adviceStart ⟨by omega, by omega⟩ dadvice_382 ?_
          obtain ⟨tf4, ht4, st4, rg4, hB4, hE4⟩ := ad_blk g g126 p1 (ad_start (ad_ag A (by (repeat (first | exact ag_refl | refine ag_up rfl ?_))))) (show ((u 0 82) : Int) ≤ (u 0 82) by omega) (show ((u 0 82) : Int) ≤ 10 by omega) (by simp [ja_up])
          refine ja_aload_n dadvice_383 rfl rfl ?_
          refine t_block (by decide) (show (0 : Nat) ≤ 8 by decide) dadvice_384 g126 (hB4.1) (show (u 0 74) ≤ 1 ∨ (u 0 75) ≤ 24 by omega) (hB4.2) ?_ ?_
          · intro h127 k384_0 g128
            obtain ⟨⟨ht5, st5, rg5, tu5, hp5⟩, agB, hatB⟩ := k384_0
            have nm := it_num hp5
            have gat5 := gF_at g128
            refine ja_if_ne 392 dadvice_387 rfl ⟨by decide, by decide⟩ (fun c387 => ?_) (fun c387 => absurd c387 (by omega))
            refine ja_aload_n dadvice_392 rfl rfl ?_
            refine ja_bipush 26 dadvice_393 rfl ?_
            refine ja_iconst dadvice_395 ?_
            refine ja_iconst dadvice_396 ?_
            refine t_emit (by decide) (show (0 : Nat) ≤ 8 by decide) dadvice_397 g128 ⟨by decide, by decide⟩ ⟨by decide, by decide⟩ ⟨by decide, by decide⟩ (show 0 ≤ 26 ∧ 26 ≤ 26 by omega) (show (h127 0 113) < 5000 by omega) ?_
            intro g129
            replace g129 : mo_G Zz (ja_up (ja_up (ja_up (ja_up h127 74 ((h127 0 113).toNat) 26) 75 ((h127 0 113).toNat) 0) 76 ((h127 0 113).toNat) 0) 0 113 ((h127 0 113) + 1)) := g129
            show mJ l D cA ad 9 cX12_advice 4 (some .boolean) 400 [(0, (2, ((0 : Nat) : Int))), (1, (0, (h 0 44))), (3, (0, x3))] [(0, (h127 0 113))] (ja_up (ja_up (ja_up (ja_up h127 74 ((h127 0 113).toNat) 26) 75 ((h127 0 113).toNat) 0) 76 ((h127 0 113).toNat) 0) 0 113 ((h127 0 113) + 1)) Q
            refine ja_istore_n dadvice_400 rfl (by decide) (L2 := [(3, (0, (h127 0 113))), (0, (2, ((0 : Nat) : Int))), (1, (0, (h 0 44)))]) rfl ?_
            refine ja_iconst dadvice_401 ?_
            refine ja_zreturn dadvice_402 rfl (by omega) ?_
            exact mo_fin (by omega) rfl (k1 (ja_up (ja_up (ja_up (ja_up h127 74 ((h127 0 113).toNat) 26) 75 ((h127 0 113).toNat) 0) 76 ((h127 0 113).toNat) 0) 0 113 ((h127 0 113) + 1)) (⟨hE4 _ _ _ _ _ g128 hp5 agB hatB, Int.lt_of_lt_of_le kat hatB, ag_trans kag (ag_trans (by (repeat (first | exact ag_refl | refine ag_up rfl ?_))) (ag_trans (kp_FK agB) (by (repeat (first | exact ag_refl | refine ag_up rfl ?_)))))⟩) g129)
          · intro h130 k384_1 g131
            replace k384_1 : 0 < (h130 0 8) ∧ (h130 0 1) = (u 0 1) ∧ (h130 0 118) = (u 0 118) ∧ (h130 0 127) = (u 0 127) := k384_1
            refine ja_if_ne 392 dadvice_387 rfl ⟨by decide, by decide⟩ (fun c387 => absurd c387 (by omega)) (fun c387 => ?_)
            refine ja_iconst dadvice_390 ?_
            refine ja_zreturn dadvice_391 rfl (by omega) ?_
            exact mo_fin (by omega) rfl (k2 h130 (by omega) g131)
        · refine ja_aload_n dadvice_328 rfl rfl ?_
          refine fa_knownName dadvice_329 ?_
          refine ja_iload_n dadvice_332 rfl rfl ?_
          refine ja_aload_n dadvice_333 rfl rfl ?_
          refine ja_aload_n dadvice_334 rfl rfl ?_
          refine fa_paramName dadvice_335 ?_
          refine ja_iload_n dadvice_338 rfl rfl ?_
          refine il_paramName (v := u 51 (x3).toNat) rfl ⟨by omega, by omega⟩ dadvice_339 ?_
          have f132 := gC_paramName gu (x3).toNat
          refine t_id (by decide) (show (2 : Nat) ≤ 8 by decide) dadvice_340 gu ⟨by omega, by omega⟩ (show 0 ≤ (u 51 (x3).toNat) ∧ (u 51 (x3).toNat) ≤ 900 by omega) ?_
          intro k340_0
          have g133 := gW_knownName gu (x3).toNat (x := u 5 (u 51 (x3).toNat).toNat) ⟨by omega, by omega⟩
          refine is_knownName ⟨by omega, by omega⟩ dadvice_343 ?_
          refine ja_aload_n dadvice_344 rfl rfl ?_
          refine fa_knownSlot dadvice_345 ?_
          refine ja_iload_n dadvice_348 rfl rfl ?_
          refine ja_iload_n dadvice_349 rfl rfl ?_
          have g134 := gW_knownSlot g133 (x3).toNat (x := x3) ⟨by omega, by omega⟩
          refine is_knownSlot ⟨by omega, by omega⟩ dadvice_350 ?_
          refine ja_iinc dadvice_351 rfl (by decide) (L2 := [(3, (0, (x3 + 1))), (0, (2, ((0 : Nat) : Int))), (1, (0, (h 0 44)))]) rfl ?_
          refine ja_goto 320 dadvice_354 rfl ?_
          exact ja_wk (fun q hq => by simp only [List.mem_cons, List.not_mem_nil, or_false] at hq; rcases hq with rfl | rfl | rfl <;> rfl) ((ih (((10 : Int) - (x3 + 1)).toNat) (by omega)).2.2.2 (x3 + 1) (ja_up (ja_up u 49 ((x3).toNat) (u 5 (u 51 (x3).toNat).toNat)) 50 ((x3).toNat) x3) g134 ⟨by omega, by omega⟩ (⟨ad_ag A (by (repeat (first | exact ag_refl | refine ag_up rfl ?_))), (show ((u 0 82) : Int) ≤ 6 by omega), by omega⟩) rfl)
  obtain ⟨z1, z2, z3, z4, z5, z6, z7, z8, z9, z10, z11, z12, z13, z14⟩ := p1.2.2.1
  refine ja_aload_n dadvice_0 rfl rfl ?_
  refine fg_advices (v := h 0 44) rfl dadvice_1 ?_
  have f135 := gF_advices g
  refine ja_bipush 24 dadvice_4 rfl ?_
  refine ja_icmp_ne 15 dadvice_6 rfl ⟨by omega, by omega⟩ ⟨by decide, by decide⟩ (fun c6 => ?_) (fun c6 => ?_)
  · refine ja_aload_n dadvice_15 rfl rfl ?_
    refine fg_advices (v := h 0 44) rfl dadvice_16 ?_
    refine ja_istore_n dadvice_19 rfl (by decide) (L2 := [(1, (0, (h 0 44))), (0, (2, ((0 : Nat) : Int)))]) rfl ?_
    refine ja_aload_n dadvice_20 rfl rfl ?_
    refine fa_adviceKind dadvice_21 ?_
    refine ja_iload_n dadvice_24 rfl rfl ?_
    refine ja_aload_n dadvice_25 rfl rfl ?_
    refine ja_bipush 6 dadvice_26 rfl ?_
    refine t_isWord (by decide) (show (2 : Nat) ≤ 8 by decide) dadvice_28 g ⟨by decide, by decide⟩ ?_
    intro w136 k28_0
    refine ja_if_eq 38 dadvice_31 rfl ⟨by omega, by omega⟩ (fun c31 => ?_) (fun c31 => ?_)
    · replace k28_0 := is0 k28_0 c31
      refine ja_aload_n dadvice_38 rfl rfl ?_
      refine ja_bipush 7 dadvice_39 rfl ?_
      refine t_isWord (by decide) (show (2 : Nat) ≤ 8 by decide) dadvice_41 g ⟨by decide, by decide⟩ ?_
      intro w137 k41_0
      refine ja_if_eq 51 dadvice_44 rfl ⟨by omega, by omega⟩ (fun c44 => ?_) (fun c44 => ?_)
      · replace k41_0 := is0 k41_0 c44
        refine ja_iconst dadvice_51 ?_
        exact ja_wk (fun q hq => by simp only [List.mem_cons, List.not_mem_nil, or_false] at hq; rcases hq with rfl | rfl <;> rfl) ((CUT _).1 2  ⟨by decide, by decide⟩ (show 0 ≤ 2 ∧ 2 ≤ 2 ∧ ¬ ((h 0 44) = 24) by omega) rfl)
      · have z44 := is1v k41_0 c44
        replace k41_0 := is1 k41_0 c44
        refine ja_iconst dadvice_47 ?_
        refine ja_goto 52 dadvice_48 rfl ?_
        exact ja_wk (fun q hq => by simp only [List.mem_cons, List.not_mem_nil, or_false] at hq; rcases hq with rfl | rfl <;> rfl) ((CUT _).1 1  ⟨by decide, by decide⟩ (show 0 ≤ 1 ∧ 1 ≤ 2 ∧ ¬ ((h 0 44) = 24) by omega) rfl)
    · have z31 := is1v k28_0 c31
      replace k28_0 := is1 k28_0 c31
      refine ja_iconst dadvice_34 ?_
      refine ja_goto 52 dadvice_35 rfl ?_
      exact ja_wk (fun q hq => by simp only [List.mem_cons, List.not_mem_nil, or_false] at hq; rcases hq with rfl | rfl <;> rfl) ((CUT _).1 0  ⟨by decide, by decide⟩ (show 0 ≤ 0 ∧ 0 ≤ 2 ∧ ¬ ((h 0 44) = 24) by omega) rfl)
  · refine ja_aload_n dadvice_9 rfl rfl ?_
    refine ja_iconst dadvice_10 ?_
    refine t_halt (by decide) (show (0 : Nat) ≤ 8 by decide) dadvice_11 g ⟨by decide, by decide⟩ (show 1 ≤ 3 ∧ 3 ≤ 8 by omega) ?_
    intro h138 k11_0 g139
    refine ja_zreturn dadvice_14 rfl (by omega) ?_
    exact mo_fin (by omega) rfl (k2 h138 (by omega) g139)
theorem t_advice {ht st rg : Nat → Int} {d nL pc : Nat} {cc : ByteArray} {rt : Option FieldType} {L : List (Nat × ja_V)} {S : List ja_V} {h : ja_H} {Q : Option ja_V → ja_H → Prop} (hdd : 9 < d) (hwd : ja_wd S ≤ 8) (hd : decode cc pc = .ok (.invokevirtual 777, 3)) (g : mo_G Zz h) (p1 : it h ht st rg) (p2 : (h 0 76) < (h 0 26)) (k1 : ∀ (h' : ja_H), ((∃ ht st rg : Nat → Int, it h' ht st rg) ∧ (h 0 7) < (h' 0 7) ∧ mo_ag FKP h h') → mo_G Zz h' → mJ l D cA ad d cc nL rt (pc + 3) L ((0, 1) :: S) h' Q) (k2 : ∀ (h' : ja_H), (0 < (h' 0 8) ∧ (h' 0 1) = (h 0 1) ∧ (h' 0 118) = (h 0 118) ∧ (h' 0 127) = (h 0 127)) → mo_G Zz h' → mJ l D cA ad d cc nL rt (pc + 3) L ((0, 0) :: S) h' Q) : mJ l D cA ad d cc nL rt pc L ((2, ((0 : Nat) : Int)) :: S) h Q :=
  mc_advice hdd hwd hd (s_advice g p1 p2 k1 k2)
end
