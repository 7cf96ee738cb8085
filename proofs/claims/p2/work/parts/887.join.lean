/-! the checks of all methods of the class, joined -/
theorem cj_blt {i N : Nat} (h : N ≤ i) : Nat.blt i N = false := by
  have : ¬ (i < N) := by omega
  cases e : Nat.blt i N with
  | false => rfl
  | true => exact absurd (Nat.le_of_ble_eq_true e) (by omega)
theorem cj_ne {l : List ck_S} {P : ck_S → Bool} (h : l.all (fun s => s.2.2.2.isEmpty || P s) = true) : ∀ s ∈ l, s.2.2.2 ≠ [] → P s = true := by
  intro s hs hn
  have h1 := List.all_eq_true.mp h s hs
  rcases Bool.or_eq_true_iff.mp h1 with q | q
  · exact absurd (List.isEmpty_iff.mp q) hn
  · exact q
theorem cj_up {P : Nat → Prop} {n : Nat} (h : ∀ i, i < n → P i) (hn : P n) : ∀ i, i < n + 1 → P i := by
  intro i hi
  rcases Nat.lt_or_ge i n with q | q
  · exact h i q
  · have : i = n := by omega
    subst this; exact hn
theorem cj_z {P : Nat → Prop} : ∀ i, i < 0 → P i := fun i h => absurd h (Nat.not_lt_zero i)
def cw_P (mid : Nat) : Prop := (∀ s ∈ cw_ss mid, s.2.2.2 ≠ [] → ck_meth cw_sp cw_fi cw_K cw_mt cw_pf cw_kl cw_ss cw_hn cw_pr 1000 (cw_dec mid) (cw_mt mid) s = true) ∧ (∀ pc e, cw_dec mid pc = some e → decode (cw_mt mid).2.1 pc = .ok e)
theorem cw_es0 : cw_ss 0 = cw_s0 := rfl
theorem cw_ed0 : cw_dec 0 = cw_d0 := rfl
theorem cw_em0 : (cw_mt 0).2.1 = cX0_bit := rfl
theorem cw_e0 : cw_P 0 := by
  unfold cw_P
  rw [cw_es0, cw_ed0, cw_em0]
  exact ⟨cj_ne cw_c0, ck_dec_ok (N := 25) (fun i h => by unfold cw_d0; rw [cj_blt h]; rfl) cw_dk0⟩
theorem cw_es1 : cw_ss 1 = cw_s1 := rfl
theorem cw_ed1 : cw_dec 1 = cw_d1 := rfl
theorem cw_em1 : (cw_mt 1).2.1 = cX0_find := rfl
theorem cw_e1 : cw_P 1 := by
  unfold cw_P
  rw [cw_es1, cw_ed1, cw_em1]
  exact ⟨cj_ne cw_c1, ck_dec_ok (N := 150) (fun i h => by unfold cw_d1; rw [cj_blt h]; rfl) cw_dk1⟩
theorem cw_es2 : cw_ss 2 = cw_s2 := rfl
theorem cw_ed2 : cw_dec 2 = cw_d2 := rfl
theorem cw_em2 : (cw_mt 2).2.1 = cX0_firstMatches := rfl
theorem cw_e2 : cw_P 2 := by
  unfold cw_P
  rw [cw_es2, cw_ed2, cw_em2]
  exact ⟨cj_ne cw_c2, ck_dec_ok (N := 27) (fun i h => by unfold cw_d2; rw [cj_blt h]; rfl) cw_dk2⟩
theorem cw_es3 : cw_ss 3 = cw_s3 := rfl
theorem cw_ed3 : cw_dec 3 = cw_d3 := rfl
theorem cw_em3 : (cw_mt 3).2.1 = cX0_isNever := rfl
theorem cw_e3 : cw_P 3 := by
  unfold cw_P
  rw [cw_es3, cw_ed3, cw_em3]
  exact ⟨cj_ne cw_c3, ck_dec_ok (N := 35) (fun i h => by unfold cw_d3; rw [cj_blt h]; rfl) cw_dk3⟩
theorem cw_es4 : cw_ss 4 = cw_s4 := rfl
theorem cw_ed4 : cw_dec 4 = cw_d4 := rfl
theorem cw_em4 : (cw_mt 4).2.1 = cX0_known := rfl
theorem cw_e4 : cw_P 4 := by
  unfold cw_P
  rw [cw_es4, cw_ed4, cw_em4]
  exact ⟨cj_ne cw_c4, ck_dec_ok (N := 52) (fun i h => by unfold cw_d4; rw [cj_blt h]; rfl) cw_dk4⟩
theorem cw_es5 : cw_ss 5 = cw_s5 := rfl
theorem cw_ed5 : cw_dec 5 = cw_d5 := rfl
theorem cw_em5 : (cw_mt 5).2.1 = cX0_lastMatches := rfl
theorem cw_e5 : cw_P 5 := by
  unfold cw_P
  rw [cw_es5, cw_ed5, cw_em5]
  exact ⟨cj_ne cw_c5, ck_dec_ok (N := 47) (fun i h => by unfold cw_d5; rw [cj_blt h]; rfl) cw_dk5⟩
theorem cw_es6 : cw_ss 6 = cw_s6 := rfl
theorem cw_ed6 : cw_dec 6 = cw_d6 := rfl
theorem cw_em6 : (cw_mt 6).2.1 = cX0_left := rfl
theorem cw_e6 : cw_P 6 := by
  unfold cw_P
  rw [cw_es6, cw_ed6, cw_em6]
  exact ⟨cj_ne cw_c6, ck_dec_ok (N := 8) (fun i h => by unfold cw_d6; rw [cj_blt h]; rfl) cw_dk6⟩
theorem cw_es7 : cw_ss 7 = cw_s7 := rfl
theorem cw_ed7 : cw_dec 7 = cw_d7 := rfl
theorem cw_em7 : (cw_mt 7).2.1 = cX0_leftBelow := rfl
theorem cw_e7 : cw_P 7 := by
  unfold cw_P
  rw [cw_es7, cw_ed7, cw_em7]
  exact ⟨cj_ne cw_c7, ck_dec_ok (N := 155) (fun i h => by unfold cw_d7; rw [cj_blt h]; rfl) cw_dk7⟩
theorem cw_es8 : cw_ss 8 = cw_s8 := rfl
theorem cw_ed8 : cw_dec 8 = cw_d8 := rfl
theorem cw_em8 : (cw_mt 8).2.1 = cX0_ofArgs := rfl
theorem cw_e8 : cw_P 8 := by
  unfold cw_P
  rw [cw_es8, cw_ed8, cw_em8]
  exact ⟨cj_ne cw_c8, ck_dec_ok (N := 85) (fun i h => by unfold cw_d8; rw [cj_blt h]; rfl) cw_dk8⟩
theorem cw_es9 : cw_ss 9 = cw_s9 := rfl
theorem cw_ed9 : cw_dec 9 = cw_d9 := rfl
theorem cw_em9 : (cw_mt 9).2.1 = cX0_ofBelow := rfl
theorem cw_e9 : cw_P 9 := by
  unfold cw_P
  rw [cw_es9, cw_ed9, cw_em9]
  exact ⟨cj_ne cw_c9, ck_dec_ok (N := 42) (fun i h => by unfold cw_d9; rw [cj_blt h]; rfl) cw_dk9⟩
theorem cw_es10 : cw_ss 10 = cw_s10 := rfl
theorem cw_ed10 : cw_dec 10 = cw_d10 := rfl
theorem cw_em10 : (cw_mt 10).2.1 = cX0_ofFinding := rfl
theorem cw_e10 : cw_P 10 := by
  unfold cw_P
  rw [cw_es10, cw_ed10, cw_em10]
  exact ⟨cj_ne cw_c10, ck_dec_ok (N := 79) (fun i h => by unfold cw_d10; rw [cj_blt h]; rfl) cw_dk10⟩
theorem cw_es11 : cw_ss 11 = cw_s11 := rfl
theorem cw_ed11 : cw_dec 11 = cw_d11 := rfl
theorem cw_em11 : (cw_mt 11).2.1 = cX0_ofLeaf := rfl
theorem cw_e11 : cw_P 11 := by
  unfold cw_P
  rw [cw_es11, cw_ed11, cw_em11]
  exact ⟨cj_ne cw_c11, ck_dec_ok (N := 268) (fun i h => by unfold cw_d11; rw [cj_blt h]; rfl) cw_dk11⟩
theorem cw_es12 : cw_ss 12 = cw_s12 := rfl
theorem cw_ed12 : cw_dec 12 = cw_d12 := rfl
theorem cw_em12 : (cw_mt 12).2.1 = cX0_ofNamed := rfl
theorem cw_e12 : cw_P 12 := by
  unfold cw_P
  rw [cw_es12, cw_ed12, cw_em12]
  exact ⟨cj_ne cw_c12, ck_dec_ok (N := 70) (fun i h => by unfold cw_d12; rw [cj_blt h]; rfl) cw_dk12⟩
theorem cw_es13 : cw_ss 13 = cw_s13 := rfl
theorem cw_ed13 : cw_dec 13 = cw_d13 := rfl
theorem cw_em13 : (cw_mt 13).2.1 = cX0_ofRun := rfl
theorem cw_e13 : cw_P 13 := by
  unfold cw_P
  rw [cw_es13, cw_ed13, cw_em13]
  exact ⟨cj_ne cw_c13, ck_dec_ok (N := 77) (fun i h => by unfold cw_d13; rw [cj_blt h]; rfl) cw_dk13⟩
theorem cw_es14 : cw_ss 14 = cw_s14 := rfl
theorem cw_ed14 : cw_dec 14 = cw_d14 := rfl
theorem cw_em14 : (cw_mt 14).2.1 = cX0_ofSelf := rfl
theorem cw_e14 : cw_P 14 := by
  unfold cw_P
  rw [cw_es14, cw_ed14, cw_em14]
  exact ⟨cj_ne cw_c14, ck_dec_ok (N := 105) (fun i h => by unfold cw_d14; rw [cj_blt h]; rfl) cw_dk14⟩
theorem cw_es15 : cw_ss 15 = cw_s15 := rfl
theorem cw_ed15 : cw_dec 15 = cw_d15 := rfl
theorem cw_em15 : (cw_mt 15).2.1 = cX0_ofSides := rfl
theorem cw_e15 : cw_P 15 := by
  unfold cw_P
  rw [cw_es15, cw_ed15, cw_em15]
  exact ⟨cj_ne cw_c15, ck_dec_ok (N := 170) (fun i h => by unfold cw_d15; rw [cj_blt h]; rfl) cw_dk15⟩
theorem cw_es16 : cw_ss 16 = cw_s16 := rfl
theorem cw_ed16 : cw_dec 16 = cw_d16 := rfl
theorem cw_em16 : (cw_mt 16).2.1 = cX0_ofWithin := rfl
theorem cw_e16 : cw_P 16 := by
  unfold cw_P
  rw [cw_es16, cw_ed16, cw_em16]
  exact ⟨cj_ne cw_c16, ck_dec_ok (N := 206) (fun i h => by unfold cw_d16; rw [cj_blt h]; rfl) cw_dk16⟩
theorem cw_es17 : cw_ss 17 = cw_s17 := rfl
theorem cw_ed17 : cw_dec 17 = cw_d17 := rfl
theorem cw_em17 : (cw_mt 17).2.1 = cX0_set := rfl
theorem cw_e17 : cw_P 17 := by
  unfold cw_P
  rw [cw_es17, cw_ed17, cw_em17]
  exact ⟨cj_ne cw_c17, ck_dec_ok (N := 70) (fun i h => by unfold cw_d17; rw [cj_blt h]; rfl) cw_dk17⟩
theorem cw_es18 : cw_ss 18 = cw_s18 := rfl
theorem cw_ed18 : cw_dec 18 = cw_d18 := rfl
theorem cw_em18 : (cw_mt 18).2.1 = cX0_typesOf := rfl
theorem cw_e18 : cw_P 18 := by
  unfold cw_P
  rw [cw_es18, cw_ed18, cw_em18]
  exact ⟨cj_ne cw_c18, ck_dec_ok (N := 81) (fun i h => by unfold cw_d18; rw [cj_blt h]; rfl) cw_dk18⟩
theorem cw_es19 : cw_ss 19 = cw_s19 := rfl
theorem cw_ed19 : cw_dec 19 = cw_d19 := rfl
theorem cw_em19 : (cw_mt 19).2.1 = cX0_weigh := rfl
theorem cw_e19 : cw_P 19 := by
  unfold cw_P
  rw [cw_es19, cw_ed19, cw_em19]
  exact ⟨cj_ne cw_c19, ck_dec_ok (N := 98) (fun i h => by unfold cw_d19; rw [cj_blt h]; rfl) cw_dk19⟩
theorem cw_es20 : cw_ss 20 = cw_s20 := rfl
theorem cw_ed20 : cw_dec 20 = cw_d20 := rfl
theorem cw_em20 : (cw_mt 20).2.1 = cX0_weighNode := rfl
theorem cw_e20 : cw_P 20 := by
  unfold cw_P
  rw [cw_es20, cw_ed20, cw_em20]
  exact ⟨cj_ne cw_c20, ck_dec_ok (N := 234) (fun i h => by unfold cw_d20; rw [cj_blt h]; rfl) cw_dk20⟩
theorem cw_es21 : cw_ss 21 = cw_s21 := rfl
theorem cw_ed21 : cw_dec 21 = cw_d21 := rfl
theorem cw_em21 : (cw_mt 21).2.1 = cX1_clear := rfl
theorem cw_e21 : cw_P 21 := by
  unfold cw_P
  rw [cw_es21, cw_ed21, cw_em21]
  exact ⟨cj_ne cw_c21, ck_dec_ok (N := 11) (fun i h => by unfold cw_d21; rw [cj_blt h]; rfl) cw_dk21⟩
theorem cw_es22 : cw_ss 22 = cw_s22 := rfl
theorem cw_ed22 : cw_dec 22 = cw_d22 := rfl
theorem cw_em22 : (cw_mt 22).2.1 = cX1_early := rfl
theorem cw_e22 : cw_P 22 := by
  unfold cw_P
  rw [cw_es22, cw_ed22, cw_em22]
  exact ⟨cj_ne cw_c22, ck_dec_ok (N := 22) (fun i h => by unfold cw_d22; rw [cj_blt h]; rfl) cw_dk22⟩
theorem cw_es23 : cw_ss 23 = cw_s23 := rfl
theorem cw_ed23 : cw_dec 23 = cw_d23 := rfl
theorem cw_em23 : (cw_mt 23).2.1 = cX1_note := rfl
theorem cw_e23 : cw_P 23 := by
  unfold cw_P
  rw [cw_es23, cw_ed23, cw_em23]
  exact ⟨cj_ne cw_c23, ck_dec_ok (N := 85) (fun i h => by unfold cw_d23; rw [cj_blt h]; rfl) cw_dk23⟩
theorem cw_es24 : cw_ss 24 = cw_s24 := rfl
theorem cw_ed24 : cw_dec 24 = cw_d24 := rfl
theorem cw_em24 : (cw_mt 24).2.1 = cX1_number := rfl
theorem cw_e24 : cw_P 24 := by
  unfold cw_P
  rw [cw_es24, cw_ed24, cw_em24]
  exact ⟨cj_ne cw_c24, ck_dec_ok (N := 5) (fun i h => by unfold cw_d24; rw [cj_blt h]; rfl) cw_dk24⟩
theorem cw_es25 : cw_ss 25 = cw_s25 := rfl
theorem cw_ed25 : cw_dec 25 = cw_d25 := rfl
theorem cw_em25 : (cw_mt 25).2.1 = cX1_place := rfl
theorem cw_e25 : cw_P 25 := by
  unfold cw_P
  rw [cw_es25, cw_ed25, cw_em25]
  exact ⟨cj_ne cw_c25, ck_dec_ok (N := 5) (fun i h => by unfold cw_d25; rw [cj_blt h]; rfl) cw_dk25⟩
theorem cw_es26 : cw_ss 26 = cw_s26 := rfl
theorem cw_ed26 : cw_dec 26 = cw_d26 := rfl
theorem cw_em26 : (cw_mt 26).2.1 = cX2_adviceAt := rfl
theorem cw_e26 : cw_P 26 := by
  unfold cw_P
  rw [cw_es26, cw_ed26, cw_em26]
  exact ⟨cj_ne cw_c26, ck_dec_ok (N := 38) (fun i h => by unfold cw_d26; rw [cj_blt h]; rfl) cw_dk26⟩
theorem cw_es27 : cw_ss 27 = cw_s27 := rfl
theorem cw_ed27 : cw_dec 27 = cw_d27 := rfl
theorem cw_em27 : (cw_mt 27).2.1 = cX2_adviceCount := rfl
theorem cw_e27 : cw_P 27 := by
  unfold cw_P
  rw [cw_es27, cw_ed27, cw_em27]
  exact ⟨cj_ne cw_c27, ck_dec_ok (N := 13) (fun i h => by unfold cw_d27; rw [cj_blt h]; rfl) cw_dk27⟩
theorem cw_es28 : cw_ss 28 = cw_s28 := rfl
theorem cw_ed28 : cw_dec 28 = cw_d28 := rfl
theorem cw_em28 : (cw_mt 28).2.1 = cX2_areArgs := rfl
theorem cw_e28 : cw_P 28 := by
  unfold cw_P
  rw [cw_es28, cw_ed28, cw_em28]
  exact ⟨cj_ne cw_c28, ck_dec_ok (N := 114) (fun i h => by unfold cw_d28; rw [cj_blt h]; rfl) cw_dk28⟩
theorem cw_es29 : cw_ss 29 = cw_s29 := rfl
theorem cw_ed29 : cw_dec 29 = cw_d29 := rfl
theorem cw_em29 : (cw_mt 29).2.1 = cX2_args := rfl
theorem cw_e29 : cw_P 29 := by
  unfold cw_P
  rw [cw_es29, cw_ed29, cw_em29]
  exact ⟨cj_ne cw_c29, ck_dec_ok (N := 13) (fun i h => by unfold cw_d29; rw [cj_blt h]; rfl) cw_dk29⟩
theorem cw_es30 : cw_ss 30 = cw_s30 := rfl
theorem cw_ed30 : cw_dec 30 = cw_d30 := rfl
theorem cw_em30 : (cw_mt 30).2.1 = cX2_bind := rfl
theorem cw_e30 : cw_P 30 := by
  unfold cw_P
  rw [cw_es30, cw_ed30, cw_em30]
  exact ⟨cj_ne cw_c30, ck_dec_ok (N := 22) (fun i h => by unfold cw_d30; rw [cj_blt h]; rfl) cw_dk30⟩
theorem cw_es31 : cw_ss 31 = cw_s31 := rfl
theorem cw_ed31 : cw_dec 31 = cw_d31 := rfl
theorem cw_em31 : (cw_mt 31).2.1 = cX2_bindSlots := rfl
theorem cw_e31 : cw_P 31 := by
  unfold cw_P
  rw [cw_es31, cw_ed31, cw_em31]
  exact ⟨cj_ne cw_c31, ck_dec_ok (N := 166) (fun i h => by unfold cw_d31; rw [cj_blt h]; rfl) cw_dk31⟩
theorem cw_es32 : cw_ss 32 = cw_s32 := rfl
theorem cw_ed32 : cw_dec 32 = cw_d32 := rfl
theorem cw_em32 : (cw_mt 32).2.1 = cX2_bindSure := rfl
theorem cw_e32 : cw_P 32 := by
  unfold cw_P
  rw [cw_es32, cw_ed32, cw_em32]
  exact ⟨cj_ne cw_c32, ck_dec_ok (N := 217) (fun i h => by unfold cw_d32; rw [cj_blt h]; rfl) cw_dk32⟩
theorem cw_es33 : cw_ss 33 = cw_s33 := rfl
theorem cw_ed33 : cw_dec 33 = cw_d33 := rfl
theorem cw_em33 : (cw_mt 33).2.1 = cX2_boundAt := rfl
theorem cw_e33 : cw_P 33 := by
  unfold cw_P
  rw [cw_es33, cw_ed33, cw_em33]
  exact ⟨cj_ne cw_c33, ck_dec_ok (N := 22) (fun i h => by unfold cw_d33; rw [cj_blt h]; rfl) cw_dk33⟩
theorem cw_es34 : cw_ss 34 = cw_s34 := rfl
theorem cw_ed34 : cw_dec 34 = cw_d34 := rfl
theorem cw_em34 : (cw_mt 34).2.1 = cX2_clearBound := rfl
theorem cw_e34 : cw_P 34 := by
  unfold cw_P
  rw [cw_es34, cw_ed34, cw_em34]
  exact ⟨cj_ne cw_c34, ck_dec_ok (N := 26) (fun i h => by unfold cw_d34; rw [cj_blt h]; rfl) cw_dk34⟩
theorem cw_es35 : cw_ss 35 = cw_s35 := rfl
theorem cw_ed35 : cw_dec 35 = cw_d35 := rfl
theorem cw_em35 : (cw_mt 35).2.1 = cX2_handOver := rfl
theorem cw_e35 : cw_P 35 := by
  unfold cw_P
  rw [cw_es35, cw_ed35, cw_em35]
  exact ⟨cj_ne cw_c35, ck_dec_ok (N := 82) (fun i h => by unfold cw_d35; rw [cj_blt h]; rfl) cw_dk35⟩
theorem cw_es36 : cw_ss 36 = cw_s36 := rfl
theorem cw_ed36 : cw_dec 36 = cw_d36 := rfl
theorem cw_em36 : (cw_mt 36).2.1 = cX2_holdAll := rfl
theorem cw_e36 : cw_P 36 := by
  unfold cw_P
  rw [cw_es36, cw_ed36, cw_em36]
  exact ⟨cj_ne cw_c36, ck_dec_ok (N := 109) (fun i h => by unfold cw_d36; rw [cj_blt h]; rfl) cw_dk36⟩
theorem cw_es37 : cw_ss 37 = cw_s37 := rfl
theorem cw_ed37 : cw_dec 37 = cw_d37 := rfl
theorem cw_em37 : (cw_mt 37).2.1 = cX2_holds := rfl
theorem cw_e37 : cw_P 37 := by
  unfold cw_P
  rw [cw_es37, cw_ed37, cw_em37]
  exact ⟨cj_ne cw_c37, ck_dec_ok (N := 299) (fun i h => by unfold cw_d37; rw [cj_blt h]; rfl) cw_dk37⟩
theorem cw_es38 : cw_ss 38 = cw_s38 := rfl
theorem cw_ed38 : cw_dec 38 = cw_d38 := rfl
theorem cw_em38 : (cw_mt 38).2.1 = cX2_holdsAll := rfl
theorem cw_e38 : cw_P 38 := by
  unfold cw_P
  rw [cw_es38, cw_ed38, cw_em38]
  exact ⟨cj_ne cw_c38, ck_dec_ok (N := 59) (fun i h => by unfold cw_d38; rw [cj_blt h]; rfl) cw_dk38⟩
theorem cw_es39 : cw_ss 39 = cw_s39 := rfl
theorem cw_ed39 : cw_dec 39 = cw_d39 := rfl
theorem cw_em39 : (cw_mt 39).2.1 = cX2_holdsAny := rfl
theorem cw_e39 : cw_P 39 := by
  unfold cw_P
  rw [cw_es39, cw_ed39, cw_em39]
  exact ⟨cj_ne cw_c39, ck_dec_ok (N := 78) (fun i h => by unfold cw_d39; rw [cj_blt h]; rfl) cw_dk39⟩
theorem cw_es40 : cw_ss 40 = cw_s40 := rfl
theorem cw_ed40 : cw_dec 40 = cw_d40 := rfl
theorem cw_em40 : (cw_mt 40).2.1 = cX2_holdsFlow := rfl
theorem cw_e40 : cw_P 40 := by
  unfold cw_P
  rw [cw_es40, cw_ed40, cw_em40]
  exact ⟨cj_ne cw_c40, ck_dec_ok (N := 40) (fun i h => by unfold cw_d40; rw [cj_blt h]; rfl) cw_dk40⟩
theorem cw_es41 : cw_ss 41 = cw_s41 := rfl
theorem cw_ed41 : cw_dec 41 = cw_d41 := rfl
theorem cw_em41 : (cw_mt 41).2.1 = cX2_isObject := rfl
theorem cw_e41 : cw_P 41 := by
  unfold cw_P
  rw [cw_es41, cw_ed41, cw_em41]
  exact ⟨cj_ne cw_c41, ck_dec_ok (N := 63) (fun i h => by unfold cw_d41; rw [cj_blt h]; rfl) cw_dk41⟩
theorem cw_es42 : cw_ss 42 = cw_s42 := rfl
theorem cw_ed42 : cw_dec 42 = cw_d42 := rfl
theorem cw_em42 : (cw_mt 42).2.1 = cX2_isOfTypes := rfl
theorem cw_e42 : cw_P 42 := by
  unfold cw_P
  rw [cw_es42, cw_ed42, cw_em42]
  exact ⟨cj_ne cw_c42, ck_dec_ok (N := 45) (fun i h => by unfold cw_d42; rw [cj_blt h]; rfl) cw_dk42⟩
theorem cw_es43 : cw_ss 43 = cw_s43 := rfl
theorem cw_ed43 : cw_dec 43 = cw_d43 := rfl
theorem cw_em43 : (cw_mt 43).2.1 = cX2_isSo := rfl
theorem cw_e43 : cw_P 43 := by
  unfold cw_P
  rw [cw_es43, cw_ed43, cw_em43]
  exact ⟨cj_ne cw_c43, ck_dec_ok (N := 197) (fun i h => by unfold cw_d43; rw [cj_blt h]; rfl) cw_dk43⟩
theorem cw_es44 : cw_ss 44 = cw_s44 := rfl
theorem cw_ed44 : cw_dec 44 = cw_d44 := rfl
theorem cw_em44 : (cw_mt 44).2.1 = cX2_isTrue := rfl
theorem cw_e44 : cw_P 44 := by
  unfold cw_P
  rw [cw_es44, cw_ed44, cw_em44]
  exact ⟨cj_ne cw_c44, ck_dec_ok (N := 316) (fun i h => by unfold cw_d44; rw [cj_blt h]; rfl) cw_dk44⟩
theorem cw_es45 : cw_ss 45 = cw_s45 := rfl
theorem cw_ed45 : cw_dec 45 = cw_d45 := rfl
theorem cw_em45 : (cw_mt 45).2.1 = cX2_keep := rfl
theorem cw_e45 : cw_P 45 := by
  unfold cw_P
  rw [cw_es45, cw_ed45, cw_em45]
  exact ⟨cj_ne cw_c45, ck_dec_ok (N := 105) (fun i h => by unfold cw_d45; rw [cj_blt h]; rfl) cw_dk45⟩
theorem cw_es46 : cw_ss 46 = cw_s46 := rfl
theorem cw_ed46 : cw_dec 46 = cw_d46 := rfl
theorem cw_em46 : (cw_mt 46).2.1 = cX2_leave := rfl
theorem cw_e46 : cw_P 46 := by
  unfold cw_P
  rw [cw_es46, cw_ed46, cw_em46]
  exact ⟨cj_ne cw_c46, ck_dec_ok (N := 25) (fun i h => by unfold cw_d46; rw [cj_blt h]; rfl) cw_dk46⟩
theorem cw_es47 : cw_ss 47 = cw_s47 := rfl
theorem cw_ed47 : cw_dec 47 = cw_d47 := rfl
theorem cw_em47 : (cw_mt 47).2.1 = cX2_ownerOf := rfl
theorem cw_e47 : cw_P 47 := by
  unfold cw_P
  rw [cw_es47, cw_ed47, cw_em47]
  exact ⟨cj_ne cw_c47, ck_dec_ok (N := 62) (fun i h => by unfold cw_d47; rw [cj_blt h]; rfl) cw_dk47⟩
theorem cw_es48 : cw_ss 48 = cw_s48 := rfl
theorem cw_ed48 : cw_dec 48 = cw_d48 := rfl
theorem cw_em48 : (cw_mt 48).2.1 = cX2_reach := rfl
theorem cw_e48 : cw_P 48 := by
  unfold cw_P
  rw [cw_es48, cw_ed48, cw_em48]
  exact ⟨cj_ne cw_c48, ck_dec_ok (N := 140) (fun i h => by unfold cw_d48; rw [cj_blt h]; rfl) cw_dk48⟩
theorem cw_es49 : cw_ss 49 = cw_s49 := rfl
theorem cw_ed49 : cw_dec 49 = cw_d49 := rfl
theorem cw_em49 : (cw_mt 49).2.1 = cX2_reachedPoint := rfl
theorem cw_e49 : cw_P 49 := by
  unfold cw_P
  rw [cw_es49, cw_ed49, cw_em49]
  exact ⟨cj_ne cw_c49, ck_dec_ok (N := 13) (fun i h => by unfold cw_d49; rw [cj_blt h]; rfl) cw_dk49⟩
theorem cw_es50 : cw_ss 50 = cw_s50 := rfl
theorem cw_ed50 : cw_dec 50 = cw_d50 := rfl
theorem cw_em50 : (cw_mt 50).2.1 = cX2_start := rfl
theorem cw_e50 : cw_P 50 := by
  unfold cw_P
  rw [cw_es50, cw_ed50, cw_em50]
  exact ⟨cj_ne cw_c50, ck_dec_ok (N := 19) (fun i h => by unfold cw_d50; rw [cj_blt h]; rfl) cw_dk50⟩
theorem cw_es51 : cw_ss 51 = cw_s51 := rfl
theorem cw_ed51 : cw_dec 51 = cw_d51 := rfl
theorem cw_em51 : (cw_mt 51).2.1 = cX2_target := rfl
theorem cw_e51 : cw_P 51 := by
  unfold cw_P
  rw [cw_es51, cw_ed51, cw_em51]
  exact ⟨cj_ne cw_c51, ck_dec_ok (N := 17) (fun i h => by unfold cw_d51; rw [cj_blt h]; rfl) cw_dk51⟩
theorem cw_es52 : cw_ss 52 = cw_s52 := rfl
theorem cw_ed52 : cw_dec 52 = cw_d52 := rfl
theorem cw_em52 : (cw_mt 52).2.1 = cX2_unbind := rfl
theorem cw_e52 : cw_P 52 := by
  unfold cw_P
  rw [cw_es52, cw_ed52, cw_em52]
  exact ⟨cj_ne cw_c52, ck_dec_ok (N := 39) (fun i h => by unfold cw_d52; rw [cj_blt h]; rfl) cw_dk52⟩
theorem cw_es53 : cw_ss 53 = cw_s53 := rfl
theorem cw_ed53 : cw_dec 53 = cw_d53 := rfl
theorem cw_em53 : (cw_mt 53).2.1 = cX3_bound := rfl
theorem cw_e53 : cw_P 53 := by
  unfold cw_P
  rw [cw_es53, cw_ed53, cw_em53]
  exact ⟨cj_ne cw_c53, ck_dec_ok (N := 323) (fun i h => by unfold cw_d53; rw [cj_blt h]; rfl) cw_dk53⟩
theorem cw_es54 : cw_ss 54 = cw_s54 := rfl
theorem cw_ed54 : cw_dec 54 = cw_d54 := rfl
theorem cw_em54 : (cw_mt 54).2.1 = cX3_boundByList := rfl
theorem cw_e54 : cw_P 54 := by
  unfold cw_P
  rw [cw_es54, cw_ed54, cw_em54]
  exact ⟨cj_ne cw_c54, ck_dec_ok (N := 77) (fun i h => by unfold cw_d54; rw [cj_blt h]; rfl) cw_dk54⟩
theorem cw_es55 : cw_ss 55 = cw_s55 := rfl
theorem cw_ed55 : cw_dec 55 = cw_d55 := rfl
theorem cw_em55 : (cw_mt 55).2.1 = cX3_countFields := rfl
theorem cw_e55 : cw_P 55 := by
  unfold cw_P
  rw [cw_es55, cw_ed55, cw_em55]
  exact ⟨cj_ne cw_c55, ck_dec_ok (N := 50) (fun i h => by unfold cw_d55; rw [cj_blt h]; rfl) cw_dk55⟩
theorem cw_es56 : cw_ss 56 = cw_s56 := rfl
theorem cw_ed56 : cw_dec 56 = cw_d56 := rfl
theorem cw_em56 : (cw_mt 56).2.1 = cX3_isTold := rfl
theorem cw_e56 : cw_P 56 := by
  unfold cw_P
  rw [cw_es56, cw_ed56, cw_em56]
  exact ⟨cj_ne cw_c56, ck_dec_ok (N := 72) (fun i h => by unfold cw_d56; rw [cj_blt h]; rfl) cw_dk56⟩
theorem cw_es57 : cw_ss 57 = cw_s57 := rfl
theorem cw_ed57 : cw_dec 57 = cw_d57 := rfl
theorem cw_em57 : (cw_mt 57).2.1 = cX3_judgeAdvice := rfl
theorem cw_e57 : cw_P 57 := by
  unfold cw_P
  rw [cw_es57, cw_ed57, cw_em57]
  exact ⟨cj_ne cw_c57, ck_dec_ok (N := 132) (fun i h => by unfold cw_d57; rw [cj_blt h]; rfl) cw_dk57⟩
theorem cw_es58 : cw_ss 58 = cw_s58 := rfl
theorem cw_ed58 : cw_dec 58 = cw_d58 := rfl
theorem cw_em58 : (cw_mt 58).2.1 = cX3_judgeAll := rfl
theorem cw_e58 : cw_P 58 := by
  unfold cw_P
  rw [cw_es58, cw_ed58, cw_em58]
  exact ⟨cj_ne cw_c58, ck_dec_ok (N := 109) (fun i h => by unfold cw_d58; rw [cj_blt h]; rfl) cw_dk58⟩
theorem cw_es59 : cw_ss 59 = cw_s59 := rfl
theorem cw_ed59 : cw_dec 59 = cw_d59 := rfl
theorem cw_em59 : (cw_mt 59).2.1 = cX3_judgeCode := rfl
theorem cw_e59 : cw_P 59 := by
  unfold cw_P
  rw [cw_es59, cw_ed59, cw_em59]
  exact ⟨cj_ne cw_c59, ck_dec_ok (N := 175) (fun i h => by unfold cw_d59; rw [cj_blt h]; rfl) cw_dk59⟩
theorem cw_es60 : cw_ss 60 = cw_s60 := rfl
theorem cw_ed60 : cw_dec 60 = cw_d60 := rfl
theorem cw_em60 : (cw_mt 60).2.1 = cX3_judgeLoose := rfl
theorem cw_e60 : cw_P 60 := by
  unfold cw_P
  rw [cw_es60, cw_ed60, cw_em60]
  exact ⟨cj_ne cw_c60, ck_dec_ok (N := 165) (fun i h => by unfold cw_d60; rw [cj_blt h]; rfl) cw_dk60⟩
theorem cw_es61 : cw_ss 61 = cw_s61 := rfl
theorem cw_ed61 : cw_dec 61 = cw_d61 := rfl
theorem cw_em61 : (cw_mt 61).2.1 = cX3_judgeMembers := rfl
theorem cw_e61 : cw_P 61 := by
  unfold cw_P
  rw [cw_es61, cw_ed61, cw_em61]
  exact ⟨cj_ne cw_c61, ck_dec_ok (N := 84) (fun i h => by unfold cw_d61; rw [cj_blt h]; rfl) cw_dk61⟩
theorem cw_es62 : cw_ss 62 = cw_s62 := rfl
theorem cw_ed62 : cw_dec 62 = cw_d62 := rfl
theorem cw_em62 : (cw_mt 62).2.1 = cX3_judgeNamed := rfl
theorem cw_e62 : cw_P 62 := by
  unfold cw_P
  rw [cw_es62, cw_ed62, cw_em62]
  exact ⟨cj_ne cw_c62, ck_dec_ok (N := 181) (fun i h => by unfold cw_d62; rw [cj_blt h]; rfl) cw_dk62⟩
theorem cw_es63 : cw_ss 63 = cw_s63 := rfl
theorem cw_ed63 : cw_dec 63 = cw_d63 := rfl
theorem cw_em63 : (cw_mt 63).2.1 = cX3_judgeNames := rfl
theorem cw_e63 : cw_P 63 := by
  unfold cw_P
  rw [cw_es63, cw_ed63, cw_em63]
  exact ⟨cj_ne cw_c63, ck_dec_ok (N := 183) (fun i h => by unfold cw_d63; rw [cj_blt h]; rfl) cw_dk63⟩
theorem cw_es64 : cw_ss 64 = cw_s64 := rfl
theorem cw_ed64 : cw_dec 64 = cw_d64 := rfl
theorem cw_em64 : (cw_mt 64).2.1 = cX3_judgeNodes := rfl
theorem cw_e64 : cw_P 64 := by
  unfold cw_P
  rw [cw_es64, cw_ed64, cw_em64]
  exact ⟨cj_ne cw_c64, ck_dec_ok (N := 181) (fun i h => by unfold cw_d64; rw [cj_blt h]; rfl) cw_dk64⟩
theorem cw_es65 : cw_ss 65 = cw_s65 := rfl
theorem cw_ed65 : cw_dec 65 = cw_d65 := rfl
theorem cw_em65 : (cw_mt 65).2.1 = cX3_judgeOrders := rfl
theorem cw_e65 : cw_P 65 := by
  unfold cw_P
  rw [cw_es65, cw_ed65, cw_em65]
  exact ⟨cj_ne cw_c65, ck_dec_ok (N := 179) (fun i h => by unfold cw_d65; rw [cj_blt h]; rfl) cw_dk65⟩
theorem cw_es66 : cw_ss 66 = cw_s66 := rfl
theorem cw_ed66 : cw_dec 66 = cw_d66 := rfl
theorem cw_em66 : (cw_mt 66).2.1 = cX3_judgeOwn := rfl
theorem cw_e66 : cw_P 66 := by
  unfold cw_P
  rw [cw_es66, cw_ed66, cw_em66]
  exact ⟨cj_ne cw_c66, ck_dec_ok (N := 105) (fun i h => by unfold cw_d66; rw [cj_blt h]; rfl) cw_dk66⟩
theorem cw_es67 : cw_ss 67 = cw_s67 := rfl
theorem cw_ed67 : cw_dec 67 = cw_d67 := rfl
theorem cw_em67 : (cw_mt 67).2.1 = cX3_judgePicks := rfl
theorem cw_e67 : cw_P 67 := by
  unfold cw_P
  rw [cw_es67, cw_ed67, cw_em67]
  exact ⟨cj_ne cw_c67, ck_dec_ok (N := 91) (fun i h => by unfold cw_d67; rw [cj_blt h]; rfl) cw_dk67⟩
theorem cw_es68 : cw_ss 68 = cw_s68 := rfl
theorem cw_ed68 : cw_dec 68 = cw_d68 := rfl
theorem cw_em68 : (cw_mt 68).2.1 = cX3_judgeUnders := rfl
theorem cw_e68 : cw_P 68 := by
  unfold cw_P
  rw [cw_es68, cw_ed68, cw_em68]
  exact ⟨cj_ne cw_c68, ck_dec_ok (N := 205) (fun i h => by unfold cw_d68; rw [cj_blt h]; rfl) cw_dk68⟩
theorem cw_es69 : cw_ss 69 = cw_s69 := rfl
theorem cw_ed69 : cw_dec 69 = cw_d69 := rfl
theorem cw_em69 : (cw_mt 69).2.1 = cX3_judgeUses := rfl
theorem cw_e69 : cw_P 69 := by
  unfold cw_P
  rw [cw_es69, cw_ed69, cw_em69]
  exact ⟨cj_ne cw_c69, ck_dec_ok (N := 65) (fun i h => by unfold cw_d69; rw [cj_blt h]; rfl) cw_dk69⟩
theorem cw_es70 : cw_ss 70 = cw_s70 := rfl
theorem cw_ed70 : cw_dec 70 = cw_d70 := rfl
theorem cw_em70 : (cw_mt 70).2.1 = cX3_layClasses := rfl
theorem cw_e70 : cw_P 70 := by
  unfold cw_P
  rw [cw_es70, cw_ed70, cw_em70]
  exact ⟨cj_ne cw_c70, ck_dec_ok (N := 118) (fun i h => by unfold cw_d70; rw [cj_blt h]; rfl) cw_dk70⟩
theorem cw_es71 : cw_ss 71 = cw_s71 := rfl
theorem cw_ed71 : cw_dec 71 = cw_d71 := rfl
theorem cw_em71 : (cw_mt 71).2.1 = cX3_layFields := rfl
theorem cw_e71 : cw_P 71 := by
  unfold cw_P
  rw [cw_es71, cw_ed71, cw_em71]
  exact ⟨cj_ne cw_c71, ck_dec_ok (N := 177) (fun i h => by unfold cw_d71; rw [cj_blt h]; rfl) cw_dk71⟩
theorem cw_es72 : cw_ss 72 = cw_s72 := rfl
theorem cw_ed72 : cw_dec 72 = cw_d72 := rfl
theorem cw_em72 : (cw_mt 72).2.1 = cX3_layOrder := rfl
theorem cw_e72 : cw_P 72 := by
  unfold cw_P
  rw [cw_es72, cw_ed72, cw_em72]
  exact ⟨cj_ne cw_c72, ck_dec_ok (N := 96) (fun i h => by unfold cw_d72; rw [cj_blt h]; rfl) cw_dk72⟩
theorem cw_es73 : cw_ss 73 = cw_s73 := rfl
theorem cw_ed73 : cw_dec 73 = cw_d73 := rfl
theorem cw_em73 : (cw_mt 73).2.1 = cX3_setAbove := rfl
theorem cw_e73 : cw_P 73 := by
  unfold cw_P
  rw [cw_es73, cw_ed73, cw_em73]
  exact ⟨cj_ne cw_c73, ck_dec_ok (N := 69) (fun i h => by unfold cw_d73; rw [cj_blt h]; rfl) cw_dk73⟩
theorem cw_es74 : cw_ss 74 = cw_s74 := rfl
theorem cw_ed74 : cw_dec 74 = cw_d74 := rfl
theorem cw_em74 : (cw_mt 74).2.1 = cX3_slotBit := rfl
theorem cw_e74 : cw_P 74 := by
  unfold cw_P
  rw [cw_es74, cw_ed74, cw_em74]
  exact ⟨cj_ne cw_c74, ck_dec_ok (N := 24) (fun i h => by unfold cw_d74; rw [cj_blt h]; rfl) cw_dk74⟩
theorem cw_es75 : cw_ss 75 = cw_s75 := rfl
theorem cw_ed75 : cw_dec 75 = cw_d75 := rfl
theorem cw_em75 : (cw_mt 75).2.1 = cX4_act := rfl
theorem cw_e75 : cw_P 75 := by
  unfold cw_P
  rw [cw_es75, cw_ed75, cw_em75]
  exact ⟨cj_ne cw_c75, ck_dec_ok (N := 119) (fun i h => by unfold cw_d75; rw [cj_blt h]; rfl) cw_dk75⟩
theorem cw_es76 : cw_ss 76 = cw_s76 := rfl
theorem cw_ed76 : cw_dec 76 = cw_d76 := rfl
theorem cw_em76 : (cw_mt 76).2.1 = cX4_actCall := rfl
theorem cw_e76 : cw_P 76 := by
  unfold cw_P
  rw [cw_es76, cw_ed76, cw_em76]
  exact ⟨cj_ne cw_c76, ck_dec_ok (N := 133) (fun i h => by unfold cw_d76; rw [cj_blt h]; rfl) cw_dk76⟩
theorem cw_es77 : cw_ss 77 = cw_s77 := rfl
theorem cw_ed77 : cw_dec 77 = cw_d77 := rfl
theorem cw_em77 : (cw_mt 77).2.1 = cX4_actField := rfl
theorem cw_e77 : cw_P 77 := by
  unfold cw_P
  rw [cw_es77, cw_ed77, cw_em77]
  exact ⟨cj_ne cw_c77, ck_dec_ok (N := 149) (fun i h => by unfold cw_d77; rw [cj_blt h]; rfl) cw_dk77⟩
theorem cw_es78 : cw_ss 78 = cw_s78 := rfl
theorem cw_ed78 : cw_dec 78 = cw_d78 := rfl
theorem cw_em78 : (cw_mt 78).2.1 = cX4_actMake := rfl
theorem cw_e78 : cw_P 78 := by
  unfold cw_P
  rw [cw_es78, cw_ed78, cw_em78]
  exact ⟨cj_ne cw_c78, ck_dec_ok (N := 153) (fun i h => by unfold cw_d78; rw [cj_blt h]; rfl) cw_dk78⟩
theorem cw_es79 : cw_ss 79 = cw_s79 := rfl
theorem cw_ed79 : cw_dec 79 = cw_d79 := rfl
theorem cw_em79 : (cw_mt 79).2.1 = cX4_doRest := rfl
theorem cw_e79 : cw_P 79 := by
  unfold cw_P
  rw [cw_es79, cw_ed79, cw_em79]
  exact ⟨cj_ne cw_c79, ck_dec_ok (N := 83) (fun i h => by unfold cw_d79; rw [cj_blt h]; rfl) cw_dk79⟩
theorem cw_es80 : cw_ss 80 = cw_s80 := rfl
theorem cw_ed80 : cw_dec 80 = cw_d80 := rfl
theorem cw_em80 : (cw_mt 80).2.1 = cX4_enterAdvice := rfl
theorem cw_e80 : cw_P 80 := by
  unfold cw_P
  rw [cw_es80, cw_ed80, cw_em80]
  exact ⟨cj_ne cw_c80, ck_dec_ok (N := 242) (fun i h => by unfold cw_d80; rw [cj_blt h]; rfl) cw_dk80⟩
theorem cw_es81 : cw_ss 81 = cw_s81 := rfl
theorem cw_ed81 : cw_dec 81 = cw_d81 := rfl
theorem cw_em81 : (cw_mt 81).2.1 = cX4_enterMethod := rfl
theorem cw_e81 : cw_P 81 := by
  unfold cw_P
  rw [cw_es81, cw_ed81, cw_em81]
  exact ⟨cj_ne cw_c81, ck_dec_ok (N := 76) (fun i h => by unfold cw_d81; rw [cj_blt h]; rfl) cw_dk81⟩
theorem cw_es82 : cw_ss 82 = cw_s82 := rfl
theorem cw_ed82 : cw_dec 82 = cw_d82 := rfl
theorem cw_em82 : (cw_mt 82).2.1 = cX4_entered := rfl
theorem cw_e82 : cw_P 82 := by
  unfold cw_P
  rw [cw_es82, cw_ed82, cw_em82]
  exact ⟨cj_ne cw_c82, ck_dec_ok (N := 14) (fun i h => by unfold cw_d82; rw [cj_blt h]; rfl) cw_dk82⟩
theorem cw_es83 : cw_ss 83 = cw_s83 := rfl
theorem cw_ed83 : cw_dec 83 = cw_d83 := rfl
theorem cw_em83 : (cw_mt 83).2.1 = cX4_failBody := rfl
theorem cw_e83 : cw_P 83 := by
  unfold cw_P
  rw [cw_es83, cw_ed83, cw_em83]
  exact ⟨cj_ne cw_c83, ck_dec_ok (N := 175) (fun i h => by unfold cw_d83; rw [cj_blt h]; rfl) cw_dk83⟩
theorem cw_es84 : cw_ss 84 = cw_s84 := rfl
theorem cw_ed84 : cw_dec 84 = cw_d84 := rfl
theorem cw_em84 : (cw_mt 84).2.1 = cX4_failedWith := rfl
theorem cw_e84 : cw_P 84 := by
  unfold cw_P
  rw [cw_es84, cw_ed84, cw_em84]
  exact ⟨cj_ne cw_c84, ck_dec_ok (N := 17) (fun i h => by unfold cw_d84; rw [cj_blt h]; rfl) cw_dk84⟩
theorem cw_es85 : cw_ss 85 = cw_s85 := rfl
theorem cw_ed85 : cw_dec 85 = cw_d85 := rfl
theorem cw_em85 : (cw_mt 85).2.1 = cX4_give := rfl
theorem cw_e85 : cw_P 85 := by
  unfold cw_P
  rw [cw_es85, cw_ed85, cw_em85]
  exact ⟨cj_ne cw_c85, ck_dec_ok (N := 115) (fun i h => by unfold cw_d85; rw [cj_blt h]; rfl) cw_dk85⟩
theorem cw_es86 : cw_ss 86 = cw_s86 := rfl
theorem cw_ed86 : cw_dec 86 = cw_d86 := rfl
theorem cw_em86 : (cw_mt 86).2.1 = cX4_giveValue := rfl
theorem cw_e86 : cw_P 86 := by
  unfold cw_P
  rw [cw_es86, cw_ed86, cw_em86]
  exact ⟨cj_ne cw_c86, ck_dec_ok (N := 11) (fun i h => by unfold cw_d86; rw [cj_blt h]; rfl) cw_dk86⟩
theorem cw_es87 : cw_ss 87 = cw_s87 := rfl
theorem cw_ed87 : cw_dec 87 = cw_d87 := rfl
theorem cw_em87 : (cw_mt 87).2.1 = cX4_goBehind := rfl
theorem cw_e87 : cw_P 87 := by
  unfold cw_P
  rw [cw_es87, cw_ed87, cw_em87]
  exact ⟨cj_ne cw_c87, ck_dec_ok (N := 45) (fun i h => by unfold cw_d87; rw [cj_blt h]; rfl) cw_dk87⟩
theorem cw_es88 : cw_ss 88 = cw_s88 := rfl
theorem cw_ed88 : cw_dec 88 = cw_d88 := rfl
theorem cw_em88 : (cw_mt 88).2.1 = cX4_goOn := rfl
theorem cw_e88 : cw_P 88 := by
  unfold cw_P
  rw [cw_es88, cw_ed88, cw_em88]
  exact ⟨cj_ne cw_c88, ck_dec_ok (N := 52) (fun i h => by unfold cw_d88; rw [cj_blt h]; rfl) cw_dk88⟩
theorem cw_es89 : cw_ss 89 = cw_s89 := rfl
theorem cw_ed89 : cw_dec 89 = cw_d89 := rfl
theorem cw_em89 : (cw_mt 89).2.1 = cX4_latest := rfl
theorem cw_e89 : cw_P 89 := by
  unfold cw_P
  rw [cw_es89, cw_ed89, cw_em89]
  exact ⟨cj_ne cw_c89, ck_dec_ok (N := 10) (fun i h => by unfold cw_d89; rw [cj_blt h]; rfl) cw_dk89⟩
theorem cw_es90 : cw_ss 90 = cw_s90 := rfl
theorem cw_ed90 : cw_dec 90 = cw_d90 := rfl
theorem cw_em90 : (cw_mt 90).2.1 = cX4_leaveBody := rfl
theorem cw_e90 : cw_P 90 := by
  unfold cw_P
  rw [cw_es90, cw_ed90, cw_em90]
  exact ⟨cj_ne cw_c90, ck_dec_ok (N := 155) (fun i h => by unfold cw_d90; rw [cj_blt h]; rfl) cw_dk90⟩
theorem cw_es91 : cw_ss 91 = cw_s91 := rfl
theorem cw_ed91 : cw_dec 91 = cw_d91 := rfl
theorem cw_em91 : (cw_mt 91).2.1 = cX4_loadArgs := rfl
theorem cw_e91 : cw_P 91 := by
  unfold cw_P
  rw [cw_es91, cw_ed91, cw_em91]
  exact ⟨cj_ne cw_c91, ck_dec_ok (N := 30) (fun i h => by unfold cw_d91; rw [cj_blt h]; rfl) cw_dk91⟩
theorem cw_es92 : cw_ss 92 = cw_s92 := rfl
theorem cw_ed92 : cw_dec 92 = cw_d92 := rfl
theorem cw_em92 : (cw_mt 92).2.1 = cX4_pass := rfl
theorem cw_e92 : cw_P 92 := by
  unfold cw_P
  rw [cw_es92, cw_ed92, cw_em92]
  exact ⟨cj_ne cw_c92, ck_dec_ok (N := 97) (fun i h => by unfold cw_d92; rw [cj_blt h]; rfl) cw_dk92⟩
theorem cw_es93 : cw_ss 93 = cw_s93 := rfl
theorem cw_ed93 : cw_dec 93 = cw_d93 := rfl
theorem cw_em93 : (cw_mt 93).2.1 = cX4_popArgs := rfl
theorem cw_e93 : cw_P 93 := by
  unfold cw_P
  rw [cw_es93, cw_ed93, cw_em93]
  exact ⟨cj_ne cw_c93, ck_dec_ok (N := 30) (fun i h => by unfold cw_d93; rw [cj_blt h]; rfl) cw_dk93⟩
theorem cw_es94 : cw_ss 94 = cw_s94 := rfl
theorem cw_ed94 : cw_dec 94 = cw_d94 := rfl
theorem cw_em94 : (cw_mt 94).2.1 = cX4_popBody := rfl
theorem cw_e94 : cw_P 94 := by
  unfold cw_P
  rw [cw_es94, cw_ed94, cw_em94]
  exact ⟨cj_ne cw_c94, ck_dec_ok (N := 35) (fun i h => by unfold cw_d94; rw [cj_blt h]; rfl) cw_dk94⟩
theorem cw_es95 : cw_ss 95 = cw_s95 := rfl
theorem cw_ed95 : cw_dec 95 = cw_d95 := rfl
theorem cw_em95 : (cw_mt 95).2.1 = cX4_popFrame := rfl
theorem cw_e95 : cw_P 95 := by
  unfold cw_P
  rw [cw_es95, cw_ed95, cw_em95]
  exact ⟨cj_ne cw_c95, ck_dec_ok (N := 17) (fun i h => by unfold cw_d95; rw [cj_blt h]; rfl) cw_dk95⟩
theorem cw_es96 : cw_ss 96 = cw_s96 := rfl
theorem cw_ed96 : cw_dec 96 = cw_d96 := rfl
theorem cw_em96 : (cw_mt 96).2.1 = cX4_pushBody := rfl
theorem cw_e96 : cw_P 96 := by
  unfold cw_P
  rw [cw_es96, cw_ed96, cw_em96]
  exact ⟨cj_ne cw_c96, ck_dec_ok (N := 87) (fun i h => by unfold cw_d96; rw [cj_blt h]; rfl) cw_dk96⟩
theorem cw_es97 : cw_ss 97 = cw_s97 := rfl
theorem cw_ed97 : cw_dec 97 = cw_d97 := rfl
theorem cw_em97 : (cw_mt 97).2.1 = cX4_pushFrame := rfl
theorem cw_e97 : cw_P 97 := by
  unfold cw_P
  rw [cw_es97, cw_ed97, cw_em97]
  exact ⟨cj_ne cw_c97, ck_dec_ok (N := 29) (fun i h => by unfold cw_d97; rw [cj_blt h]; rfl) cw_dk97⟩
theorem cw_es98 : cw_ss 98 = cw_s98 := rfl
theorem cw_ed98 : cw_dec 98 = cw_d98 := rfl
theorem cw_em98 : (cw_mt 98).2.1 = cX4_putValue := rfl
theorem cw_e98 : cw_P 98 := by
  unfold cw_P
  rw [cw_es98, cw_ed98, cw_em98]
  exact ⟨cj_ne cw_c98, ck_dec_ok (N := 23) (fun i h => by unfold cw_d98; rw [cj_blt h]; rfl) cw_dk98⟩
theorem cw_es99 : cw_ss 99 = cw_s99 := rfl
theorem cw_ed99 : cw_dec 99 = cw_d99 := rfl
theorem cw_em99 : (cw_mt 99).2.1 = cX4_reach := rfl
theorem cw_e99 : cw_P 99 := by
  unfold cw_P
  rw [cw_es99, cw_ed99, cw_em99]
  exact ⟨cj_ne cw_c99, ck_dec_ok (N := 27) (fun i h => by unfold cw_d99; rw [cj_blt h]; rfl) cw_dk99⟩
theorem cw_es100 : cw_ss 100 = cw_s100 := rfl
theorem cw_ed100 : cw_dec 100 = cw_d100 := rfl
theorem cw_em100 : (cw_mt 100).2.1 = cX4_reachFromCode := rfl
theorem cw_e100 : cw_P 100 := by
  unfold cw_P
  rw [cw_es100, cw_ed100, cw_em100]
  exact ⟨cj_ne cw_c100, ck_dec_ok (N := 79) (fun i h => by unfold cw_d100; rw [cj_blt h]; rfl) cw_dk100⟩
theorem cw_es101 : cw_ss 101 = cw_s101 := rfl
theorem cw_ed101 : cw_dec 101 = cw_d101 := rfl
theorem cw_em101 : (cw_mt 101).2.1 = cX4_standing := rfl
theorem cw_e101 : cw_P 101 := by
  unfold cw_P
  rw [cw_es101, cw_ed101, cw_em101]
  exact ⟨cj_ne cw_c101, ck_dec_ok (N := 5) (fun i h => by unfold cw_d101; rw [cj_blt h]; rfl) cw_dk101⟩
theorem cw_es102 : cw_ss 102 = cw_s102 := rfl
theorem cw_ed102 : cw_dec 102 = cw_d102 := rfl
theorem cw_em102 : (cw_mt 102).2.1 = cX4_start := rfl
theorem cw_e102 : cw_P 102 := by
  unfold cw_P
  rw [cw_es102, cw_ed102, cw_em102]
  exact ⟨cj_ne cw_c102, ck_dec_ok (N := 119) (fun i h => by unfold cw_d102; rw [cj_blt h]; rfl) cw_dk102⟩
theorem cw_es103 : cw_ss 103 = cw_s103 := rfl
theorem cw_ed103 : cw_dec 103 = cw_d103 := rfl
theorem cw_em103 : (cw_mt 103).2.1 = cX4_step := rfl
theorem cw_e103 : cw_P 103 := by
  unfold cw_P
  rw [cw_es103, cw_ed103, cw_em103]
  exact ⟨cj_ne cw_c103, ck_dec_ok (N := 46) (fun i h => by unfold cw_d103; rw [cj_blt h]; rfl) cw_dk103⟩
theorem cw_es104 : cw_ss 104 = cw_s104 := rfl
theorem cw_ed104 : cw_dec 104 = cw_d104 := rfl
theorem cw_em104 : (cw_mt 104).2.1 = cX4_steps := rfl
theorem cw_e104 : cw_P 104 := by
  unfold cw_P
  rw [cw_es104, cw_ed104, cw_em104]
  exact ⟨cj_ne cw_c104, ck_dec_ok (N := 5) (fun i h => by unfold cw_d104; rw [cj_blt h]; rfl) cw_dk104⟩
theorem cw_es105 : cw_ss 105 = cw_s105 := rfl
theorem cw_ed105 : cw_dec 105 = cw_d105 := rfl
theorem cw_em105 : (cw_mt 105).2.1 = cX4_throwValue := rfl
theorem cw_e105 : cw_P 105 := by
  unfold cw_P
  rw [cw_es105, cw_ed105, cw_em105]
  exact ⟨cj_ne cw_c105, ck_dec_ok (N := 11) (fun i h => by unfold cw_d105; rw [cj_blt h]; rfl) cw_dk105⟩
theorem cw_es106 : cw_ss 106 = cw_s106 := rfl
theorem cw_ed106 : cw_dec 106 = cw_d106 := rfl
theorem cw_em106 : (cw_mt 106).2.1 = cX4_throwWhole := rfl
theorem cw_e106 : cw_P 106 := by
  unfold cw_P
  rw [cw_es106, cw_ed106, cw_em106]
  exact ⟨cj_ne cw_c106, ck_dec_ok (N := 9) (fun i h => by unfold cw_d106; rw [cj_blt h]; rfl) cw_dk106⟩
theorem cw_es107 : cw_ss 107 = cw_s107 := rfl
theorem cw_ed107 : cw_dec 107 = cw_d107 := rfl
theorem cw_em107 : (cw_mt 107).2.1 = cX4_valueAt := rfl
theorem cw_e107 : cw_P 107 := by
  unfold cw_P
  rw [cw_es107, cw_ed107, cw_em107]
  exact ⟨cj_ne cw_c107, ck_dec_ok (N := 22) (fun i h => by unfold cw_d107; rw [cj_blt h]; rfl) cw_dk107⟩
theorem cw_es108 : cw_ss 108 = cw_s108 := rfl
theorem cw_ed108 : cw_dec 108 = cw_d108 := rfl
theorem cw_em108 : (cw_mt 108).2.1 = cX4_work := rfl
theorem cw_e108 : cw_P 108 := by
  unfold cw_P
  rw [cw_es108, cw_ed108, cw_em108]
  exact ⟨cj_ne cw_c108, ck_dec_ok (N := 124) (fun i h => by unfold cw_d108; rw [cj_blt h]; rfl) cw_dk108⟩
theorem cw_es109 : cw_ss 109 = cw_s109 := rfl
theorem cw_ed109 : cw_dec 109 = cw_d109 := rfl
theorem cw_em109 : (cw_mt 109).2.1 = cX4_workControl := rfl
theorem cw_e109 : cw_P 109 := by
  unfold cw_P
  rw [cw_es109, cw_ed109, cw_em109]
  exact ⟨cj_ne cw_c109, ck_dec_ok (N := 208) (fun i h => by unfold cw_d109; rw [cj_blt h]; rfl) cw_dk109⟩
theorem cw_es110 : cw_ss 110 = cw_s110 := rfl
theorem cw_ed110 : cw_dec 110 = cw_d110 := rfl
theorem cw_em110 : (cw_mt 110).2.1 = cX4_workOp := rfl
theorem cw_e110 : cw_P 110 := by
  unfold cw_P
  rw [cw_es110, cw_ed110, cw_em110]
  exact ⟨cj_ne cw_c110, ck_dec_ok (N := 338) (fun i h => by unfold cw_d110; rw [cj_blt h]; rfl) cw_dk110⟩
theorem cw_es111 : cw_ss 111 = cw_s111 := rfl
theorem cw_ed111 : cw_dec 111 = cw_d111 := rfl
theorem cw_em111 : (cw_mt 111).2.1 = cX5_advicePart := rfl
theorem cw_e111 : cw_P 111 := by
  unfold cw_P
  rw [cw_es111, cw_ed111, cw_em111]
  exact ⟨cj_ne cw_c111, ck_dec_ok (N := 289) (fun i h => by unfold cw_d111; rw [cj_blt h]; rfl) cw_dk111⟩
theorem cw_es112 : cw_ss 112 = cw_s112 := rfl
theorem cw_ed112 : cw_dec 112 = cw_d112 := rfl
theorem cw_em112 : (cw_mt 112).2.1 = cX5_argument := rfl
theorem cw_e112 : cw_P 112 := by
  unfold cw_P
  rw [cw_es112, cw_ed112, cw_em112]
  exact ⟨cj_ne cw_c112, ck_dec_ok (N := 27) (fun i h => by unfold cw_d112; rw [cj_blt h]; rfl) cw_dk112⟩
theorem cw_es113 : cw_ss 113 = cw_s113 := rfl
theorem cw_ed113 : cw_dec 113 = cw_d113 := rfl
theorem cw_em113 : (cw_mt 113).2.1 = cX5_arguments := rfl
theorem cw_e113 : cw_P 113 := by
  unfold cw_P
  rw [cw_es113, cw_ed113, cw_em113]
  exact ⟨cj_ne cw_c113, ck_dec_ok (N := 74) (fun i h => by unfold cw_d113; rw [cj_blt h]; rfl) cw_dk113⟩
theorem cw_es114 : cw_ss 114 = cw_s114 := rfl
theorem cw_ed114 : cw_dec 114 = cw_d114 := rfl
theorem cw_em114 : (cw_mt 114).2.1 = cX5_aspectHead := rfl
theorem cw_e114 : cw_P 114 := by
  unfold cw_P
  rw [cw_es114, cw_ed114, cw_em114]
  exact ⟨cj_ne cw_c114, ck_dec_ok (N := 152) (fun i h => by unfold cw_d114; rw [cj_blt h]; rfl) cw_dk114⟩
theorem cw_es115 : cw_ss 115 = cw_s115 := rfl
theorem cw_ed115 : cw_dec 115 = cw_d115 := rfl
theorem cw_em115 : (cw_mt 115).2.1 = cX5_barPart := rfl
theorem cw_e115 : cw_P 115 := by
  unfold cw_P
  rw [cw_es115, cw_ed115, cw_em115]
  exact ⟨cj_ne cw_c115, ck_dec_ok (N := 125) (fun i h => by unfold cw_d115; rw [cj_blt h]; rfl) cw_dk115⟩
theorem cw_es116 : cw_ss 116 = cw_s116 := rfl
theorem cw_ed116 : cw_dec 116 = cw_d116 := rfl
theorem cw_em116 : (cw_mt 116).2.1 = cX5_beginsOperand := rfl
theorem cw_e116 : cw_P 116 := by
  unfold cw_P
  rw [cw_es116, cw_ed116, cw_em116]
  exact ⟨cj_ne cw_c116, ck_dec_ok (N := 92) (fun i h => by unfold cw_d116; rw [cj_blt h]; rfl) cw_dk116⟩
theorem cw_es117 : cw_ss 117 = cw_s117 := rfl
theorem cw_ed117 : cw_dec 117 = cw_d117 := rfl
theorem cw_em117 : (cw_mt 117).2.1 = cX5_beginsStatement := rfl
theorem cw_e117 : cw_P 117 := by
  unfold cw_P
  rw [cw_es117, cw_ed117, cw_em117]
  exact ⟨cj_ne cw_c117, ck_dec_ok (N := 76) (fun i h => by unfold cw_d117; rw [cj_blt h]; rfl) cw_dk117⟩
theorem cw_es118 : cw_ss 118 = cw_s118 := rfl
theorem cw_ed118 : cw_dec 118 = cw_d118 := rfl
theorem cw_em118 : (cw_mt 118).2.1 = cX5_block := rfl
theorem cw_e118 : cw_P 118 := by
  unfold cw_P
  rw [cw_es118, cw_ed118, cw_em118]
  exact ⟨cj_ne cw_c118, ck_dec_ok (N := 56) (fun i h => by unfold cw_d118; rw [cj_blt h]; rfl) cw_dk118⟩
theorem cw_es119 : cw_ss 119 = cw_s119 := rfl
theorem cw_ed119 : cw_dec 119 = cw_d119 := rfl
theorem cw_em119 : (cw_mt 119).2.1 = cX5_both := rfl
theorem cw_e119 : cw_P 119 := by
  unfold cw_P
  rw [cw_es119, cw_ed119, cw_em119]
  exact ⟨cj_ne cw_c119, ck_dec_ok (N := 96) (fun i h => by unfold cw_d119; rw [cj_blt h]; rfl) cw_dk119⟩
theorem cw_es120 : cw_ss 120 = cw_s120 := rfl
theorem cw_ed120 : cw_dec 120 = cw_d120 := rfl
theorem cw_em120 : (cw_mt 120).2.1 = cX5_classField := rfl
theorem cw_e120 : cw_P 120 := by
  unfold cw_P
  rw [cw_es120, cw_ed120, cw_em120]
  exact ⟨cj_ne cw_c120, ck_dec_ok (N := 130) (fun i h => by unfold cw_d120; rw [cj_blt h]; rfl) cw_dk120⟩
theorem cw_es121 : cw_ss 121 = cw_s121 := rfl
theorem cw_ed121 : cw_dec 121 = cw_d121 := rfl
theorem cw_em121 : (cw_mt 121).2.1 = cX5_classHead := rfl
theorem cw_e121 : cw_P 121 := by
  unfold cw_P
  rw [cw_es121, cw_ed121, cw_em121]
  exact ⟨cj_ne cw_c121, ck_dec_ok (N := 144) (fun i h => by unfold cw_d121; rw [cj_blt h]; rfl) cw_dk121⟩
theorem cw_es122 : cw_ss 122 = cw_s122 := rfl
theorem cw_ed122 : cw_dec 122 = cw_d122 := rfl
theorem cw_em122 : (cw_mt 122).2.1 = cX5_className := rfl
theorem cw_e122 : cw_P 122 := by
  unfold cw_P
  rw [cw_es122, cw_ed122, cw_em122]
  exact ⟨cj_ne cw_c122, ck_dec_ok (N := 38) (fun i h => by unfold cw_d122; rw [cj_blt h]; rfl) cw_dk122⟩
theorem cw_es123 : cw_ss 123 = cw_s123 := rfl
theorem cw_ed123 : cw_dec 123 = cw_d123 := rfl
theorem cw_em123 : (cw_mt 123).2.1 = cX5_climb := rfl
theorem cw_e123 : cw_P 123 := by
  unfold cw_P
  rw [cw_es123, cw_ed123, cw_em123]
  exact ⟨cj_ne cw_c123, ck_dec_ok (N := 126) (fun i h => by unfold cw_d123; rw [cj_blt h]; rfl) cw_dk123⟩
theorem cw_es124 : cw_ss 124 = cw_s124 := rfl
theorem cw_ed124 : cw_dec 124 = cw_d124 := rfl
theorem cw_em124 : (cw_mt 124).2.1 = cX5_declare := rfl
theorem cw_e124 : cw_P 124 := by
  unfold cw_P
  rw [cw_es124, cw_ed124, cw_em124]
  exact ⟨cj_ne cw_c124, ck_dec_ok (N := 68) (fun i h => by unfold cw_d124; rw [cj_blt h]; rfl) cw_dk124⟩
theorem cw_es125 : cw_ss 125 = cw_s125 := rfl
theorem cw_ed125 : cw_dec 125 = cw_d125 := rfl
theorem cw_em125 : (cw_mt 125).2.1 = cX5_either := rfl
theorem cw_e125 : cw_P 125 := by
  unfold cw_P
  rw [cw_es125, cw_ed125, cw_em125]
  exact ⟨cj_ne cw_c125, ck_dec_ok (N := 96) (fun i h => by unfold cw_d125; rw [cj_blt h]; rfl) cw_dk125⟩
theorem cw_es126 : cw_ss 126 = cw_s126 := rfl
theorem cw_ed126 : cw_dec 126 = cw_d126 := rfl
theorem cw_em126 : (cw_mt 126).2.1 = cX5_emit := rfl
theorem cw_e126 : cw_P 126 := by
  unfold cw_P
  rw [cw_es126, cw_ed126, cw_em126]
  exact ⟨cj_ne cw_c126, ck_dec_ok (N := 39) (fun i h => by unfold cw_d126; rw [cj_blt h]; rfl) cw_dk126⟩
theorem cw_es127 : cw_ss 127 = cw_s127 := rfl
theorem cw_ed127 : cw_dec 127 = cw_d127 := rfl
theorem cw_em127 : (cw_mt 127).2.1 = cX5_emitKept := rfl
theorem cw_e127 : cw_P 127 := by
  unfold cw_P
  rw [cw_es127, cw_ed127, cw_em127]
  exact ⟨cj_ne cw_c127, ck_dec_ok (N := 70) (fun i h => by unfold cw_d127; rw [cj_blt h]; rfl) cw_dk127⟩
theorem cw_es128 : cw_ss 128 = cw_s128 := rfl
theorem cw_ed128 : cw_dec 128 = cw_d128 := rfl
theorem cw_em128 : (cw_mt 128).2.1 = cX5_endAct := rfl
theorem cw_e128 : cw_P 128 := by
  unfold cw_P
  rw [cw_es128, cw_ed128, cw_em128]
  exact ⟨cj_ne cw_c128, ck_dec_ok (N := 38) (fun i h => by unfold cw_d128; rw [cj_blt h]; rfl) cw_dk128⟩
theorem cw_es129 : cw_ss 129 = cw_s129 := rfl
theorem cw_ed129 : cw_dec 129 = cw_d129 := rfl
theorem cw_em129 : (cw_mt 129).2.1 = cX5_enter := rfl
theorem cw_e129 : cw_P 129 := by
  unfold cw_P
  rw [cw_es129, cw_ed129, cw_em129]
  exact ⟨cj_ne cw_c129, ck_dec_ok (N := 39) (fun i h => by unfold cw_d129; rw [cj_blt h]; rfl) cw_dk129⟩
theorem cw_es130 : cw_ss 130 = cw_s130 := rfl
theorem cw_ed130 : cw_dec 130 = cw_d130 := rfl
theorem cw_em130 : (cw_mt 130).2.1 = cX5_expression := rfl
theorem cw_e130 : cw_P 130 := by
  unfold cw_P
  rw [cw_es130, cw_ed130, cw_em130]
  exact ⟨cj_ne cw_c130, ck_dec_ok (N := 7) (fun i h => by unfold cw_d130; rw [cj_blt h]; rfl) cw_dk130⟩
theorem cw_es131 : cw_ss 131 = cw_s131 := rfl
theorem cw_ed131 : cw_dec 131 = cw_d131 := rfl
theorem cw_em131 : (cw_mt 131).2.1 = cX5_field := rfl
theorem cw_e131 : cw_P 131 := by
  unfold cw_P
  rw [cw_es131, cw_ed131, cw_em131]
  exact ⟨cj_ne cw_c131, ck_dec_ok (N := 42) (fun i h => by unfold cw_d131; rw [cj_blt h]; rfl) cw_dk131⟩
theorem cw_es132 : cw_ss 132 = cw_s132 := rfl
theorem cw_ed132 : cw_dec 132 = cw_d132 := rfl
theorem cw_em132 : (cw_mt 132).2.1 = cX5_fitsInside := rfl
theorem cw_e132 : cw_P 132 := by
  unfold cw_P
  rw [cw_es132, cw_ed132, cw_em132]
  exact ⟨cj_ne cw_c132, ck_dec_ok (N := 223) (fun i h => by unfold cw_d132; rw [cj_blt h]; rfl) cw_dk132⟩
theorem cw_es133 : cw_ss 133 = cw_s133 := rfl
theorem cw_ed133 : cw_dec 133 = cw_d133 := rfl
theorem cw_em133 : (cw_mt 133).2.1 = cX5_head := rfl
theorem cw_e133 : cw_P 133 := by
  unfold cw_P
  rw [cw_es133, cw_ed133, cw_em133]
  exact ⟨cj_ne cw_c133, ck_dec_ok (N := 225) (fun i h => by unfold cw_d133; rw [cj_blt h]; rfl) cw_dk133⟩
theorem cw_es134 : cw_ss 134 = cw_s134 := rfl
theorem cw_ed134 : cw_dec 134 = cw_d134 := rfl
theorem cw_em134 : (cw_mt 134).2.1 = cX5_headGo := rfl
theorem cw_e134 : cw_P 134 := by
  unfold cw_P
  rw [cw_es134, cw_ed134, cw_em134]
  exact ⟨cj_ne cw_c134, ck_dec_ok (N := 54) (fun i h => by unfold cw_d134; rw [cj_blt h]; rfl) cw_dk134⟩
theorem cw_es135 : cw_ss 135 = cw_s135 := rfl
theorem cw_ed135 : cw_dec 135 = cw_d135 := rfl
theorem cw_em135 : (cw_mt 135).2.1 = cX5_headNew := rfl
theorem cw_e135 : cw_P 135 := by
  unfold cw_P
  rw [cw_es135, cw_ed135, cw_em135]
  exact ⟨cj_ne cw_c135, ck_dec_ok (N := 58) (fun i h => by unfold cw_d135; rw [cj_blt h]; rfl) cw_dk135⟩
theorem cw_es136 : cw_ss 136 = cw_s136 := rfl
theorem cw_ed136 : cw_dec 136 = cw_d136 := rfl
theorem cw_em136 : (cw_mt 136).2.1 = cX5_ifStatement := rfl
theorem cw_e136 : cw_P 136 := by
  unfold cw_P
  rw [cw_es136, cw_ed136, cw_em136]
  exact ⟨cj_ne cw_c136, ck_dec_ok (N := 90) (fun i h => by unfold cw_d136; rw [cj_blt h]; rfl) cw_dk136⟩
theorem cw_es137 : cw_ss 137 = cw_s137 := rfl
theorem cw_ed137 : cw_dec 137 = cw_d137 := rfl
theorem cw_em137 : (cw_mt 137).2.1 = cX5_inHead := rfl
theorem cw_e137 : cw_P 137 := by
  unfold cw_P
  rw [cw_es137, cw_ed137, cw_em137]
  exact ⟨cj_ne cw_c137, ck_dec_ok (N := 18) (fun i h => by unfold cw_d137; rw [cj_blt h]; rfl) cw_dk137⟩
theorem cw_es138 : cw_ss 138 = cw_s138 := rfl
theorem cw_ed138 : cw_dec 138 = cw_d138 := rfl
theorem cw_em138 : (cw_mt 138).2.1 = cX5_land := rfl
theorem cw_e138 : cw_P 138 := by
  unfold cw_P
  rw [cw_es138, cw_ed138, cw_em138]
  exact ⟨cj_ne cw_c138, ck_dec_ok (N := 23) (fun i h => by unfold cw_d138; rw [cj_blt h]; rfl) cw_dk138⟩
theorem cw_es139 : cw_ss 139 = cw_s139 := rfl
theorem cw_ed139 : cw_dec 139 = cw_d139 := rfl
theorem cw_em139 : (cw_mt 139).2.1 = cX5_listed := rfl
theorem cw_e139 : cw_P 139 := by
  unfold cw_P
  rw [cw_es139, cw_ed139, cw_em139]
  exact ⟨cj_ne cw_c139, ck_dec_ok (N := 211) (fun i h => by unfold cw_d139; rw [cj_blt h]; rfl) cw_dk139⟩
theorem cw_es140 : cw_ss 140 = cw_s140 := rfl
theorem cw_ed140 : cw_dec 140 = cw_d140 := rfl
theorem cw_em140 : (cw_mt 140).2.1 = cX5_mainItem := rfl
theorem cw_e140 : cw_P 140 := by
  unfold cw_P
  rw [cw_es140, cw_ed140, cw_em140]
  exact ⟨cj_ne cw_c140, ck_dec_ok (N := 67) (fun i h => by unfold cw_d140; rw [cj_blt h]; rfl) cw_dk140⟩
theorem cw_es141 : cw_ss 141 = cw_s141 := rfl
theorem cw_ed141 : cw_dec 141 = cw_d141 := rfl
theorem cw_em141 : (cw_mt 141).2.1 = cX5_method := rfl
theorem cw_e141 : cw_P 141 := by
  unfold cw_P
  rw [cw_es141, cw_ed141, cw_em141]
  exact ⟨cj_ne cw_c141, ck_dec_ok (N := 228) (fun i h => by unfold cw_d141; rw [cj_blt h]; rfl) cw_dk141⟩
theorem cw_es142 : cw_ss 142 = cw_s142 := rfl
theorem cw_ed142 : cw_dec 142 = cw_d142 := rfl
theorem cw_em142 : (cw_mt 142).2.1 = cX5_nameFor := rfl
theorem cw_e142 : cw_P 142 := by
  unfold cw_P
  rw [cw_es142, cw_ed142, cw_em142]
  exact ⟨cj_ne cw_c142, ck_dec_ok (N := 41) (fun i h => by unfold cw_d142; rw [cj_blt h]; rfl) cw_dk142⟩
theorem cw_es143 : cw_ss 143 = cw_s143 := rfl
theorem cw_ed143 : cw_dec 143 = cw_d143 := rfl
theorem cw_em143 : (cw_mt 143).2.1 = cX5_nameOp := rfl
theorem cw_e143 : cw_P 143 := by
  unfold cw_P
  rw [cw_es143, cw_ed143, cw_em143]
  exact ⟨cj_ne cw_c143, ck_dec_ok (N := 40) (fun i h => by unfold cw_d143; rw [cj_blt h]; rfl) cw_dk143⟩
theorem cw_es144 : cw_ss 144 = cw_s144 := rfl
theorem cw_ed144 : cw_dec 144 = cw_d144 := rfl
theorem cw_em144 : (cw_mt 144).2.1 = cX5_need := rfl
theorem cw_e144 : cw_P 144 := by
  unfold cw_P
  rw [cw_es144, cw_ed144, cw_em144]
  exact ⟨cj_ne cw_c144, ck_dec_ok (N := 21) (fun i h => by unfold cw_d144; rw [cj_blt h]; rfl) cw_dk144⟩
theorem cw_es145 : cw_ss 145 = cw_s145 := rfl
theorem cw_ed145 : cw_dec 145 = cw_d145 := rfl
theorem cw_em145 : (cw_mt 145).2.1 = cX5_newNode := rfl
theorem cw_e145 : cw_P 145 := by
  unfold cw_P
  rw [cw_es145, cw_ed145, cw_em145]
  exact ⟨cj_ne cw_c145, ck_dec_ok (N := 93) (fun i h => by unfold cw_d145; rw [cj_blt h]; rfl) cw_dk145⟩
theorem cw_es146 : cw_ss 146 = cw_s146 := rfl
theorem cw_ed146 : cw_dec 146 = cw_d146 := rfl
theorem cw_em146 : (cw_mt 146).2.1 = cX5_newPoint := rfl
theorem cw_e146 : cw_P 146 := by
  unfold cw_P
  rw [cw_es146, cw_ed146, cw_em146]
  exact ⟨cj_ne cw_c146, ck_dec_ok (N := 110) (fun i h => by unfold cw_d146; rw [cj_blt h]; rfl) cw_dk146⟩
theorem cw_es147 : cw_ss 147 = cw_s147 := rfl
theorem cw_ed147 : cw_dec 147 = cw_d147 := rfl
theorem cw_em147 : (cw_mt 147).2.1 = cX5_ofList := rfl
theorem cw_e147 : cw_P 147 := by
  unfold cw_P
  rw [cw_es147, cw_ed147, cw_em147]
  exact ⟨cj_ne cw_c147, ck_dec_ok (N := 174) (fun i h => by unfold cw_d147; rw [cj_blt h]; rfl) cw_dk147⟩
theorem cw_es148 : cw_ss 148 = cw_s148 := rfl
theorem cw_ed148 : cw_dec 148 = cw_d148 := rfl
theorem cw_em148 : (cw_mt 148).2.1 = cX5_ofObject := rfl
theorem cw_e148 : cw_P 148 := by
  unfold cw_P
  rw [cw_es148, cw_ed148, cw_em148]
  exact ⟨cj_ne cw_c148, ck_dec_ok (N := 94) (fun i h => by unfold cw_d148; rw [cj_blt h]; rfl) cw_dk148⟩
theorem cw_es149 : cw_ss 149 = cw_s149 := rfl
theorem cw_ed149 : cw_dec 149 = cw_d149 := rfl
theorem cw_em149 : (cw_mt 149).2.1 = cX5_ofPattern := rfl
theorem cw_e149 : cw_P 149 := by
  unfold cw_P
  rw [cw_es149, cw_ed149, cw_em149]
  exact ⟨cj_ne cw_c149, ck_dec_ok (N := 144) (fun i h => by unfold cw_d149; rw [cj_blt h]; rfl) cw_dk149⟩
theorem cw_es150 : cw_ss 150 = cw_s150 := rfl
theorem cw_ed150 : cw_dec 150 = cw_d150 := rfl
theorem cw_em150 : (cw_mt 150).2.1 = cX5_one := rfl
theorem cw_e150 : cw_P 150 := by
  unfold cw_P
  rw [cw_es150, cw_ed150, cw_em150]
  exact ⟨cj_ne cw_c150, ck_dec_ok (N := 301) (fun i h => by unfold cw_d150; rw [cj_blt h]; rfl) cw_dk150⟩
theorem cw_es151 : cw_ss 151 = cw_s151 := rfl
theorem cw_ed151 : cw_dec 151 = cw_d151 := rfl
theorem cw_em151 : (cw_mt 151).2.1 = cX5_operand := rfl
theorem cw_e151 : cw_P 151 := by
  unfold cw_P
  rw [cw_es151, cw_ed151, cw_em151]
  exact ⟨cj_ne cw_c151, ck_dec_ok (N := 151) (fun i h => by unfold cw_d151; rw [cj_blt h]; rfl) cw_dk151⟩
theorem cw_es152 : cw_ss 152 = cw_s152 := rfl
theorem cw_ed152 : cw_dec 152 = cw_d152 := rfl
theorem cw_em152 : (cw_mt 152).2.1 = cX5_orderItem := rfl
theorem cw_e152 : cw_P 152 := by
  unfold cw_P
  rw [cw_es152, cw_ed152, cw_em152]
  exact ⟨cj_ne cw_c152, ck_dec_ok (N := 47) (fun i h => by unfold cw_d152; rw [cj_blt h]; rfl) cw_dk152⟩
theorem cw_es153 : cw_ss 153 = cw_s153 := rfl
theorem cw_ed153 : cw_dec 153 = cw_d153 := rfl
theorem cw_em153 : (cw_mt 153).2.1 = cX5_orderName := rfl
theorem cw_e153 : cw_P 153 := by
  unfold cw_P
  rw [cw_es153, cw_ed153, cw_em153]
  exact ⟨cj_ne cw_c153, ck_dec_ok (N := 45) (fun i h => by unfold cw_d153; rw [cj_blt h]; rfl) cw_dk153⟩
theorem cw_es154 : cw_ss 154 = cw_s154 := rfl
theorem cw_ed154 : cw_dec 154 = cw_d154 := rfl
theorem cw_em154 : (cw_mt 154).2.1 = cX5_ownField := rfl
theorem cw_e154 : cw_P 154 := by
  unfold cw_P
  rw [cw_es154, cw_ed154, cw_em154]
  exact ⟨cj_ne cw_c154, ck_dec_ok (N := 131) (fun i h => by unfold cw_d154; rw [cj_blt h]; rfl) cw_dk154⟩
theorem cw_es155 : cw_ss 155 = cw_s155 := rfl
theorem cw_ed155 : cw_dec 155 = cw_d155 := rfl
theorem cw_em155 : (cw_mt 155).2.1 = cX5_parameter := rfl
theorem cw_e155 : cw_P 155 := by
  unfold cw_P
  rw [cw_es155, cw_ed155, cw_em155]
  exact ⟨cj_ne cw_c155, ck_dec_ok (N := 32) (fun i h => by unfold cw_d155; rw [cj_blt h]; rfl) cw_dk155⟩
theorem cw_es156 : cw_ss 156 = cw_s156 := rfl
theorem cw_ed156 : cw_dec 156 = cw_d156 := rfl
theorem cw_em156 : (cw_mt 156).2.1 = cX5_parameters := rfl
theorem cw_e156 : cw_P 156 := by
  unfold cw_P
  rw [cw_es156, cw_ed156, cw_em156]
  exact ⟨cj_ne cw_c156, ck_dec_ok (N := 57) (fun i h => by unfold cw_d156; rw [cj_blt h]; rfl) cw_dk156⟩
theorem cw_es157 : cw_ss 157 = cw_s157 := rfl
theorem cw_ed157 : cw_dec 157 = cw_d157 := rfl
theorem cw_em157 : (cw_mt 157).2.1 = cX5_pickPart := rfl
theorem cw_e157 : cw_P 157 := by
  unfold cw_P
  rw [cw_es157, cw_ed157, cw_em157]
  exact ⟨cj_ne cw_c157, ck_dec_ok (N := 186) (fun i h => by unfold cw_d157; rw [cj_blt h]; rfl) cw_dk157⟩
theorem cw_es158 : cw_ss 158 = cw_s158 := rfl
theorem cw_ed158 : cw_dec 158 = cw_d158 := rfl
theorem cw_em158 : (cw_mt 158).2.1 = cX5_read := rfl
theorem cw_e158 : cw_P 158 := by
  unfold cw_P
  rw [cw_es158, cw_ed158, cw_em158]
  exact ⟨cj_ne cw_c158, ck_dec_ok (N := 439) (fun i h => by unfold cw_d158; rw [cj_blt h]; rfl) cw_dk158⟩
theorem cw_es159 : cw_ss 159 = cw_s159 := rfl
theorem cw_ed159 : cw_dec 159 = cw_d159 := rfl
theorem cw_em159 : (cw_mt 159).2.1 = cX5_readyForOperand := rfl
theorem cw_e159 : cw_P 159 := by
  unfold cw_P
  rw [cw_es159, cw_ed159, cw_em159]
  exact ⟨cj_ne cw_c159, ck_dec_ok (N := 39) (fun i h => by unfold cw_d159; rw [cj_blt h]; rfl) cw_dk159⟩
theorem cw_es160 : cw_ss 160 = cw_s160 := rfl
theorem cw_ed160 : cw_dec 160 = cw_d160 := rfl
theorem cw_em160 : (cw_mt 160).2.1 = cX5_readyForPick := rfl
theorem cw_e160 : cw_P 160 := by
  unfold cw_P
  rw [cw_es160, cw_ed160, cw_em160]
  exact ⟨cj_ne cw_c160, ck_dec_ok (N := 207) (fun i h => by unfold cw_d160; rw [cj_blt h]; rfl) cw_dk160⟩
theorem cw_es161 : cw_ss 161 = cw_s161 := rfl
theorem cw_ed161 : cw_dec 161 = cw_d161 := rfl
theorem cw_em161 : (cw_mt 161).2.1 = cX5_refuse := rfl
theorem cw_e161 : cw_P 161 := by
  unfold cw_P
  rw [cw_es161, cw_ed161, cw_em161]
  exact ⟨cj_ne cw_c161, ck_dec_ok (N := 49) (fun i h => by unfold cw_d161; rw [cj_blt h]; rfl) cw_dk161⟩
theorem cw_es162 : cw_ss 162 = cw_s162 := rfl
theorem cw_ed162 : cw_dec 162 = cw_d162 := rfl
theorem cw_em162 : (cw_mt 162).2.1 = cX5_slotBits := rfl
theorem cw_e162 : cw_P 162 := by
  unfold cw_P
  rw [cw_es162, cw_ed162, cw_em162]
  exact ⟨cj_ne cw_c162, ck_dec_ok (N := 37) (fun i h => by unfold cw_d162; rw [cj_blt h]; rfl) cw_dk162⟩
theorem cw_es163 : cw_ss 163 = cw_s163 := rfl
theorem cw_ed163 : cw_dec 163 = cw_d163 := rfl
theorem cw_em163 : (cw_mt 163).2.1 = cX5_slotOf := rfl
theorem cw_e163 : cw_P 163 := by
  unfold cw_P
  rw [cw_es163, cw_ed163, cw_em163]
  exact ⟨cj_ne cw_c163, ck_dec_ok (N := 44) (fun i h => by unfold cw_d163; rw [cj_blt h]; rfl) cw_dk163⟩
theorem cw_es164 : cw_ss 164 = cw_s164 := rfl
theorem cw_ed164 : cw_dec 164 = cw_d164 := rfl
theorem cw_em164 : (cw_mt 164).2.1 = cX5_statement := rfl
theorem cw_e164 : cw_P 164 := by
  unfold cw_P
  rw [cw_es164, cw_ed164, cw_em164]
  exact ⟨cj_ne cw_c164, ck_dec_ok (N := 454) (fun i h => by unfold cw_d164; rw [cj_blt h]; rfl) cw_dk164⟩
theorem cw_es165 : cw_ss 165 = cw_s165 := rfl
theorem cw_ed165 : cw_dec 165 = cw_d165 := rfl
theorem cw_em165 : (cw_mt 165).2.1 = cX5_strength := rfl
theorem cw_e165 : cw_P 165 := by
  unfold cw_P
  rw [cw_es165, cw_ed165, cw_em165]
  exact ⟨cj_ne cw_c165, ck_dec_ok (N := 248) (fun i h => by unfold cw_d165; rw [cj_blt h]; rfl) cw_dk165⟩
theorem cw_es166 : cw_ss 166 = cw_s166 := rfl
theorem cw_ed166 : cw_dec 166 = cw_d166 := rfl
theorem cw_em166 : (cw_mt 166).2.1 = cX5_take := rfl
theorem cw_e166 : cw_P 166 := by
  unfold cw_P
  rw [cw_es166, cw_ed166, cw_em166]
  exact ⟨cj_ne cw_c166, ck_dec_ok (N := 166) (fun i h => by unfold cw_d166; rw [cj_blt h]; rfl) cw_dk166⟩
theorem cw_es167 : cw_ss 167 = cw_s167 := rfl
theorem cw_ed167 : cw_dec 167 = cw_d167 := rfl
theorem cw_em167 : (cw_mt 167).2.1 = cX5_tryStatement := rfl
theorem cw_e167 : cw_P 167 := by
  unfold cw_P
  rw [cw_es167, cw_ed167, cw_em167]
  exact ⟨cj_ne cw_c167, ck_dec_ok (N := 199) (fun i h => by unfold cw_d167; rw [cj_blt h]; rfl) cw_dk167⟩
theorem cw_es168 : cw_ss 168 = cw_s168 := rfl
theorem cw_ed168 : cw_dec 168 = cw_d168 := rfl
theorem cw_em168 : (cw_mt 168).2.1 = cX5_unary := rfl
theorem cw_e168 : cw_P 168 := by
  unfold cw_P
  rw [cw_es168, cw_ed168, cw_em168]
  exact ⟨cj_ne cw_c168, ck_dec_ok (N := 76) (fun i h => by unfold cw_d168; rw [cj_blt h]; rfl) cw_dk168⟩
theorem cw_es169 : cw_ss 169 = cw_s169 := rfl
theorem cw_ed169 : cw_dec 169 = cw_d169 := rfl
theorem cw_em169 : (cw_mt 169).2.1 = cX5_underPart := rfl
theorem cw_e169 : cw_P 169 := by
  unfold cw_P
  rw [cw_es169, cw_ed169, cw_em169]
  exact ⟨cj_ne cw_c169, ck_dec_ok (N := 70) (fun i h => by unfold cw_d169; rw [cj_blt h]; rfl) cw_dk169⟩
theorem cw_es170 : cw_ss 170 = cw_s170 := rfl
theorem cw_ed170 : cw_dec 170 = cw_d170 := rfl
theorem cw_em170 : (cw_mt 170).2.1 = cX5_useClass := rfl
theorem cw_e170 : cw_P 170 := by
  unfold cw_P
  rw [cw_es170, cw_ed170, cw_em170]
  exact ⟨cj_ne cw_c170, ck_dec_ok (N := 38) (fun i h => by unfold cw_d170; rw [cj_blt h]; rfl) cw_dk170⟩
theorem cw_es171 : cw_ss 171 = cw_s171 := rfl
theorem cw_ed171 : cw_dec 171 = cw_d171 := rfl
theorem cw_em171 : (cw_mt 171).2.1 = cX5_whileStatement := rfl
theorem cw_e171 : cw_P 171 := by
  unfold cw_P
  rw [cw_es171, cw_ed171, cw_em171]
  exact ⟨cj_ne cw_c171, ck_dec_ok (N := 40) (fun i h => by unfold cw_d171; rw [cj_blt h]; rfl) cw_dk171⟩
theorem cw_es172 : cw_ss 172 = cw_s172 := rfl
theorem cw_ed172 : cw_dec 172 = cw_d172 := rfl
theorem cw_em172 : (cw_mt 172).2.1 = cX6_aspectOf := rfl
theorem cw_e172 : cw_P 172 := by
  unfold cw_P
  rw [cw_es172, cw_ed172, cw_em172]
  exact ⟨cj_ne cw_c172, ck_dec_ok (N := 10) (fun i h => by unfold cw_d172; rw [cj_blt h]; rfl) cw_dk172⟩
theorem cw_es173 : cw_ss 173 = cw_s173 := rfl
theorem cw_ed173 : cw_dec 173 = cw_d173 := rfl
theorem cw_em173 : (cw_mt 173).2.1 = cX6_classOf := rfl
theorem cw_e173 : cw_P 173 := by
  unfold cw_P
  rw [cw_es173, cw_ed173, cw_em173]
  exact ⟨cj_ne cw_c173, ck_dec_ok (N := 10) (fun i h => by unfold cw_d173; rw [cj_blt h]; rfl) cw_dk173⟩
theorem cw_es174 : cw_ss 174 = cw_s174 := rfl
theorem cw_ed174 : cw_dec 174 = cw_d174 := rfl
theorem cw_em174 : (cw_mt 174).2.1 = cX6_clear := rfl
theorem cw_e174 : cw_P 174 := by
  unfold cw_P
  rw [cw_es174, cw_ed174, cw_em174]
  exact ⟨cj_ne cw_c174, ck_dec_ok (N := 142) (fun i h => by unfold cw_d174; rw [cj_blt h]; rfl) cw_dk174⟩
theorem cw_es175 : cw_ss 175 = cw_s175 := rfl
theorem cw_ed175 : cw_dec 175 = cw_d175 := rfl
theorem cw_em175 : (cw_mt 175).2.1 = cX6_fieldsOf := rfl
theorem cw_e175 : cw_P 175 := by
  unfold cw_P
  rw [cw_es175, cw_ed175, cw_em175]
  exact ⟨cj_ne cw_c175, ck_dec_ok (N := 22) (fun i h => by unfold cw_d175; rw [cj_blt h]; rfl) cw_dk175⟩
theorem cw_es176 : cw_ss 176 = cw_s176 := rfl
theorem cw_ed176 : cw_dec 176 = cw_d176 := rfl
theorem cw_em176 : (cw_mt 176).2.1 = cX6_firstWith := rfl
theorem cw_e176 : cw_P 176 := by
  unfold cw_P
  rw [cw_es176, cw_ed176, cw_em176]
  exact ⟨cj_ne cw_c176, ck_dec_ok (N := 30) (fun i h => by unfold cw_d176; rw [cj_blt h]; rfl) cw_dk176⟩
theorem cw_es177 : cw_ss 177 = cw_s177 := rfl
theorem cw_ed177 : cw_dec 177 = cw_d177 := rfl
theorem cw_em177 : (cw_mt 177).2.1 = cX6_homeOf := rfl
theorem cw_e177 : cw_P 177 := by
  unfold cw_P
  rw [cw_es177, cw_ed177, cw_em177]
  exact ⟨cj_ne cw_c177, ck_dec_ok (N := 45) (fun i h => by unfold cw_d177; rw [cj_blt h]; rfl) cw_dk177⟩
theorem cw_es178 : cw_ss 178 = cw_s178 := rfl
theorem cw_ed178 : cw_dec 178 = cw_d178 := rfl
theorem cw_em178 : (cw_mt 178).2.1 = cX6_isUnder := rfl
theorem cw_e178 : cw_P 178 := by
  unfold cw_P
  rw [cw_es178, cw_ed178, cw_em178]
  exact ⟨cj_ne cw_c178, ck_dec_ok (N := 31) (fun i h => by unfold cw_d178; rw [cj_blt h]; rfl) cw_dk178⟩
theorem cw_es179 : cw_ss 179 = cw_s179 := rfl
theorem cw_ed179 : cw_dec 179 = cw_d179 := rfl
theorem cw_em179 : (cw_mt 179).2.1 = cX6_nearest := rfl
theorem cw_e179 : cw_P 179 := by
  unfold cw_P
  rw [cw_es179, cw_ed179, cw_em179]
  exact ⟨cj_ne cw_c179, ck_dec_ok (N := 82) (fun i h => by unfold cw_d179; rw [cj_blt h]; rfl) cw_dk179⟩
theorem cw_es180 : cw_ss 180 = cw_s180 := rfl
theorem cw_ed180 : cw_dec 180 = cw_d180 := rfl
theorem cw_em180 : (cw_mt 180).2.1 = cX7_addRow := rfl
theorem cw_e180 : cw_P 180 := by
  unfold cw_P
  rw [cw_es180, cw_ed180, cw_em180]
  exact ⟨cj_ne cw_c180, ck_dec_ok (N := 52) (fun i h => by unfold cw_d180; rw [cj_blt h]; rfl) cw_dk180⟩
theorem cw_es181 : cw_ss 181 = cw_s181 := rfl
theorem cw_ed181 : cw_dec 181 = cw_d181 := rfl
theorem cw_em181 : (cw_mt 181).2.1 = cX7_clearOwn := rfl
theorem cw_e181 : cw_P 181 := by
  unfold cw_P
  rw [cw_es181, cw_ed181, cw_em181]
  exact ⟨cj_ne cw_c181, ck_dec_ok (N := 62) (fun i h => by unfold cw_d181; rw [cj_blt h]; rfl) cw_dk181⟩
theorem cw_es182 : cw_ss 182 = cw_s182 := rfl
theorem cw_ed182 : cw_dec 182 = cw_d182 := rfl
theorem cw_em182 : (cw_mt 182).2.1 = cX7_countTest := rfl
theorem cw_e182 : cw_P 182 := by
  unfold cw_P
  rw [cw_es182, cw_ed182, cw_em182]
  exact ⟨cj_ne cw_c182, ck_dec_ok (N := 24) (fun i h => by unfold cw_d182; rw [cj_blt h]; rfl) cw_dk182⟩
theorem cw_es183 : cw_ss 183 = cw_s183 := rfl
theorem cw_ed183 : cw_dec 183 = cw_d183 := rfl
theorem cw_em183 : (cw_mt 183).2.1 = cX7_cut := rfl
theorem cw_e183 : cw_P 183 := by
  unfold cw_P
  rw [cw_es183, cw_ed183, cw_em183]
  exact ⟨cj_ne cw_c183, ck_dec_ok (N := 6) (fun i h => by unfold cw_d183; rw [cj_blt h]; rfl) cw_dk183⟩
theorem cw_es184 : cw_ss 184 = cw_s184 := rfl
theorem cw_ed184 : cw_dec 184 = cw_d184 := rfl
theorem cw_em184 : (cw_mt 184).2.1 = cX7_field := rfl
theorem cw_e184 : cw_P 184 := by
  unfold cw_P
  rw [cw_es184, cw_ed184, cw_em184]
  exact ⟨cj_ne cw_c184, ck_dec_ok (N := 16) (fun i h => by unfold cw_d184; rw [cj_blt h]; rfl) cw_dk184⟩
theorem cw_es185 : cw_ss 185 = cw_s185 := rfl
theorem cw_ed185 : cw_dec 185 = cw_d185 := rfl
theorem cw_em185 : (cw_mt 185).2.1 = cX7_isOf := rfl
theorem cw_e185 : cw_P 185 := by
  unfold cw_P
  rw [cw_es185, cw_ed185, cw_em185]
  exact ⟨cj_ne cw_c185, ck_dec_ok (N := 52) (fun i h => by unfold cw_d185; rw [cj_blt h]; rfl) cw_dk185⟩
theorem cw_es186 : cw_ss 186 = cw_s186 := rfl
theorem cw_ed186 : cw_dec 186 = cw_d186 := rfl
theorem cw_em186 : (cw_mt 186).2.1 = cX7_make := rfl
theorem cw_e186 : cw_P 186 := by
  unfold cw_P
  rw [cw_es186, cw_ed186, cw_em186]
  exact ⟨cj_ne cw_c186, ck_dec_ok (N := 63) (fun i h => by unfold cw_d186; rw [cj_blt h]; rfl) cw_dk186⟩
theorem cw_es187 : cw_ss 187 = cw_s187 := rfl
theorem cw_ed187 : cw_dec 187 = cw_d187 := rfl
theorem cw_em187 : (cw_mt 187).2.1 = cX7_objects := rfl
theorem cw_e187 : cw_P 187 := by
  unfold cw_P
  rw [cw_es187, cw_ed187, cw_em187]
  exact ⟨cj_ne cw_c187, ck_dec_ok (N := 8) (fun i h => by unfold cw_d187; rw [cj_blt h]; rfl) cw_dk187⟩
theorem cw_es188 : cw_ss 188 = cw_s188 := rfl
theorem cw_ed188 : cw_dec 188 = cw_d188 := rfl
theorem cw_em188 : (cw_mt 188).2.1 = cX7_operate := rfl
theorem cw_e188 : cw_P 188 := by
  unfold cw_P
  rw [cw_es188, cw_ed188, cw_em188]
  exact ⟨cj_ne cw_c188, ck_dec_ok (N := 149) (fun i h => by unfold cw_d188; rw [cj_blt h]; rfl) cw_dk188⟩
theorem cw_es189 : cw_ss 189 = cw_s189 := rfl
theorem cw_ed189 : cw_dec 189 = cw_d189 := rfl
theorem cw_em189 : (cw_mt 189).2.1 = cX7_operateTwo := rfl
theorem cw_e189 : cw_P 189 := by
  unfold cw_P
  rw [cw_es189, cw_ed189, cw_em189]
  exact ⟨cj_ne cw_c189, ck_dec_ok (N := 262) (fun i h => by unfold cw_d189; rw [cj_blt h]; rfl) cw_dk189⟩
theorem cw_es190 : cw_ss 190 = cw_s190 := rfl
theorem cw_ed190 : cw_dec 190 = cw_d190 := rfl
theorem cw_em190 : (cw_mt 190).2.1 = cX7_own := rfl
theorem cw_e190 : cw_P 190 := by
  unfold cw_P
  rw [cw_es190, cw_ed190, cw_em190]
  exact ⟨cj_ne cw_c190, ck_dec_ok (N := 20) (fun i h => by unfold cw_d190; rw [cj_blt h]; rfl) cw_dk190⟩
theorem cw_es191 : cw_ss 191 = cw_s191 := rfl
theorem cw_ed191 : cw_dec 191 = cw_d191 := rfl
theorem cw_em191 : (cw_mt 191).2.1 = cX7_pop := rfl
theorem cw_e191 : cw_P 191 := by
  unfold cw_P
  rw [cw_es191, cw_ed191, cw_em191]
  exact ⟨cj_ne cw_c191, ck_dec_ok (N := 41) (fun i h => by unfold cw_d191; rw [cj_blt h]; rfl) cw_dk191⟩
theorem cw_es192 : cw_ss 192 = cw_s192 := rfl
theorem cw_ed192 : cw_dec 192 = cw_d192 := rfl
theorem cw_em192 : (cw_mt 192).2.1 = cX7_print := rfl
theorem cw_e192 : cw_P 192 := by
  unfold cw_P
  rw [cw_es192, cw_ed192, cw_em192]
  exact ⟨cj_ne cw_c192, ck_dec_ok (N := 36) (fun i h => by unfold cw_d192; rw [cj_blt h]; rfl) cw_dk192⟩
theorem cw_es193 : cw_ss 193 = cw_s193 := rfl
theorem cw_ed193 : cw_dec 193 = cw_d193 := rfl
theorem cw_em193 : (cw_mt 193).2.1 = cX7_printed := rfl
theorem cw_e193 : cw_P 193 := by
  unfold cw_P
  rw [cw_es193, cw_ed193, cw_em193]
  exact ⟨cj_ne cw_c193, ck_dec_ok (N := 5) (fun i h => by unfold cw_d193; rw [cj_blt h]; rfl) cw_dk193⟩
theorem cw_es194 : cw_ss 194 = cw_s194 := rfl
theorem cw_ed194 : cw_dec 194 = cw_d194 := rfl
theorem cw_em194 : (cw_mt 194).2.1 = cX7_printedAt := rfl
theorem cw_e194 : cw_P 194 := by
  unfold cw_P
  rw [cw_es194, cw_ed194, cw_em194]
  exact ⟨cj_ne cw_c194, ck_dec_ok (N := 9) (fun i h => by unfold cw_d194; rw [cj_blt h]; rfl) cw_dk194⟩
theorem cw_es195 : cw_ss 195 = cw_s195 := rfl
theorem cw_ed195 : cw_dec 195 = cw_d195 := rfl
theorem cw_em195 : (cw_mt 195).2.1 = cX7_push := rfl
theorem cw_e195 : cw_P 195 := by
  unfold cw_P
  rw [cw_es195, cw_ed195, cw_em195]
  exact ⟨cj_ne cw_c195, ck_dec_ok (N := 40) (fun i h => by unfold cw_d195; rw [cj_blt h]; rfl) cw_dk195⟩
theorem cw_es196 : cw_ss 196 = cw_s196 := rfl
theorem cw_ed196 : cw_dec 196 = cw_d196 := rfl
theorem cw_em196 : (cw_mt 196).2.1 = cX7_putField := rfl
theorem cw_e196 : cw_P 196 := by
  unfold cw_P
  rw [cw_es196, cw_ed196, cw_em196]
  exact ⟨cj_ne cw_c196, ck_dec_ok (N := 17) (fun i h => by unfold cw_d196; rw [cj_blt h]; rfl) cw_dk196⟩
theorem cw_es197 : cw_ss 197 = cw_s197 := rfl
theorem cw_ed197 : cw_dec 197 = cw_d197 := rfl
theorem cw_em197 : (cw_mt 197).2.1 = cX7_putOwn := rfl
theorem cw_e197 : cw_P 197 := by
  unfold cw_P
  rw [cw_es197, cw_ed197, cw_em197]
  exact ⟨cj_ne cw_c197, ck_dec_ok (N := 22) (fun i h => by unfold cw_d197; rw [cj_blt h]; rfl) cw_dk197⟩
theorem cw_es198 : cw_ss 198 = cw_s198 := rfl
theorem cw_ed198 : cw_dec 198 = cw_d198 := rfl
theorem cw_em198 : (cw_mt 198).2.1 = cX7_rowAt := rfl
theorem cw_e198 : cw_P 198 := by
  unfold cw_P
  rw [cw_es198, cw_ed198, cw_em198]
  exact ⟨cj_ne cw_c198, ck_dec_ok (N := 10) (fun i h => by unfold cw_d198; rw [cj_blt h]; rfl) cw_dk198⟩
theorem cw_es199 : cw_ss 199 = cw_s199 := rfl
theorem cw_ed199 : cw_dec 199 = cw_d199 := rfl
theorem cw_em199 : (cw_mt 199).2.1 = cX7_rowsMade := rfl
theorem cw_e199 : cw_P 199 := by
  unfold cw_P
  rw [cw_es199, cw_ed199, cw_em199]
  exact ⟨cj_ne cw_c199, ck_dec_ok (N := 5) (fun i h => by unfold cw_d199; rw [cj_blt h]; rfl) cw_dk199⟩
theorem cw_es200 : cw_ss 200 = cw_s200 := rfl
theorem cw_ed200 : cw_dec 200 = cw_d200 := rfl
theorem cw_em200 : (cw_mt 200).2.1 = cX7_settles := rfl
theorem cw_e200 : cw_P 200 := by
  unfold cw_P
  rw [cw_es200, cw_ed200, cw_em200]
  exact ⟨cj_ne cw_c200, ck_dec_ok (N := 52) (fun i h => by unfold cw_d200; rw [cj_blt h]; rfl) cw_dk200⟩
theorem cw_es201 : cw_ss 201 = cw_s201 := rfl
theorem cw_ed201 : cw_dec 201 = cw_d201 := rfl
theorem cw_em201 : (cw_mt 201).2.1 = cX7_start := rfl
theorem cw_e201 : cw_P 201 := by
  unfold cw_P
  rw [cw_es201, cw_ed201, cw_em201]
  exact ⟨cj_ne cw_c201, ck_dec_ok (N := 42) (fun i h => by unfold cw_d201; rw [cj_blt h]; rfl) cw_dk201⟩
theorem cw_es202 : cw_ss 202 = cw_s202 := rfl
theorem cw_ed202 : cw_dec 202 = cw_d202 := rfl
theorem cw_em202 : (cw_mt 202).2.1 = cX7_tests := rfl
theorem cw_e202 : cw_P 202 := by
  unfold cw_P
  rw [cw_es202, cw_ed202, cw_em202]
  exact ⟨cj_ne cw_c202, ck_dec_ok (N := 5) (fun i h => by unfold cw_d202; rw [cj_blt h]; rfl) cw_dk202⟩
theorem cw_es203 : cw_ss 203 = cw_s203 := rfl
theorem cw_ed203 : cw_dec 203 = cw_d203 := rfl
theorem cw_em203 : (cw_mt 203).2.1 = cX7_top := rfl
theorem cw_e203 : cw_P 203 := by
  unfold cw_P
  rw [cw_es203, cw_ed203, cw_em203]
  exact ⟨cj_ne cw_c203, ck_dec_ok (N := 5) (fun i h => by unfold cw_d203; rw [cj_blt h]; rfl) cw_dk203⟩
theorem cw_es204 : cw_ss 204 = cw_s204 := rfl
theorem cw_ed204 : cw_dec 204 = cw_d204 := rfl
theorem cw_em204 : (cw_mt 204).2.1 = cX7_typeOf := rfl
theorem cw_e204 : cw_P 204 := by
  unfold cw_P
  rw [cw_es204, cw_ed204, cw_em204]
  exact ⟨cj_ne cw_c204, ck_dec_ok (N := 12) (fun i h => by unfold cw_d204; rw [cj_blt h]; rfl) cw_dk204⟩
theorem cw_es205 : cw_ss 205 = cw_s205 := rfl
theorem cw_ed205 : cw_dec 205 = cw_d205 := rfl
theorem cw_em205 : (cw_mt 205).2.1 = cX8_add := rfl
theorem cw_e205 : cw_P 205 := by
  unfold cw_P
  rw [cw_es205, cw_ed205, cw_em205]
  exact ⟨cj_ne cw_c205, fun pc e q => by cases q⟩
theorem cw_es206 : cw_ss 206 = cw_s206 := rfl
theorem cw_ed206 : cw_dec 206 = cw_d206 := rfl
theorem cw_em206 : (cw_mt 206).2.1 = cX8_at := rfl
theorem cw_e206 : cw_P 206 := by
  unfold cw_P
  rw [cw_es206, cw_ed206, cw_em206]
  exact ⟨cj_ne cw_c206, ck_dec_ok (N := 59) (fun i h => by unfold cw_d206; rw [cj_blt h]; rfl) cw_dk206⟩
theorem cw_es207 : cw_ss 207 = cw_s207 := rfl
theorem cw_ed207 : cw_dec 207 = cw_d207 := rfl
theorem cw_em207 : (cw_mt 207).2.1 = cX8_cut := rfl
theorem cw_e207 : cw_P 207 := by
  unfold cw_P
  rw [cw_es207, cw_ed207, cw_em207]
  exact ⟨cj_ne cw_c207, ck_dec_ok (N := 18) (fun i h => by unfold cw_d207; rw [cj_blt h]; rfl) cw_dk207⟩
theorem cw_es208 : cw_ss 208 = cw_s208 := rfl
theorem cw_ed208 : cw_dec 208 = cw_d208 := rfl
theorem cw_em208 : (cw_mt 208).2.1 = cX8_put := rfl
theorem cw_e208 : cw_P 208 := by
  unfold cw_P
  rw [cw_es208, cw_ed208, cw_em208]
  exact ⟨cj_ne cw_c208, ck_dec_ok (N := 59) (fun i h => by unfold cw_d208; rw [cj_blt h]; rfl) cw_dk208⟩
theorem cw_es209 : cw_ss 209 = cw_s209 := rfl
theorem cw_ed209 : cw_dec 209 = cw_d209 := rfl
theorem cw_em209 : (cw_mt 209).2.1 = cX8_size := rfl
theorem cw_e209 : cw_P 209 := by
  unfold cw_P
  rw [cw_es209, cw_ed209, cw_em209]
  exact ⟨cj_ne cw_c209, ck_dec_ok (N := 5) (fun i h => by unfold cw_d209; rw [cj_blt h]; rfl) cw_dk209⟩
theorem cw_es210 : cw_ss 210 = cw_s210 := rfl
theorem cw_ed210 : cw_dec 210 = cw_d210 := rfl
theorem cw_em210 : (cw_mt 210).2.1 = cX9_addName := rfl
theorem cw_e210 : cw_P 210 := by
  unfold cw_P
  rw [cw_es210, cw_ed210, cw_em210]
  exact ⟨cj_ne cw_c210, ck_dec_ok (N := 30) (fun i h => by unfold cw_d210; rw [cj_blt h]; rfl) cw_dk210⟩
theorem cw_es211 : cw_ss 211 = cw_s211 := rfl
theorem cw_ed211 : cw_dec 211 = cw_d211 := rfl
theorem cw_em211 : (cw_mt 211).2.1 = cX9_addToken := rfl
theorem cw_e211 : cw_P 211 := by
  unfold cw_P
  rw [cw_es211, cw_ed211, cw_em211]
  exact ⟨cj_ne cw_c211, ck_dec_ok (N := 77) (fun i h => by unfold cw_d211; rw [cj_blt h]; rfl) cw_dk211⟩
theorem cw_es212 : cw_ss 212 = cw_s212 := rfl
theorem cw_ed212 : cw_dec 212 = cw_d212 := rfl
theorem cw_em212 : (cw_mt 212).2.1 = cX9_behindBlanks := rfl
theorem cw_e212 : cw_P 212 := by
  unfold cw_P
  rw [cw_es212, cw_ed212, cw_em212]
  exact ⟨cj_ne cw_c212, ck_dec_ok (N := 115) (fun i h => by unfold cw_d212; rw [cj_blt h]; rfl) cw_dk212⟩
theorem cw_es213 : cw_ss 213 = cw_s213 := rfl
theorem cw_ed213 : cw_dec 213 = cw_d213 := rfl
theorem cw_em213 : (cw_mt 213).2.1 = cX9_behindRun := rfl
theorem cw_e213 : cw_P 213 := by
  unfold cw_P
  rw [cw_es213, cw_ed213, cw_em213]
  exact ⟨cj_ne cw_c213, ck_dec_ok (N := 60) (fun i h => by unfold cw_d213; rw [cj_blt h]; rfl) cw_dk213⟩
theorem cw_es214 : cw_ss 214 = cw_s214 := rfl
theorem cw_ed214 : cw_dec 214 = cw_d214 := rfl
theorem cw_em214 : (cw_mt 214).2.1 = cX9_byteAt := rfl
theorem cw_e214 : cw_P 214 := by
  unfold cw_P
  rw [cw_es214, cw_ed214, cw_em214]
  exact ⟨cj_ne cw_c214, ck_dec_ok (N := 28) (fun i h => by unfold cw_d214; rw [cj_blt h]; rfl) cw_dk214⟩
theorem cw_es215 : cw_ss 215 = cw_s215 := rfl
theorem cw_ed215 : cw_dec 215 = cw_d215 := rfl
theorem cw_em215 : (cw_mt 215).2.1 = cX9_isDigit := rfl
theorem cw_e215 : cw_P 215 := by
  unfold cw_P
  rw [cw_es215, cw_ed215, cw_em215]
  exact ⟨cj_ne cw_c215, ck_dec_ok (N := 18) (fun i h => by unfold cw_d215; rw [cj_blt h]; rfl) cw_dk215⟩
theorem cw_es216 : cw_ss 216 = cw_s216 := rfl
theorem cw_ed216 : cw_dec 216 = cw_d216 := rfl
theorem cw_em216 : (cw_mt 216).2.1 = cX9_isLetter := rfl
theorem cw_e216 : cw_P 216 := by
  unfold cw_P
  rw [cw_es216, cw_ed216, cw_em216]
  exact ⟨cj_ne cw_c216, ck_dec_ok (N := 30) (fun i h => by unfold cw_d216; rw [cj_blt h]; rfl) cw_dk216⟩
theorem cw_es217 : cw_ss 217 = cw_s217 := rfl
theorem cw_ed217 : cw_dec 217 = cw_d217 := rfl
theorem cw_em217 : (cw_mt 217).2.1 = cX9_length := rfl
theorem cw_e217 : cw_P 217 := by
  unfold cw_P
  rw [cw_es217, cw_ed217, cw_em217]
  exact ⟨cj_ne cw_c217, ck_dec_ok (N := 5) (fun i h => by unfold cw_d217; rw [cj_blt h]; rfl) cw_dk217⟩
theorem cw_es218 : cw_ss 218 = cw_s218 := rfl
theorem cw_ed218 : cw_dec 218 = cw_d218 := rfl
theorem cw_em218 : (cw_mt 218).2.1 = cX9_line := rfl
theorem cw_e218 : cw_P 218 := by
  unfold cw_P
  rw [cw_es218, cw_ed218, cw_em218]
  exact ⟨cj_ne cw_c218, ck_dec_ok (N := 39) (fun i h => by unfold cw_d218; rw [cj_blt h]; rfl) cw_dk218⟩
theorem cw_es219 : cw_ss 219 = cw_s219 := rfl
theorem cw_ed219 : cw_dec 219 = cw_d219 := rfl
theorem cw_em219 : (cw_mt 219).2.1 = cX9_matches := rfl
theorem cw_e219 : cw_P 219 := by
  unfold cw_P
  rw [cw_es219, cw_ed219, cw_em219]
  exact ⟨cj_ne cw_c219, ck_dec_ok (N := 194) (fun i h => by unfold cw_d219; rw [cj_blt h]; rfl) cw_dk219⟩
theorem cw_es220 : cw_ss 220 = cw_s220 := rfl
theorem cw_ed220 : cw_dec 220 = cw_d220 := rfl
theorem cw_em220 : (cw_mt 220).2.1 = cX9_nameOf := rfl
theorem cw_e220 : cw_P 220 := by
  unfold cw_P
  rw [cw_es220, cw_ed220, cw_em220]
  exact ⟨cj_ne cw_c220, ck_dec_ok (N := 111) (fun i h => by unfold cw_d220; rw [cj_blt h]; rfl) cw_dk220⟩
theorem cw_es221 : cw_ss 221 = cw_s221 := rfl
theorem cw_ed221 : cw_dec 221 = cw_d221 := rfl
theorem cw_em221 : (cw_mt 221).2.1 = cX9_ofPattern := rfl
theorem cw_e221 : cw_P 221 := by
  unfold cw_P
  rw [cw_es221, cw_ed221, cw_em221]
  exact ⟨cj_ne cw_c221, ck_dec_ok (N := 10) (fun i h => by unfold cw_d221; rw [cj_blt h]; rfl) cw_dk221⟩
theorem cw_es222 : cw_ss 222 = cw_s222 := rfl
theorem cw_ed222 : cw_dec 222 = cw_d222 := rfl
theorem cw_em222 : (cw_mt 222).2.1 = cX9_scan := rfl
theorem cw_e222 : cw_P 222 := by
  unfold cw_P
  rw [cw_es222, cw_ed222, cw_em222]
  exact ⟨cj_ne cw_c222, ck_dec_ok (N := 114) (fun i h => by unfold cw_d222; rw [cj_blt h]; rfl) cw_dk222⟩
theorem cw_es223 : cw_ss 223 = cw_s223 := rfl
theorem cw_ed223 : cw_dec 223 = cw_d223 := rfl
theorem cw_em223 : (cw_mt 223).2.1 = cX9_scanDigits := rfl
theorem cw_e223 : cw_P 223 := by
  unfold cw_P
  rw [cw_es223, cw_ed223, cw_em223]
  exact ⟨cj_ne cw_c223, ck_dec_ok (N := 70) (fun i h => by unfold cw_d223; rw [cj_blt h]; rfl) cw_dk223⟩
theorem cw_es224 : cw_ss 224 = cw_s224 := rfl
theorem cw_ed224 : cw_dec 224 = cw_d224 := rfl
theorem cw_em224 : (cw_mt 224).2.1 = cX9_scanLetters := rfl
theorem cw_e224 : cw_P 224 := by
  unfold cw_P
  rw [cw_es224, cw_ed224, cw_em224]
  exact ⟨cj_ne cw_c224, ck_dec_ok (N := 58) (fun i h => by unfold cw_d224; rw [cj_blt h]; rfl) cw_dk224⟩
theorem cw_es225 : cw_ss 225 = cw_s225 := rfl
theorem cw_ed225 : cw_dec 225 = cw_d225 := rfl
theorem cw_em225 : (cw_mt 225).2.1 = cX9_scanOne := rfl
theorem cw_e225 : cw_P 225 := by
  unfold cw_P
  rw [cw_es225, cw_ed225, cw_em225]
  exact ⟨cj_ne cw_c225, ck_dec_ok (N := 53) (fun i h => by unfold cw_d225; rw [cj_blt h]; rfl) cw_dk225⟩
theorem cw_es226 : cw_ss 226 = cw_s226 := rfl
theorem cw_ed226 : cw_dec 226 = cw_d226 := rfl
theorem cw_em226 : (cw_mt 226).2.1 = cX9_scanPattern := rfl
theorem cw_e226 : cw_P 226 := by
  unfold cw_P
  rw [cw_es226, cw_ed226, cw_em226]
  exact ⟨cj_ne cw_c226, ck_dec_ok (N := 194) (fun i h => by unfold cw_d226; rw [cj_blt h]; rfl) cw_dk226⟩
theorem cw_es227 : cw_ss 227 = cw_s227 := rfl
theorem cw_ed227 : cw_dec 227 = cw_d227 := rfl
theorem cw_em227 : (cw_mt 227).2.1 = cX9_scanSign := rfl
theorem cw_e227 : cw_P 227 := by
  unfold cw_P
  rw [cw_es227, cw_ed227, cw_em227]
  exact ⟨cj_ne cw_c227, ck_dec_ok (N := 91) (fun i h => by unfold cw_d227; rw [cj_blt h]; rfl) cw_dk227⟩
theorem cw_es228 : cw_ss 228 = cw_s228 := rfl
theorem cw_ed228 : cw_dec 228 = cw_d228 := rfl
theorem cw_em228 : (cw_mt 228).2.1 = cX9_signKind := rfl
theorem cw_e228 : cw_P 228 := by
  unfold cw_P
  rw [cw_es228, cw_ed228, cw_em228]
  exact ⟨cj_ne cw_c228, ck_dec_ok (N := 224) (fun i h => by unfold cw_d228; rw [cj_blt h]; rfl) cw_dk228⟩
theorem cw_es229 : cw_ss 229 = cw_s229 := rfl
theorem cw_ed229 : cw_dec 229 = cw_d229 := rfl
theorem cw_em229 : (cw_mt 229).2.1 = cX9_textAt := rfl
theorem cw_e229 : cw_P 229 := by
  unfold cw_P
  rw [cw_es229, cw_ed229, cw_em229]
  exact ⟨cj_ne cw_c229, ck_dec_ok (N := 36) (fun i h => by unfold cw_d229; rw [cj_blt h]; rfl) cw_dk229⟩
theorem cw_es230 : cw_ss 230 = cw_s230 := rfl
theorem cw_ed230 : cw_dec 230 = cw_d230 := rfl
theorem cw_em230 : (cw_mt 230).2.1 = cX9_wordKind := rfl
theorem cw_e230 : cw_P 230 := by
  unfold cw_P
  rw [cw_es230, cw_ed230, cw_em230]
  exact ⟨cj_ne cw_c230, fun pc e q => by cases q⟩
theorem cw_es231 : cw_ss 231 = cw_s231 := rfl
theorem cw_ed231 : cw_dec 231 = cw_d231 := rfl
theorem cw_em231 : (cw_mt 231).2.1 = cX10_at := rfl
theorem cw_e231 : cw_P 231 := by
  unfold cw_P
  rw [cw_es231, cw_ed231, cw_em231]
  exact ⟨cj_ne cw_c231, ck_dec_ok (N := 24) (fun i h => by unfold cw_d231; rw [cj_blt h]; rfl) cw_dk231⟩
theorem cw_es232 : cw_ss 232 = cw_s232 := rfl
theorem cw_ed232 : cw_dec 232 = cw_d232 := rfl
theorem cw_em232 : (cw_mt 232).2.1 = cX10_isTrue := rfl
theorem cw_e232 : cw_P 232 := by
  unfold cw_P
  rw [cw_es232, cw_ed232, cw_em232]
  exact ⟨cj_ne cw_c232, ck_dec_ok (N := 20) (fun i h => by unfold cw_d232; rw [cj_blt h]; rfl) cw_dk232⟩
theorem cw_es233 : cw_ss 233 = cw_s233 := rfl
theorem cw_ed233 : cw_dec 233 = cw_d233 := rfl
theorem cw_em233 : (cw_mt 233).2.1 = cX10_isWhole := rfl
theorem cw_e233 : cw_P 233 := by
  unfold cw_P
  rw [cw_es233, cw_ed233, cw_em233]
  exact ⟨cj_ne cw_c233, ck_dec_ok (N := 15) (fun i h => by unfold cw_d233; rw [cj_blt h]; rfl) cw_dk233⟩
theorem cw_es234 : cw_ss 234 = cw_s234 := rfl
theorem cw_ed234 : cw_dec 234 = cw_d234 := rfl
theorem cw_em234 : (cw_mt 234).2.1 = cX10_number := rfl
theorem cw_e234 : cw_P 234 := by
  unfold cw_P
  rw [cw_es234, cw_ed234, cw_em234]
  exact ⟨cj_ne cw_c234, ck_dec_ok (N := 18) (fun i h => by unfold cw_d234; rw [cj_blt h]; rfl) cw_dk234⟩
theorem cw_es235 : cw_ss 235 = cw_s235 := rfl
theorem cw_ed235 : cw_dec 235 = cw_d235 := rfl
theorem cw_em235 : (cw_mt 235).2.1 = cX10_put := rfl
theorem cw_e235 : cw_P 235 := by
  unfold cw_P
  rw [cw_es235, cw_ed235, cw_em235]
  exact ⟨cj_ne cw_c235, ck_dec_ok (N := 21) (fun i h => by unfold cw_d235; rw [cj_blt h]; rfl) cw_dk235⟩
theorem cw_es236 : cw_ss 236 = cw_s236 := rfl
theorem cw_ed236 : cw_dec 236 = cw_d236 := rfl
theorem cw_em236 : (cw_mt 236).2.1 = cX10_shown := rfl
theorem cw_e236 : cw_P 236 := by
  unfold cw_P
  rw [cw_es236, cw_ed236, cw_em236]
  exact ⟨cj_ne cw_c236, ck_dec_ok (N := 15) (fun i h => by unfold cw_d236; rw [cj_blt h]; rfl) cw_dk236⟩
theorem cw_es237 : cw_ss 237 = cw_s237 := rfl
theorem cw_ed237 : cw_dec 237 = cw_d237 := rfl
theorem cw_em237 : (cw_mt 237).2.1 = cX10_thing := rfl
theorem cw_e237 : cw_P 237 := by
  unfold cw_P
  rw [cw_es237, cw_ed237, cw_em237]
  exact ⟨cj_ne cw_c237, ck_dec_ok (N := 11) (fun i h => by unfold cw_d237; rw [cj_blt h]; rfl) cw_dk237⟩
theorem cw_es238 : cw_ss 238 = cw_s238 := rfl
theorem cw_ed238 : cw_dec 238 = cw_d238 := rfl
theorem cw_em238 : (cw_mt 238).2.1 = cX10_whole := rfl
theorem cw_e238 : cw_P 238 := by
  unfold cw_P
  rw [cw_es238, cw_ed238, cw_em238]
  exact ⟨cj_ne cw_c238, ck_dec_ok (N := 11) (fun i h => by unfold cw_d238; rw [cj_blt h]; rfl) cw_dk238⟩
theorem cw_es239 : cw_ss 239 = cw_s239 := rfl
theorem cw_ed239 : cw_dec 239 = cw_d239 := rfl
theorem cw_em239 : (cw_mt 239).2.1 = cX11_compile := rfl
theorem cw_e239 : cw_P 239 := by
  unfold cw_P
  rw [cw_es239, cw_ed239, cw_em239]
  exact ⟨cj_ne cw_c239, ck_dec_ok (N := 136) (fun i h => by unfold cw_d239; rw [cj_blt h]; rfl) cw_dk239⟩
theorem cw_PA0 : ∀ i, i < 20 → cw_P i := (cj_up (cj_up (cj_up (cj_up (cj_up (cj_up (cj_up (cj_up (cj_up (cj_up (cj_up (cj_up (cj_up (cj_up (cj_up (cj_up (cj_up (cj_up (cj_up (cj_up cj_z cw_e0) cw_e1) cw_e2) cw_e3) cw_e4) cw_e5) cw_e6) cw_e7) cw_e8) cw_e9) cw_e10) cw_e11) cw_e12) cw_e13) cw_e14) cw_e15) cw_e16) cw_e17) cw_e18) cw_e19)
theorem cw_PA1 : ∀ i, i < 40 → cw_P i := (cj_up (cj_up (cj_up (cj_up (cj_up (cj_up (cj_up (cj_up (cj_up (cj_up (cj_up (cj_up (cj_up (cj_up (cj_up (cj_up (cj_up (cj_up (cj_up (cj_up cw_PA0 cw_e20) cw_e21) cw_e22) cw_e23) cw_e24) cw_e25) cw_e26) cw_e27) cw_e28) cw_e29) cw_e30) cw_e31) cw_e32) cw_e33) cw_e34) cw_e35) cw_e36) cw_e37) cw_e38) cw_e39)
theorem cw_PA2 : ∀ i, i < 60 → cw_P i := (cj_up (cj_up (cj_up (cj_up (cj_up (cj_up (cj_up (cj_up (cj_up (cj_up (cj_up (cj_up (cj_up (cj_up (cj_up (cj_up (cj_up (cj_up (cj_up (cj_up cw_PA1 cw_e40) cw_e41) cw_e42) cw_e43) cw_e44) cw_e45) cw_e46) cw_e47) cw_e48) cw_e49) cw_e50) cw_e51) cw_e52) cw_e53) cw_e54) cw_e55) cw_e56) cw_e57) cw_e58) cw_e59)
theorem cw_PA3 : ∀ i, i < 80 → cw_P i := (cj_up (cj_up (cj_up (cj_up (cj_up (cj_up (cj_up (cj_up (cj_up (cj_up (cj_up (cj_up (cj_up (cj_up (cj_up (cj_up (cj_up (cj_up (cj_up (cj_up cw_PA2 cw_e60) cw_e61) cw_e62) cw_e63) cw_e64) cw_e65) cw_e66) cw_e67) cw_e68) cw_e69) cw_e70) cw_e71) cw_e72) cw_e73) cw_e74) cw_e75) cw_e76) cw_e77) cw_e78) cw_e79)
theorem cw_PA4 : ∀ i, i < 100 → cw_P i := (cj_up (cj_up (cj_up (cj_up (cj_up (cj_up (cj_up (cj_up (cj_up (cj_up (cj_up (cj_up (cj_up (cj_up (cj_up (cj_up (cj_up (cj_up (cj_up (cj_up cw_PA3 cw_e80) cw_e81) cw_e82) cw_e83) cw_e84) cw_e85) cw_e86) cw_e87) cw_e88) cw_e89) cw_e90) cw_e91) cw_e92) cw_e93) cw_e94) cw_e95) cw_e96) cw_e97) cw_e98) cw_e99)
theorem cw_PA5 : ∀ i, i < 120 → cw_P i := (cj_up (cj_up (cj_up (cj_up (cj_up (cj_up (cj_up (cj_up (cj_up (cj_up (cj_up (cj_up (cj_up (cj_up (cj_up (cj_up (cj_up (cj_up (cj_up (cj_up cw_PA4 cw_e100) cw_e101) cw_e102) cw_e103) cw_e104) cw_e105) cw_e106) cw_e107) cw_e108) cw_e109) cw_e110) cw_e111) cw_e112) cw_e113) cw_e114) cw_e115) cw_e116) cw_e117) cw_e118) cw_e119)
theorem cw_PA6 : ∀ i, i < 140 → cw_P i := (cj_up (cj_up (cj_up (cj_up (cj_up (cj_up (cj_up (cj_up (cj_up (cj_up (cj_up (cj_up (cj_up (cj_up (cj_up (cj_up (cj_up (cj_up (cj_up (cj_up cw_PA5 cw_e120) cw_e121) cw_e122) cw_e123) cw_e124) cw_e125) cw_e126) cw_e127) cw_e128) cw_e129) cw_e130) cw_e131) cw_e132) cw_e133) cw_e134) cw_e135) cw_e136) cw_e137) cw_e138) cw_e139)
theorem cw_PA7 : ∀ i, i < 160 → cw_P i := (cj_up (cj_up (cj_up (cj_up (cj_up (cj_up (cj_up (cj_up (cj_up (cj_up (cj_up (cj_up (cj_up (cj_up (cj_up (cj_up (cj_up (cj_up (cj_up (cj_up cw_PA6 cw_e140) cw_e141) cw_e142) cw_e143) cw_e144) cw_e145) cw_e146) cw_e147) cw_e148) cw_e149) cw_e150) cw_e151) cw_e152) cw_e153) cw_e154) cw_e155) cw_e156) cw_e157) cw_e158) cw_e159)
theorem cw_PA8 : ∀ i, i < 180 → cw_P i := (cj_up (cj_up (cj_up (cj_up (cj_up (cj_up (cj_up (cj_up (cj_up (cj_up (cj_up (cj_up (cj_up (cj_up (cj_up (cj_up (cj_up (cj_up (cj_up (cj_up cw_PA7 cw_e160) cw_e161) cw_e162) cw_e163) cw_e164) cw_e165) cw_e166) cw_e167) cw_e168) cw_e169) cw_e170) cw_e171) cw_e172) cw_e173) cw_e174) cw_e175) cw_e176) cw_e177) cw_e178) cw_e179)
theorem cw_PA9 : ∀ i, i < 200 → cw_P i := (cj_up (cj_up (cj_up (cj_up (cj_up (cj_up (cj_up (cj_up (cj_up (cj_up (cj_up (cj_up (cj_up (cj_up (cj_up (cj_up (cj_up (cj_up (cj_up (cj_up cw_PA8 cw_e180) cw_e181) cw_e182) cw_e183) cw_e184) cw_e185) cw_e186) cw_e187) cw_e188) cw_e189) cw_e190) cw_e191) cw_e192) cw_e193) cw_e194) cw_e195) cw_e196) cw_e197) cw_e198) cw_e199)
theorem cw_PA10 : ∀ i, i < 220 → cw_P i := (cj_up (cj_up (cj_up (cj_up (cj_up (cj_up (cj_up (cj_up (cj_up (cj_up (cj_up (cj_up (cj_up (cj_up (cj_up (cj_up (cj_up (cj_up (cj_up (cj_up cw_PA9 cw_e200) cw_e201) cw_e202) cw_e203) cw_e204) cw_e205) cw_e206) cw_e207) cw_e208) cw_e209) cw_e210) cw_e211) cw_e212) cw_e213) cw_e214) cw_e215) cw_e216) cw_e217) cw_e218) cw_e219)
theorem cw_PA11 : ∀ i, i < 240 → cw_P i := (cj_up (cj_up (cj_up (cj_up (cj_up (cj_up (cj_up (cj_up (cj_up (cj_up (cj_up (cj_up (cj_up (cj_up (cj_up (cj_up (cj_up (cj_up (cj_up (cj_up cw_PA10 cw_e220) cw_e221) cw_e222) cw_e223) cw_e224) cw_e225) cw_e226) cw_e227) cw_e228) cw_e229) cw_e230) cw_e231) cw_e232) cw_e233) cw_e234) cw_e235) cw_e236) cw_e237) cw_e238) cw_e239)
theorem cw_PA : ∀ i, i < 240 → cw_P i := cw_PA11
