/-! the reference's parser: the ends of acts, joined; nodes that are being made -/
variable {Zz : Zc}
theorem mo_NP_G {h : ja_H} {k sd wh : Int} (g : mo_G Zz h) (hk : 0 ≤ k ∧ k ≤ 5) (hs : 0 ≤ sd ∧ sd ≤ 2) (hw : 0 ≤ wh ∧ wh ≤ 60) (hp : (h 0 88) < 400) : mo_G Zz (mo_NP h k sd wh) := by
  have w0 := (gF_points g).1
  have ga := gF_at g
  exact gP_points (gW_pointWhich (gW_pointStands (gW_pointArgs (gW_pointName (gW_pointToken (gW_pointKind g _ (x := k) hk) _ (x := (h 0 7)) ga) _ (x := -1) (by omega)) _ (x := 0) (by omega)) _ (x := sd) hs) _ (x := wh) hw) (x := (h 0 88) + 1) (by omega)
theorem bs_len7 {h : ja_H} {R r ph q0 a b : Int} {tf : mo_TF} {s : List mo_A} {ht st rg : Nat → Int} {tu : Int} (hB : piB h R r ph tf q0 ((7, a, b) :: s) ht st rg tu) : (s.length : Int) ≤ 6 * pk_sum pk_c s + 2 := by
  obtain ⟨-, -, -, hpt, -⟩ := hB
  obtain ⟨-, ⟨p2, -⟩, -⟩ := hpt
  exact p2
theorem bs_hl {h : ja_H} {R r ph q0 : Int} {tf : mo_TF} {x : mo_A} {s : List mo_A} {ht st rg : Nat → Int} {tu : Int} (hx : 13 ≤ x.1 ∧ x.1 ≤ 30) (hB : piB h R r ph tf q0 (x :: s) ht st rg tu) : (h 0 79) ≤ (h 0 77) ∧ (h 0 77) ≤ 10 := by
  obtain ⟨-, ⟨-, b2, b3, -⟩, reg, -⟩ := hB
  have hph : ph ≠ 1 := by
    rcases reg with ⟨q1, -⟩ | ⟨q1, q2, q3, -⟩
    · omega
    · have := q3 _ List.mem_cons_self; omega
  exact ⟨b2.resolve_left hph, b3.resolve_left hph⟩
/-- S with = whole -/
theorem ab_assign1 {h : ja_H} {R r ph q0 a b k : Int} {tf : mo_TF} {s : List mo_A} {ht st rg : Nat → Int} {tu : Int} (g : mo_G Zz h) (hS : pk_S h (h 0 17).toNat s) (hB : piB h R r ph tf q0 ((18, a, b) :: s) ht st rg tu) (htf : tf_ok ph tf) (hf : (h 0 19) = 1) (hk : (k = 1 ∧ (h 74) ((h 0 113) - 1).toNat = 6) ∨ (k = 0 ∧ (h 74) ((h 0 113) - 1).toNat ≠ 6)) :
    pi_done h (mo_L (mo_L (mo_L (mo_tk (ja_up h 0 113 ((h 0 113) - 1))) 19 k ((h 75) ((h 0 113) - 1).toNat) 0) 37 59 0 0) 1 0 0 0) R r ph tf q0 (pi_mu h ((18, a, b) :: s)) := by
  have w0 := (gF_wTop g).1
  refine ⟨⟨(1, 0, 0) :: (37, 59, 0) :: (19, k, (h 75) ((h 0 113) - 1).toNat) :: s, ht, st, rg, tu, ⟨?_, bs_assign g hB (Or.inr ⟨hf, rfl, hk, rfl, rfl⟩) htf ?_ rfl rfl⟩, ?_⟩, ?_⟩
  · exact pk_S_L (show 0 ≤ (h 0 17) + 1 + 1 by omega) (pk_S_L (show 0 ≤ (h 0 17) + 1 by omega) (pk_S_L (show 0 ≤ (h 0 17) by omega) (pk_S_ag (ag_up rfl ag_refl) (pk_S_ag (ag_up rfl ag_refl) hS))))
  · unfold mo_L mo_tk; (repeat (refine ag_up rfl ?_)); exact ag_refl
  · show 40 * (900 - ((h 0 7) + 1)) + (pk_m 1 + (pk_m 37 + (pk_m 19 + pk_sum pk_m s))) + 13 < 40 * (900 - (h 0 7)) + (pk_m 18 + pk_sum pk_m s) + 13
    have e1 : pk_m 1 = -10 := rfl
    have e2 : pk_m 37 = 1 := rfl
    have e3 : pk_m 19 = 1 := rfl
    have e4 : pk_m 18 = 1 := rfl
    omega
  · unfold mo_L mo_tk; (repeat (refine ag_up rfl ?_)); exact ag_refl
theorem ab_assign2 {h : ja_H} {R r ph q0 a b : Int} {tf : mo_TF} {s : List mo_A} {ht st rg : Nat → Int} {tu : Int} (g : mo_G Zz h) (hS : pk_S h (h 0 17).toNat s) (hB : piB h R r ph tf q0 ((18, a, b) :: s) ht st rg tu) (htf : tf_ok ph tf) (hf : (h 0 19) = 2) :
    pi_done h (mo_L (mo_L (mo_L (mo_tk (ja_up (ja_up (ja_up h 0 113 ((h 0 113) - 1)) 52 ((h 0 20)).toNat 4) 55 ((h 0 20)).toNat 1)) 19 2 ((h 0 20)) 0) 37 59 0 0) 1 0 0 0) R r ph tf q0 (pi_mu h ((18, a, b) :: s)) := by
  have w0 := (gF_wTop g).1
  refine ⟨⟨(1, 0, 0) :: (37, 59, 0) :: (19, 2, (h 0 20)) :: s, ht, st, rg, tu, ⟨?_, bs_assign g hB (Or.inl ⟨rfl, hf, rfl, ?_, ?_, fun j hj => ⟨?_, ?_⟩⟩) htf ?_ rfl rfl⟩, ?_⟩, ?_⟩
  · exact pk_S_L (show 0 ≤ (h 0 17) + 1 + 1 by omega) (pk_S_L (show 0 ≤ (h 0 17) + 1 by omega) (pk_S_L (show 0 ≤ (h 0 17) by omega) (pk_S_ag (ag_up rfl ag_refl) (pk_S_ag (ag_up rfl (ag_up rfl (ag_up rfl ag_refl))) hS))))
  · simp [mo_L, mo_tk, ja_up]
  · simp [mo_L, mo_tk, ja_up]
  · simp [mo_L, mo_tk, ja_up, hj]
  · simp [mo_L, mo_tk, ja_up, hj]
  · unfold mo_L mo_tk; (repeat (refine ag_up rfl ?_)); exact ag_refl
  · show 40 * (900 - ((h 0 7) + 1)) + (pk_m 1 + (pk_m 37 + (pk_m 19 + pk_sum pk_m s))) + 13 < 40 * (900 - (h 0 7)) + (pk_m 18 + pk_sum pk_m s) + 13
    have e1 : pk_m 1 = -10 := rfl
    have e2 : pk_m 37 = 1 := rfl
    have e3 : pk_m 19 = 1 := rfl
    have e4 : pk_m 18 = 1 := rfl
    omega
  · unfold mo_L mo_tk; (repeat (refine ag_up rfl ?_)); exact ag_refl
/-- a call, new -/
theorem ab_call {h : ja_H} {R r ph q0 a b sd wh : Int} {tf : mo_TF} {s : List mo_A} {ht st rg : Nat → Int} {tu : Int} (g : mo_G Zz h) (hS : pk_S h (h 0 17).toNat s) (hB : piB h R r ph tf q0 ((7, a, b) :: s) ht st rg tu) (hi : (h 0 86) = 0) (hsw : sd = 2 → wh ≤ 24) :
    pi_done h (mo_L (mo_L (mo_L (ja_up (mo_tk (ja_up (mo_tk (mo_NP h 3 sd wh)) 54 ((h 0 88)).toNat ((h 0 7) + 1))) 52 ((h 0 88)).toNat 0) 7 0 0 0) 10 ((h 0 88)) 0 0) 8 0 0 0) R r ph tf q0 (pi_mu h ((7, a, b) :: s)) := by
  have w0 := (gF_wTop g).1
  refine ⟨⟨(8, 0, 0) :: (10, (h 0 88), 0) :: (7, 0, 0) :: s, ht, st, rg, tu, ⟨?_, bs_call g hS hB hsw (reg_3 g hB (by dsimp only; omega) hi).1 (pp_new hB)⟩, ?_⟩, ?_⟩
  · exact pk_S_L (show 0 ≤ (h 0 17) + 1 + 1 by omega) (pk_S_L (show 0 ≤ (h 0 17) + 1 by omega) (pk_S_L (show 0 ≤ (h 0 17) by omega) (pk_S_ag (by unfold mo_tk mo_NP; (repeat (refine ag_up rfl ?_)); exact ag_refl) hS)))
  · show 40 * (900 - ((h 0 7) + 1 + 1)) + (pk_m 8 + (pk_m 10 + (pk_m 7 + pk_sum pk_m s))) + 13 < 40 * (900 - (h 0 7)) + (pk_m 7 + pk_sum pk_m s) + 13
    have e1 : pk_m 8 = 1 := rfl
    have e2 : pk_m 10 = 1 := rfl
    have e3 : pk_m 7 = 1 := rfl
    omega
  · unfold mo_L mo_tk mo_NP; (repeat (refine ag_up rfl ?_)); exact ag_refl
theorem ab_new {h : ja_H} {R r ph q0 a b sd wh : Int} {tf : mo_TF} {s : List mo_A} {ht st rg : Nat → Int} {tu : Int} (g : mo_G Zz h) (hS : pk_S h (h 0 17).toNat s) (hB : piB h R r ph tf q0 ((6, a, b) :: s) ht st rg tu) (hi : (h 0 86) = 0) (hsw : sd = 2 → wh ≤ 24) :
    pi_done h (mo_L (mo_L (mo_L (mo_W (mo_tk (ja_up (mo_tk (mo_NP h 2 sd wh)) 54 ((h 0 88)).toNat ((h 0 7) + 1))) 0 ((h 0 7) + 1) 0) 7 0 0 0) 11 ((h 0 88)) 0 0) 8 0 0 0) R r ph tf q0 (pi_mu h ((6, a, b) :: s)) := by
  have w0 := (gF_wTop g).1
  refine ⟨⟨(8, 0, 0) :: (11, (h 0 88), 0) :: (7, 0, 0) :: s, ht, st, rg, tu, ⟨?_, bs_new g hS hB hsw (reg_3 g hB (by dsimp only; omega) hi).1 (pp_new hB)⟩, ?_⟩, ?_⟩
  · exact pk_S_L (show 0 ≤ (h 0 17) + 1 + 1 by omega) (pk_S_L (show 0 ≤ (h 0 17) + 1 by omega) (pk_S_L (show 0 ≤ (h 0 17) by omega) (pk_S_ag (by unfold mo_W mo_tk mo_NP; (repeat (refine ag_up rfl ?_)); exact ag_refl) hS)))
  · show 40 * (900 - ((h 0 7) + 1 + 1)) + (pk_m 8 + (pk_m 11 + (pk_m 7 + pk_sum pk_m s))) + 13 < 40 * (900 - (h 0 7)) + (pk_m 6 + pk_sum pk_m s) + 13
    have e1 : pk_m 8 = 1 := rfl
    have e2 : pk_m 11 = 1 := rfl
    have e3 : pk_m 7 = 1 := rfl
    have e4 : pk_m 6 = -12 := rfl
    omega
  · unfold mo_L mo_W mo_tk mo_NP; (repeat (refine ag_up rfl ?_)); exact ag_refl
/-- a field -/
theorem ab_field {h : ja_H} {R r ph q0 a b sd wh : Int} {tf : mo_TF} {s : List mo_A} {ht st rg : Nat → Int} {tu : Int} (g : mo_G Zz h) (hS : pk_S h (h 0 17).toNat s) (hB : piB h R r ph tf q0 ((7, a, b) :: s) ht st rg tu) (hi : (h 0 86) = 0) (hsw : sd = 2 → wh ≤ 24) (hs2 : 0 ≤ sd ∧ sd ≤ 2) (hw60 : 0 ≤ wh ∧ wh ≤ 60) (hp : (h 0 88) < 400) (hat : (h 0 7) + 1 ≤ 900) (ha1 : (h 0 7) + 1 < 900) :
    pi_done h (mo_L (mo_E (ja_up (ja_up (mo_tk (ja_up (mo_tk (mo_NP h 3 sd wh)) 54 ((h 0 88)).toNat ((h 0 7) + 1))) 0 19 2) 0 20 ((h 0 88))) 15 ((h 0 88)) 0) 7 0 0 0) R r ph tf q0 (pi_mu h ((7, a, b) :: s)) := by
  have gp := gF_points g
  have ga := gF_at g
  have hB1 := bs_get g hS hB hsw
  have g1 : mo_G Zz (ja_up (mo_tk (mo_NP h 3 sd wh)) 54 ((h 0 88)).toNat ((h 0 7) + 1)) := gW_pointName (mo_tk_G (mo_NP_G g (by decide) hs2 hw60 hp) (show (h 0 7) < 900 by omega)) _ (x := (h 0 7) + 1) (by omega)
  have hr3 := (reg_3 g hB (by dsimp only; omega) hi).1
  refine pi_done_of (h1 := ja_up (mo_tk (mo_NP h 3 sd wh)) 54 ((h 0 88)).toNat ((h 0 7) + 1)) (by unfold mo_tk mo_NP; (repeat (refine ag_up rfl ?_)); exact ag_refl) ?_
  have hd := ab_get (p := (h 0 88)) (a := 0) (b := 0) g1 (pk_S_ag (by unfold mo_tk mo_NP; (repeat (refine ag_up rfl ?_)); exact ag_refl) hS) hB1 ⟨gp.1, show (h 0 88) < (h 0 88) + 1 by omega⟩ ⟨by simp [mo_tk, mo_NP, ja_up], by simp [mo_tk, mo_NP, ja_up]⟩ (fun w hw z => pw_new hB w hw z) (pp_new hB) hr3 (bs_len7 hB)
  obtain ⟨⟨s', ht', st', rg', tu', q1, q2⟩, q3⟩ := hd
  refine ⟨⟨s', ht', st', rg', tu', q1, Int.lt_trans q2 ?_⟩, q3⟩
  show 40 * (900 - ((h 0 7) + 1)) + (pk_m 38 + pk_sum pk_m s) + 13 < 40 * (900 - (h 0 7)) + (pk_m 7 + pk_sum pk_m s) + 13
  have e1 : pk_m 38 = 1 := rfl
  have e2 : pk_m 7 = 1 := rfl
  omega
/-- catch -/
def mo_TRD (h : ja_H) (a p f fa v : Int) : ja_H := mo_L (mo_L (mo_L (mo_E (mo_E (ja_up (ja_up (ja_up (ja_up (ja_up (ja_up (mo_tk (mo_tk (ja_up (mo_E (h) 24 0 0) 75 (a).toNat ((h 0 113) + 1)))) 0 11 (f)) 0 12 (fa)) 49 ((h 0 79)).toNat (v)) 50 ((h 0 79)).toNat ((h 0 77))) 0 79 ((h 0 79) + 1)) 0 77 ((h 0 77) + 1)) 15 p 0) 5 ((h 0 77) + 1 - 1) 0) 22 (h 0 113) 0 0) 16 (h 0 79) 0 0) 14 0 0 0
theorem ab_tried {h : ja_H} {R r ph q0 a b sd wh f fa v : Int} {tf : mo_TF} {s : List mo_A} {ht st rg : Nat → Int} {tu : Int} (g : mo_G Zz h) (hS : pk_S h (h 0 17).toNat s) (hB : piB h R r ph tf q0 ((28, a, b) :: s) ht st rg tu) (hsw : sd = 2 → wh ≤ 24) (hs2 : 0 ≤ sd ∧ sd ≤ 2) (hw60 : 0 ≤ wh ∧ wh ≤ 60) (hp : (h 0 88) < 400) (hl : (h 0 77) ≤ 9) (hf0 : f = 0 → (h 0 11) = 0) :
    pi_done h (mo_TRD (ja_up (mo_NP h 5 sd wh) 55 ((h 0 88)).toNat 1) a (h 0 88) f fa v) R r ph tf q0 (pi_mu h ((28, a, b) :: s)) := by
  have gp := gF_points g
  have hB1 := bs_catch g hS hB hsw
  have g1 : mo_G Zz (ja_up (mo_NP h 5 sd wh) 55 ((h 0 88)).toNat 1) := gW_pointArgs (mo_NP_G g (by decide) hs2 hw60 hp) _ (x := 1) (by omega)
  refine pi_done_of (h1 := ja_up (mo_NP h 5 sd wh) 55 ((h 0 88)).toNat 1) (by unfold mo_NP; (repeat (refine ag_up rfl ?_)); exact ag_refl) ?_
  exact bs_tried (p := (h 0 88)) (f := f) (fa := fa) (v := v) g1 (pk_S_ag (by unfold mo_NP; (repeat (refine ag_up rfl ?_)); exact ag_refl) hS) hB1 ⟨gp.1, show (h 0 88) < (h 0 88) + 1 by omega⟩ ⟨by simp [mo_NP, ja_up], by simp [mo_NP, ja_up]⟩ (fun w hw z => pw_new hB w hw z) (pp_new hB) hl hf0
/-- nodes that are being made -/
def lf0 (h u : ja_H) : Prop := ((u 0 95) = (h 0 95) + 1 ∧ (u 0 72) ≤ (u 0 95) ∧ (h 0 7) ≤ (u 0 7) ∧ (u 0 68) < (u 0 7) + 1 ∧ ((u 0 11) = 0 → (h 0 11) = 0) ∧ (u 67) (h 0 95).toNat = (h 0 85)) ∧ (∀ k a b, pw_wt h k a b → pw_wt u k a b) ∧ nd_old h u ∧ mo_ag FLF h u ∧ mo_ag FK h u
theorem lf0_G {h u : ja_H} {ht st rg : Nat → Int} (q : lf0 h u) (p : pn u ht st rg (h 0 113) (h 0 95).toNat) : lfG ht st rg h u := ⟨q.1, q.2.1, q.2.2.1, q.2.2.2.1, q.2.2.2.2, p⟩
def FSu : Nat → Nat → Bool := mo_F [88, 34, 113, 85, 74, 76, 18, 109, 84, 87, 86, 79, 77, 17, 95, 72] [24, 74, 75, 76, 52, 55, 54, 56, 57, 70, 6, 7, 8, 58, 67, 47]
theorem FSu_FLF (k j : Nat) (e : FLF k j = true) : FSu k j = true := by
  unfold FLF mo_F at e; unfold FSu mo_F
  split at e
  · next z => rw [if_pos z]; simp at e ⊢; omega
  · next z => rw [if_neg z]; simp at e ⊢; omega
theorem lf0_step {h u u' : ja_H} (q : lf0 h u) (ag : mo_ag FSu u u') (agk : mo_ag FK u u') (old : ∀ j : Nat, j ≠ (h 0 95).toNat → (u' 59) j = (u 59) j ∧ (u' 60) j = (u 60) j ∧ (u' 62) j = (u 62) j) (oldA : ∀ j : Nat, (j : Int) < 7 * (h 0 95) → (u' 63) j = (u 63) j) (hat : (u 0 7) ≤ (u' 0 7)) (hw : (u' 0 68) < (u' 0 7) + 1) (hf : (u' 0 11) = 0 → (u 0 11) = 0) (hv : ∀ k a b, pw_wt u k a b → pw_wt u' k a b) : lf0 h u' := by
  obtain ⟨⟨u1, u2, u3, u4, u5, u6⟩, v1, ⟨n1, n2, n3, n4⟩, v3, v4⟩ := q
  have e1 : (u' 0 95) = (u 0 95) := ag _ _ rfl
  have e2 : (u' 0 72) = (u 0 72) := ag _ _ rfl
  have f1 : (u' 58) = (u 58) := funext fun j => ag _ _ rfl
  have f2 : (u' 67) = (u 67) := funext fun j => ag _ _ rfl
  have f3 : (u' 47) = (u 47) := funext fun j => ag _ _ rfl
  refine ⟨⟨e1.trans u1, by rw [e1, e2]; exact u2, Int.le_trans u3 hat, hw, fun z => u5 (hf z), by rw [f2]; exact u6⟩, fun k a b z => hv k a b (v1 k a b z), ⟨fun j hj => ?_, fun j hj => (oldA j hj).trans (n2 j hj), fun j hj => by rw [f3]; exact n3 j hj, ⟨by rw [e2]; exact n4.1, fun i a b => by rw [e2] at b; rw [f3, f1]; exact n4.2 i a b⟩⟩, ag_trans v3 (ag_sub FSu_FLF ag), ag_trans v4 agk⟩
  obtain ⟨a1, a2, a3, a4, a5⟩ := n1 j hj
  obtain ⟨b1, b2, b3⟩ := old j (by omega)
  rw [f1, f2]
  exact ⟨a1, b1.trans a2, b2.trans a3, b3.trans a4, a5⟩
def mo_tks (h : ja_H) (v : Int) : ja_H := ja_up h 0 7 v
theorem lf0_init {h : ja_H} {v kd a b tk ip : Int} (hv : (h 0 7) ≤ v) (hw : (h 0 68) < (h 0 7)) (hu : (h 0 72) ≤ (h 0 95)) (hip : ip = (h 0 85)) : lf0 h (mo_N (ja_up h 0 7 v) kd a b tk ip) := by
  refine ⟨⟨rfl, show (h 0 72) ≤ (h 0 95) + 1 by omega, hv, show (h 0 68) < v + 1 by omega, fun z => z, by simp [mo_N, ja_up, hip]⟩, fun _ _ _ z => z, ⟨fun j hj => ⟨?_, ?_, ?_, ?_, ?_⟩, fun j hj => rfl, fun j hj => rfl, us_same rfl⟩, by unfold mo_N; (repeat (refine ag_up rfl ?_)); exact ag_refl, by unfold mo_N; (repeat (refine ag_up rfl ?_)); exact ag_refl⟩ <;> simp [mo_N, ja_up] <;> (intros; omega)
theorem lf0_init0 {h : ja_H} {kd a b tk ip : Int} (hw : (h 0 68) < (h 0 7)) (hu : (h 0 72) ≤ (h 0 95)) (hip : ip = (h 0 85)) : lf0 h (mo_N h kd a b tk ip) := by
  refine ⟨⟨rfl, show (h 0 72) ≤ (h 0 95) + 1 by omega, Int.le_refl _, show (h 0 68) < (h 0 7) + 1 by omega, fun z => z, by simp [mo_N, ja_up, hip]⟩, fun _ _ _ z => z, ⟨fun j hj => ⟨?_, ?_, ?_, ?_, ?_⟩, fun j hj => rfl, fun j hj => rfl, us_same rfl⟩, by unfold mo_N; (repeat (refine ag_up rfl ?_)); exact ag_refl, by unfold mo_N; (repeat (refine ag_up rfl ?_)); exact ag_refl⟩ <;> simp [mo_N, ja_up] <;> (intros; omega)
/-- nodes of which nothing is asked -/
theorem pn_0 {u : ja_H} {ht st rg : Nat → Int} {W : Int} {n : Nat} (hk : (u 58) n ≤ 6) : pn u ht st rg W n := by
  unfold pn
  exact ⟨fun z => by omega, fun z => by omega, fun z => by omega, fun z => by omega, fun z => by omega, fun z => by omega⟩
theorem pn_78 {u : ja_H} {ht st rg : Nat → Int} {W : Int} {n : Nat} (hk : (u 58) n = 7 ∨ (u 58) n = 8) (ha : (0 ≤ (u 59) n ∧ (u 59) n ≤ 6) ∨ (1000 ≤ (u 59) n ∧ (u 59) n ≤ 1900 ∧ pw_wt u 0 ((u 59) n - 1000) 0)) : pn u ht st rg W n := by
  unfold pn
  exact ⟨fun z => by omega, fun z => by omega, fun z => by omega, fun z => by omega, fun _ => ha, fun z => by omega⟩
/-- what a loop over NAMES keeps -/
def lfA (h u : ja_H) : Prop := lf0 h u ∧ (u 58) (h 0 95).toNat = 9 ∧ (0 ≤ (u 62) (h 0 95).toNat ∧ (u 62) (h 0 95).toNat ≤ 6) ∧ ∀ k : Nat, (k : Int) < (u 62) (h 0 95).toNat → (u 63) (7 * (h 0 95).toNat + k) = -1 ∨ (0 ≤ (u 63) (7 * (h 0 95).toNat + k) ∧ (u 63) (7 * (h 0 95).toNat + k) ≤ 6) ∨ (1000 ≤ (u 63) (7 * (h 0 95).toNat + k) ∧ (u 63) (7 * (h 0 95).toNat + k) ≤ 1900 ∧ pw_wt u 0 ((u 63) (7 * (h 0 95).toNat + k) - 1000) 0)
def lfU (h u : ja_H) : Prop := lf0 h u ∧ (u 58) (h 0 95).toNat = 12 ∧ (0 ≤ (u 62) (h 0 95).toNat ∧ (u 62) (h 0 95).toNat ≤ 6) ∧ ((u 0 11) = 0 → ∀ k : Nat, (k : Int) < (u 62) (h 0 95).toNat → 0 ≤ (u 63) (7 * (h 0 95).toNat + k) ∧ (u 63) (7 * (h 0 95).toNat + k) ≤ 6) ∧ (h 0 85) = 0 ∧ (∃ i : Nat, (i : Int) < (u 0 72) ∧ (u 47) i = (h 0 95))
theorem lfA_G {h u : ja_H} {ht st rg : Nat → Int} (q : lfA h u) : lfG ht st rg h u := by
  refine lf0_G q.1 ?_
  have q1 := q.2.1
  unfold pn
  exact ⟨fun z => by omega, fun z => by omega, fun z => by omega, fun z => by omega, fun z => by omega, fun _ => q.2.2.2⟩
theorem lfU_G {h u : ja_H} {ht st rg : Nat → Int} (h0 : 0 ≤ (h 0 95)) (q : lfU h u) : lfG ht st rg h u := by
  refine lf0_G q.1 ?_
  obtain ⟨⟨⟨-, -, -, -, -, q6⟩, -⟩, q1, q2, q3, q4, i, q7, q8⟩ := q
  unfold pn
  refine ⟨fun z => by omega, fun z => by omega, fun z => by omega, fun _ => ⟨q6.trans q4, q3, i, q7, ?_⟩, fun z => by omega, fun z => by omega⟩
  rw [q8]; omega

theorem ab_s_br {h : ja_H} {R r ph q0 : Int} {tf : mo_TF} {s : List mo_A} {ht st rg : Nat → Int} {tu a b : Int} (g : mo_G Zz h) (hS : pk_S h (h 0 17).toNat s) (hB : piB h R r ph tf q0 ((31, a, b) :: s) ht st rg tu) (hlen : (s.length : Int) ≤ 6 * pk_sum pk_c s + 2) : pi_done h (mo_L (mo_L (mo_tk (h)) 37 41 0 0) 31 0 0 0) R r ph tf q0 (pi_mu h s) := by
  have hN := piB_num g hS hB
  obtain ⟨N1, N2, N3, N4, N5, N6, N7, N8, N9, N10, N11, N12, N13, ⟨NK1, NK2⟩, ND1, ND2, ND3, NU1, NU2⟩ := hN
  obtain ⟨⟨n1, n2, n3, n4, n5, n6, n7, n8, n9⟩, ⟨b1, b2, b3, b4⟩, reg, hpt, ⟨hC, hU⟩, hNo, hP, hT, top⟩ := id hB
  obtain ⟨⟨⟨p1, p1'⟩, p1u⟩, ⟨p2, p2'⟩, p3, p4⟩ := hpt
  have w0 := (gF_wTop g).1
  simp only [pk_sum] at n1 n2 n3 n6 n7
  dsimp only at p2 p2' N6
  have ec31 : pk_c 31 = 0 := rfl
  have ev31 : pk_v 31 = 0 := rfl
  have ed31 : pk_d 31 = 0 := rfl
  have eq31 : pk_q 31 = 0 := rfl
  have ef31 : pk_f 31 = 0 := rfl
  have em31 : pk_m 31 = 1 := rfl
  have eoff31 : pk_off 31 = 7 := rfl
  have ek31 : pk_k r 31 = 0 := rfl
  have ec37 : pk_c 37 = 0 := rfl
  have ev37 : pk_v 37 = 0 := rfl
  have ed37 : pk_d 37 = 0 := rfl
  have eq37 : pk_q 37 = 0 := rfl
  have ef37 : pk_f 37 = 0 := rfl
  have em37 : pk_m 37 = 1 := rfl
  have eoff37 : pk_off 37 = 3 := rfl
  have ek37 : pk_k r 37 = 0 := rfl
  replace p3 : pt_ok (h 74) ht st rg (h 0 113) (h 0 88) (h 0 77) r (pi_wn h r) (31, a, b) s ((ht (h 0 113).toNat - 0)) (h 0 109) (st (h 0 113).toNat) tu := p3
  unfold pt_ok at p3; dsimp only at p3
  replace p4 : pt (h 74) ht st rg (h 0 113) (h 0 88) (h 0 77) r tf (pi_wn h r) s (0) ((h 0 109) + 1) (st (h 0 113).toNat) (tu) := p4
  obtain ⟨-, xc, xt, ⟨xe, xu1, xu2⟩, -, -, -, -, -, -, -, -, -, -, -, -, -, -, -, -, -, -, -, -, -, -, xo31, -, -, -, -, -⟩ := p3
  replace xo31 := xo31 (by omega)
  refine fin0 hB (pk_S_L (show 0 ≤ (h 0 17) + 1 by omega) (pk_S_L (show 0 ≤ (h 0 17) by omega) (pk_S_ag (ag_up rfl ag_refl) hS))) (by (try unfold mo_L); (try unfold mo_tk); (repeat (refine ag_up rfl ?_)); exact ag_refl) (idle_of (show (31 : Int) ≠ 4 ∧ (31 : Int) ≠ 21 ∧ (31 : Int) ≠ 22 ∧ (31 : Int) ≠ 28 ∧ (31 : Int) ≠ 24 by decide)) (fun _ q => List.mem_cons_of_mem _ (List.mem_cons_of_mem _ (q))) (fun p q => by simp only [pp_cons] at q ⊢; rcases q with q | q | q <;> first | (exact Or.inr q) | (exfalso; simp [pp] at q)) ?_ ?_ ?_ ?_ ?_ ?_ ⟨?_, ?_, ?_⟩ (by simp only [pi_if, List.mem_cons, exists_eq_or_imp]; simp) ⟨(fun q y hy => by (try simp only [List.mem_cons] at hy); (rcases hy with rfl | rfl | hy) <;> first | (exact q _ (List.mem_cons_of_mem _ hy)) | (have := q _ List.mem_cons_self; dsimp only at this ⊢; omega)), (fun q y hy => by (try simp only [List.mem_cons] at hy); (rcases hy with rfl | rfl | hy) <;> first | (exact q _ (List.mem_cons_of_mem _ hy)) | (have := q _ List.mem_cons_self; dsimp only at this ⊢; omega))⟩ ?_ ⟨fun e => absurd e (by dsimp only; omega), fun e => absurd e (by dsimp only; omega), fun e => absurd e (by dsimp only; omega), fun e => absurd e (by dsimp only; omega)⟩ ?_ (by (try unfold mo_L); (try unfold mo_tk); (repeat (refine ag_up rfl ?_)); exact ag_refl)
  · show (h 0 18) = _; (try simp only [pk_sum]); omega
  · show (h 0 113) + _ < 5 * ((h 0 7) + 1); (try simp only [pk_sum]); omega
  · show (h 0 95) + _ < (h 0 7) + 1; (try simp only [pk_sum]); omega
  · show (h 0 7) ≤ (h 0 7) + 1; omega
  · show (h 0 84) = _; (try simp only [pk_sum]); omega
  · show (h 0 87) = _; (try simp only [pk_sum]); omega
  · show ph = 1 ∨ (h 0 79) ≤ (h 0 77); omega
  · show ph = 1 ∨ (h 0 77) ≤ 10; omega
  · intro q; show ph = 1 ∨ (h 0 77) ≤ 9; refine b4 (fun z => q ?_); intro y hy; simp only [List.mem_cons] at hy; rcases hy with rfl | rfl | hy
    · show (31 : Int) ≠ 17; decide
    · show (37 : Int) ≠ 17; decide
    · exact z y (List.mem_cons_of_mem _ hy)
  · exact ⟨⟨⟨by (try simp only [pk_sum]); omega, by (try simp only [pk_sum]); omega⟩, (fun p q => absurd q (by simp [pp]))⟩, ⟨by (try simp only [pk_sum, List.length_cons]); (try dsimp only); omega, (by intro y z e; cases e; dsimp only; omega)⟩, (show pt_ok (h 74) ht st rg (h 0 113) (h 0 88) (h 0 77) r (pi_wn h r) (31, 0, 0) ((37, 41, 0) :: s) (ht (h 0 113).toNat - 0) ((h 0 109)) (st (h 0 113).toNat) (tu) from by unfold pt_ok; (try dsimp only); (try simp only [pk_sum]); exact ⟨⟨by omega, by omega, by omega, by omega⟩, by omega, by omega, ⟨by first | omega | simp, by omega, by omega⟩, fun z => absurd z (by omega), fun z => absurd z (by omega), fun z => absurd z (by omega), fun z => absurd z (by omega), fun z => absurd z (by omega), fun z => absurd z (by omega), fun z => absurd z (by omega), fun z => absurd z (by omega), fun z => absurd z (by omega), fun z => absurd z (by omega), fun z => absurd z (by omega), fun z => absurd z (by omega), fun z => absurd z (by omega), fun z => absurd z (by omega), fun z => absurd z (by omega), fun z => absurd z (by omega), fun z => absurd z (by omega), fun z => absurd z (by omega), fun z => absurd z (by omega), fun z => absurd z (by omega), fun z => absurd z (by omega), fun z => absurd z (by omega), fun _ => by first | omega | trivial | (simp only [true_and, and_true]; omega), fun z => absurd z (by omega), fun z => absurd z (by omega), fun z => absurd z (by omega), fun z => absurd z (by omega), fun z => absurd z (by omega)⟩), ⟨⟨⟨by (try simp only [pk_sum]); omega, by (try simp only [pk_sum]); omega⟩, (fun p q => absurd q (by simp [pp]))⟩, ⟨by (try simp only [pk_sum, List.length_cons]); (try dsimp only); omega, (by intro y z e; have q := p2' y z e; dsimp only at q ⊢; omega)⟩, (show pt_ok (h 74) ht st rg (h 0 113) (h 0 88) (h 0 77) r (pi_wn h r) (37, 41, 0) (s) (0) ((h 0 109) + 1) (st (h 0 113).toNat) (tu) from by unfold pt_ok; (try dsimp only); (try simp only [pk_sum]); exact ⟨⟨by omega, by omega, by omega, by omega⟩, by omega, by omega, ⟨by first | omega | simp, by omega, by omega⟩, fun z => absurd z (by omega), fun z => absurd z (by omega), fun z => absurd z (by omega), fun z => absurd z (by omega), fun z => absurd z (by omega), fun z => absurd z (by omega), fun z => absurd z (by omega), fun z => absurd z (by omega), fun z => absurd z (by omega), fun z => absurd z (by omega), fun z => absurd z (by omega), fun z => absurd z (by omega), fun z => absurd z (by omega), fun z => absurd z (by omega), fun z => absurd z (by omega), fun z => absurd z (by omega), fun z => absurd z (by omega), fun z => absurd z (by omega), fun z => absurd z (by omega), fun z => absurd z (by omega), fun z => absurd z (by omega), fun z => absurd z (by omega), fun z => absurd z (by omega), fun z => absurd z (by omega), fun z => absurd z (by omega), fun z => absurd z (by omega), fun z => absurd z (by omega), fun z => absurd z (by omega)⟩), (pt_eq (show _ = 0 by omega) (show _ = (h 0 109) + 1 by omega) (show _ = st (h 0 113).toNat by omega) p4)⟩⟩
  · show 40 * (900 - ((h 0 7) + 1)) + pk_sum pk_m ((31, 0, 0) :: (37, 41, 0) :: s) + 13 < 40 * (900 - (h 0 7)) + pk_sum pk_m s + 13; (try simp only [pk_sum]); omega

theorem ab_s_flow {h : ja_H} {R r ph q0 : Int} {tf : mo_TF} {s : List mo_A} {ht st rg : Nat → Int} {tu a b : Int} (g : mo_G Zz h) (hS : pk_S h (h 0 17).toNat s) (hB : piB h R r ph tf q0 ((31, a, b) :: s) ht st rg tu) (hlen : (s.length : Int) ≤ 6 * pk_sum pk_c s + 2) : pi_done h (mo_L (mo_L (mo_L (mo_tk (mo_tk (ja_up (ja_up (h) 0 84 ((h 0 84) + 1)) 0 87 ((h 0 87) + 1)))) 35 0 0 0) 37 41 0 0) 31 0 0 0) R r ph tf q0 (pi_mu h s) := by
  have hN := piB_num g hS hB
  obtain ⟨N1, N2, N3, N4, N5, N6, N7, N8, N9, N10, N11, N12, N13, ⟨NK1, NK2⟩, ND1, ND2, ND3, NU1, NU2⟩ := hN
  obtain ⟨⟨n1, n2, n3, n4, n5, n6, n7, n8, n9⟩, ⟨b1, b2, b3, b4⟩, reg, hpt, ⟨hC, hU⟩, hNo, hP, hT, top⟩ := id hB
  obtain ⟨⟨⟨p1, p1'⟩, p1u⟩, ⟨p2, p2'⟩, p3, p4⟩ := hpt
  have w0 := (gF_wTop g).1
  simp only [pk_sum] at n1 n2 n3 n6 n7
  dsimp only at p2 p2' N6
  have ec31 : pk_c 31 = 0 := rfl
  have ev31 : pk_v 31 = 0 := rfl
  have ed31 : pk_d 31 = 0 := rfl
  have eq31 : pk_q 31 = 0 := rfl
  have ef31 : pk_f 31 = 0 := rfl
  have em31 : pk_m 31 = 1 := rfl
  have eoff31 : pk_off 31 = 7 := rfl
  have ek31 : pk_k r 31 = 0 := rfl
  have ec35 : pk_c 35 = 0 := rfl
  have ev35 : pk_v 35 = 0 := rfl
  have ed35 : pk_d 35 = 1 := rfl
  have eq35 : pk_q 35 = 1 := rfl
  have ef35 : pk_f 35 = 1 := rfl
  have em35 : pk_m 35 = 1 := rfl
  have eoff35 : pk_off 35 = 2 := rfl
  have ek35 : pk_k r 35 = 0 := rfl
  have ec37 : pk_c 37 = 0 := rfl
  have ev37 : pk_v 37 = 0 := rfl
  have ed37 : pk_d 37 = 0 := rfl
  have eq37 : pk_q 37 = 0 := rfl
  have ef37 : pk_f 37 = 0 := rfl
  have em37 : pk_m 37 = 1 := rfl
  have eoff37 : pk_off 37 = 3 := rfl
  have ek37 : pk_k r 37 = 0 := rfl
  replace p3 : pt_ok (h 74) ht st rg (h 0 113) (h 0 88) (h 0 77) r (pi_wn h r) (31, a, b) s ((ht (h 0 113).toNat - 0)) (h 0 109) (st (h 0 113).toNat) tu := p3
  unfold pt_ok at p3; dsimp only at p3
  replace p4 : pt (h 74) ht st rg (h 0 113) (h 0 88) (h 0 77) r tf (pi_wn h r) s (0) ((h 0 109) + 1) (st (h 0 113).toNat) (tu) := p4
  obtain ⟨-, xc, xt, ⟨xe, xu1, xu2⟩, -, -, -, -, -, -, -, -, -, -, -, -, -, -, -, -, -, -, -, -, -, -, xo31, -, -, -, -, -⟩ := p3
  replace xo31 := xo31 (by omega)
  refine fin0 hB (pk_S_L (show 0 ≤ (h 0 17) + 1 + 1 by omega) (pk_S_L (show 0 ≤ (h 0 17) + 1 by omega) (pk_S_L (show 0 ≤ (h 0 17) by omega) (pk_S_ag (ag_up rfl ag_refl) (pk_S_ag (ag_up rfl ag_refl) (pk_S_ag (ag_up rfl ag_refl) (pk_S_ag (ag_up rfl ag_refl) hS))))))) (by (try unfold mo_L); (try unfold mo_tk); (repeat (refine ag_up rfl ?_)); exact ag_refl) (idle_of (show (31 : Int) ≠ 4 ∧ (31 : Int) ≠ 21 ∧ (31 : Int) ≠ 22 ∧ (31 : Int) ≠ 28 ∧ (31 : Int) ≠ 24 by decide)) (fun _ q => List.mem_cons_of_mem _ (List.mem_cons_of_mem _ (List.mem_cons_of_mem _ (q)))) (fun p q => by simp only [pp_cons] at q ⊢; rcases q with q | q | q | q <;> first | (exact Or.inr q) | (exfalso; simp [pp] at q)) ?_ ?_ ?_ ?_ ?_ ?_ ⟨?_, ?_, ?_⟩ (by simp only [pi_if, List.mem_cons, exists_eq_or_imp]; simp) ⟨(fun q y hy => by (try simp only [List.mem_cons] at hy); (rcases hy with rfl | rfl | rfl | hy) <;> first | (exact q _ (List.mem_cons_of_mem _ hy)) | (have := q _ List.mem_cons_self; dsimp only at this ⊢; omega)), (fun q y hy => by (try simp only [List.mem_cons] at hy); (rcases hy with rfl | rfl | rfl | hy) <;> first | (exact q _ (List.mem_cons_of_mem _ hy)) | (have := q _ List.mem_cons_self; dsimp only at this ⊢; omega))⟩ ?_ ⟨fun e => absurd e (by dsimp only; omega), fun e => absurd e (by dsimp only; omega), fun e => absurd e (by dsimp only; omega), fun e => absurd e (by dsimp only; omega)⟩ ?_ (by (try unfold mo_L); (try unfold mo_tk); (repeat (refine ag_up rfl ?_)); exact ag_refl)
  · show (h 0 18) = _; (try simp only [pk_sum]); omega
  · show (h 0 113) + _ < 5 * ((h 0 7) + 1 + 1); (try simp only [pk_sum]); omega
  · show (h 0 95) + _ < (h 0 7) + 1 + 1; (try simp only [pk_sum]); omega
  · show (h 0 7) ≤ (h 0 7) + 1 + 1; omega
  · show (h 0 84) + 1 = _; (try simp only [pk_sum]); omega
  · show (h 0 87) + 1 = _; (try simp only [pk_sum]); omega
  · show ph = 1 ∨ (h 0 79) ≤ (h 0 77); omega
  · show ph = 1 ∨ (h 0 77) ≤ 10; omega
  · intro q; show ph = 1 ∨ (h 0 77) ≤ 9; refine b4 (fun z => q ?_); intro y hy; simp only [List.mem_cons] at hy; rcases hy with rfl | rfl | rfl | hy
    · show (31 : Int) ≠ 17; decide
    · show (37 : Int) ≠ 17; decide
    · show (35 : Int) ≠ 17; decide
    · exact z y (List.mem_cons_of_mem _ hy)
  · exact ⟨⟨⟨by (try simp only [pk_sum]); omega, by (try simp only [pk_sum]); omega⟩, (fun p q => absurd q (by simp [pp]))⟩, ⟨by (try simp only [pk_sum, List.length_cons]); (try dsimp only); omega, (by intro y z e; cases e; dsimp only; omega)⟩, (show pt_ok (h 74) ht st rg (h 0 113) (h 0 88) (h 0 77) r (pi_wn h r) (31, 0, 0) ((37, 41, 0) :: (35, 0, 0) :: s) (ht (h 0 113).toNat - 0) ((h 0 109)) (st (h 0 113).toNat) (tu) from by unfold pt_ok; (try dsimp only); (try simp only [pk_sum]); exact ⟨⟨by omega, by omega, by omega, by omega⟩, by omega, by omega, ⟨by first | omega | simp, by omega, by omega⟩, fun z => absurd z (by omega), fun z => absurd z (by omega), fun z => absurd z (by omega), fun z => absurd z (by omega), fun z => absurd z (by omega), fun z => absurd z (by omega), fun z => absurd z (by omega), fun z => absurd z (by omega), fun z => absurd z (by omega), fun z => absurd z (by omega), fun z => absurd z (by omega), fun z => absurd z (by omega), fun z => absurd z (by omega), fun z => absurd z (by omega), fun z => absurd z (by omega), fun z => absurd z (by omega), fun z => absurd z (by omega), fun z => absurd z (by omega), fun z => absurd z (by omega), fun z => absurd z (by omega), fun z => absurd z (by omega), fun z => absurd z (by omega), fun _ => by first | omega | trivial | (simp only [true_and, and_true]; omega), fun z => absurd z (by omega), fun z => absurd z (by omega), fun z => absurd z (by omega), fun z => absurd z (by omega), fun z => absurd z (by omega)⟩), ⟨⟨⟨by (try simp only [pk_sum]); omega, by (try simp only [pk_sum]); omega⟩, (fun p q => absurd q (by simp [pp]))⟩, ⟨by (try simp only [pk_sum, List.length_cons]); (try dsimp only); omega, (by intro y z e; cases e; dsimp only; omega)⟩, (show pt_ok (h 74) ht st rg (h 0 113) (h 0 88) (h 0 77) r (pi_wn h r) (37, 41, 0) ((35, 0, 0) :: s) (0) ((h 0 109) + 1) (st (h 0 113).toNat) (tu) from by unfold pt_ok; (try dsimp only); (try simp only [pk_sum]); exact ⟨⟨by omega, by omega, by omega, by omega⟩, by omega, by omega, ⟨by first | omega | simp, by omega, by omega⟩, fun z => absurd z (by omega), fun z => absurd z (by omega), fun z => absurd z (by omega), fun z => absurd z (by omega), fun z => absurd z (by omega), fun z => absurd z (by omega), fun z => absurd z (by omega), fun z => absurd z (by omega), fun z => absurd z (by omega), fun z => absurd z (by omega), fun z => absurd z (by omega), fun z => absurd z (by omega), fun z => absurd z (by omega), fun z => absurd z (by omega), fun z => absurd z (by omega), fun z => absurd z (by omega), fun z => absurd z (by omega), fun z => absurd z (by omega), fun z => absurd z (by omega), fun z => absurd z (by omega), fun z => absurd z (by omega), fun z => absurd z (by omega), fun z => absurd z (by omega), fun z => absurd z (by omega), fun z => absurd z (by omega), fun z => absurd z (by omega), fun z => absurd z (by omega), fun z => absurd z (by omega)⟩), ⟨⟨⟨by (try simp only [pk_sum]); omega, by (try simp only [pk_sum]); omega⟩, (fun p q => absurd q (by simp [pp]))⟩, ⟨by (try simp only [pk_sum, List.length_cons]); (try dsimp only); omega, (by intro y z e; have q := p2' y z e; dsimp only at q ⊢; omega)⟩, (show pt_ok (h 74) ht st rg (h 0 113) (h 0 88) (h 0 77) r (pi_wn h r) (35, 0, 0) (s) (0) ((h 0 109) + 1) (st (h 0 113).toNat) (tu) from by unfold pt_ok; (try dsimp only); (try simp only [pk_sum]); exact ⟨⟨by omega, by omega, by omega, by omega⟩, by omega, by omega, ⟨by first | omega | simp, by omega, by omega⟩, fun z => absurd z (by omega), fun z => absurd z (by omega), fun z => absurd z (by omega), fun z => absurd z (by omega), fun z => absurd z (by omega), fun z => absurd z (by omega), fun z => absurd z (by omega), fun z => absurd z (by omega), fun z => absurd z (by omega), fun z => absurd z (by omega), fun z => absurd z (by omega), fun z => absurd z (by omega), fun z => absurd z (by omega), fun z => absurd z (by omega), fun z => absurd z (by omega), fun z => absurd z (by omega), fun z => absurd z (by omega), fun z => absurd z (by omega), fun z => absurd z (by omega), fun z => absurd z (by omega), fun z => absurd z (by omega), fun z => absurd z (by omega), fun z => absurd z (by omega), fun z => absurd z (by omega), fun z => absurd z (by omega), fun _ => by first | omega | trivial | (simp only [true_and, and_true]; omega), fun z => absurd z (by omega), fun z => absurd z (by omega)⟩), (pt_eq (show _ = 0 by omega) (show _ = (h 0 109) + 1 by omega) (show _ = st (h 0 113).toNat by omega) p4)⟩⟩⟩
  · show 40 * (900 - ((h 0 7) + 1 + 1)) + pk_sum pk_m ((31, 0, 0) :: (37, 41, 0) :: (35, 0, 0) :: s) + 13 < 40 * (900 - (h 0 7)) + pk_sum pk_m s + 13; (try simp only [pk_sum]); omega
