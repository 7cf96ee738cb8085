/-! the reference: ITEMS, rows of parameters (written by a program) -/
variable {Zz : Zc}
/-! the reference's parser: ITEMS -/
def cntI (f : Nat → Int) (v : Int) : Nat → Nat
  | 0 => 0
  | n + 1 => (if f n = v then 1 else 0) + cntI f v n
theorem cntI_ext {f f' : Nat → Int} {v : Int} : ∀ {n : Nat}, (∀ j : Nat, j < n → f' j = f j) → cntI f' v n = cntI f v n
  | 0, _ => rfl
  | n + 1, h => by
    show (if f' n = v then 1 else 0) + cntI f' v n = (if f n = v then 1 else 0) + cntI f v n
    rw [h n (Nat.lt_succ_self n), cntI_ext (fun j hj => h j (Nat.lt_succ_of_lt hj))]
def it_nn (at_ words nodes wants uses fields members orders unders nest quiet inFlow inIf inPick treeTop mains : Int) : Prop := words ≤ 5 * at_ ∧ nodes ≤ at_ ∧ wants ≤ at_ ∧ uses ≤ nodes ∧ fields ≤ at_ ∧ members ≤ at_ ∧ orders ≤ at_ ∧ 4 * unders ≤ at_ ∧ nest = 0 ∧ quiet = 0 ∧ inFlow = 0 ∧ inIf = 0 ∧ inPick = 0 ∧ treeTop = 0 ∧ 0 ≤ mains ∧ mains ≤ at_
def it_n (h : ja_H) : Prop := it_nn (h 0 7) (h 0 113) (h 0 95) (h 0 68) (h 0 72) (h 0 31) (h 0 41) (h 0 64) (h 0 61) (h 0 18) (h 0 84) (h 0 87) (h 0 86) (h 0 85) (h 0 109) (h 0 66)
def it_S (h : ja_H) (ht st rg : Nat → Int) : Prop :=
  (∀ m : Nat, (m : Int) < (h 0 34) → 0 ≤ (h 23) m ∧ (h 23) m < (h 0 113) ∧ ht ((h 23) m).toNat = 0 ∧ st ((h 23) m).toNat = 0 ∧ rg ((h 23) m).toNat = 1) ∧
  (∀ a : Nat, (a : Int) < (h 0 44) → (0 ≤ (h 32) a ∧ (h 32) a < (h 0 113) ∧ ht ((h 32) a).toNat = 0 ∧ st ((h 32) a).toNat = 0 ∧ (rg ((h 32) a).toNat = 2 ∨ rg ((h 32) a).toNat = 3)) ∧ (h 31) a < (h 0 95) ∧ (h 67) ((h 31) a).toNat = 0 ∧ (h 29) a < (h 0 26)) ∧
  (0 < (h 0 66) → 0 ≤ (h 0 67) ∧ (h 0 67) < (h 0 113) ∧ ht (h 0 67).toNat = 0 ∧ st (h 0 67).toNat = 0 ∧ rg (h 0 67).toNat = 0) ∧
  (∀ p : Nat, (p : Int) < (h 0 52) → (h 37) p < (h 0 95) ∧ (h 67) ((h 37) p).toNat = 1) ∧
  (∀ b : Nat, (b : Int) < (h 0 57) → (h 38) b < (h 0 95) ∧ (h 67) ((h 38) b).toNat = 0)
def it_F (h : ja_H) : Prop := ∀ v, cntI (h 18) v (h 0 31).toNat ≤ 10
def it (h : ja_H) (ht st rg : Nat → Int) : Prop := cd h ht st rg ∧ pi_P h ∧ it_n h ∧ it_S h ht st rg ∧ it_F h
def FIT : Nat → Nat → Bool := mo_F [113, 95, 72, 88, 34, 44, 66, 67, 52, 57] [74, 75, 76, 52, 54, 55, 56, 57, 58, 59, 60, 62, 63, 67, 47, 23, 24, 32, 31, 29, 37, 38]
def FCD : Nat → Nat → Bool := mo_F [113, 95, 72, 88, 34] [74, 75, 76, 52, 54, 55, 56, 57, 58, 59, 60, 62, 63, 67, 47, 24]
theorem FIT_FCD (k j : Nat) (e : FCD k j = true) : FIT k j = true := by
  unfold FCD mo_F at e; unfold FIT mo_F
  split at e
  · next z => rw [if_pos z]; simp at e ⊢; omega
  · next z => rw [if_neg z]; simp at e ⊢; omega
theorem cd_keep {h H : ja_H} {ht st rg : Nat → Int} (q : cd h ht st rg) (ag : mo_ag FCD h H) (hf : (H 0 11) = 0 → (h 0 11) = 0) (hv : ∀ k a b, pw_wt h k a b → pw_wt H k a b) : cd H ht st rg := by
  obtain ⟨⟨hC, hU⟩, h200, hN, h0, s0⟩ := q
  have e1 : (H 0 113) = (h 0 113) := ag _ _ rfl
  have e2 : (H 0 88) = (h 0 88) := ag _ _ rfl
  have e3 : (H 0 95) = (h 0 95) := ag _ _ rfl
  have e4 : (H 0 72) = (h 0 72) := ag _ _ rfl
  have f1 : (H 74) = (h 74) := funext fun j => ag _ _ rfl
  have f2 : (H 75) = (h 75) := funext fun j => ag _ _ rfl
  have f3 : (H 76) = (h 76) := funext fun j => ag _ _ rfl
  have k1 : (H 52) = (h 52) := funext fun j => ag _ _ rfl
  have k2 : (H 55) = (h 55) := funext fun j => ag _ _ rfl
  have l1 : (H 58) = (h 58) := funext fun j => ag _ _ rfl
  have l2 : (H 59) = (h 59) := funext fun j => ag _ _ rfl
  have l3 : (H 60) = (h 60) := funext fun j => ag _ _ rfl
  have l4 : (H 62) = (h 62) := funext fun j => ag _ _ rfl
  have l5 : (H 63) = (h 63) := funext fun j => ag _ _ rfl
  have l6 : (H 67) = (h 67) := funext fun j => ag _ _ rfl
  have l7 : (H 47) = (h 47) := funext fun j => ag _ _ rfl
  refine ⟨⟨?_, ?_⟩, by rw [e1]; exact h200, ?_, by rw [e1]; exact h0, by rw [e1]; exact s0⟩
  · rw [e1]
    intro w hw
    refine pw_ext hw (Int.le_refl _) (fun _ _ => ⟨rfl, rfl, rfl⟩) ⟨by rw [f1], by rw [f2], by rw [f3]⟩ hf hv (Int.le_of_eq e2.symm) (fun _ _ _ q => ⟨?_, q⟩) (fun _ q => q) (hC w hw)
    unfold pw_pop; rw [k1, k2]
  · rw [e1]; unfold pi_U; rw [f1, f2]; exact hU
  · rw [e1]
    exact pN_f l1 l2 l3 l4 l5 l6 l7 e3 e4 hf hv hN
theorem pP_keep {h H : ja_H} (oP : pi_P h) (ag : mo_ag FCD h H) (hv : ∀ k a b, pw_wt h k a b → pw_wt H k a b) : pi_P H := by
  have e2 : (H 0 88) = (h 0 88) := ag _ _ rfl
  have k1 : (H 52) = (h 52) := funext fun j => ag _ _ rfl
  have k3 : (H 54) = (h 54) := funext fun j => ag _ _ rfl
  have k4 : (H 56) = (h 56) := funext fun j => ag _ _ rfl
  have k5 : (H 57) = (h 57) := funext fun j => ag _ _ rfl
  have m1 : (H 0 34) = (h 0 34) := ag _ _ rfl
  have m2 : (H 24) = (h 24) := funext fun j => ag _ _ rfl
  refine ⟨fun m hm => ?_, fun p hp => ?_⟩
  · rw [m1] at hm
    rw [m2, e2, k1]
    exact oP.1 m hm
  · rw [e2] at hp
    rw [k1, k3, k4, k5, m1]
    obtain ⟨a1, a2, a3, a4⟩ := oP.2 p hp
    exact ⟨a1, a2, a3, fun z => hv _ _ _ (a4 z)⟩
theorem it_keep {h H : ja_H} {ht st rg : Nat → Int} (q : it h ht st rg) (ag : mo_ag FIT h H) (hn : it_n H) (hF : it_F H) (hf : (H 0 11) = 0 → (h 0 11) = 0) (hv : ∀ k a b, pw_wt h k a b → pw_wt H k a b) (ha : (h 0 26) ≤ (H 0 26)) : it H ht st rg := by
  obtain ⟨qc, qP, -, qS, -⟩ := q
  refine ⟨cd_keep qc (ag_sub FIT_FCD ag) hf hv, pP_keep qP (ag_sub FIT_FCD ag) hv, hn, ?_, hF⟩
  have e1 : (H 0 113) = (h 0 113) := ag _ _ rfl
  have e3 : (H 0 95) = (h 0 95) := ag _ _ rfl
  have e4 : (H 0 34) = (h 0 34) := ag _ _ rfl
  have e5 : (H 0 44) = (h 0 44) := ag _ _ rfl
  have e6 : (H 0 66) = (h 0 66) := ag _ _ rfl
  have e7 : (H 0 67) = (h 0 67) := ag _ _ rfl
  have e8 : (H 0 52) = (h 0 52) := ag _ _ rfl
  have e9 : (H 0 57) = (h 0 57) := ag _ _ rfl
  have f1 : (H 23) = (h 23) := funext fun j => ag _ _ rfl
  have f2 : (H 32) = (h 32) := funext fun j => ag _ _ rfl
  have f3 : (H 31) = (h 31) := funext fun j => ag _ _ rfl
  have f4 : (H 29) = (h 29) := funext fun j => ag _ _ rfl
  have f5 : (H 37) = (h 37) := funext fun j => ag _ _ rfl
  have f6 : (H 38) = (h 38) := funext fun j => ag _ _ rfl
  have f7 : (H 67) = (h 67) := funext fun j => ag _ _ rfl
  unfold it_S
  rw [e1, e3, e4, e5, e6, e7, e8, e9, f1, f2, f3, f4, f5, f6, f7]
  exact ⟨qS.1, fun a ha2 => ⟨(qS.2.1 a ha2).1, (qS.2.1 a ha2).2.1, (qS.2.1 a ha2).2.2.1, Int.lt_of_lt_of_le (qS.2.1 a ha2).2.2.2 ha⟩, qS.2.2⟩
theorem it_F_eq {h H : ja_H} (q : it_F h) (e1 : (H 0 31) = (h 0 31)) (e2 : (H 18) = (h 18)) : it_F H := by
  unfold it_F; rw [e1, e2]; exact q
theorem it_F_new {h H : ja_H} {v : Int} (g : mo_G Zz h) (q : it_F h) (e1 : (H 0 31) = (h 0 31) + 1) (e2 : ∀ j : Nat, j ≠ (h 0 31).toNat → (H 18) j = (h 18) j) (e3 : (H 18) (h 0 31).toNat = v) (e4 : (cntI (h 18) v (h 0 31).toNat : Int) ≤ 9) : it_F H := by
  intro w
  have g0 := (gF_fields g).1
  have e5 : (H 0 31).toNat = (h 0 31).toNat + 1 := by rw [e1]; omega
  rw [e5]
  show (if (H 18) (h 0 31).toNat = w then 1 else 0) + cntI (H 18) w (h 0 31).toNat ≤ 10
  rw [cntI_ext (fun j hj => e2 j (by omega)), e3]
  by_cases z : v = w
  · rw [if_pos z, ← z]; omega
  · rw [if_neg z]; have := q w; omega
theorem wt_same {h H : ja_H} (a1 : (H 0 68) = (h 0 68)) (a2 : (H 45) = (h 45)) (a3 : (H 44) = (h 44)) (a4 : (H 46) = (h 46)) (k a b : Int) (q : pw_wt h k a b) : pw_wt H k a b := by
  rw [pw_wt_ag a1 a2 a3 a4]; exact q
/-- the heap but for what is named -/
def mo_X (fs cs : List Nat) (k j : Nat) : Bool := if k = 0 then !(fs.contains j) else !(cs.contains k)
/-- what every ITEM leaves alone -/
def FKP : Nat → Nat → Bool := mo_F [1, 118, 127, 76, 26, 119] []
theorem kp_FK {h h' : ja_H} (q : mo_ag FK h h') : mo_ag FKP h h' := ag_sub (fun k j e => by
  unfold FKP mo_F at e; unfold FK
  split at e
  · next z => rw [if_pos z]; simp at e ⊢; omega
  · next z => simp at e) q
def FPR : Nat → Nat → Bool := mo_X [7, 8, 9, 82, 11, 12] [51]
theorem dparamRow_0 : decode cX12_paramRow 0 = .ok (.aload_n 0, 1) := by decide +kernel
theorem dparamRow_1 : decode cX12_paramRow 1 = .ok (.iconst 0, 1) := by decide +kernel
theorem dparamRow_2 : decode cX12_paramRow 2 = .ok (.putfield 704, 3) := by decide +kernel
theorem dparamRow_5 : decode cX12_paramRow 5 = .ok (.aload_n 0, 1) := by decide +kernel
theorem dparamRow_6 : decode cX12_paramRow 6 = .ok (.bipush 40, 2) := by decide +kernel
theorem dparamRow_8 : decode cX12_paramRow 8 = .ok (.invokevirtual 742, 3) := by decide +kernel
theorem dparamRow_11 : decode cX12_paramRow 11 = .ok (.ifCond .ne 5, 3) := by decide +kernel
theorem dparamRow_14 : decode cX12_paramRow 14 = .ok (.iconst 0, 1) := by decide +kernel
theorem dparamRow_15 : decode cX12_paramRow 15 = .ok (.ireturn, 1) := by decide +kernel
theorem dparamRow_16 : decode cX12_paramRow 16 = .ok (.aload_n 0, 1) := by decide +kernel
theorem dparamRow_17 : decode cX12_paramRow 17 = .ok (.bipush 41, 2) := by decide +kernel
theorem dparamRow_19 : decode cX12_paramRow 19 = .ok (.invokevirtual 586, 3) := by decide +kernel
theorem dparamRow_22 : decode cX12_paramRow 22 = .ok (.ifCond .ne 7, 3) := by decide +kernel
theorem dparamRow_25 : decode cX12_paramRow 25 = .ok (.iconst 1, 1) := by decide +kernel
theorem dparamRow_26 : decode cX12_paramRow 26 = .ok (.goto 4, 3) := by decide +kernel
theorem dparamRow_29 : decode cX12_paramRow 29 = .ok (.iconst 0, 1) := by decide +kernel
theorem dparamRow_30 : decode cX12_paramRow 30 = .ok (.istore_n 1, 1) := by decide +kernel
theorem dparamRow_31 : decode cX12_paramRow 31 = .ok (.iload_n 1, 1) := by decide +kernel
theorem dparamRow_32 : decode cX12_paramRow 32 = .ok (.ifCond .eq 67, 3) := by decide +kernel
theorem dparamRow_35 : decode cX12_paramRow 35 = .ok (.aload_n 0, 1) := by decide +kernel
theorem dparamRow_36 : decode cX12_paramRow 36 = .ok (.invokevirtual 599, 3) := by decide +kernel
theorem dparamRow_39 : decode cX12_paramRow 39 = .ok (.ifCond .eq 18, 3) := by decide +kernel
theorem dparamRow_42 : decode cX12_paramRow 42 = .ok (.aload_n 0, 1) := by decide +kernel
theorem dparamRow_43 : decode cX12_paramRow 43 = .ok (.getfield 704, 3) := by decide +kernel
theorem dparamRow_46 : decode cX12_paramRow 46 = .ok (.bipush 6, 2) := by decide +kernel
theorem dparamRow_48 : decode cX12_paramRow 48 = .ok (.if_icmp .ne 9, 3) := by decide +kernel
theorem dparamRow_51 : decode cX12_paramRow 51 = .ok (.aload_n 0, 1) := by decide +kernel
theorem dparamRow_52 : decode cX12_paramRow 52 = .ok (.iconst 3, 1) := by decide +kernel
theorem dparamRow_53 : decode cX12_paramRow 53 = .ok (.invokevirtual 583, 3) := by decide +kernel
theorem dparamRow_56 : decode cX12_paramRow 56 = .ok (.ireturn, 1) := by decide +kernel
theorem dparamRow_57 : decode cX12_paramRow 57 = .ok (.aload_n 0, 1) := by decide +kernel
theorem dparamRow_58 : decode cX12_paramRow 58 = .ok (.getfield 574, 3) := by decide +kernel
theorem dparamRow_61 : decode cX12_paramRow 61 = .ok (.istore_n 2, 1) := by decide +kernel
theorem dparamRow_62 : decode cX12_paramRow 62 = .ok (.aload_n 0, 1) := by decide +kernel
theorem dparamRow_63 : decode cX12_paramRow 63 = .ok (.invokevirtual 739, 3) := by decide +kernel
theorem dparamRow_66 : decode cX12_paramRow 66 = .ok (.ifCond .ne 5, 3) := by decide +kernel
theorem dparamRow_69 : decode cX12_paramRow 69 = .ok (.iconst 0, 1) := by decide +kernel
theorem dparamRow_70 : decode cX12_paramRow 70 = .ok (.ireturn, 1) := by decide +kernel
theorem dparamRow_71 : decode cX12_paramRow 71 = .ok (.aload_n 0, 1) := by decide +kernel
theorem dparamRow_72 : decode cX12_paramRow 72 = .ok (.iload_n 2, 1) := by decide +kernel
theorem dparamRow_73 : decode cX12_paramRow 73 = .ok (.invokevirtual 757, 3) := by decide +kernel
theorem dparamRow_76 : decode cX12_paramRow 76 = .ok (.aload_n 0, 1) := by decide +kernel
theorem dparamRow_77 : decode cX12_paramRow 77 = .ok (.bipush 44, 2) := by decide +kernel
theorem dparamRow_79 : decode cX12_paramRow 79 = .ok (.invokevirtual 586, 3) := by decide +kernel
theorem dparamRow_82 : decode cX12_paramRow 82 = .ok (.istore_n 1, 1) := by decide +kernel
theorem dparamRow_83 : decode cX12_paramRow 83 = .ok (.iload_n 1, 1) := by decide +kernel
theorem dparamRow_84 : decode cX12_paramRow 84 = .ok (.ifCond .eq 12, 3) := by decide +kernel
theorem dparamRow_87 : decode cX12_paramRow 87 = .ok (.aload_n 0, 1) := by decide +kernel
theorem dparamRow_88 : decode cX12_paramRow 88 = .ok (.invokevirtual 589, 3) := by decide +kernel
theorem dparamRow_91 : decode cX12_paramRow 91 = .ok (.ifCond .ne 5, 3) := by decide +kernel
theorem dparamRow_94 : decode cX12_paramRow 94 = .ok (.iconst 0, 1) := by decide +kernel
theorem dparamRow_95 : decode cX12_paramRow 95 = .ok (.ireturn, 1) := by decide +kernel
theorem dparamRow_96 : decode cX12_paramRow 96 = .ok (.goto (-65), 3) := by decide +kernel
theorem dparamRow_99 : decode cX12_paramRow 99 = .ok (.aload_n 0, 1) := by decide +kernel
theorem dparamRow_100 : decode cX12_paramRow 100 = .ok (.bipush 41, 2) := by decide +kernel
theorem dparamRow_102 : decode cX12_paramRow 102 = .ok (.invokevirtual 742, 3) := by decide +kernel
theorem dparamRow_105 : decode cX12_paramRow 105 = .ok (.ireturn, 1) := by decide +kernel
section
variable {l : Launch} {D : va_G} {cA : Nat → ClassId} {ad : Nat → Nat}
theorem s_paramRow {h : ja_H} {Q : Option ja_V → ja_H → Prop} (g : mo_G Zz h) (k1 : ∀ (h' : ja_H), (mo_ag FPR h h' ∧ (h 0 7) < (h' 0 7) ∧ ((h' 0 11) = 0 → (h 0 11) = 0) ∧ (h' 0 82) ≤ 6) → mo_G Zz h' → Q (some (0, 1)) h') (k2 : ∀ (h' : ja_H), (0 < (h' 0 8) ∧ (h' 0 1) = (h 0 1) ∧ (h' 0 118) = (h 0 118) ∧ (h' 0 127) = (h 0 127)) → mo_G Zz h' → Q (some (0, 0)) h') : mM_paramRow l D cA ad  h Q := by
  show mJ l D cA ad 4 cX12_paramRow 3 (some .boolean) 0 [(0, (2, ((0 : Nat) : Int)))] [] h Q
  have kn_at := gF_at g
  have kn_params := gF_params g
  have kn_false1 := gF_false1 g
  have CUT : ∀ n : Nat, (∀ (x1 : Int) (u : ja_H), mo_G Zz u → (-2147483648 ≤ x1 ∧ x1 ≤ 2147483647) → (mo_ag FPR h u ∧ (h 0 7) < (u 0 7) ∧ ((u 0 11) = 0 → (h 0 11) = 0) ∧ (u 0 82) ≤ 6 ∧ (x1 = 0 ∨ x1 = 1)) → ((1000 - (u 0 7)).toNat) = n → mJ l D cA ad 4 cX12_paramRow 3 (some .boolean) 31 [(0, (2, ((0 : Nat) : Int))), (1, (0, x1))] [] u Q) := by
    intro n
    induction n using Nat.strongRecOn with
    | _ n ih =>
      skip
      · intro x1 u gu qx1 iv hm
        subst hm
        have ku_at := gF_at gu
        have ku_params := gF_params gu
        have ku_false1 := gF_false1 gu
        obtain ⟨ag, i2, i3, i4, i5⟩ := iv
        have e_size : (u 0 1) = (h 0 1) := ag 0 1 rfl
        have e_compiled : (u 0 118) = (h 0 118) := ag 0 118 rfl
        have e_started : (u 0 127) = (h 0 127) := ag 0 127 rfl
        refine ja_iload_n dparamRow_31 rfl rfl ?_
        refine ja_if_eq 99 dparamRow_32 rfl ⟨by omega, by omega⟩ (fun c32 => ?_) (fun c32 => ?_)
        · refine ja_aload_n dparamRow_99 rfl rfl ?_
          refine ja_bipush 41 dparamRow_100 rfl ?_
          refine t_sign (by decide) (show (0 : Nat) ≤ 8 by decide) dparamRow_102 gu ⟨by decide, by decide⟩ ?_ ?_
          · intro k102_0 g1
            replace k102_0 : (u 0 7) < 900 ∧ (u 2 (u 0 7).toNat) = 5 ∧ (u 5 (u 0 7).toNat) = 41 := k102_0
            replace g1 : mo_G Zz (ja_up u 0 7 ((u 0 7) + 1)) := g1
            show mJ l D cA ad 4 cX12_paramRow 3 (some .boolean) 105 [(0, (2, ((0 : Nat) : Int))), (1, (0, x1))] [(0, 1)] (ja_up u 0 7 ((u 0 7) + 1)) Q
            refine ja_zreturn dparamRow_105 rfl (by omega) ?_
            exact mo_fin (by omega) rfl (k1 (ja_up u 0 7 ((u 0 7) + 1)) (⟨ag_trans ag (by (repeat (first | exact ag_refl | refine ag_up rfl ?_))), (show (h 0 7) < ((u 0 7) + 1) by omega), fun z => by have z2 : (u 0 11) = 0 := z; omega, (show (u 0 82) ≤ 6 by omega)⟩) g1)
          · intro h2 k102_1 g3
            refine ja_zreturn dparamRow_105 rfl (by omega) ?_
            exact mo_fin (by omega) rfl (k2 h2 (by omega) g3)
        · refine ja_aload_n dparamRow_35 rfl rfl ?_
          refine t_isName (by decide) (show (0 : Nat) ≤ 8 by decide) dparamRow_36 gu  ?_
          intro w4 k36_0
          refine ja_if_eq 57 dparamRow_39 rfl ⟨by omega, by omega⟩ (fun c39 => ?_) (fun c39 => ?_)
          · replace k36_0 := is0 k36_0 c39
            refine ja_aload_n dparamRow_57 rfl rfl ?_
            refine fg_at (v := u 0 7) rfl dparamRow_58 ?_
            have f5 := gF_at gu
            refine ja_istore_n dparamRow_61 rfl (by decide) (L2 := [(2, (0, (u 0 7))), (0, (2, ((0 : Nat) : Int))), (1, (0, x1))]) rfl ?_
            refine ja_aload_n dparamRow_62 rfl rfl ?_
            refine t_name (by decide) (show (0 : Nat) ≤ 8 by decide) dparamRow_63 gu  ?_ ?_
            · intro k63_0 g6
              replace k63_0 : (u 0 7) < 900 ∧ (u 2 (u 0 7).toNat) = 2 := k63_0
              replace g6 : mo_G Zz (ja_up u 0 7 ((u 0 7) + 1)) := g6
              show mJ l D cA ad 4 cX12_paramRow 3 (some .boolean) 66 [(2, (0, (u 0 7))), (0, (2, ((0 : Nat) : Int))), (1, (0, x1))] [(0, 1)] (ja_up u 0 7 ((u 0 7) + 1)) Q
              refine ja_if_ne 71 dparamRow_66 rfl ⟨by decide, by decide⟩ (fun c66 => ?_) (fun c66 => absurd c66 (by omega))
              refine ja_aload_n dparamRow_71 rfl rfl ?_
              refine ja_iload_n dparamRow_72 rfl rfl ?_
              refine t_param (by decide) (show (0 : Nat) ≤ 8 by decide) dparamRow_73 g6 ⟨by omega, by omega⟩ (show 0 ≤ (u 0 7) ∧ (u 0 7) ≤ 900 by omega) (show (u 0 82) ≤ 6 by omega) ?_
              intro w7 w8 k73_0 g9
              replace k73_0 : 0 ≤ w7 ∧ w7 ≤ 8 ∧ (1 ≤ w7 ∨ w7 = (u 0 11)) ∧ -2147483648 ≤ w8 ∧ w8 ≤ 2147483647 := k73_0
              replace g9 : mo_G Zz (ja_up (ja_up (ja_up (ja_up (ja_up u 0 7 ((u 0 7) + 1)) 0 11 w7) 0 12 w8) 51 ((u 0 82).toNat) (u 0 7)) 0 82 ((u 0 82) + 1)) := g9
              show mJ l D cA ad 4 cX12_paramRow 3 (some .boolean) 76 [(2, (0, (u 0 7))), (0, (2, ((0 : Nat) : Int))), (1, (0, x1))] [] (ja_up (ja_up (ja_up (ja_up (ja_up u 0 7 ((u 0 7) + 1)) 0 11 w7) 0 12 w8) 51 ((u 0 82).toNat) (u 0 7)) 0 82 ((u 0 82) + 1)) Q
              refine ja_aload_n dparamRow_76 rfl rfl ?_
              refine ja_bipush 44 dparamRow_77 rfl ?_
              refine t_isSign (by decide) (show (0 : Nat) ≤ 8 by decide) dparamRow_79 g9 ⟨by decide, by decide⟩ ?_
              intro w10 k79_0
              replace k79_0 : (w10 = 1 ∧ (u 2 ((u 0 7) + 1).toNat) = 5 ∧ (u 5 ((u 0 7) + 1).toNat) = 44) ∨ (w10 = 0 ∧ ¬ ((u 2 ((u 0 7) + 1).toNat) = 5 ∧ (u 5 ((u 0 7) + 1).toNat) = 44)) := k79_0
              refine ja_istore_n dparamRow_82 rfl (by decide) (L2 := [(1, (0, w10)), (2, (0, (u 0 7))), (0, (2, ((0 : Nat) : Int)))]) rfl ?_
              refine ja_iload_n dparamRow_83 rfl rfl ?_
              refine ja_if_eq 96 dparamRow_84 rfl ⟨by omega, by omega⟩ (fun c84 => ?_) (fun c84 => ?_)
              · replace k79_0 := is0 k79_0 c84
                refine ja_goto 31 dparamRow_96 rfl ?_
                exact ja_wk (fun q hq => by simp only [List.mem_cons, List.not_mem_nil, or_false] at hq; rcases hq with rfl | rfl <;> rfl) ((ih ((1000 - ((u 0 7) + 1)).toNat) (by omega)) w10 (ja_up (ja_up (ja_up (ja_up (ja_up u 0 7 ((u 0 7) + 1)) 0 11 w7) 0 12 w8) 51 ((u 0 82).toNat) (u 0 7)) 0 82 ((u 0 82) + 1)) g9 ⟨by omega, by omega⟩ (⟨ag_trans ag (by (repeat (first | exact ag_refl | refine ag_up rfl ?_))), (show (h 0 7) < ((u 0 7) + 1) by omega), (fun z => by have z2 : w7 = 0 := z; omega), (show ((u 0 82) + 1) ≤ 6 by omega), by omega⟩) rfl)
              · have z84 := is1v k79_0 c84
                replace k79_0 := is1 k79_0 c84
                refine ja_aload_n dparamRow_87 rfl rfl ?_
                refine t_take (by decide) (show (0 : Nat) ≤ 8 by decide) dparamRow_88 g9  ?_ ?_
                · intro k88_0 g11
                  replace k88_0 : ((u 0 7) + 1) < 900 := k88_0
                  replace g11 : mo_G Zz (ja_up (ja_up (ja_up (ja_up (ja_up (ja_up u 0 7 ((u 0 7) + 1)) 0 11 w7) 0 12 w8) 51 ((u 0 82).toNat) (u 0 7)) 0 82 ((u 0 82) + 1)) 0 7 (((u 0 7) + 1) + 1)) := g11
                  show mJ l D cA ad 4 cX12_paramRow 3 (some .boolean) 91 [(1, (0, w10)), (2, (0, (u 0 7))), (0, (2, ((0 : Nat) : Int)))] [(0, 1)] (ja_up (ja_up (ja_up (ja_up (ja_up (ja_up u 0 7 ((u 0 7) + 1)) 0 11 w7) 0 12 w8) 51 ((u 0 82).toNat) (u 0 7)) 0 82 ((u 0 82) + 1)) 0 7 (((u 0 7) + 1) + 1)) Q
                  refine ja_if_ne 96 dparamRow_91 rfl ⟨by decide, by decide⟩ (fun c91 => ?_) (fun c91 => absurd c91 (by omega))
                  refine ja_goto 31 dparamRow_96 rfl ?_
                  exact ja_wk (fun q hq => by simp only [List.mem_cons, List.not_mem_nil, or_false] at hq; rcases hq with rfl | rfl <;> rfl) ((ih ((1000 - (((u 0 7) + 1) + 1)).toNat) (by omega)) w10 (ja_up (ja_up (ja_up (ja_up (ja_up (ja_up u 0 7 ((u 0 7) + 1)) 0 11 w7) 0 12 w8) 51 ((u 0 82).toNat) (u 0 7)) 0 82 ((u 0 82) + 1)) 0 7 (((u 0 7) + 1) + 1)) g11 ⟨by omega, by omega⟩ (⟨ag_trans ag (by (repeat (first | exact ag_refl | refine ag_up rfl ?_))), (show (h 0 7) < (((u 0 7) + 1) + 1) by omega), (fun z => by have z2 : w7 = 0 := z; omega), (show ((u 0 82) + 1) ≤ 6 by omega), by omega⟩) rfl)
                · intro h12 k88_1 g13
                  replace k88_1 : 0 < (h12 0 8) ∧ (h12 0 1) = (u 0 1) ∧ (h12 0 118) = (u 0 118) ∧ (h12 0 127) = (u 0 127) := k88_1
                  refine ja_if_ne 96 dparamRow_91 rfl ⟨by decide, by decide⟩ (fun c91 => absurd c91 (by omega)) (fun c91 => ?_)
                  refine ja_iconst dparamRow_94 ?_
                  refine ja_zreturn dparamRow_95 rfl (by omega) ?_
                  exact mo_fin (by omega) rfl (k2 h12 (by omega) g13)
            · intro h14 k63_1 g15
              refine ja_if_ne 71 dparamRow_66 rfl ⟨by decide, by decide⟩ (fun c66 => absurd c66 (by omega)) (fun c66 => ?_)
              refine ja_iconst dparamRow_69 ?_
              refine ja_zreturn dparamRow_70 rfl (by omega) ?_
              exact mo_fin (by omega) rfl (k2 h14 (by omega) g15)
          · have z39 := is1v k36_0 c39
            replace k36_0 := is1 k36_0 c39
            refine ja_aload_n dparamRow_42 rfl rfl ?_
            refine fg_params (v := u 0 82) rfl dparamRow_43 ?_
            have f16 := gF_params gu
            refine ja_bipush 6 dparamRow_46 rfl ?_
            refine ja_icmp_ne 57 dparamRow_48 rfl ⟨by omega, by omega⟩ ⟨by decide, by decide⟩ (fun c48 => ?_) (fun c48 => ?_)
            · refine ja_aload_n dparamRow_57 rfl rfl ?_
              refine fg_at (v := u 0 7) rfl dparamRow_58 ?_
              have f17 := gF_at gu
              refine ja_istore_n dparamRow_61 rfl (by decide) (L2 := [(2, (0, (u 0 7))), (0, (2, ((0 : Nat) : Int))), (1, (0, x1))]) rfl ?_
              refine ja_aload_n dparamRow_62 rfl rfl ?_
              refine t_name (by decide) (show (0 : Nat) ≤ 8 by decide) dparamRow_63 gu  ?_ ?_
              · intro k63_0 g18
                replace k63_0 : (u 0 7) < 900 ∧ (u 2 (u 0 7).toNat) = 2 := k63_0
                replace g18 : mo_G Zz (ja_up u 0 7 ((u 0 7) + 1)) := g18
                show mJ l D cA ad 4 cX12_paramRow 3 (some .boolean) 66 [(2, (0, (u 0 7))), (0, (2, ((0 : Nat) : Int))), (1, (0, x1))] [(0, 1)] (ja_up u 0 7 ((u 0 7) + 1)) Q
                refine ja_if_ne 71 dparamRow_66 rfl ⟨by decide, by decide⟩ (fun c66 => ?_) (fun c66 => absurd c66 (by omega))
                refine ja_aload_n dparamRow_71 rfl rfl ?_
                refine ja_iload_n dparamRow_72 rfl rfl ?_
                refine t_param (by decide) (show (0 : Nat) ≤ 8 by decide) dparamRow_73 g18 ⟨by omega, by omega⟩ (show 0 ≤ (u 0 7) ∧ (u 0 7) ≤ 900 by omega) (show (u 0 82) ≤ 6 by omega) ?_
                intro w19 w20 k73_0 g21
                replace k73_0 : 0 ≤ w19 ∧ w19 ≤ 8 ∧ (1 ≤ w19 ∨ w19 = (u 0 11)) ∧ -2147483648 ≤ w20 ∧ w20 ≤ 2147483647 := k73_0
                replace g21 : mo_G Zz (ja_up (ja_up (ja_up (ja_up (ja_up u 0 7 ((u 0 7) + 1)) 0 11 w19) 0 12 w20) 51 ((u 0 82).toNat) (u 0 7)) 0 82 ((u 0 82) + 1)) := g21
                show mJ l D cA ad 4 cX12_paramRow 3 (some .boolean) 76 [(2, (0, (u 0 7))), (0, (2, ((0 : Nat) : Int))), (1, (0, x1))] [] (ja_up (ja_up (ja_up (ja_up (ja_up u 0 7 ((u 0 7) + 1)) 0 11 w19) 0 12 w20) 51 ((u 0 82).toNat) (u 0 7)) 0 82 ((u 0 82) + 1)) Q
                refine ja_aload_n dparamRow_76 rfl rfl ?_
                refine ja_bipush 44 dparamRow_77 rfl ?_
                refine t_isSign (by decide) (show (0 : Nat) ≤ 8 by decide) dparamRow_79 g21 ⟨by decide, by decide⟩ ?_
                intro w22 k79_0
                replace k79_0 : (w22 = 1 ∧ (u 2 ((u 0 7) + 1).toNat) = 5 ∧ (u 5 ((u 0 7) + 1).toNat) = 44) ∨ (w22 = 0 ∧ ¬ ((u 2 ((u 0 7) + 1).toNat) = 5 ∧ (u 5 ((u 0 7) + 1).toNat) = 44)) := k79_0
                refine ja_istore_n dparamRow_82 rfl (by decide) (L2 := [(1, (0, w22)), (2, (0, (u 0 7))), (0, (2, ((0 : Nat) : Int)))]) rfl ?_
                refine ja_iload_n dparamRow_83 rfl rfl ?_
                refine ja_if_eq 96 dparamRow_84 rfl ⟨by omega, by omega⟩ (fun c84 => ?_) (fun c84 => ?_)
                · replace k79_0 := is0 k79_0 c84
                  refine ja_goto 31 dparamRow_96 rfl ?_
                  exact ja_wk (fun q hq => by simp only [List.mem_cons, List.not_mem_nil, or_false] at hq; rcases hq with rfl | rfl <;> rfl) ((ih ((1000 - ((u 0 7) + 1)).toNat) (by omega)) w22 (ja_up (ja_up (ja_up (ja_up (ja_up u 0 7 ((u 0 7) + 1)) 0 11 w19) 0 12 w20) 51 ((u 0 82).toNat) (u 0 7)) 0 82 ((u 0 82) + 1)) g21 ⟨by omega, by omega⟩ (⟨ag_trans ag (by (repeat (first | exact ag_refl | refine ag_up rfl ?_))), (show (h 0 7) < ((u 0 7) + 1) by omega), (fun z => by have z2 : w19 = 0 := z; omega), (show ((u 0 82) + 1) ≤ 6 by omega), by omega⟩) rfl)
                · have z84 := is1v k79_0 c84
                  replace k79_0 := is1 k79_0 c84
                  refine ja_aload_n dparamRow_87 rfl rfl ?_
                  refine t_take (by decide) (show (0 : Nat) ≤ 8 by decide) dparamRow_88 g21  ?_ ?_
                  · intro k88_0 g23
                    replace k88_0 : ((u 0 7) + 1) < 900 := k88_0
                    replace g23 : mo_G Zz (ja_up (ja_up (ja_up (ja_up (ja_up (ja_up u 0 7 ((u 0 7) + 1)) 0 11 w19) 0 12 w20) 51 ((u 0 82).toNat) (u 0 7)) 0 82 ((u 0 82) + 1)) 0 7 (((u 0 7) + 1) + 1)) := g23
                    show mJ l D cA ad 4 cX12_paramRow 3 (some .boolean) 91 [(1, (0, w22)), (2, (0, (u 0 7))), (0, (2, ((0 : Nat) : Int)))] [(0, 1)] (ja_up (ja_up (ja_up (ja_up (ja_up (ja_up u 0 7 ((u 0 7) + 1)) 0 11 w19) 0 12 w20) 51 ((u 0 82).toNat) (u 0 7)) 0 82 ((u 0 82) + 1)) 0 7 (((u 0 7) + 1) + 1)) Q
                    refine ja_if_ne 96 dparamRow_91 rfl ⟨by decide, by decide⟩ (fun c91 => ?_) (fun c91 => absurd c91 (by omega))
                    refine ja_goto 31 dparamRow_96 rfl ?_
                    exact ja_wk (fun q hq => by simp only [List.mem_cons, List.not_mem_nil, or_false] at hq; rcases hq with rfl | rfl <;> rfl) ((ih ((1000 - (((u 0 7) + 1) + 1)).toNat) (by omega)) w22 (ja_up (ja_up (ja_up (ja_up (ja_up (ja_up u 0 7 ((u 0 7) + 1)) 0 11 w19) 0 12 w20) 51 ((u 0 82).toNat) (u 0 7)) 0 82 ((u 0 82) + 1)) 0 7 (((u 0 7) + 1) + 1)) g23 ⟨by omega, by omega⟩ (⟨ag_trans ag (by (repeat (first | exact ag_refl | refine ag_up rfl ?_))), (show (h 0 7) < (((u 0 7) + 1) + 1) by omega), (fun z => by have z2 : w19 = 0 := z; omega), (show ((u 0 82) + 1) ≤ 6 by omega), by omega⟩) rfl)
                  · intro h24 k88_1 g25
                    replace k88_1 : 0 < (h24 0 8) ∧ (h24 0 1) = (u 0 1) ∧ (h24 0 118) = (u 0 118) ∧ (h24 0 127) = (u 0 127) := k88_1
                    refine ja_if_ne 96 dparamRow_91 rfl ⟨by decide, by decide⟩ (fun c91 => absurd c91 (by omega)) (fun c91 => ?_)
                    refine ja_iconst dparamRow_94 ?_
                    refine ja_zreturn dparamRow_95 rfl (by omega) ?_
                    exact mo_fin (by omega) rfl (k2 h24 (by omega) g25)
              · intro h26 k63_1 g27
                refine ja_if_ne 71 dparamRow_66 rfl ⟨by decide, by decide⟩ (fun c66 => absurd c66 (by omega)) (fun c66 => ?_)
                refine ja_iconst dparamRow_69 ?_
                refine ja_zreturn dparamRow_70 rfl (by omega) ?_
                exact mo_fin (by omega) rfl (k2 h26 (by omega) g27)
            · refine ja_aload_n dparamRow_51 rfl rfl ?_
              refine ja_iconst dparamRow_52 ?_
              refine t_halt (by decide) (show (0 : Nat) ≤ 8 by decide) dparamRow_53 gu ⟨by decide, by decide⟩ (show 1 ≤ 3 ∧ 3 ≤ 8 by omega) ?_
              intro h28 k53_0 g29
              refine ja_zreturn dparamRow_56 rfl (by omega) ?_
              exact mo_fin (by omega) rfl (k2 h28 (by omega) g29)
  refine ja_aload_n dparamRow_0 rfl rfl ?_
  refine ja_iconst dparamRow_1 ?_
  have g30 := gP_params g (x := 0) ⟨by decide, by decide⟩
  refine fp_params dparamRow_2 ?_
  refine ja_aload_n dparamRow_5 rfl rfl ?_
  refine ja_bipush 40 dparamRow_6 rfl ?_
  refine t_sign (by decide) (show (0 : Nat) ≤ 8 by decide) dparamRow_8 g30 ⟨by decide, by decide⟩ ?_ ?_
  · intro k8_0 g31
    replace k8_0 : (h 0 7) < 900 ∧ (h 2 (h 0 7).toNat) = 5 ∧ (h 5 (h 0 7).toNat) = 40 := k8_0
    replace g31 : mo_G Zz (ja_up (ja_up h 0 82 0) 0 7 ((h 0 7) + 1)) := g31
    show mJ l D cA ad 4 cX12_paramRow 3 (some .boolean) 11 [(0, (2, ((0 : Nat) : Int)))] [(0, 1)] (ja_up (ja_up h 0 82 0) 0 7 ((h 0 7) + 1)) Q
    refine ja_if_ne 16 dparamRow_11 rfl ⟨by decide, by decide⟩ (fun c11 => ?_) (fun c11 => absurd c11 (by omega))
    refine ja_aload_n dparamRow_16 rfl rfl ?_
    refine ja_bipush 41 dparamRow_17 rfl ?_
    refine t_isSign (by decide) (show (0 : Nat) ≤ 8 by decide) dparamRow_19 g31 ⟨by decide, by decide⟩ ?_
    intro w32 k19_0
    replace k19_0 : (w32 = 1 ∧ (h 2 ((h 0 7) + 1).toNat) = 5 ∧ (h 5 ((h 0 7) + 1).toNat) = 41) ∨ (w32 = 0 ∧ ¬ ((h 2 ((h 0 7) + 1).toNat) = 5 ∧ (h 5 ((h 0 7) + 1).toNat) = 41)) := k19_0
    refine ja_if_ne 29 dparamRow_22 rfl ⟨by omega, by omega⟩ (fun c22 => ?_) (fun c22 => ?_)
    · have z22 := is1v k19_0 c22
      replace k19_0 := is1 k19_0 c22
      refine ja_iconst dparamRow_29 ?_
      refine ja_istore_n dparamRow_30 rfl (by decide) (L2 := [(1, (0, 0)), (0, (2, ((0 : Nat) : Int)))]) rfl ?_
      exact ja_wk (fun q hq => by simp only [List.mem_cons, List.not_mem_nil, or_false] at hq; rcases hq with rfl | rfl <;> rfl) ((CUT _) 0 (ja_up (ja_up h 0 82 0) 0 7 ((h 0 7) + 1)) g31 ⟨by decide, by decide⟩ (⟨(by (repeat (first | exact ag_refl | refine ag_up rfl ?_))), (show (h 0 7) < ((h 0 7) + 1) by omega), (fun z => by have z2 : (h 0 11) = 0 := z; omega), (show 0 ≤ 6 by omega), by omega⟩) rfl)
    · replace k19_0 := is0 k19_0 c22
      refine ja_iconst dparamRow_25 ?_
      refine ja_goto 30 dparamRow_26 rfl ?_
      refine ja_istore_n dparamRow_30 rfl (by decide) (L2 := [(1, (0, 1)), (0, (2, ((0 : Nat) : Int)))]) rfl ?_
      exact ja_wk (fun q hq => by simp only [List.mem_cons, List.not_mem_nil, or_false] at hq; rcases hq with rfl | rfl <;> rfl) ((CUT _) 1 (ja_up (ja_up h 0 82 0) 0 7 ((h 0 7) + 1)) g31 ⟨by decide, by decide⟩ (⟨(by (repeat (first | exact ag_refl | refine ag_up rfl ?_))), (show (h 0 7) < ((h 0 7) + 1) by omega), (fun z => by have z2 : (h 0 11) = 0 := z; omega), (show 0 ≤ 6 by omega), by omega⟩) rfl)
  · intro h33 k8_1 g34
    replace k8_1 : 0 < (h33 0 8) ∧ (h33 0 1) = (h 0 1) ∧ (h33 0 118) = (h 0 118) ∧ (h33 0 127) = (h 0 127) := k8_1
    refine ja_if_ne 16 dparamRow_11 rfl ⟨by decide, by decide⟩ (fun c11 => absurd c11 (by omega)) (fun c11 => ?_)
    refine ja_iconst dparamRow_14 ?_
    refine ja_zreturn dparamRow_15 rfl (by omega) ?_
    exact mo_fin (by omega) rfl (k2 h33 (by omega) g34)
theorem t_paramRow {d nL pc : Nat} {cc : ByteArray} {rt : Option FieldType} {L : List (Nat × ja_V)} {S : List ja_V} {h : ja_H} {Q : Option ja_V → ja_H → Prop} (hdd : 4 < d) (hwd : ja_wd S ≤ 8) (hd : decode cc pc = .ok (.invokevirtual 754, 3)) (g : mo_G Zz h) (k1 : ∀ (h' : ja_H), (mo_ag FPR h h' ∧ (h 0 7) < (h' 0 7) ∧ ((h' 0 11) = 0 → (h 0 11) = 0) ∧ (h' 0 82) ≤ 6) → mo_G Zz h' → mJ l D cA ad d cc nL rt (pc + 3) L ((0, 1) :: S) h' Q) (k2 : ∀ (h' : ja_H), (0 < (h' 0 8) ∧ (h' 0 1) = (h 0 1) ∧ (h' 0 118) = (h 0 118) ∧ (h' 0 127) = (h 0 127)) → mo_G Zz h' → mJ l D cA ad d cc nL rt (pc + 3) L ((0, 0) :: S) h' Q) : mJ l D cA ad d cc nL rt pc L ((2, ((0 : Nat) : Int)) :: S) h Q :=
  mc_paramRow hdd hwd hd (s_paramRow g k1 k2)
end
