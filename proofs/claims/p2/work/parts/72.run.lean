/-! the reference: what a row holds (written by a program) -/
/-! the reference: what a row holds -/
def BV : Nat := 2000 ^ 1001
theorem evV_b {h : ja_H} (g : mo_G mo_zr h) : evV h < BV := lx_max (evX_b g) 1001
def FHO : Nat → Nat → Bool := mo_X [197, 196, 202, 203, 131, 206, 207] [123, 124, 125, 126, 127, 132, 133, 134, 135, 130, 131, 136, 137, 1]
/-- the row r is being filled -/
def hoR (h u : ja_H) (r : Int) : Prop := (∀ j : Nat, j ≠ r.toNat → (u 123) j = (h 123) j) ∧ (∀ j : Nat, ((j : Int) < 24 * r ∨ 24 * r + 24 ≤ j) → (u 124) j = (h 124) j) ∧ ∀ l : Nat, (l : Int) < (u 123) r.toNat → (u 124) (24 * r.toNat + l) < (h 0 44)
theorem hoR_0 {h : ja_H} {r : Int} : hoR h (ja_up h 123 r.toNat 0) r := by
  refine ⟨fun j hj => mo_upJ hj, fun j _ => rfl, fun l hl => ?_⟩
  rw [mo_upS] at hl; omega
theorem hoR_ag {h u u2 : ja_H} {r : Int} (q : hoR h u r) (ag : mo_ag (mo_F [] [123, 124]) u u2) : hoR h u2 r := by
  have f1 : (u2 123) = (u 123) := funext fun j => ag _ _ rfl
  have f2 : (u2 124) = (u 124) := funext fun j => ag _ _ rfl
  unfold hoR; rw [f1, f2]; exact q
theorem hoR_w {h u : ja_H} {r a k : Int} (q : hoR h u r) (h0 : 0 ≤ r) (hk : k = 24 * r + (u 123) r.toNat) (hm : 0 ≤ (u 123) r.toNat ∧ (u 123) r.toNat ≤ 23) (ha : a < (h 0 44)) : hoR h (ja_up u 124 k.toNat a) r ∧ (ja_up u 124 k.toNat a) 124 k.toNat < (h 0 44) := by
  obtain ⟨q1, q2, q3⟩ := q
  refine ⟨⟨q1, fun j hj => (mo_upJ (by omega)).trans (q2 j hj), fun l hl => ?_⟩, by rw [mo_upS]; exact ha⟩
  have hl2 : (l : Int) < (u 123) r.toNat := hl
  rw [mo_upJ (by omega)]; exact q3 l hl2
theorem hoR_s {h u : ja_H} {r k : Int} (q : hoR h u r) (h0 : 0 ≤ r) (hk : k = 24 * r + (u 123) r.toNat) (hm : 0 ≤ (u 123) r.toNat) (ha : (u 124) k.toNat < (h 0 44)) : hoR h (ja_up u 123 r.toNat ((u 123) r.toNat + 1)) r := by
  obtain ⟨q1, q2, q3⟩ := q
  refine ⟨fun j hj => (mo_upJ hj).trans (q1 j hj), q2, fun l hl => ?_⟩
  rw [mo_upS] at hl
  show (u 124) (24 * r.toNat + l) < (h 0 44)
  by_cases e : (l : Int) = (u 123) r.toNat
  · have e2 : 24 * r.toNat + l = k.toNat := by omega
    rw [e2]; exact ha
  · exact q3 l (by omega)
theorem disHeld_0 : decode cX12_isHeld 0 = .ok (.iconst 0, 1) := by decide +kernel
theorem disHeld_1 : decode cX12_isHeld 1 = .ok (.istore_n 3, 1) := by decide +kernel
theorem disHeld_2 : decode cX12_isHeld 2 = .ok (.iload_n 3, 1) := by decide +kernel
theorem disHeld_3 : decode cX12_isHeld 3 = .ok (.bipush 14, 2) := by decide +kernel
theorem disHeld_5 : decode cX12_isHeld 5 = .ok (.if_icmp .ge 23, 3) := by decide +kernel
theorem disHeld_8 : decode cX12_isHeld 8 = .ok (.aload_n 0, 1) := by decide +kernel
theorem disHeld_9 : decode cX12_isHeld 9 = .ok (.getfield 399, 3) := by decide +kernel
theorem disHeld_12 : decode cX12_isHeld 12 = .ok (.iload_n 3, 1) := by decide +kernel
theorem disHeld_13 : decode cX12_isHeld 13 = .ok (.iconst 0, 1) := by decide +kernel
theorem disHeld_14 : decode cX12_isHeld 14 = .ok (.iastore, 1) := by decide +kernel
theorem disHeld_15 : decode cX12_isHeld 15 = .ok (.aload_n 0, 1) := by decide +kernel
theorem disHeld_16 : decode cX12_isHeld 16 = .ok (.getfield 402, 3) := by decide +kernel
theorem disHeld_19 : decode cX12_isHeld 19 = .ok (.iload_n 3, 1) := by decide +kernel
theorem disHeld_20 : decode cX12_isHeld 20 = .ok (.iconst 0, 1) := by decide +kernel
theorem disHeld_21 : decode cX12_isHeld 21 = .ok (.iastore, 1) := by decide +kernel
theorem disHeld_22 : decode cX12_isHeld 22 = .ok (.iinc 3 1, 3) := by decide +kernel
theorem disHeld_25 : decode cX12_isHeld 25 = .ok (.goto (-23), 3) := by decide +kernel
theorem disHeld_28 : decode cX12_isHeld 28 = .ok (.aload_n 0, 1) := by decide +kernel
theorem disHeld_29 : decode cX12_isHeld 29 = .ok (.iconst 0, 1) := by decide +kernel
theorem disHeld_30 : decode cX12_isHeld 30 = .ok (.putfield 1135, 3) := by decide +kernel
theorem disHeld_33 : decode cX12_isHeld 33 = .ok (.aload_n 0, 1) := by decide +kernel
theorem disHeld_34 : decode cX12_isHeld 34 = .ok (.iload_n 1, 1) := by decide +kernel
theorem disHeld_35 : decode cX12_isHeld 35 = .ok (.iload_n 2, 1) := by decide +kernel
theorem disHeld_36 : decode cX12_isHeld 36 = .ok (.invokevirtual 1138, 3) := by decide +kernel
theorem disHeld_39 : decode cX12_isHeld 39 = .ok (.aload_n 0, 1) := by decide +kernel
theorem disHeld_40 : decode cX12_isHeld 40 = .ok (.getfield 1135, 3) := by decide +kernel
theorem disHeld_43 : decode cX12_isHeld 43 = .ok (.ifCond .le 35, 3) := by decide +kernel
theorem disHeld_46 : decode cX12_isHeld 46 = .ok (.aload_n 0, 1) := by decide +kernel
theorem disHeld_47 : decode cX12_isHeld 47 = .ok (.getfield 1135, 3) := by decide +kernel
theorem disHeld_50 : decode cX12_isHeld 50 = .ok (.iconst 1, 1) := by decide +kernel
theorem disHeld_51 : decode cX12_isHeld 51 = .ok (.isub, 1) := by decide +kernel
theorem disHeld_52 : decode cX12_isHeld 52 = .ok (.istore_n 3, 1) := by decide +kernel
theorem disHeld_53 : decode cX12_isHeld 53 = .ok (.aload_n 0, 1) := by decide +kernel
theorem disHeld_54 : decode cX12_isHeld 54 = .ok (.getfield 408, 3) := by decide +kernel
theorem disHeld_57 : decode cX12_isHeld 57 = .ok (.iload_n 3, 1) := by decide +kernel
theorem disHeld_58 : decode cX12_isHeld 58 = .ok (.iaload, 1) := by decide +kernel
theorem disHeld_59 : decode cX12_isHeld 59 = .ok (.ifCond .ne 11, 3) := by decide +kernel
theorem disHeld_62 : decode cX12_isHeld 62 = .ok (.aload_n 0, 1) := by decide +kernel
theorem disHeld_63 : decode cX12_isHeld 63 = .ok (.iload_n 3, 1) := by decide +kernel
theorem disHeld_64 : decode cX12_isHeld 64 = .ok (.invokevirtual 1141, 3) := by decide +kernel
theorem disHeld_67 : decode cX12_isHeld 67 = .ok (.goto 8, 3) := by decide +kernel
theorem disHeld_70 : decode cX12_isHeld 70 = .ok (.aload_n 0, 1) := by decide +kernel
theorem disHeld_71 : decode cX12_isHeld 71 = .ok (.iload_n 3, 1) := by decide +kernel
theorem disHeld_72 : decode cX12_isHeld 72 = .ok (.invokevirtual 1144, 3) := by decide +kernel
theorem disHeld_75 : decode cX12_isHeld 75 = .ok (.goto (-36), 3) := by decide +kernel
theorem disHeld_78 : decode cX12_isHeld 78 = .ok (.aload_n 0, 1) := by decide +kernel
theorem disHeld_79 : decode cX12_isHeld 79 = .ok (.getfield 1147, 3) := by decide +kernel
theorem disHeld_82 : decode cX12_isHeld 82 = .ok (.ireturn, 1) := by decide +kernel
section
variable {l : Launch} {D : va_G} {cA : Nat → ClassId} {ad : Nat → Nat}
theorem s_isHeld {a1 a2 : Int} {ht st rg : Nat → Int} {h : ja_H} {Q : Option ja_V → ja_H → Prop} (g : mo_G mo_zr h) (r1 : -2147483648 ≤ a1 ∧ a1 ≤ 2147483647) (r2 : -2147483648 ≤ a2 ∧ a2 ≤ 2147483647) (p1 : 0 ≤ a1 ∧ a1 < (h 0 95)) (p2 : 0 ≤ a2 ∧ a2 < (h 0 172)) (p3 : VI h) (p4 : CI h ht st rg) (p5 : RW h) (k1 : ∀ (v : Int) (h' : ja_H), ((0 ≤ v ∧ v ≤ 1) ∧ mo_ag FEVK h h' ∧ VI h') → mo_G mo_zr h' → Q (some (0, v)) h') : mM_isHeld l D cA ad a1 a2 h Q := by
  show mJ l D cA ad 8 cX12_isHeld 4 (some .boolean) 0 [(0, (2, ((0 : Nat) : Int))), (1, (0, a1)), (2, (0, a2))] [] h Q
  have kn_nodes := gF_nodes g
  have kn_reached := gF_reached g
  have CUT : ∀ n : Nat, (∀ (x3 : Int) (u : ja_H), mo_G mo_zr u → (-2147483648 ≤ x3 ∧ x3 ≤ 2147483647) → ((0 ≤ x3 ∧ x3 ≤ 14) ∧ mo_ag FEVK h u ∧ VI u) → (BV + ((20 : Int) - x3).toNat) = n → mJ l D cA ad 8 cX12_isHeld 4 (some .boolean) 2 [(0, (2, ((0 : Nat) : Int))), (1, (0, a1)), (2, (0, a2)), (3, (0, x3))] [] u Q) ∧ (∀ (u : ja_H), mo_G mo_zr u → (mo_ag FEVK h u ∧ VI u ∧ evI u) → (evV u) = n → mJ l D cA ad 8 cX12_isHeld 4 (some .boolean) 39 [(0, (2, ((0 : Nat) : Int)))] [] u Q) := by
    intro n
    induction n using Nat.strongRecOn with
    | _ n ih =>
      refine ⟨?_, ?_⟩
      · intro x3 u gu qx3 iv hm
        subst hm
        have ku_nodes := gF_nodes gu
        have ku_reached := gF_reached gu
        obtain ⟨iv, ag, qv⟩ := iv
        refine ja_iload_n disHeld_2 rfl rfl ?_
        refine ja_bipush 14 disHeld_3 rfl ?_
        refine ja_icmp_ge 28 disHeld_5 rfl ⟨by omega, by omega⟩ ⟨by decide, by decide⟩ (fun c5 => ?_) (fun c5 => ?_)
        · refine ja_aload_n disHeld_28 rfl rfl ?_
          refine ja_iconst disHeld_29 ?_
          have g1 := gP_ev gu (x := 0) ⟨by decide, by decide⟩
          refine fp_ev disHeld_30 ?_
          refine ja_aload_n disHeld_33 rfl rfl ?_
          refine ja_iload_n disHeld_34 rfl rfl ?_
          refine ja_iload_n disHeld_35 rfl rfl ?_
          refine t_ask (by decide) (show (0 : Nat) ≤ 8 by decide) disHeld_36 g1 ⟨by omega, by omega⟩ ⟨by omega, by omega⟩ (show 0 ≤ a1 ∧ a1 ≤ 899 by omega) (show 0 ≤ a2 ∧ a2 ≤ 119 by omega) (show 0 ≤ 999 by omega) ?_
          intro g2
          replace g2 : mo_G mo_zr (ja_up (ja_up (ja_up (ja_up (ja_up (ja_up u 0 202 0) 132 ((0 : Int).toNat) a1) 134 ((0 : Int).toNat) a2) 133 ((0 : Int).toNat) 0) 135 ((0 : Int).toNat) 0) 0 202 (0 + 1)) := g2
          show mJ l D cA ad 8 cX12_isHeld 4 (some .boolean) 39 [(0, (2, ((0 : Nat) : Int))), (1, (0, a1)), (2, (0, a2)), (3, (0, x3))] [] (ja_up (ja_up (ja_up (ja_up (ja_up (ja_up u 0 202 0) 132 ((0 : Int).toNat) a1) 134 ((0 : Int).toNat) a2) 133 ((0 : Int).toNat) 0) 135 ((0 : Int).toNat) 0) 0 202 (0 + 1)) Q
          exact ja_wk (fun q hq => by simp only [List.mem_cons, List.not_mem_nil, or_false] at hq; rcases hq with rfl <;> rfl) ((ih (evV (ja_up (ja_up (ja_up (ja_up (ja_up (ja_up u 0 202 0) 132 ((0 : Int).toNat) a1) 134 ((0 : Int).toNat) a2) 133 ((0 : Int).toNat) 0) 135 ((0 : Int).toNat) 0) 0 202 (0 + 1))) ((Nat.lt_of_lt_of_le (evV_b g2) (Nat.le_add_right _ _)))).2 (ja_up (ja_up (ja_up (ja_up (ja_up (ja_up u 0 202 0) 132 ((0 : Int).toNat) a1) 134 ((0 : Int).toNat) a2) 133 ((0 : Int).toNat) 0) 135 ((0 : Int).toNat) 0) 0 202 (0 + 1)) g2  (⟨(ag_trans ag (by (repeat (first | exact ag_refl | refine ag_up rfl ?_)))), (by (repeat (first | exact qv | refine vi_set (by decide) (by decide) (by decide) ?_ (by first | exact (fun z => absurd z (by decide)) | exact vi_aS qv (by decide) _ | exact (fun z => ⟨by omega, hca⟩) | exact (fun z => ⟨by omega, hca z⟩) | (intro z; exfalso; omega)) | refine vi_res ?_ (by first | exact (fun z => absurd z (by decide)) | exact vi_aS qv (by decide) _ | exact (fun z => ⟨by omega, hca⟩) | exact (fun z => ⟨by omega, hca z⟩) | (intro z; exfalso; omega)) | refine vi_arr (by decide) (by decide) ?_ | refine vi_up (by decide) (by decide) ?_))), (ev_one (u := h) (n := a1) (r := a2) g (ag_trans ag (by (repeat (first | exact ag_refl | refine ag_up rfl ?_)))) ⟨by omega, by omega⟩ ⟨by omega, by omega⟩ (show ((0 + 1) : Int) = 1 by omega) (by simp [ja_up]) (by simp [ja_up]) (by simp [ja_up]) (by simp [ja_up]))⟩) rfl)
        · refine ja_aload_n disHeld_8 rfl rfl ?_
          refine fa_bindKind disHeld_9 ?_
          refine ja_iload_n disHeld_12 rfl rfl ?_
          refine ja_iconst disHeld_13 ?_
          have g3 := gW_bindKind gu (x3).toNat (x := 0) ⟨by decide, by decide⟩
          refine is_bindKind ⟨by omega, by omega⟩ disHeld_14 ?_
          refine ja_aload_n disHeld_15 rfl rfl ?_
          refine fa_bindValue disHeld_16 ?_
          refine ja_iload_n disHeld_19 rfl rfl ?_
          refine ja_iconst disHeld_20 ?_
          have g4 := gW_bindValue g3 (x3).toNat (x := 0) ⟨by decide, by decide⟩
          refine is_bindValue ⟨by omega, by omega⟩ disHeld_21 ?_
          refine ja_iinc disHeld_22 rfl (by decide) (L2 := [(3, (0, (x3 + 1))), (0, (2, ((0 : Nat) : Int))), (1, (0, a1)), (2, (0, a2))]) rfl ?_
          refine ja_goto 2 disHeld_25 rfl ?_
          exact ja_wk (fun q hq => by simp only [List.mem_cons, List.not_mem_nil, or_false] at hq; rcases hq with rfl | rfl | rfl | rfl <;> rfl) ((ih (BV + ((20 : Int) - (x3 + 1)).toNat) (by omega)).1 (x3 + 1) (ja_up (ja_up u 130 ((x3).toNat) 0) 131 ((x3).toNat) 0) g4 ⟨by omega, by omega⟩ (⟨by omega, (ag_trans ag (by (repeat (first | exact ag_refl | refine ag_up rfl ?_)))), (by (repeat (first | exact qv | refine vi_set (by decide) (by decide) (by decide) ?_ (by first | exact (fun z => absurd z (by decide)) | exact vi_aS qv (by decide) _ | exact (fun z => ⟨by omega, hca⟩) | exact (fun z => ⟨by omega, hca z⟩) | (intro z; exfalso; omega)) | refine vi_res ?_ (by first | exact (fun z => absurd z (by decide)) | exact vi_aS qv (by decide) _ | exact (fun z => ⟨by omega, hca⟩) | exact (fun z => ⟨by omega, hca z⟩) | (intro z; exfalso; omega)) | refine vi_arr (by decide) (by decide) ?_ | refine vi_up (by decide) (by decide) ?_)))⟩) rfl)
      · intro u gu iv hm
        subst hm
        have ku_nodes := gF_nodes gu
        have ku_reached := gF_reached gu
        obtain ⟨ag, qv, qe⟩ := iv
        have kev := gF_ev gu
        refine ja_aload_n disHeld_39 rfl rfl ?_
        refine fg_ev (v := u 0 202) rfl disHeld_40 ?_
        have f5 := gF_ev gu
        refine ja_if_le 78 disHeld_43 rfl ⟨by omega, by omega⟩ (fun c43 => ?_) (fun c43 => ?_)
        · refine ja_aload_n disHeld_78 rfl rfl ?_
          refine fg_isSo (v := u 0 203) rfl disHeld_79 ?_
          have f6 := gF_isSo gu
          refine ja_zreturn disHeld_82 rfl (by omega) ?_
          exact mo_fin (by omega) rfl (k1 (u 0 203) u (⟨by omega, ag, qv⟩) gu)
        · refine ja_aload_n disHeld_46 rfl rfl ?_
          refine fg_ev (v := u 0 202) rfl disHeld_47 ?_
          refine ja_iconst disHeld_50 ?_
          refine ja_isub disHeld_51 ?_
          refine ja_istore_n disHeld_52 rfl (by decide) (L2 := [(3, (0, ((u 0 202) - 1))), (0, (2, ((0 : Nat) : Int)))]) rfl ?_
          refine ja_aload_n disHeld_53 rfl rfl ?_
          refine fa_evState disHeld_54 ?_
          refine ja_iload_n disHeld_57 rfl rfl ?_
          refine il_evState (v := u 133 ((u 0 202) - 1).toNat) rfl ⟨by omega, by omega⟩ disHeld_58 ?_
          have f7 := gC_evState gu ((u 0 202) - 1).toNat
          refine ja_if_ne 70 disHeld_59 rfl ⟨by omega, by omega⟩ (fun c59 => ?_) (fun c59 => ?_)
          · refine ja_aload_n disHeld_70 rfl rfl ?_
            refine ja_iload_n disHeld_71 rfl rfl ?_
            refine t_next (by decide) (show (0 : Nat) ≤ 8 by decide) disHeld_72 gu ⟨by omega, by omega⟩ (show ((u 0 202) - 1) = (u 0 202) - 1 by omega) (show 1 ≤ (u 0 202) by omega) (show ¬ (u 133 ((u 0 202) - 1).toNat) = 0 by omega) (qv) ((ci_g p4 (ag_sub (X_sub (by decide) (by decide)) ag))) (qe) ((rw_ag (ag_sub (X_sub (by decide) (by decide)) ag) p5)) ?_
            intro h8 k72_0 g9
            refine ja_goto 39 disHeld_75 rfl ?_
            exact ja_wk (fun q hq => by simp only [List.mem_cons, List.not_mem_nil, or_false] at hq; rcases hq with rfl <;> rfl) ((ih (evV h8) (k72_0.1.2)).2 h8 g9  (⟨(ag_trans ag k72_0.2.1), k72_0.2.2, k72_0.1.1⟩) rfl)
          · refine ja_aload_n disHeld_62 rfl rfl ?_
            refine ja_iload_n disHeld_63 rfl rfl ?_
            refine t_first (by decide) (show (0 : Nat) ≤ 8 by decide) disHeld_64 gu ⟨by omega, by omega⟩ (show ((u 0 202) - 1) = (u 0 202) - 1 by omega) (show 1 ≤ (u 0 202) by omega) (show (u 133 ((u 0 202) - 1).toNat) = 0 by omega) (qv) ((ci_g p4 (ag_sub (X_sub (by decide) (by decide)) ag))) (qe) ((rw_ag (ag_sub (X_sub (by decide) (by decide)) ag) p5)) ?_
            intro h10 k64_0 g11
            refine ja_goto 75 disHeld_67 rfl ?_
            refine ja_goto 39 disHeld_75 rfl ?_
            exact ja_wk (fun q hq => by simp only [List.mem_cons, List.not_mem_nil, or_false] at hq; rcases hq with rfl <;> rfl) ((ih (evV h10) (k64_0.1.2)).2 h10 g11  (⟨(ag_trans ag k64_0.2.1), k64_0.2.2, k64_0.1.1⟩) rfl)
  refine ja_iconst disHeld_0 ?_
  refine ja_istore_n disHeld_1 rfl (by decide) (L2 := [(3, (0, 0)), (0, (2, ((0 : Nat) : Int))), (1, (0, a1)), (2, (0, a2))]) rfl ?_
  exact ja_wk (fun q hq => by simp only [List.mem_cons, List.not_mem_nil, or_false] at hq; rcases hq with rfl | rfl | rfl | rfl <;> rfl) ((CUT _).1 0 h g ⟨by decide, by decide⟩ (⟨by omega, ag_refl, p3⟩) rfl)
theorem t_isHeld {a1 a2 : Int} {ht st rg : Nat → Int} {d nL pc : Nat} {cc : ByteArray} {rt : Option FieldType} {L : List (Nat × ja_V)} {S : List ja_V} {h : ja_H} {Q : Option ja_V → ja_H → Prop} (hdd : 8 < d) (hwd : ja_wd S ≤ 8) (hd : decode cc pc = .ok (.invokevirtual 1132, 3)) (g : mo_G mo_zr h) (r1 : -2147483648 ≤ a1 ∧ a1 ≤ 2147483647) (r2 : -2147483648 ≤ a2 ∧ a2 ≤ 2147483647) (p1 : 0 ≤ a1 ∧ a1 < (h 0 95)) (p2 : 0 ≤ a2 ∧ a2 < (h 0 172)) (p3 : VI h) (p4 : CI h ht st rg) (p5 : RW h) (k1 : ∀ (v : Int) (h' : ja_H), ((0 ≤ v ∧ v ≤ 1) ∧ mo_ag FEVK h h' ∧ VI h') → mo_G mo_zr h' → mJ l D cA ad d cc nL rt (pc + 3) L ((0, v) :: S) h' Q) : mJ l D cA ad d cc nL rt pc L ((0, a2) :: (0, a1) :: (2, ((0 : Nat) : Int)) :: S) h Q :=
  mc_isHeld hdd hwd hd (s_isHeld g r1 r2 p1 p2 p3 p4 p5 k1)
end
theorem dhold_0 : decode cX12_hold 0 = .ok (.aload_n 0, 1) := by decide +kernel
theorem dhold_1 : decode cX12_hold 1 = .ok (.getfield 378, 3) := by decide +kernel
theorem dhold_4 : decode cX12_hold 4 = .ok (.iload_n 1, 1) := by decide +kernel
theorem dhold_5 : decode cX12_hold 5 = .ok (.iconst 0, 1) := by decide +kernel
theorem dhold_6 : decode cX12_hold 6 = .ok (.iastore, 1) := by decide +kernel
theorem dhold_7 : decode cX12_hold 7 = .ok (.iconst 0, 1) := by decide +kernel
theorem dhold_8 : decode cX12_hold 8 = .ok (.istore_n 2, 1) := by decide +kernel
theorem dhold_9 : decode cX12_hold 9 = .ok (.iload_n 2, 1) := by decide +kernel
theorem dhold_10 : decode cX12_hold 10 = .ok (.aload_n 0, 1) := by decide +kernel
theorem dhold_11 : decode cX12_hold 11 = .ok (.getfield 662, 3) := by decide +kernel
theorem dhold_14 : decode cX12_hold 14 = .ok (.if_icmp .ge 206, 3) := by decide +kernel
theorem dhold_17 : decode cX12_hold 17 = .ok (.aload_n 0, 1) := by decide +kernel
theorem dhold_18 : decode cX12_hold 18 = .ok (.getfield 252, 3) := by decide +kernel
theorem dhold_21 : decode cX12_hold 21 = .ok (.iload_n 2, 1) := by decide +kernel
theorem dhold_22 : decode cX12_hold 22 = .ok (.iaload, 1) := by decide +kernel
theorem dhold_23 : decode cX12_hold 23 = .ok (.istore_n 3, 1) := by decide +kernel
theorem dhold_24 : decode cX12_hold 24 = .ok (.aload_n 0, 1) := by decide +kernel
theorem dhold_25 : decode cX12_hold 25 = .ok (.aload_n 0, 1) := by decide +kernel
theorem dhold_26 : decode cX12_hold 26 = .ok (.getfield 95, 3) := by decide +kernel
theorem dhold_29 : decode cX12_hold 29 = .ok (.iload_n 3, 1) := by decide +kernel
theorem dhold_30 : decode cX12_hold 30 = .ok (.iaload, 1) := by decide +kernel
theorem dhold_31 : decode cX12_hold 31 = .ok (.putfield 1126, 3) := by decide +kernel
theorem dhold_34 : decode cX12_hold 34 = .ok (.aload_n 0, 1) := by decide +kernel
theorem dhold_35 : decode cX12_hold 35 = .ok (.iconst 0, 1) := by decide +kernel
theorem dhold_36 : decode cX12_hold 36 = .ok (.putfield 1129, 3) := by decide +kernel
theorem dhold_39 : decode cX12_hold 39 = .ok (.iconst 1, 1) := by decide +kernel
theorem dhold_40 : decode cX12_hold 40 = .ok (.istore 4, 2) := by decide +kernel
theorem dhold_42 : decode cX12_hold 42 = .ok (.aload_n 0, 1) := by decide +kernel
theorem dhold_43 : decode cX12_hold 43 = .ok (.getfield 49, 3) := by decide +kernel
theorem dhold_46 : decode cX12_hold 46 = .ok (.aload_n 0, 1) := by decide +kernel
theorem dhold_47 : decode cX12_hold 47 = .ok (.getfield 1126, 3) := by decide +kernel
theorem dhold_50 : decode cX12_hold 50 = .ok (.baload, 1) := by decide +kernel
theorem dhold_51 : decode cX12_hold 51 = .ok (.ifCond .eq 46, 3) := by decide +kernel
theorem dhold_54 : decode cX12_hold 54 = .ok (.aload_n 0, 1) := by decide +kernel
theorem dhold_55 : decode cX12_hold 55 = .ok (.aload_n 0, 1) := by decide +kernel
theorem dhold_56 : decode cX12_hold 56 = .ok (.getfield 360, 3) := by decide +kernel
theorem dhold_59 : decode cX12_hold 59 = .ok (.iload_n 1, 1) := by decide +kernel
theorem dhold_60 : decode cX12_hold 60 = .ok (.iaload, 1) := by decide +kernel
theorem dhold_61 : decode cX12_hold 61 = .ok (.iconst 2, 1) := by decide +kernel
theorem dhold_62 : decode cX12_hold 62 = .ok (.if_icmp .ne 12, 3) := by decide +kernel
theorem dhold_65 : decode cX12_hold 65 = .ok (.aload_n 0, 1) := by decide +kernel
theorem dhold_66 : decode cX12_hold 66 = .ok (.getfield 363, 3) := by decide +kernel
theorem dhold_69 : decode cX12_hold 69 = .ok (.iload_n 1, 1) := by decide +kernel
theorem dhold_70 : decode cX12_hold 70 = .ok (.iaload, 1) := by decide +kernel
theorem dhold_71 : decode cX12_hold 71 = .ok (.goto 9, 3) := by decide +kernel
theorem dhold_74 : decode cX12_hold 74 = .ok (.aload_n 0, 1) := by decide +kernel
theorem dhold_75 : decode cX12_hold 75 = .ok (.getfield 357, 3) := by decide +kernel
theorem dhold_78 : decode cX12_hold 78 = .ok (.iload_n 1, 1) := by decide +kernel
theorem dhold_79 : decode cX12_hold 79 = .ok (.iaload, 1) := by decide +kernel
theorem dhold_80 : decode cX12_hold 80 = .ok (.putfield 1129, 3) := by decide +kernel
theorem dhold_83 : decode cX12_hold 83 = .ok (.aload_n 0, 1) := by decide +kernel
theorem dhold_84 : decode cX12_hold 84 = .ok (.getfield 1129, 3) := by decide +kernel
theorem dhold_87 : decode cX12_hold 87 = .ok (.ifCond .le 7, 3) := by decide +kernel
theorem dhold_90 : decode cX12_hold 90 = .ok (.iconst 1, 1) := by decide +kernel
theorem dhold_91 : decode cX12_hold 91 = .ok (.goto 4, 3) := by decide +kernel
theorem dhold_94 : decode cX12_hold 94 = .ok (.iconst 0, 1) := by decide +kernel
theorem dhold_95 : decode cX12_hold 95 = .ok (.istore 4, 2) := by decide +kernel
theorem dhold_97 : decode cX12_hold 97 = .ok (.iload 4, 2) := by decide +kernel
theorem dhold_99 : decode cX12_hold 99 = .ok (.ifCond .eq 115, 3) := by decide +kernel
theorem dhold_102 : decode cX12_hold 102 = .ok (.aload_n 0, 1) := by decide +kernel
theorem dhold_103 : decode cX12_hold 103 = .ok (.aload_n 0, 1) := by decide +kernel
theorem dhold_104 : decode cX12_hold 104 = .ok (.getfield 101, 3) := by decide +kernel
theorem dhold_107 : decode cX12_hold 107 = .ok (.iload_n 3, 1) := by decide +kernel
theorem dhold_108 : decode cX12_hold 108 = .ok (.iaload, 1) := by decide +kernel
theorem dhold_109 : decode cX12_hold 109 = .ok (.iload_n 1, 1) := by decide +kernel
theorem dhold_110 : decode cX12_hold 110 = .ok (.invokevirtual 1132, 3) := by decide +kernel
theorem dhold_113 : decode cX12_hold 113 = .ok (.ifCond .eq 101, 3) := by decide +kernel
theorem dhold_116 : decode cX12_hold 116 = .ok (.bipush 24, 2) := by decide +kernel
theorem dhold_118 : decode cX12_hold 118 = .ok (.iload_n 1, 1) := by decide +kernel
theorem dhold_119 : decode cX12_hold 119 = .ok (.imul, 1) := by decide +kernel
theorem dhold_120 : decode cX12_hold 120 = .ok (.aload_n 0, 1) := by decide +kernel
theorem dhold_121 : decode cX12_hold 121 = .ok (.getfield 378, 3) := by decide +kernel
theorem dhold_124 : decode cX12_hold 124 = .ok (.iload_n 1, 1) := by decide +kernel
theorem dhold_125 : decode cX12_hold 125 = .ok (.iaload, 1) := by decide +kernel
theorem dhold_126 : decode cX12_hold 126 = .ok (.iadd, 1) := by decide +kernel
theorem dhold_127 : decode cX12_hold 127 = .ok (.istore 5, 2) := by decide +kernel
theorem dhold_129 : decode cX12_hold 129 = .ok (.aload_n 0, 1) := by decide +kernel
theorem dhold_130 : decode cX12_hold 130 = .ok (.getfield 381, 3) := by decide +kernel
theorem dhold_133 : decode cX12_hold 133 = .ok (.iload 5, 2) := by decide +kernel
theorem dhold_135 : decode cX12_hold 135 = .ok (.iload_n 3, 1) := by decide +kernel
theorem dhold_136 : decode cX12_hold 136 = .ok (.iastore, 1) := by decide +kernel
theorem dhold_137 : decode cX12_hold 137 = .ok (.aload_n 0, 1) := by decide +kernel
theorem dhold_138 : decode cX12_hold 138 = .ok (.getfield 384, 3) := by decide +kernel
theorem dhold_141 : decode cX12_hold 141 = .ok (.iload 5, 2) := by decide +kernel
theorem dhold_143 : decode cX12_hold 143 = .ok (.aload_n 0, 1) := by decide +kernel
theorem dhold_144 : decode cX12_hold 144 = .ok (.getfield 1129, 3) := by decide +kernel
theorem dhold_147 : decode cX12_hold 147 = .ok (.iastore, 1) := by decide +kernel
theorem dhold_148 : decode cX12_hold 148 = .ok (.iconst 0, 1) := by decide +kernel
theorem dhold_149 : decode cX12_hold 149 = .ok (.istore 6, 2) := by decide +kernel
theorem dhold_151 : decode cX12_hold 151 = .ok (.iload 6, 2) := by decide +kernel
theorem dhold_153 : decode cX12_hold 153 = .ok (.bipush 7, 2) := by decide +kernel
theorem dhold_155 : decode cX12_hold 155 = .ok (.if_icmp .ge 49, 3) := by decide +kernel
theorem dhold_158 : decode cX12_hold 158 = .ok (.aload_n 0, 1) := by decide +kernel
theorem dhold_159 : decode cX12_hold 159 = .ok (.getfield 387, 3) := by decide +kernel
theorem dhold_162 : decode cX12_hold 162 = .ok (.bipush 7, 2) := by decide +kernel
theorem dhold_164 : decode cX12_hold 164 = .ok (.iload 5, 2) := by decide +kernel
theorem dhold_166 : decode cX12_hold 166 = .ok (.imul, 1) := by decide +kernel
theorem dhold_167 : decode cX12_hold 167 = .ok (.iload 6, 2) := by decide +kernel
theorem dhold_169 : decode cX12_hold 169 = .ok (.iadd, 1) := by decide +kernel
theorem dhold_170 : decode cX12_hold 170 = .ok (.aload_n 0, 1) := by decide +kernel
theorem dhold_171 : decode cX12_hold 171 = .ok (.getfield 399, 3) := by decide +kernel
theorem dhold_174 : decode cX12_hold 174 = .ok (.iload 6, 2) := by decide +kernel
theorem dhold_176 : decode cX12_hold 176 = .ok (.iaload, 1) := by decide +kernel
theorem dhold_177 : decode cX12_hold 177 = .ok (.iastore, 1) := by decide +kernel
theorem dhold_178 : decode cX12_hold 178 = .ok (.aload_n 0, 1) := by decide +kernel
theorem dhold_179 : decode cX12_hold 179 = .ok (.getfield 390, 3) := by decide +kernel
theorem dhold_182 : decode cX12_hold 182 = .ok (.bipush 7, 2) := by decide +kernel
theorem dhold_184 : decode cX12_hold 184 = .ok (.iload 5, 2) := by decide +kernel
theorem dhold_186 : decode cX12_hold 186 = .ok (.imul, 1) := by decide +kernel
theorem dhold_187 : decode cX12_hold 187 = .ok (.iload 6, 2) := by decide +kernel
theorem dhold_189 : decode cX12_hold 189 = .ok (.iadd, 1) := by decide +kernel
theorem dhold_190 : decode cX12_hold 190 = .ok (.aload_n 0, 1) := by decide +kernel
theorem dhold_191 : decode cX12_hold 191 = .ok (.getfield 402, 3) := by decide +kernel
theorem dhold_194 : decode cX12_hold 194 = .ok (.iload 6, 2) := by decide +kernel
theorem dhold_196 : decode cX12_hold 196 = .ok (.iaload, 1) := by decide +kernel
theorem dhold_197 : decode cX12_hold 197 = .ok (.iastore, 1) := by decide +kernel
theorem dhold_198 : decode cX12_hold 198 = .ok (.iinc 6 1, 3) := by decide +kernel
theorem dhold_201 : decode cX12_hold 201 = .ok (.goto (-50), 3) := by decide +kernel
theorem dhold_204 : decode cX12_hold 204 = .ok (.aload_n 0, 1) := by decide +kernel
theorem dhold_205 : decode cX12_hold 205 = .ok (.getfield 378, 3) := by decide +kernel
theorem dhold_208 : decode cX12_hold 208 = .ok (.iload_n 1, 1) := by decide +kernel
theorem dhold_209 : decode cX12_hold 209 = .ok (.dup2, 1) := by decide +kernel
theorem dhold_210 : decode cX12_hold 210 = .ok (.iaload, 1) := by decide +kernel
theorem dhold_211 : decode cX12_hold 211 = .ok (.iconst 1, 1) := by decide +kernel
theorem dhold_212 : decode cX12_hold 212 = .ok (.iadd, 1) := by decide +kernel
theorem dhold_213 : decode cX12_hold 213 = .ok (.iastore, 1) := by decide +kernel
theorem dhold_214 : decode cX12_hold 214 = .ok (.iinc 2 1, 3) := by decide +kernel
theorem dhold_217 : decode cX12_hold 217 = .ok (.goto (-208), 3) := by decide +kernel
theorem dhold_220 : decode cX12_hold 220 = .ok (.return_, 1) := by decide +kernel
section
variable {l : Launch} {D : va_G} {cA : Nat → ClassId} {ad : Nat → Nat}
theorem s_hold {a1 : Int} {ht st rg : Nat → Int} {h : ja_H} {Q : Option ja_V → ja_H → Prop} (g : mo_G mo_zr h) (r1 : -2147483648 ≤ a1 ∧ a1 ≤ 2147483647) (p1 : 0 ≤ a1 ∧ a1 < (h 0 172)) (p2 : VI h) (p3 : CI h ht st rg) (p4 : RW h) (k1 : ∀ (h' : ja_H), (mo_ag FHO h h' ∧ VI h' ∧ hoR h h' a1) → mo_G mo_zr h' → Q none h') : mM_hold l D cA ad a1 h Q := by
  show mJ l D cA ad 9 cX12_hold 7 none 0 [(0, (2, ((0 : Nat) : Int))), (1, (0, a1))] [] h Q
  have kn_advices := gF_advices g
  have kn_reached := gF_reached g
  have CUT : ∀ n : Nat, (∀ (x2 : Int) (u : ja_H), mo_G mo_zr u → (-2147483648 ≤ x2 ∧ x2 ≤ 2147483647) → ((0 ≤ x2 ∧ x2 ≤ (h 0 44) ∧ (u 123 (a1).toNat) ≤ x2) ∧ mo_ag FHO h u ∧ VI u ∧ hoR h u a1) → (((100 : Int) * ((30 : Int) - x2)).toNat) = n → mJ l D cA ad 9 cX12_hold 7 none 9 [(0, (2, ((0 : Nat) : Int))), (1, (0, a1)), (2, (0, x2))] [] u Q) ∧ (∀ (x2 x5 x6 : Int) (u : ja_H), mo_G mo_zr u → (-2147483648 ≤ x2 ∧ x2 ≤ 2147483647) → (-2147483648 ≤ x5 ∧ x5 ≤ 2147483647) → (-2147483648 ≤ x6 ∧ x6 ≤ 2147483647) → ((0 ≤ x2 ∧ x2 < (h 0 44) ∧ (u 123 (a1).toNat) ≤ x2 ∧ 0 ≤ x6 ∧ x6 ≤ 7) ∧ mo_ag FHO h u ∧ VI u ∧ hoR h u a1 ∧ x5 = 24 * a1 + (u 123 (a1).toNat) ∧ (u 124) (x5).toNat < (h 0 44)) → (((100 : Int) * ((30 : Int) - x2) - 1 - x6).toNat) = n → mJ l D cA ad 9 cX12_hold 7 none 151 [(0, (2, ((0 : Nat) : Int))), (1, (0, a1)), (2, (0, x2)), (5, (0, x5)), (6, (0, x6))] [] u Q) := by
    intro n
    induction n using Nat.strongRecOn with
    | _ n ih =>
      refine ⟨?_, ?_⟩
      · intro x2 u gu qx2 iv hm
        subst hm
        have ku_advices := gF_advices gu
        have ku_reached := gF_reached gu
        obtain ⟨iv, ag, qv, qh⟩ := iv
        have e_advices : (u 0 44) = (h 0 44) := ag 0 44 rfl
        have e_reached : (u 0 172) = (h 0 172) := ag 0 172 rfl
        have e_nodes : (u 0 95) = (h 0 95) := ag 0 95 rfl
        have ghm := gC_heldMany gu (a1).toNat
        refine ja_iload_n dhold_9 rfl rfl ?_
        refine ja_aload_n dhold_10 rfl rfl ?_
        refine fg_advices (v := u 0 44) rfl dhold_11 ?_
        have f1 := gF_advices gu
        refine ja_icmp_ge 220 dhold_14 rfl ⟨by omega, by omega⟩ ⟨by omega, by omega⟩ (fun c14 => ?_) (fun c14 => ?_)
        · refine ja_return dhold_220 rfl ?_
          exact k1 u (⟨ag, qv, qh⟩) gu
        · refine ja_aload_n dhold_17 rfl rfl ?_
          refine fa_ordered dhold_18 ?_
          refine ja_iload_n dhold_21 rfl rfl ?_
          refine il_ordered (v := u 81 (x2).toNat) rfl ⟨by omega, by omega⟩ dhold_22 ?_
          have f2 := gC_ordered gu (x2).toNat
          refine ja_istore_n dhold_23 rfl (by decide) (L2 := [(3, (0, (u 81 (x2).toNat))), (0, (2, ((0 : Nat) : Int))), (1, (0, a1)), (2, (0, x2))]) rfl ?_
          have hor := p3.2.2.2.2.2.2.1 (x2).toNat (by omega)
          have eor : (u 81) (x2).toNat = (h 81) (x2).toNat := ag 81 _ rfl
          have gor := gC_ordered gu (x2).toNat
          have hrt := (p3.2.2.2.2.1.2.1 ((u 81) (x2).toNat).toNat (by omega)).2.1
          have ert : (u 31) ((u 81) (x2).toNat).toNat = (h 31) ((u 81) (x2).toNat).toNat := ag 31 _ rfl
          have grt := gC_adviceRoot gu ((u 81) (x2).toNat).toNat
          refine ja_aload_n dhold_24 rfl rfl ?_
          refine ja_aload_n dhold_25 rfl rfl ?_
          refine fa_adviceAspect dhold_26 ?_
          refine ja_iload_n dhold_29 rfl rfl ?_
          refine il_adviceAspect (v := u 29 (u 81 (x2).toNat).toNat) rfl ⟨by omega, by omega⟩ dhold_30 ?_
          have f3 := gC_adviceAspect gu (u 81 (x2).toNat).toNat
          have g4 := gP_askedAspect gu (x := u 29 (u 81 (x2).toNat).toNat) ⟨by omega, by omega⟩
          refine fp_askedAspect dhold_31 ?_
          refine ja_aload_n dhold_34 rfl rfl ?_
          refine ja_iconst dhold_35 ?_
          have g5 := gP_askedFor g4 (x := 0) ⟨by decide, by decide⟩
          refine fp_askedFor dhold_36 ?_
          refine ja_iconst dhold_39 ?_
          refine ja_istore dhold_40 (by decide) (L2 := [(4, (0, 1)), (3, (0, (u 81 (x2).toNat))), (0, (2, ((0 : Nat) : Int))), (1, (0, a1)), (2, (0, x2))]) rfl ?_
          refine ja_aload_n dhold_42 rfl rfl ?_
          refine fa_aspectEach dhold_43 ?_
          refine ja_aload_n dhold_46 rfl rfl ?_
          refine fg_askedAspect (v := u 29 (u 81 (x2).toNat).toNat) rfl dhold_47 ?_
          refine il_aspectEach (v := u 14 (u 29 (u 81 (x2).toNat).toNat).toNat) rfl ⟨by omega, by omega⟩ dhold_50 ?_
          have f6 := gC_aspectEach gu (u 29 (u 81 (x2).toNat).toNat).toNat
          refine ja_if_eq 97 dhold_51 rfl ⟨by omega, by omega⟩ (fun c51 => ?_) (fun c51 => ?_)
          · refine ja_iload dhold_97 rfl ?_
            refine ja_if_eq 214 dhold_99 rfl ⟨by decide, by decide⟩ (fun c99 => absurd c99 (by omega)) (fun c99 => ?_)
            refine ja_aload_n dhold_102 rfl rfl ?_
            refine ja_aload_n dhold_103 rfl rfl ?_
            refine fa_adviceRoot dhold_104 ?_
            refine ja_iload_n dhold_107 rfl rfl ?_
            refine il_adviceRoot (v := u 31 (u 81 (x2).toNat).toNat) rfl ⟨by omega, by omega⟩ dhold_108 ?_
            have f7 := gC_adviceRoot gu (u 81 (x2).toNat).toNat
            refine ja_iload_n dhold_109 rfl rfl ?_
            refine t_isHeld (by decide) (show (0 : Nat) ≤ 8 by decide) dhold_110 g5 ⟨by omega, by omega⟩ ⟨by omega, by omega⟩ (show 0 ≤ (u 31 (u 81 (x2).toNat).toNat) ∧ (u 31 (u 81 (x2).toNat).toNat) < (u 0 95) by omega) (show 0 ≤ a1 ∧ a1 < (u 0 172) by omega) ((by (repeat (first | exact qv | refine vi_set (by decide) (by decide) (by decide) ?_ (by first | exact (fun z => absurd z (by decide)) | exact vi_aS qv (by decide) _ | exact (fun z => ⟨by omega, hca⟩) | exact (fun z => ⟨by omega, hca z⟩) | (intro z; exfalso; omega)) | refine vi_res ?_ (by first | exact (fun z => absurd z (by decide)) | exact vi_aS qv (by decide) _ | exact (fun z => ⟨by omega, hca⟩) | exact (fun z => ⟨by omega, hca z⟩) | (intro z; exfalso; omega)) | refine vi_arr (by decide) (by decide) ?_ | refine vi_up (by decide) (by decide) ?_)))) (ci_g p3 (ag_sub (X_sub (by decide) (by decide)) (ag_trans ag (by (repeat (first | exact ag_refl | refine ag_up rfl ?_)))))) (rw_ag (ag_sub (X_sub (by decide) (by decide)) (ag_trans ag (by (repeat (first | exact ag_refl | refine ag_up rfl ?_))))) p4) ?_
            intro w8 h9 k110_0 g10
            replace k110_0 : (0 ≤ w8 ∧ w8 ≤ 1) ∧ mo_ag FEVK (ja_up (ja_up u 0 197 (u 29 (u 81 (x2).toNat).toNat)) 0 196 0) h9 ∧ VI h9 := k110_0
            have c_hm : (h9 123) (a1).toNat = (u 123) (a1).toNat := k110_0.2.1 123 _ rfl
            have c_af : True := trivial
            refine ja_if_eq 214 dhold_113 rfl ⟨by omega, by omega⟩ (fun c113 => ?_) (fun c113 => ?_)
            · refine ja_iinc dhold_214 rfl (by decide) (L2 := [(2, (0, (x2 + 1))), (4, (0, 1)), (3, (0, (u 81 (x2).toNat))), (0, (2, ((0 : Nat) : Int))), (1, (0, a1))]) rfl ?_
              refine ja_goto 9 dhold_217 rfl ?_
              exact ja_wk (fun q hq => by simp only [List.mem_cons, List.not_mem_nil, or_false] at hq; rcases hq with rfl | rfl | rfl <;> rfl) ((ih (((100 : Int) * ((30 : Int) - (x2 + 1))).toNat) (by omega)).1 (x2 + 1) h9 g10 ⟨by omega, by omega⟩ (⟨⟨by omega, by omega, (show ((h9 123 (a1).toNat) : Int) ≤ (x2 + 1) by omega)⟩, (ag_trans ag (ag_trans (by (repeat (first | exact ag_refl | refine ag_up rfl ?_))) (ag_trans (ag_sub (X_X (by decide) (by decide)) k110_0.2.1) (by (repeat (first | exact ag_refl | refine ag_up rfl ?_)))))), (by (repeat (first | exact k110_0.2.2 | refine vi_set (by decide) (by decide) (by decide) ?_ (by first | exact (fun z => absurd z (by decide)) | exact vi_aS k110_0.2.2 (by decide) _ | exact (fun z => ⟨by omega, hca⟩) | exact (fun z => ⟨by omega, hca z⟩) | (intro z; exfalso; omega)) | refine vi_res ?_ (by first | exact (fun z => absurd z (by decide)) | exact vi_aS k110_0.2.2 (by decide) _ | exact (fun z => ⟨by omega, hca⟩) | exact (fun z => ⟨by omega, hca z⟩) | (intro z; exfalso; omega)) | refine vi_arr (by decide) (by decide) ?_ | refine vi_up (by decide) (by decide) ?_))), (hoR_ag qh (ag_trans (by (repeat (first | exact ag_refl | refine ag_up rfl ?_))) (ag_trans (ag_sub (X_sub (by decide) (by decide)) k110_0.2.1) (by (repeat (first | exact ag_refl | refine ag_up rfl ?_))))))⟩) rfl)
            · refine ja_bipush 24 dhold_116 rfl ?_
              refine ja_iload_n dhold_118 rfl rfl ?_
              refine ja_imul dhold_119 ?_
              refine ja_aload_n dhold_120 rfl rfl ?_
              refine fa_heldMany dhold_121 ?_
              refine ja_iload_n dhold_124 rfl rfl ?_
              refine il_heldMany (v := h9 123 (a1).toNat) rfl ⟨by omega, by omega⟩ dhold_125 ?_
              have f11 := gC_heldMany g10 (a1).toNat
              refine ja_iadd dhold_126 ?_
              refine ja_istore dhold_127 (by decide) (L2 := [(5, (0, ((24 * a1) + (h9 123 (a1).toNat)))), (4, (0, 1)), (3, (0, (u 81 (x2).toNat))), (0, (2, ((0 : Nat) : Int))), (1, (0, a1)), (2, (0, x2))]) rfl ?_
              have hw := hoR_w (k := ((24 * a1) + (h9 123 (a1).toNat))) (a := (u 81 (x2).toNat)) (hoR_ag qh (ag_trans (by (repeat (first | exact ag_refl | refine ag_up rfl ?_))) (ag_trans (ag_sub (X_sub (by decide) (by decide)) k110_0.2.1) ag_refl))) (by omega) (show ((24 * a1) + (h9 123 (a1).toNat)) = 24 * a1 + (h9 123 (a1).toNat) by omega) (show 0 ≤ ((h9 123 (a1).toNat) : Int) ∧ ((h9 123 (a1).toNat) : Int) ≤ 23 by omega) (show (u 81 (x2).toNat) < (h 0 44) by omega)
              refine ja_aload_n dhold_129 rfl rfl ?_
              refine fa_heldAdvice dhold_130 ?_
              refine ja_iload dhold_133 rfl ?_
              refine ja_iload_n dhold_135 rfl rfl ?_
              have g12 := gW_heldAdvice g10 ((24 * a1) + (h9 123 (a1).toNat)).toNat (x := u 81 (x2).toNat) ⟨by omega, by omega⟩
              refine is_heldAdvice ⟨by omega, by omega⟩ dhold_136 ?_
              refine ja_aload_n dhold_137 rfl rfl ?_
              refine fa_heldFor dhold_138 ?_
              refine ja_iload dhold_141 rfl ?_
              refine ja_aload_n dhold_143 rfl rfl ?_
              refine fg_askedFor (v := h9 0 196) rfl dhold_144 ?_
              have f13 := gF_askedFor g10
              have g14 := gW_heldFor g12 ((24 * a1) + (h9 123 (a1).toNat)).toNat (x := h9 0 196) ⟨by omega, by omega⟩
              refine is_heldFor ⟨by omega, by omega⟩ dhold_147 ?_
              refine ja_iconst dhold_148 ?_
              refine ja_istore dhold_149 (by decide) (L2 := [(6, (0, 0)), (5, (0, ((24 * a1) + (h9 123 (a1).toNat)))), (4, (0, 1)), (3, (0, (u 81 (x2).toNat))), (0, (2, ((0 : Nat) : Int))), (1, (0, a1)), (2, (0, x2))]) rfl ?_
              exact ja_wk (fun q hq => by simp only [List.mem_cons, List.not_mem_nil, or_false] at hq; rcases hq with rfl | rfl | rfl | rfl | rfl <;> rfl) ((ih (((100 : Int) * ((30 : Int) - x2) - 1 - 0).toNat) (by omega)).2 x2 ((24 * a1) + (h9 123 (a1).toNat)) 0 (ja_up (ja_up h9 124 (((24 * a1) + (h9 123 (a1).toNat)).toNat) (u 81 (x2).toNat)) 125 (((24 * a1) + (h9 123 (a1).toNat)).toNat) (h9 0 196)) g14 ⟨by omega, by omega⟩ ⟨by omega, by omega⟩ ⟨by decide, by decide⟩ (⟨⟨by omega, by omega, (show ((h9 123 (a1).toNat) : Int) ≤ x2 by omega), by omega, by omega⟩, (ag_trans ag (ag_trans (by (repeat (first | exact ag_refl | refine ag_up rfl ?_))) (ag_trans (ag_sub (X_X (by decide) (by decide)) k110_0.2.1) (by (repeat (first | exact ag_refl | refine ag_up rfl ?_)))))), (by (repeat (first | exact k110_0.2.2 | refine vi_set (by decide) (by decide) (by decide) ?_ (by first | exact (fun z => absurd z (by decide)) | exact vi_aS k110_0.2.2 (by decide) _ | exact (fun z => ⟨by omega, hca⟩) | exact (fun z => ⟨by omega, hca z⟩) | (intro z; exfalso; omega)) | refine vi_res ?_ (by first | exact (fun z => absurd z (by decide)) | exact vi_aS k110_0.2.2 (by decide) _ | exact (fun z => ⟨by omega, hca⟩) | exact (fun z => ⟨by omega, hca z⟩) | (intro z; exfalso; omega)) | refine vi_arr (by decide) (by decide) ?_ | refine vi_up (by decide) (by decide) ?_))), (hoR_ag hw.1 (by (repeat (first | exact ag_refl | refine ag_up rfl ?_)))), (show ((24 * a1) + (h9 123 (a1).toNat)) = 24 * a1 + (h9 123 (a1).toNat) by omega), hw.2⟩) rfl)
          · refine ja_aload_n dhold_54 rfl rfl ?_
            have htk := vi_at qv (show (117, 118) ∈ vps by decide) (a1).toNat
            refine ja_aload_n dhold_55 rfl rfl ?_
            refine fa_reachTargetKind dhold_56 ?_
            refine ja_iload_n dhold_59 rfl rfl ?_
            refine il_reachTargetKind (v := u 117 (a1).toNat) rfl ⟨by omega, by omega⟩ dhold_60 ?_
            have f15 := gC_reachTargetKind gu (a1).toNat
            refine ja_iconst dhold_61 ?_
            refine ja_icmp_ne 74 dhold_62 rfl ⟨by omega, by omega⟩ ⟨by decide, by decide⟩ (fun c62 => ?_) (fun c62 => ?_)
            · refine ja_aload_n dhold_74 rfl rfl ?_
              refine fa_reachSelf dhold_75 ?_
              refine ja_iload_n dhold_78 rfl rfl ?_
              refine il_reachSelf (v := u 116 (a1).toNat) rfl ⟨by omega, by omega⟩ dhold_79 ?_
              have f16 := gC_reachSelf gu (a1).toNat
              have g17 := gP_askedFor g5 (x := u 116 (a1).toNat) ⟨by omega, by omega⟩
              refine fp_askedFor dhold_80 ?_
              refine ja_aload_n dhold_83 rfl rfl ?_
              refine fg_askedFor (v := u 116 (a1).toNat) rfl dhold_84 ?_
              refine ja_if_le 94 dhold_87 rfl ⟨by omega, by omega⟩ (fun c87 => ?_) (fun c87 => ?_)
              · refine ja_iconst dhold_94 ?_
                refine ja_istore dhold_95 (by decide) (L2 := [(4, (0, 0)), (3, (0, (u 81 (x2).toNat))), (0, (2, ((0 : Nat) : Int))), (1, (0, a1)), (2, (0, x2))]) rfl ?_
                refine ja_iload dhold_97 rfl ?_
                refine ja_if_eq 214 dhold_99 rfl ⟨by decide, by decide⟩ (fun c99 => ?_) (fun c99 => absurd c99 (by omega))
                refine ja_iinc dhold_214 rfl (by decide) (L2 := [(2, (0, (x2 + 1))), (4, (0, 0)), (3, (0, (u 81 (x2).toNat))), (0, (2, ((0 : Nat) : Int))), (1, (0, a1))]) rfl ?_
                refine ja_goto 9 dhold_217 rfl ?_
                exact ja_wk (fun q hq => by simp only [List.mem_cons, List.not_mem_nil, or_false] at hq; rcases hq with rfl | rfl | rfl <;> rfl) ((ih (((100 : Int) * ((30 : Int) - (x2 + 1))).toNat) (by omega)).1 (x2 + 1) (ja_up (ja_up (ja_up u 0 197 (u 29 (u 81 (x2).toNat).toNat)) 0 196 0) 0 196 (u 116 (a1).toNat)) g17 ⟨by omega, by omega⟩ (⟨⟨by omega, by omega, (show ((u 123 (a1).toNat) : Int) ≤ (x2 + 1) by omega)⟩, (ag_trans ag (by (repeat (first | exact ag_refl | refine ag_up rfl ?_)))), (by (repeat (first | exact qv | refine vi_set (by decide) (by decide) (by decide) ?_ (by first | exact (fun z => absurd z (by decide)) | exact vi_aS qv (by decide) _ | exact (fun z => ⟨by omega, hca⟩) | exact (fun z => ⟨by omega, hca z⟩) | (intro z; exfalso; omega)) | refine vi_res ?_ (by first | exact (fun z => absurd z (by decide)) | exact vi_aS qv (by decide) _ | exact (fun z => ⟨by omega, hca⟩) | exact (fun z => ⟨by omega, hca z⟩) | (intro z; exfalso; omega)) | refine vi_arr (by decide) (by decide) ?_ | refine vi_up (by decide) (by decide) ?_))), (hoR_ag qh (by (repeat (first | exact ag_refl | refine ag_up rfl ?_))))⟩) rfl)
              · refine ja_iconst dhold_90 ?_
                refine ja_goto 95 dhold_91 rfl ?_
                refine ja_istore dhold_95 (by decide) (L2 := [(4, (0, 1)), (3, (0, (u 81 (x2).toNat))), (0, (2, ((0 : Nat) : Int))), (1, (0, a1)), (2, (0, x2))]) rfl ?_
                refine ja_iload dhold_97 rfl ?_
                refine ja_if_eq 214 dhold_99 rfl ⟨by decide, by decide⟩ (fun c99 => absurd c99 (by omega)) (fun c99 => ?_)
                refine ja_aload_n dhold_102 rfl rfl ?_
                refine ja_aload_n dhold_103 rfl rfl ?_
                refine fa_adviceRoot dhold_104 ?_
                refine ja_iload_n dhold_107 rfl rfl ?_
                refine il_adviceRoot (v := u 31 (u 81 (x2).toNat).toNat) rfl ⟨by omega, by omega⟩ dhold_108 ?_
                have f18 := gC_adviceRoot gu (u 81 (x2).toNat).toNat
                refine ja_iload_n dhold_109 rfl rfl ?_
                refine t_isHeld (by decide) (show (0 : Nat) ≤ 8 by decide) dhold_110 g17 ⟨by omega, by omega⟩ ⟨by omega, by omega⟩ (show 0 ≤ (u 31 (u 81 (x2).toNat).toNat) ∧ (u 31 (u 81 (x2).toNat).toNat) < (u 0 95) by omega) (show 0 ≤ a1 ∧ a1 < (u 0 172) by omega) ((by (repeat (first | exact qv | refine vi_set (by decide) (by decide) (by decide) ?_ (by first | exact (fun z => absurd z (by decide)) | exact vi_aS qv (by decide) _ | exact (fun z => ⟨by omega, hca⟩) | exact (fun z => ⟨by omega, hca z⟩) | (intro z; exfalso; omega)) | refine vi_res ?_ (by first | exact (fun z => absurd z (by decide)) | exact vi_aS qv (by decide) _ | exact (fun z => ⟨by omega, hca⟩) | exact (fun z => ⟨by omega, hca z⟩) | (intro z; exfalso; omega)) | refine vi_arr (by decide) (by decide) ?_ | refine vi_up (by decide) (by decide) ?_)))) (ci_g p3 (ag_sub (X_sub (by decide) (by decide)) (ag_trans ag (by (repeat (first | exact ag_refl | refine ag_up rfl ?_)))))) (rw_ag (ag_sub (X_sub (by decide) (by decide)) (ag_trans ag (by (repeat (first | exact ag_refl | refine ag_up rfl ?_))))) p4) ?_
                intro w19 h20 k110_0 g21
                replace k110_0 : (0 ≤ w19 ∧ w19 ≤ 1) ∧ mo_ag FEVK (ja_up (ja_up (ja_up u 0 197 (u 29 (u 81 (x2).toNat).toNat)) 0 196 0) 0 196 (u 116 (a1).toNat)) h20 ∧ VI h20 := k110_0
                have c_hm : (h20 123) (a1).toNat = (u 123) (a1).toNat := k110_0.2.1 123 _ rfl
                have c_af : True := trivial
                refine ja_if_eq 214 dhold_113 rfl ⟨by omega, by omega⟩ (fun c113 => ?_) (fun c113 => ?_)
                · refine ja_iinc dhold_214 rfl (by decide) (L2 := [(2, (0, (x2 + 1))), (4, (0, 1)), (3, (0, (u 81 (x2).toNat))), (0, (2, ((0 : Nat) : Int))), (1, (0, a1))]) rfl ?_
                  refine ja_goto 9 dhold_217 rfl ?_
                  exact ja_wk (fun q hq => by simp only [List.mem_cons, List.not_mem_nil, or_false] at hq; rcases hq with rfl | rfl | rfl <;> rfl) ((ih (((100 : Int) * ((30 : Int) - (x2 + 1))).toNat) (by omega)).1 (x2 + 1) h20 g21 ⟨by omega, by omega⟩ (⟨⟨by omega, by omega, (show ((h20 123 (a1).toNat) : Int) ≤ (x2 + 1) by omega)⟩, (ag_trans ag (ag_trans (by (repeat (first | exact ag_refl | refine ag_up rfl ?_))) (ag_trans (ag_sub (X_X (by decide) (by decide)) k110_0.2.1) (by (repeat (first | exact ag_refl | refine ag_up rfl ?_)))))), (by (repeat (first | exact k110_0.2.2 | refine vi_set (by decide) (by decide) (by decide) ?_ (by first | exact (fun z => absurd z (by decide)) | exact vi_aS k110_0.2.2 (by decide) _ | exact (fun z => ⟨by omega, hca⟩) | exact (fun z => ⟨by omega, hca z⟩) | (intro z; exfalso; omega)) | refine vi_res ?_ (by first | exact (fun z => absurd z (by decide)) | exact vi_aS k110_0.2.2 (by decide) _ | exact (fun z => ⟨by omega, hca⟩) | exact (fun z => ⟨by omega, hca z⟩) | (intro z; exfalso; omega)) | refine vi_arr (by decide) (by decide) ?_ | refine vi_up (by decide) (by decide) ?_))), (hoR_ag qh (ag_trans (by (repeat (first | exact ag_refl | refine ag_up rfl ?_))) (ag_trans (ag_sub (X_sub (by decide) (by decide)) k110_0.2.1) (by (repeat (first | exact ag_refl | refine ag_up rfl ?_))))))⟩) rfl)
                · refine ja_bipush 24 dhold_116 rfl ?_
                  refine ja_iload_n dhold_118 rfl rfl ?_
                  refine ja_imul dhold_119 ?_
                  refine ja_aload_n dhold_120 rfl rfl ?_
                  refine fa_heldMany dhold_121 ?_
                  refine ja_iload_n dhold_124 rfl rfl ?_
                  refine il_heldMany (v := h20 123 (a1).toNat) rfl ⟨by omega, by omega⟩ dhold_125 ?_
                  have f22 := gC_heldMany g21 (a1).toNat
                  refine ja_iadd dhold_126 ?_
                  refine ja_istore dhold_127 (by decide) (L2 := [(5, (0, ((24 * a1) + (h20 123 (a1).toNat)))), (4, (0, 1)), (3, (0, (u 81 (x2).toNat))), (0, (2, ((0 : Nat) : Int))), (1, (0, a1)), (2, (0, x2))]) rfl ?_
                  have hw := hoR_w (k := ((24 * a1) + (h20 123 (a1).toNat))) (a := (u 81 (x2).toNat)) (hoR_ag qh (ag_trans (by (repeat (first | exact ag_refl | refine ag_up rfl ?_))) (ag_trans (ag_sub (X_sub (by decide) (by decide)) k110_0.2.1) ag_refl))) (by omega) (show ((24 * a1) + (h20 123 (a1).toNat)) = 24 * a1 + (h20 123 (a1).toNat) by omega) (show 0 ≤ ((h20 123 (a1).toNat) : Int) ∧ ((h20 123 (a1).toNat) : Int) ≤ 23 by omega) (show (u 81 (x2).toNat) < (h 0 44) by omega)
                  refine ja_aload_n dhold_129 rfl rfl ?_
                  refine fa_heldAdvice dhold_130 ?_
                  refine ja_iload dhold_133 rfl ?_
                  refine ja_iload_n dhold_135 rfl rfl ?_
                  have g23 := gW_heldAdvice g21 ((24 * a1) + (h20 123 (a1).toNat)).toNat (x := u 81 (x2).toNat) ⟨by omega, by omega⟩
                  refine is_heldAdvice ⟨by omega, by omega⟩ dhold_136 ?_
                  refine ja_aload_n dhold_137 rfl rfl ?_
                  refine fa_heldFor dhold_138 ?_
                  refine ja_iload dhold_141 rfl ?_
                  refine ja_aload_n dhold_143 rfl rfl ?_
                  refine fg_askedFor (v := h20 0 196) rfl dhold_144 ?_
                  have f24 := gF_askedFor g21
                  have g25 := gW_heldFor g23 ((24 * a1) + (h20 123 (a1).toNat)).toNat (x := h20 0 196) ⟨by omega, by omega⟩
                  refine is_heldFor ⟨by omega, by omega⟩ dhold_147 ?_
                  refine ja_iconst dhold_148 ?_
                  refine ja_istore dhold_149 (by decide) (L2 := [(6, (0, 0)), (5, (0, ((24 * a1) + (h20 123 (a1).toNat)))), (4, (0, 1)), (3, (0, (u 81 (x2).toNat))), (0, (2, ((0 : Nat) : Int))), (1, (0, a1)), (2, (0, x2))]) rfl ?_
                  exact ja_wk (fun q hq => by simp only [List.mem_cons, List.not_mem_nil, or_false] at hq; rcases hq with rfl | rfl | rfl | rfl | rfl <;> rfl) ((ih (((100 : Int) * ((30 : Int) - x2) - 1 - 0).toNat) (by omega)).2 x2 ((24 * a1) + (h20 123 (a1).toNat)) 0 (ja_up (ja_up h20 124 (((24 * a1) + (h20 123 (a1).toNat)).toNat) (u 81 (x2).toNat)) 125 (((24 * a1) + (h20 123 (a1).toNat)).toNat) (h20 0 196)) g25 ⟨by omega, by omega⟩ ⟨by omega, by omega⟩ ⟨by decide, by decide⟩ (⟨⟨by omega, by omega, (show ((h20 123 (a1).toNat) : Int) ≤ x2 by omega), by omega, by omega⟩, (ag_trans ag (ag_trans (by (repeat (first | exact ag_refl | refine ag_up rfl ?_))) (ag_trans (ag_sub (X_X (by decide) (by decide)) k110_0.2.1) (by (repeat (first | exact ag_refl | refine ag_up rfl ?_)))))), (by (repeat (first | exact k110_0.2.2 | refine vi_set (by decide) (by decide) (by decide) ?_ (by first | exact (fun z => absurd z (by decide)) | exact vi_aS k110_0.2.2 (by decide) _ | exact (fun z => ⟨by omega, hca⟩) | exact (fun z => ⟨by omega, hca z⟩) | (intro z; exfalso; omega)) | refine vi_res ?_ (by first | exact (fun z => absurd z (by decide)) | exact vi_aS k110_0.2.2 (by decide) _ | exact (fun z => ⟨by omega, hca⟩) | exact (fun z => ⟨by omega, hca z⟩) | (intro z; exfalso; omega)) | refine vi_arr (by decide) (by decide) ?_ | refine vi_up (by decide) (by decide) ?_))), (hoR_ag hw.1 (by (repeat (first | exact ag_refl | refine ag_up rfl ?_)))), (show ((24 * a1) + (h20 123 (a1).toNat)) = 24 * a1 + (h20 123 (a1).toNat) by omega), hw.2⟩) rfl)
            · refine ja_aload_n dhold_65 rfl rfl ?_
              refine fa_reachTarget dhold_66 ?_
              refine ja_iload_n dhold_69 rfl rfl ?_
              refine il_reachTarget (v := u 118 (a1).toNat) rfl ⟨by omega, by omega⟩ dhold_70 ?_
              have f26 := gC_reachTarget gu (a1).toNat
              refine ja_goto 80 dhold_71 rfl ?_
              have g27 := gP_askedFor g5 (x := u 118 (a1).toNat) ⟨by omega, by omega⟩
              refine fp_askedFor dhold_80 ?_
              refine ja_aload_n dhold_83 rfl rfl ?_
              refine fg_askedFor (v := u 118 (a1).toNat) rfl dhold_84 ?_
              refine ja_if_le 94 dhold_87 rfl ⟨by omega, by omega⟩ (fun c87 => ?_) (fun c87 => ?_)
              · refine ja_iconst dhold_94 ?_
                refine ja_istore dhold_95 (by decide) (L2 := [(4, (0, 0)), (3, (0, (u 81 (x2).toNat))), (0, (2, ((0 : Nat) : Int))), (1, (0, a1)), (2, (0, x2))]) rfl ?_
                refine ja_iload dhold_97 rfl ?_
                refine ja_if_eq 214 dhold_99 rfl ⟨by decide, by decide⟩ (fun c99 => ?_) (fun c99 => absurd c99 (by omega))
                refine ja_iinc dhold_214 rfl (by decide) (L2 := [(2, (0, (x2 + 1))), (4, (0, 0)), (3, (0, (u 81 (x2).toNat))), (0, (2, ((0 : Nat) : Int))), (1, (0, a1))]) rfl ?_
                refine ja_goto 9 dhold_217 rfl ?_
                exact ja_wk (fun q hq => by simp only [List.mem_cons, List.not_mem_nil, or_false] at hq; rcases hq with rfl | rfl | rfl <;> rfl) ((ih (((100 : Int) * ((30 : Int) - (x2 + 1))).toNat) (by omega)).1 (x2 + 1) (ja_up (ja_up (ja_up u 0 197 (u 29 (u 81 (x2).toNat).toNat)) 0 196 0) 0 196 (u 118 (a1).toNat)) g27 ⟨by omega, by omega⟩ (⟨⟨by omega, by omega, (show ((u 123 (a1).toNat) : Int) ≤ (x2 + 1) by omega)⟩, (ag_trans ag (by (repeat (first | exact ag_refl | refine ag_up rfl ?_)))), (by (repeat (first | exact qv | refine vi_set (by decide) (by decide) (by decide) ?_ (by first | exact (fun z => absurd z (by decide)) | exact vi_aS qv (by decide) _ | exact (fun z => ⟨by omega, hca⟩) | exact (fun z => ⟨by omega, hca z⟩) | (intro z; exfalso; omega)) | refine vi_res ?_ (by first | exact (fun z => absurd z (by decide)) | exact vi_aS qv (by decide) _ | exact (fun z => ⟨by omega, hca⟩) | exact (fun z => ⟨by omega, hca z⟩) | (intro z; exfalso; omega)) | refine vi_arr (by decide) (by decide) ?_ | refine vi_up (by decide) (by decide) ?_))), (hoR_ag qh (by (repeat (first | exact ag_refl | refine ag_up rfl ?_))))⟩) rfl)
              · refine ja_iconst dhold_90 ?_
                refine ja_goto 95 dhold_91 rfl ?_
                refine ja_istore dhold_95 (by decide) (L2 := [(4, (0, 1)), (3, (0, (u 81 (x2).toNat))), (0, (2, ((0 : Nat) : Int))), (1, (0, a1)), (2, (0, x2))]) rfl ?_
                refine ja_iload dhold_97 rfl ?_
                refine ja_if_eq 214 dhold_99 rfl ⟨by decide, by decide⟩ (fun c99 => absurd c99 (by omega)) (fun c99 => ?_)
                refine ja_aload_n dhold_102 rfl rfl ?_
                refine ja_aload_n dhold_103 rfl rfl ?_
                refine fa_adviceRoot dhold_104 ?_
                refine ja_iload_n dhold_107 rfl rfl ?_
                refine il_adviceRoot (v := u 31 (u 81 (x2).toNat).toNat) rfl ⟨by omega, by omega⟩ dhold_108 ?_
                have f28 := gC_adviceRoot gu (u 81 (x2).toNat).toNat
                refine ja_iload_n dhold_109 rfl rfl ?_
                refine t_isHeld (by decide) (show (0 : Nat) ≤ 8 by decide) dhold_110 g27 ⟨by omega, by omega⟩ ⟨by omega, by omega⟩ (show 0 ≤ (u 31 (u 81 (x2).toNat).toNat) ∧ (u 31 (u 81 (x2).toNat).toNat) < (u 0 95) by omega) (show 0 ≤ a1 ∧ a1 < (u 0 172) by omega) ((by (repeat (first | exact qv | refine vi_set (by decide) (by decide) (by decide) ?_ (by first | exact (fun z => absurd z (by decide)) | exact vi_aS qv (by decide) _ | exact (fun z => ⟨by omega, hca⟩) | exact (fun z => ⟨by omega, hca z⟩) | (intro z; exfalso; omega)) | refine vi_res ?_ (by first | exact (fun z => absurd z (by decide)) | exact vi_aS qv (by decide) _ | exact (fun z => ⟨by omega, hca⟩) | exact (fun z => ⟨by omega, hca z⟩) | (intro z; exfalso; omega)) | refine vi_arr (by decide) (by decide) ?_ | refine vi_up (by decide) (by decide) ?_)))) (ci_g p3 (ag_sub (X_sub (by decide) (by decide)) (ag_trans ag (by (repeat (first | exact ag_refl | refine ag_up rfl ?_)))))) (rw_ag (ag_sub (X_sub (by decide) (by decide)) (ag_trans ag (by (repeat (first | exact ag_refl | refine ag_up rfl ?_))))) p4) ?_
                intro w29 h30 k110_0 g31
                replace k110_0 : (0 ≤ w29 ∧ w29 ≤ 1) ∧ mo_ag FEVK (ja_up (ja_up (ja_up u 0 197 (u 29 (u 81 (x2).toNat).toNat)) 0 196 0) 0 196 (u 118 (a1).toNat)) h30 ∧ VI h30 := k110_0
                have c_hm : (h30 123) (a1).toNat = (u 123) (a1).toNat := k110_0.2.1 123 _ rfl
                have c_af : True := trivial
                refine ja_if_eq 214 dhold_113 rfl ⟨by omega, by omega⟩ (fun c113 => ?_) (fun c113 => ?_)
                · refine ja_iinc dhold_214 rfl (by decide) (L2 := [(2, (0, (x2 + 1))), (4, (0, 1)), (3, (0, (u 81 (x2).toNat))), (0, (2, ((0 : Nat) : Int))), (1, (0, a1))]) rfl ?_
                  refine ja_goto 9 dhold_217 rfl ?_
                  exact ja_wk (fun q hq => by simp only [List.mem_cons, List.not_mem_nil, or_false] at hq; rcases hq with rfl | rfl | rfl <;> rfl) ((ih (((100 : Int) * ((30 : Int) - (x2 + 1))).toNat) (by omega)).1 (x2 + 1) h30 g31 ⟨by omega, by omega⟩ (⟨⟨by omega, by omega, (show ((h30 123 (a1).toNat) : Int) ≤ (x2 + 1) by omega)⟩, (ag_trans ag (ag_trans (by (repeat (first | exact ag_refl | refine ag_up rfl ?_))) (ag_trans (ag_sub (X_X (by decide) (by decide)) k110_0.2.1) (by (repeat (first | exact ag_refl | refine ag_up rfl ?_)))))), (by (repeat (first | exact k110_0.2.2 | refine vi_set (by decide) (by decide) (by decide) ?_ (by first | exact (fun z => absurd z (by decide)) | exact vi_aS k110_0.2.2 (by decide) _ | exact (fun z => ⟨by omega, hca⟩) | exact (fun z => ⟨by omega, hca z⟩) | (intro z; exfalso; omega)) | refine vi_res ?_ (by first | exact (fun z => absurd z (by decide)) | exact vi_aS k110_0.2.2 (by decide) _ | exact (fun z => ⟨by omega, hca⟩) | exact (fun z => ⟨by omega, hca z⟩) | (intro z; exfalso; omega)) | refine vi_arr (by decide) (by decide) ?_ | refine vi_up (by decide) (by decide) ?_))), (hoR_ag qh (ag_trans (by (repeat (first | exact ag_refl | refine ag_up rfl ?_))) (ag_trans (ag_sub (X_sub (by decide) (by decide)) k110_0.2.1) (by (repeat (first | exact ag_refl | refine ag_up rfl ?_))))))⟩) rfl)
                · refine ja_bipush 24 dhold_116 rfl ?_
                  refine ja_iload_n dhold_118 rfl rfl ?_
                  refine ja_imul dhold_119 ?_
                  refine ja_aload_n dhold_120 rfl rfl ?_
                  refine fa_heldMany dhold_121 ?_
                  refine ja_iload_n dhold_124 rfl rfl ?_
                  refine il_heldMany (v := h30 123 (a1).toNat) rfl ⟨by omega, by omega⟩ dhold_125 ?_
                  have f32 := gC_heldMany g31 (a1).toNat
                  refine ja_iadd dhold_126 ?_
                  refine ja_istore dhold_127 (by decide) (L2 := [(5, (0, ((24 * a1) + (h30 123 (a1).toNat)))), (4, (0, 1)), (3, (0, (u 81 (x2).toNat))), (0, (2, ((0 : Nat) : Int))), (1, (0, a1)), (2, (0, x2))]) rfl ?_
                  have hw := hoR_w (k := ((24 * a1) + (h30 123 (a1).toNat))) (a := (u 81 (x2).toNat)) (hoR_ag qh (ag_trans (by (repeat (first | exact ag_refl | refine ag_up rfl ?_))) (ag_trans (ag_sub (X_sub (by decide) (by decide)) k110_0.2.1) ag_refl))) (by omega) (show ((24 * a1) + (h30 123 (a1).toNat)) = 24 * a1 + (h30 123 (a1).toNat) by omega) (show 0 ≤ ((h30 123 (a1).toNat) : Int) ∧ ((h30 123 (a1).toNat) : Int) ≤ 23 by omega) (show (u 81 (x2).toNat) < (h 0 44) by omega)
                  refine ja_aload_n dhold_129 rfl rfl ?_
                  refine fa_heldAdvice dhold_130 ?_
                  refine ja_iload dhold_133 rfl ?_
                  refine ja_iload_n dhold_135 rfl rfl ?_
                  have g33 := gW_heldAdvice g31 ((24 * a1) + (h30 123 (a1).toNat)).toNat (x := u 81 (x2).toNat) ⟨by omega, by omega⟩
                  refine is_heldAdvice ⟨by omega, by omega⟩ dhold_136 ?_
                  refine ja_aload_n dhold_137 rfl rfl ?_
                  refine fa_heldFor dhold_138 ?_
                  refine ja_iload dhold_141 rfl ?_
                  refine ja_aload_n dhold_143 rfl rfl ?_
                  refine fg_askedFor (v := h30 0 196) rfl dhold_144 ?_
                  have f34 := gF_askedFor g31
                  have g35 := gW_heldFor g33 ((24 * a1) + (h30 123 (a1).toNat)).toNat (x := h30 0 196) ⟨by omega, by omega⟩
                  refine is_heldFor ⟨by omega, by omega⟩ dhold_147 ?_
                  refine ja_iconst dhold_148 ?_
                  refine ja_istore dhold_149 (by decide) (L2 := [(6, (0, 0)), (5, (0, ((24 * a1) + (h30 123 (a1).toNat)))), (4, (0, 1)), (3, (0, (u 81 (x2).toNat))), (0, (2, ((0 : Nat) : Int))), (1, (0, a1)), (2, (0, x2))]) rfl ?_
                  exact ja_wk (fun q hq => by simp only [List.mem_cons, List.not_mem_nil, or_false] at hq; rcases hq with rfl | rfl | rfl | rfl | rfl <;> rfl) ((ih (((100 : Int) * ((30 : Int) - x2) - 1 - 0).toNat) (by omega)).2 x2 ((24 * a1) + (h30 123 (a1).toNat)) 0 (ja_up (ja_up h30 124 (((24 * a1) + (h30 123 (a1).toNat)).toNat) (u 81 (x2).toNat)) 125 (((24 * a1) + (h30 123 (a1).toNat)).toNat) (h30 0 196)) g35 ⟨by omega, by omega⟩ ⟨by omega, by omega⟩ ⟨by decide, by decide⟩ (⟨⟨by omega, by omega, (show ((h30 123 (a1).toNat) : Int) ≤ x2 by omega), by omega, by omega⟩, (ag_trans ag (ag_trans (by (repeat (first | exact ag_refl | refine ag_up rfl ?_))) (ag_trans (ag_sub (X_X (by decide) (by decide)) k110_0.2.1) (by (repeat (first | exact ag_refl | refine ag_up rfl ?_)))))), (by (repeat (first | exact k110_0.2.2 | refine vi_set (by decide) (by decide) (by decide) ?_ (by first | exact (fun z => absurd z (by decide)) | exact vi_aS k110_0.2.2 (by decide) _ | exact (fun z => ⟨by omega, hca⟩) | exact (fun z => ⟨by omega, hca z⟩) | (intro z; exfalso; omega)) | refine vi_res ?_ (by first | exact (fun z => absurd z (by decide)) | exact vi_aS k110_0.2.2 (by decide) _ | exact (fun z => ⟨by omega, hca⟩) | exact (fun z => ⟨by omega, hca z⟩) | (intro z; exfalso; omega)) | refine vi_arr (by decide) (by decide) ?_ | refine vi_up (by decide) (by decide) ?_))), (hoR_ag hw.1 (by (repeat (first | exact ag_refl | refine ag_up rfl ?_)))), (show ((24 * a1) + (h30 123 (a1).toNat)) = 24 * a1 + (h30 123 (a1).toNat) by omega), hw.2⟩) rfl)
      · intro x2 x5 x6 u gu qx2 qx5 qx6 iv hm
        subst hm
        have ku_advices := gF_advices gu
        have ku_reached := gF_reached gu
        obtain ⟨iv, ag, qv, qh, j4, j5⟩ := iv
        have e_advices : (u 0 44) = (h 0 44) := ag 0 44 rfl
        have e_reached : (u 0 172) = (h 0 172) := ag 0 172 rfl
        have ghm := gC_heldMany gu (a1).toNat
        refine ja_iload dhold_151 rfl ?_
        refine ja_bipush 7 dhold_153 rfl ?_
        refine ja_icmp_ge 204 dhold_155 rfl ⟨by omega, by omega⟩ ⟨by decide, by decide⟩ (fun c155 => ?_) (fun c155 => ?_)
        · refine ja_aload_n dhold_204 rfl rfl ?_
          refine fa_heldMany dhold_205 ?_
          refine ja_iload_n dhold_208 rfl rfl ?_
          refine ja_dup2 dhold_209 (by first | decide | (dsimp only; decide)) (by first | decide | (dsimp only; decide)) ?_
          refine il_heldMany (v := u 123 (a1).toNat) rfl ⟨by omega, by omega⟩ dhold_210 ?_
          have f36 := gC_heldMany gu (a1).toNat
          refine ja_iconst dhold_211 ?_
          refine ja_iadd dhold_212 ?_
          have g37 := gW_heldMany gu (a1).toNat (x := (u 123 (a1).toNat) + 1) ⟨by omega, by omega⟩
          refine is_heldMany ⟨by omega, by omega⟩ dhold_213 ?_
          refine ja_iinc dhold_214 rfl (by decide) (L2 := [(2, (0, (x2 + 1))), (0, (2, ((0 : Nat) : Int))), (1, (0, a1)), (5, (0, x5)), (6, (0, x6))]) rfl ?_
          refine ja_goto 9 dhold_217 rfl ?_
          exact ja_wk (fun q hq => by simp only [List.mem_cons, List.not_mem_nil, or_false] at hq; rcases hq with rfl | rfl | rfl <;> rfl) ((ih (((100 : Int) * ((30 : Int) - (x2 + 1))).toNat) (by omega)).1 (x2 + 1) (ja_up u 123 ((a1).toNat) ((u 123 (a1).toNat) + 1)) g37 ⟨by omega, by omega⟩ (⟨⟨by omega, by omega, (by rw [mo_upS]; omega)⟩, (ag_trans ag (by (repeat (first | exact ag_refl | refine ag_up rfl ?_)))), (by (repeat (first | exact qv | refine vi_set (by decide) (by decide) (by decide) ?_ (by first | exact (fun z => absurd z (by decide)) | exact vi_aS qv (by decide) _ | exact (fun z => ⟨by omega, hca⟩) | exact (fun z => ⟨by omega, hca z⟩) | (intro z; exfalso; omega)) | refine vi_res ?_ (by first | exact (fun z => absurd z (by decide)) | exact vi_aS qv (by decide) _ | exact (fun z => ⟨by omega, hca⟩) | exact (fun z => ⟨by omega, hca z⟩) | (intro z; exfalso; omega)) | refine vi_arr (by decide) (by decide) ?_ | refine vi_up (by decide) (by decide) ?_))), (hoR_s qh (by omega) j4 (by omega) j5)⟩) rfl)
        · refine ja_aload_n dhold_158 rfl rfl ?_
          refine fa_boundKind dhold_159 ?_
          refine ja_bipush 7 dhold_162 rfl ?_
          refine ja_iload dhold_164 rfl ?_
          refine ja_imul dhold_166 ?_
          refine ja_iload dhold_167 rfl ?_
          refine ja_iadd dhold_169 ?_
          refine ja_aload_n dhold_170 rfl rfl ?_
          refine fa_bindKind dhold_171 ?_
          refine ja_iload dhold_174 rfl ?_
          refine il_bindKind (v := u 130 (x6).toNat) rfl ⟨by omega, by omega⟩ dhold_176 ?_
          have f38 := gC_bindKind gu (x6).toNat
          have g39 := gW_boundKind gu ((7 * x5) + x6).toNat (x := u 130 (x6).toNat) ⟨by omega, by omega⟩
          refine is_boundKind ⟨by omega, by omega⟩ dhold_177 ?_
          refine ja_aload_n dhold_178 rfl rfl ?_
          refine fa_boundValue dhold_179 ?_
          refine ja_bipush 7 dhold_182 rfl ?_
          refine ja_iload dhold_184 rfl ?_
          refine ja_imul dhold_186 ?_
          refine ja_iload dhold_187 rfl ?_
          refine ja_iadd dhold_189 ?_
          refine ja_aload_n dhold_190 rfl rfl ?_
          refine fa_bindValue dhold_191 ?_
          refine ja_iload dhold_194 rfl ?_
          refine il_bindValue (v := u 131 (x6).toNat) rfl ⟨by omega, by omega⟩ dhold_196 ?_
          have f40 := gC_bindValue gu (x6).toNat
          have g41 := gW_boundValue g39 ((7 * x5) + x6).toNat (x := u 131 (x6).toNat) ⟨by omega, by omega⟩
          refine is_boundValue ⟨by omega, by omega⟩ dhold_197 ?_
          refine ja_iinc dhold_198 rfl (by decide) (L2 := [(6, (0, (x6 + 1))), (0, (2, ((0 : Nat) : Int))), (1, (0, a1)), (2, (0, x2)), (5, (0, x5))]) rfl ?_
          refine ja_goto 151 dhold_201 rfl ?_
          exact ja_wk (fun q hq => by simp only [List.mem_cons, List.not_mem_nil, or_false] at hq; rcases hq with rfl | rfl | rfl | rfl | rfl <;> rfl) ((ih (((100 : Int) * ((30 : Int) - x2) - 1 - (x6 + 1)).toNat) (by omega)).2 x2 x5 (x6 + 1) (ja_up (ja_up u 126 (((7 * x5) + x6).toNat) (u 130 (x6).toNat)) 127 (((7 * x5) + x6).toNat) (u 131 (x6).toNat)) g41 ⟨by omega, by omega⟩ ⟨by omega, by omega⟩ ⟨by omega, by omega⟩ (⟨⟨by omega, by omega, (show ((u 123 (a1).toNat) : Int) ≤ x2 by omega), by omega, by omega⟩, (ag_trans ag (by (repeat (first | exact ag_refl | refine ag_up rfl ?_)))), (by (repeat (first | exact qv | refine vi_set (by decide) (by decide) (by decide) ?_ (by first | exact (fun z => absurd z (by decide)) | exact vi_aS qv (by decide) _ | exact (fun z => ⟨by omega, hca⟩) | exact (fun z => ⟨by omega, hca z⟩) | (intro z; exfalso; omega)) | refine vi_res ?_ (by first | exact (fun z => absurd z (by decide)) | exact vi_aS qv (by decide) _ | exact (fun z => ⟨by omega, hca⟩) | exact (fun z => ⟨by omega, hca z⟩) | (intro z; exfalso; omega)) | refine vi_arr (by decide) (by decide) ?_ | refine vi_up (by decide) (by decide) ?_))), (hoR_ag qh (by (repeat (first | exact ag_refl | refine ag_up rfl ?_)))), (show x5 = 24 * a1 + (u 123 (a1).toNat) by omega), j5⟩) rfl)
  refine ja_aload_n dhold_0 rfl rfl ?_
  refine fa_heldMany dhold_1 ?_
  refine ja_iload_n dhold_4 rfl rfl ?_
  refine ja_iconst dhold_5 ?_
  have g42 := gW_heldMany g (a1).toNat (x := 0) ⟨by decide, by decide⟩
  refine is_heldMany ⟨by omega, by omega⟩ dhold_6 ?_
  refine ja_iconst dhold_7 ?_
  refine ja_istore_n dhold_8 rfl (by decide) (L2 := [(2, (0, 0)), (0, (2, ((0 : Nat) : Int))), (1, (0, a1))]) rfl ?_
  exact ja_wk (fun q hq => by simp only [List.mem_cons, List.not_mem_nil, or_false] at hq; rcases hq with rfl | rfl | rfl <;> rfl) ((CUT _).1 0 (ja_up h 123 ((a1).toNat) 0) g42 ⟨by decide, by decide⟩ (⟨⟨by omega, by omega, (by rw [mo_upS]; omega)⟩, (by (repeat (first | exact ag_refl | refine ag_up rfl ?_))), (by (repeat (first | exact p2 | refine vi_set (by decide) (by decide) (by decide) ?_ (by first | exact (fun z => absurd z (by decide)) | exact vi_aS p2 (by decide) _ | exact (fun z => ⟨by omega, hca⟩) | exact (fun z => ⟨by omega, hca z⟩) | (intro z; exfalso; omega)) | refine vi_res ?_ (by first | exact (fun z => absurd z (by decide)) | exact vi_aS p2 (by decide) _ | exact (fun z => ⟨by omega, hca⟩) | exact (fun z => ⟨by omega, hca z⟩) | (intro z; exfalso; omega)) | refine vi_arr (by decide) (by decide) ?_ | refine vi_up (by decide) (by decide) ?_))), hoR_0⟩) rfl)
theorem t_hold {a1 : Int} {ht st rg : Nat → Int} {d nL pc : Nat} {cc : ByteArray} {rt : Option FieldType} {L : List (Nat × ja_V)} {S : List ja_V} {h : ja_H} {Q : Option ja_V → ja_H → Prop} (hdd : 9 < d) (hwd : ja_wd S ≤ 8) (hd : decode cc pc = .ok (.invokevirtual 1076, 3)) (g : mo_G mo_zr h) (r1 : -2147483648 ≤ a1 ∧ a1 ≤ 2147483647) (p1 : 0 ≤ a1 ∧ a1 < (h 0 172)) (p2 : VI h) (p3 : CI h ht st rg) (p4 : RW h) (k1 : ∀ (h' : ja_H), (mo_ag FHO h h' ∧ VI h' ∧ hoR h h' a1) → mo_G mo_zr h' → mJ l D cA ad d cc nL rt (pc + 3) L S h' Q) : mJ l D cA ad d cc nL rt pc L ((0, a1) :: (2, ((0 : Nat) : Int)) :: S) h Q :=
  mc_hold hdd hwd hd (s_hold g r1 p1 p2 p3 p4 k1)
end
