/-! the reference: the steps of an evaluation (written by a program) -/
/-! the reference: the steps of an evaluation -/
theorem vi_arr {h : ja_H} {k j : Nat} {x : Int} (d : (decide (k ≠ 12) && vps.all (fun p => decide (p.1 ≠ k ∧ p.2 ≠ k))) = true) (d0 : k ≠ 0) (q : VI h) : VI (ja_up h k j x) := vi_up d (Or.inl d0) q
theorem ev_one {h u H : ja_H} {n r : Int} (g : mo_G mo_zr h) (ag : mo_ag FEVK h H) (hn : 0 ≤ n ∧ n < (h 0 95)) (hr : 0 ≤ r ∧ r < (h 0 172)) (e : (H 0 202) = 1) (W1 : (H 132) 0 = n) (W2 : (H 134) 0 = r) (W3 : (H 133) 0 = 0) (W4 : (H 135) 0 = 0) : evI H := by
  intro j hj
  have z : j = 0 := by omega
  subst z
  have n1 : (H 0 95) = (h 0 95) := ag _ _ rfl
  have n2 : (H 0 172) = (h 0 172) := ag _ _ rfl
  have n4 := rkN_ag (ag_sub (X_sub (by decide) (by decide)) ag) n.toNat
  have b := rkN_899 g (show ((n.toNat : Nat) : Int) < (h 0 95) by omega)
  exact ⟨by rw [W1, n1]; exact hn.2, by rw [W2, n2]; exact hr.2, by rw [W1, n4]; omega, fun y => absurd W3 y, by rw [W4, n2]; omega⟩
theorem dask_0 : decode cX12_ask 0 = .ok (.aload_n 0, 1) := by decide +kernel
theorem dask_1 : decode cX12_ask 1 = .ok (.getfield 405, 3) := by decide +kernel
theorem dask_4 : decode cX12_ask 4 = .ok (.aload_n 0, 1) := by decide +kernel
theorem dask_5 : decode cX12_ask 5 = .ok (.getfield 1135, 3) := by decide +kernel
theorem dask_8 : decode cX12_ask 8 = .ok (.iload_n 1, 1) := by decide +kernel
theorem dask_9 : decode cX12_ask 9 = .ok (.iastore, 1) := by decide +kernel
theorem dask_10 : decode cX12_ask 10 = .ok (.aload_n 0, 1) := by decide +kernel
theorem dask_11 : decode cX12_ask 11 = .ok (.getfield 411, 3) := by decide +kernel
theorem dask_14 : decode cX12_ask 14 = .ok (.aload_n 0, 1) := by decide +kernel
theorem dask_15 : decode cX12_ask 15 = .ok (.getfield 1135, 3) := by decide +kernel
theorem dask_18 : decode cX12_ask 18 = .ok (.iload_n 2, 1) := by decide +kernel
theorem dask_19 : decode cX12_ask 19 = .ok (.iastore, 1) := by decide +kernel
theorem dask_20 : decode cX12_ask 20 = .ok (.aload_n 0, 1) := by decide +kernel
theorem dask_21 : decode cX12_ask 21 = .ok (.getfield 408, 3) := by decide +kernel
theorem dask_24 : decode cX12_ask 24 = .ok (.aload_n 0, 1) := by decide +kernel
theorem dask_25 : decode cX12_ask 25 = .ok (.getfield 1135, 3) := by decide +kernel
theorem dask_28 : decode cX12_ask 28 = .ok (.iconst 0, 1) := by decide +kernel
theorem dask_29 : decode cX12_ask 29 = .ok (.iastore, 1) := by decide +kernel
theorem dask_30 : decode cX12_ask 30 = .ok (.aload_n 0, 1) := by decide +kernel
theorem dask_31 : decode cX12_ask 31 = .ok (.getfield 414, 3) := by decide +kernel
theorem dask_34 : decode cX12_ask 34 = .ok (.aload_n 0, 1) := by decide +kernel
theorem dask_35 : decode cX12_ask 35 = .ok (.getfield 1135, 3) := by decide +kernel
theorem dask_38 : decode cX12_ask 38 = .ok (.iconst 0, 1) := by decide +kernel
theorem dask_39 : decode cX12_ask 39 = .ok (.iastore, 1) := by decide +kernel
theorem dask_40 : decode cX12_ask 40 = .ok (.aload_n 0, 1) := by decide +kernel
theorem dask_41 : decode cX12_ask 41 = .ok (.dup, 1) := by decide +kernel
theorem dask_42 : decode cX12_ask 42 = .ok (.getfield 1135, 3) := by decide +kernel
theorem dask_45 : decode cX12_ask 45 = .ok (.iconst 1, 1) := by decide +kernel
theorem dask_46 : decode cX12_ask 46 = .ok (.iadd, 1) := by decide +kernel
theorem dask_47 : decode cX12_ask 47 = .ok (.putfield 1135, 3) := by decide +kernel
theorem dask_50 : decode cX12_ask 50 = .ok (.return_, 1) := by decide +kernel
section
variable {l : Launch} {D : va_G} {cA : Nat → ClassId} {ad : Nat → Nat}
theorem s_ask {a1 a2 : Int} {h : ja_H} {Q : Option ja_V → ja_H → Prop} (g : mo_G mo_zr h) (r1 : -2147483648 ≤ a1 ∧ a1 ≤ 2147483647) (r2 : -2147483648 ≤ a2 ∧ a2 ≤ 2147483647) (p1 : 0 ≤ a1 ∧ a1 ≤ 899) (p2 : 0 ≤ a2 ∧ a2 ≤ 119) (p3 : (h 0 202) ≤ 999) (k1 : mo_G mo_zr (ja_up (ja_up (ja_up (ja_up (ja_up h 132 (((h 0 202)).toNat) a1) 134 (((h 0 202)).toNat) a2) 133 (((h 0 202)).toNat) 0) 135 (((h 0 202)).toNat) 0) 0 202 ((h 0 202) + 1)) → Q none (ja_up (ja_up (ja_up (ja_up (ja_up h 132 (((h 0 202)).toNat) a1) 134 (((h 0 202)).toNat) a2) 133 (((h 0 202)).toNat) 0) 135 (((h 0 202)).toNat) 0) 0 202 ((h 0 202) + 1))) : mM_ask l D cA ad a1 a2 h Q := by
  show mJ l D cA ad 1 cX12_ask 3 none 0 [(0, (2, ((0 : Nat) : Int))), (1, (0, a1)), (2, (0, a2))] [] h Q
  refine ja_aload_n dask_0 rfl rfl ?_
  refine fa_evNode dask_1 ?_
  refine ja_aload_n dask_4 rfl rfl ?_
  refine fg_ev (v := h 0 202) rfl dask_5 ?_
  have f1 := gF_ev g
  refine ja_iload_n dask_8 rfl rfl ?_
  have g2 := gW_evNode g (h 0 202).toNat (x := a1) ⟨by omega, by omega⟩
  refine is_evNode ⟨by omega, by omega⟩ dask_9 ?_
  refine ja_aload_n dask_10 rfl rfl ?_
  refine fa_evRow dask_11 ?_
  refine ja_aload_n dask_14 rfl rfl ?_
  refine fg_ev (v := h 0 202) rfl dask_15 ?_
  refine ja_iload_n dask_18 rfl rfl ?_
  have g3 := gW_evRow g2 (h 0 202).toNat (x := a2) ⟨by omega, by omega⟩
  refine is_evRow ⟨by omega, by omega⟩ dask_19 ?_
  refine ja_aload_n dask_20 rfl rfl ?_
  refine fa_evState dask_21 ?_
  refine ja_aload_n dask_24 rfl rfl ?_
  refine fg_ev (v := h 0 202) rfl dask_25 ?_
  refine ja_iconst dask_28 ?_
  have g4 := gW_evState g3 (h 0 202).toNat (x := 0) ⟨by decide, by decide⟩
  refine is_evState ⟨by omega, by omega⟩ dask_29 ?_
  refine ja_aload_n dask_30 rfl rfl ?_
  refine fa_evAt dask_31 ?_
  refine ja_aload_n dask_34 rfl rfl ?_
  refine fg_ev (v := h 0 202) rfl dask_35 ?_
  refine ja_iconst dask_38 ?_
  have g5 := gW_evAt g4 (h 0 202).toNat (x := 0) ⟨by decide, by decide⟩
  refine is_evAt ⟨by omega, by omega⟩ dask_39 ?_
  refine ja_aload_n dask_40 rfl rfl ?_
  refine ja_dup dask_41 (by decide) ?_
  refine fg_ev (v := h 0 202) rfl dask_42 ?_
  refine ja_iconst dask_45 ?_
  refine ja_iadd dask_46 ?_
  have g6 := gP_ev g5 (x := (h 0 202) + 1) ⟨by omega, by omega⟩
  refine fp_ev dask_47 ?_
  refine ja_return dask_50 rfl ?_
  exact k1 g6
theorem t_ask {a1 a2 : Int} {d nL pc : Nat} {cc : ByteArray} {rt : Option FieldType} {L : List (Nat × ja_V)} {S : List ja_V} {h : ja_H} {Q : Option ja_V → ja_H → Prop} (hdd : 1 < d) (hwd : ja_wd S ≤ 8) (hd : decode cc pc = .ok (.invokevirtual 1138, 3)) (g : mo_G mo_zr h) (r1 : -2147483648 ≤ a1 ∧ a1 ≤ 2147483647) (r2 : -2147483648 ≤ a2 ∧ a2 ≤ 2147483647) (p1 : 0 ≤ a1 ∧ a1 ≤ 899) (p2 : 0 ≤ a2 ∧ a2 ≤ 119) (p3 : (h 0 202) ≤ 999) (k1 : mo_G mo_zr (ja_up (ja_up (ja_up (ja_up (ja_up h 132 (((h 0 202)).toNat) a1) 134 (((h 0 202)).toNat) a2) 133 (((h 0 202)).toNat) 0) 135 (((h 0 202)).toNat) 0) 0 202 ((h 0 202) + 1)) → mJ l D cA ad d cc nL rt (pc + 3) L S (ja_up (ja_up (ja_up (ja_up (ja_up h 132 (((h 0 202)).toNat) a1) 134 (((h 0 202)).toNat) a2) 133 (((h 0 202)).toNat) 0) 135 (((h 0 202)).toNat) 0) 0 202 ((h 0 202) + 1)) Q) : mJ l D cA ad d cc nL rt pc L ((0, a2) :: (0, a1) :: (2, ((0 : Nat) : Int)) :: S) h Q :=
  mc_ask hdd hwd hd (s_ask g r1 r2 p1 p2 p3 k1)
end
theorem danswer_0 : decode cX12_answer 0 = .ok (.aload_n 0, 1) := by decide +kernel
theorem danswer_1 : decode cX12_answer 1 = .ok (.iload_n 1, 1) := by decide +kernel
theorem danswer_2 : decode cX12_answer 2 = .ok (.putfield 1147, 3) := by decide +kernel
theorem danswer_5 : decode cX12_answer 5 = .ok (.aload_n 0, 1) := by decide +kernel
theorem danswer_6 : decode cX12_answer 6 = .ok (.dup, 1) := by decide +kernel
theorem danswer_7 : decode cX12_answer 7 = .ok (.getfield 1135, 3) := by decide +kernel
theorem danswer_10 : decode cX12_answer 10 = .ok (.iconst 1, 1) := by decide +kernel
theorem danswer_11 : decode cX12_answer 11 = .ok (.isub, 1) := by decide +kernel
theorem danswer_12 : decode cX12_answer 12 = .ok (.putfield 1135, 3) := by decide +kernel
theorem danswer_15 : decode cX12_answer 15 = .ok (.return_, 1) := by decide +kernel
section
variable {l : Launch} {D : va_G} {cA : Nat → ClassId} {ad : Nat → Nat}
theorem s_answer {a1 : Int} {h : ja_H} {Q : Option ja_V → ja_H → Prop} (g : mo_G mo_zr h) (r1 : 0 ≤ a1 ∧ a1 ≤ 1) (p1 : 1 ≤ (h 0 202)) (k1 : mo_G mo_zr (ja_up (ja_up h 0 203 a1) 0 202 ((h 0 202) - 1)) → Q none (ja_up (ja_up h 0 203 a1) 0 202 ((h 0 202) - 1))) : mM_answer l D cA ad a1 h Q := by
  show mJ l D cA ad 1 cX12_answer 2 none 0 [(0, (2, ((0 : Nat) : Int))), (1, (0, a1))] [] h Q
  refine ja_aload_n danswer_0 rfl rfl ?_
  refine ja_iload_n danswer_1 rfl rfl ?_
  have g1 := gP_isSo g (x := a1) ⟨by omega, by omega⟩
  refine fp_isSo (by omega) danswer_2 ?_
  refine ja_aload_n danswer_5 rfl rfl ?_
  refine ja_dup danswer_6 (by decide) ?_
  refine fg_ev (v := h 0 202) rfl danswer_7 ?_
  have f2 := gF_ev g
  refine ja_iconst danswer_10 ?_
  refine ja_isub danswer_11 ?_
  have g3 := gP_ev g1 (x := (h 0 202) - 1) ⟨by omega, by omega⟩
  refine fp_ev danswer_12 ?_
  refine ja_return danswer_15 rfl ?_
  exact k1 g3
theorem t_answer {a1 : Int} {d nL pc : Nat} {cc : ByteArray} {rt : Option FieldType} {L : List (Nat × ja_V)} {S : List ja_V} {h : ja_H} {Q : Option ja_V → ja_H → Prop} (hdd : 1 < d) (hwd : ja_wd S ≤ 8) (hd : decode cc pc = .ok (.invokevirtual 1150, 3)) (g : mo_G mo_zr h) (r1 : 0 ≤ a1 ∧ a1 ≤ 1) (p1 : 1 ≤ (h 0 202)) (k1 : mo_G mo_zr (ja_up (ja_up h 0 203 a1) 0 202 ((h 0 202) - 1)) → mJ l D cA ad d cc nL rt (pc + 3) L S (ja_up (ja_up h 0 203 a1) 0 202 ((h 0 202) - 1)) Q) : mJ l D cA ad d cc nL rt pc L ((0, a1) :: (2, ((0 : Nat) : Int)) :: S) h Q :=
  mc_answer hdd hwd hd (s_answer g r1 p1 k1)
end
theorem dfirst_0 : decode cX12_first 0 = .ok (.aload_n 0, 1) := by decide +kernel
theorem dfirst_1 : decode cX12_first 1 = .ok (.getfield 405, 3) := by decide +kernel
theorem dfirst_4 : decode cX12_first 4 = .ok (.iload_n 1, 1) := by decide +kernel
theorem dfirst_5 : decode cX12_first 5 = .ok (.iaload, 1) := by decide +kernel
theorem dfirst_6 : decode cX12_first 6 = .ok (.istore_n 2, 1) := by decide +kernel
theorem dfirst_7 : decode cX12_first 7 = .ok (.aload_n 0, 1) := by decide +kernel
theorem dfirst_8 : decode cX12_first 8 = .ok (.getfield 411, 3) := by decide +kernel
theorem dfirst_11 : decode cX12_first 11 = .ok (.iload_n 1, 1) := by decide +kernel
theorem dfirst_12 : decode cX12_first 12 = .ok (.iaload, 1) := by decide +kernel
theorem dfirst_13 : decode cX12_first 13 = .ok (.istore_n 3, 1) := by decide +kernel
theorem dfirst_14 : decode cX12_first 14 = .ok (.aload_n 0, 1) := by decide +kernel
theorem dfirst_15 : decode cX12_first 15 = .ok (.getfield 182, 3) := by decide +kernel
theorem dfirst_18 : decode cX12_first 18 = .ok (.iload_n 2, 1) := by decide +kernel
theorem dfirst_19 : decode cX12_first 19 = .ok (.iaload, 1) := by decide +kernel
theorem dfirst_20 : decode cX12_first 20 = .ok (.istore 4, 2) := by decide +kernel
theorem dfirst_22 : decode cX12_first 22 = .ok (.aload_n 0, 1) := by decide +kernel
theorem dfirst_23 : decode cX12_first 23 = .ok (.getfield 972, 3) := by decide +kernel
theorem dfirst_26 : decode cX12_first 26 = .ok (.ifCond .eq 23, 3) := by decide +kernel
theorem dfirst_29 : decode cX12_first 29 = .ok (.aload_n 0, 1) := by decide +kernel
theorem dfirst_30 : decode cX12_first 30 = .ok (.getfield 222, 3) := by decide +kernel
theorem dfirst_33 : decode cX12_first 33 = .ok (.sipush 400, 3) := by decide +kernel
theorem dfirst_36 : decode cX12_first 36 = .ok (.iload_n 2, 1) := by decide +kernel
theorem dfirst_37 : decode cX12_first 37 = .ok (.imul, 1) := by decide +kernel
theorem dfirst_38 : decode cX12_first 38 = .ok (.aload_n 0, 1) := by decide +kernel
theorem dfirst_39 : decode cX12_first 39 = .ok (.getfield 354, 3) := by decide +kernel
theorem dfirst_42 : decode cX12_first 42 = .ok (.iload_n 3, 1) := by decide +kernel
theorem dfirst_43 : decode cX12_first 43 = .ok (.iaload, 1) := by decide +kernel
theorem dfirst_44 : decode cX12_first 44 = .ok (.iadd, 1) := by decide +kernel
theorem dfirst_45 : decode cX12_first 45 = .ok (.iaload, 1) := by decide +kernel
theorem dfirst_46 : decode cX12_first 46 = .ok (.goto 4, 3) := by decide +kernel
theorem dfirst_49 : decode cX12_first 49 = .ok (.iconst 2, 1) := by decide +kernel
theorem dfirst_50 : decode cX12_first 50 = .ok (.istore 5, 2) := by decide +kernel
theorem dfirst_52 : decode cX12_first 52 = .ok (.aload_n 0, 1) := by decide +kernel
theorem dfirst_53 : decode cX12_first 53 = .ok (.getfield 408, 3) := by decide +kernel
theorem dfirst_56 : decode cX12_first 56 = .ok (.iload_n 1, 1) := by decide +kernel
theorem dfirst_57 : decode cX12_first 57 = .ok (.iconst 1, 1) := by decide +kernel
theorem dfirst_58 : decode cX12_first 58 = .ok (.iastore, 1) := by decide +kernel
theorem dfirst_59 : decode cX12_first 59 = .ok (.iload 5, 2) := by decide +kernel
theorem dfirst_61 : decode cX12_first 61 = .ok (.ifCond .ne 11, 3) := by decide +kernel
theorem dfirst_64 : decode cX12_first 64 = .ok (.aload_n 0, 1) := by decide +kernel
theorem dfirst_65 : decode cX12_first 65 = .ok (.iconst 0, 1) := by decide +kernel
theorem dfirst_66 : decode cX12_first 66 = .ok (.invokevirtual 1150, 3) := by decide +kernel
theorem dfirst_69 : decode cX12_first 69 = .ok (.goto 295, 3) := by decide +kernel
theorem dfirst_72 : decode cX12_first 72 = .ok (.iload 5, 2) := by decide +kernel
theorem dfirst_74 : decode cX12_first 74 = .ok (.iconst 1, 1) := by decide +kernel
theorem dfirst_75 : decode cX12_first 75 = .ok (.if_icmp .ne 25, 3) := by decide +kernel
theorem dfirst_78 : decode cX12_first 78 = .ok (.iload 4, 2) := by decide +kernel
theorem dfirst_80 : decode cX12_first 80 = .ok (.bipush 15, 2) := by decide +kernel
theorem dfirst_82 : decode cX12_first 82 = .ok (.if_icmp .eq 10, 3) := by decide +kernel
theorem dfirst_85 : decode cX12_first 85 = .ok (.iload 4, 2) := by decide +kernel
theorem dfirst_87 : decode cX12_first 87 = .ok (.bipush 11, 2) := by decide +kernel
theorem dfirst_89 : decode cX12_first 89 = .ok (.if_icmp .ne 11, 3) := by decide +kernel
theorem dfirst_92 : decode cX12_first 92 = .ok (.aload_n 0, 1) := by decide +kernel
theorem dfirst_93 : decode cX12_first 93 = .ok (.iconst 1, 1) := by decide +kernel
theorem dfirst_94 : decode cX12_first 94 = .ok (.invokevirtual 1150, 3) := by decide +kernel
theorem dfirst_97 : decode cX12_first 97 = .ok (.goto 267, 3) := by decide +kernel
theorem dfirst_100 : decode cX12_first 100 = .ok (.iload 5, 2) := by decide +kernel
theorem dfirst_102 : decode cX12_first 102 = .ok (.iconst 1, 1) := by decide +kernel
theorem dfirst_103 : decode cX12_first 103 = .ok (.if_icmp .ne 66, 3) := by decide +kernel
theorem dfirst_106 : decode cX12_first 106 = .ok (.iload 4, 2) := by decide +kernel
theorem dfirst_108 : decode cX12_first 108 = .ok (.bipush 14, 2) := by decide +kernel
theorem dfirst_110 : decode cX12_first 110 = .ok (.if_icmp .ne 59, 3) := by decide +kernel
theorem dfirst_113 : decode cX12_first 113 = .ok (.aload_n 0, 1) := by decide +kernel
theorem dfirst_114 : decode cX12_first 114 = .ok (.getfield 408, 3) := by decide +kernel
theorem dfirst_117 : decode cX12_first 117 = .ok (.iload_n 1, 1) := by decide +kernel
theorem dfirst_118 : decode cX12_first 118 = .ok (.iconst 3, 1) := by decide +kernel
theorem dfirst_119 : decode cX12_first 119 = .ok (.iastore, 1) := by decide +kernel
theorem dfirst_120 : decode cX12_first 120 = .ok (.aload_n 0, 1) := by decide +kernel
theorem dfirst_121 : decode cX12_first 121 = .ok (.aload_n 0, 1) := by decide +kernel
theorem dfirst_122 : decode cX12_first 122 = .ok (.getfield 222, 3) := by decide +kernel
theorem dfirst_125 : decode cX12_first 125 = .ok (.sipush 400, 3) := by decide +kernel
theorem dfirst_128 : decode cX12_first 128 = .ok (.aload_n 0, 1) := by decide +kernel
theorem dfirst_129 : decode cX12_first 129 = .ok (.getfield 185, 3) := by decide +kernel
theorem dfirst_132 : decode cX12_first 132 = .ok (.iload_n 2, 1) := by decide +kernel
theorem dfirst_133 : decode cX12_first 133 = .ok (.iaload, 1) := by decide +kernel
theorem dfirst_134 : decode cX12_first 134 = .ok (.imul, 1) := by decide +kernel
theorem dfirst_135 : decode cX12_first 135 = .ok (.aload_n 0, 1) := by decide +kernel
theorem dfirst_136 : decode cX12_first 136 = .ok (.getfield 354, 3) := by decide +kernel
theorem dfirst_139 : decode cX12_first 139 = .ok (.iload_n 3, 1) := by decide +kernel
theorem dfirst_140 : decode cX12_first 140 = .ok (.iaload, 1) := by decide +kernel
theorem dfirst_141 : decode cX12_first 141 = .ok (.iadd, 1) := by decide +kernel
theorem dfirst_142 : decode cX12_first 142 = .ok (.iaload, 1) := by decide +kernel
theorem dfirst_143 : decode cX12_first 143 = .ok (.iconst 1, 1) := by decide +kernel
theorem dfirst_144 : decode cX12_first 144 = .ok (.if_icmp .ne 12, 3) := by decide +kernel
theorem dfirst_147 : decode cX12_first 147 = .ok (.aload_n 0, 1) := by decide +kernel
theorem dfirst_148 : decode cX12_first 148 = .ok (.getfield 185, 3) := by decide +kernel
theorem dfirst_151 : decode cX12_first 151 = .ok (.iload_n 2, 1) := by decide +kernel
theorem dfirst_152 : decode cX12_first 152 = .ok (.iaload, 1) := by decide +kernel
theorem dfirst_153 : decode cX12_first 153 = .ok (.goto 9, 3) := by decide +kernel
theorem dfirst_156 : decode cX12_first 156 = .ok (.aload_n 0, 1) := by decide +kernel
theorem dfirst_157 : decode cX12_first 157 = .ok (.getfield 188, 3) := by decide +kernel
theorem dfirst_160 : decode cX12_first 160 = .ok (.iload_n 2, 1) := by decide +kernel
theorem dfirst_161 : decode cX12_first 161 = .ok (.iaload, 1) := by decide +kernel
theorem dfirst_162 : decode cX12_first 162 = .ok (.iload_n 3, 1) := by decide +kernel
theorem dfirst_163 : decode cX12_first 163 = .ok (.invokevirtual 1138, 3) := by decide +kernel
theorem dfirst_166 : decode cX12_first 166 = .ok (.goto 198, 3) := by decide +kernel
theorem dfirst_169 : decode cX12_first 169 = .ok (.iload 4, 2) := by decide +kernel
theorem dfirst_171 : decode cX12_first 171 = .ok (.bipush 13, 2) := by decide +kernel
theorem dfirst_173 : decode cX12_first 173 = .ok (.if_icmp .eq 17, 3) := by decide +kernel
theorem dfirst_176 : decode cX12_first 176 = .ok (.iload 4, 2) := by decide +kernel
theorem dfirst_178 : decode cX12_first 178 = .ok (.bipush 14, 2) := by decide +kernel
theorem dfirst_180 : decode cX12_first 180 = .ok (.if_icmp .eq 10, 3) := by decide +kernel
theorem dfirst_183 : decode cX12_first 183 = .ok (.iload 4, 2) := by decide +kernel
theorem dfirst_185 : decode cX12_first 185 = .ok (.bipush 15, 2) := by decide +kernel
theorem dfirst_187 : decode cX12_first 187 = .ok (.if_icmp .ne 17, 3) := by decide +kernel
theorem dfirst_190 : decode cX12_first 190 = .ok (.aload_n 0, 1) := by decide +kernel
theorem dfirst_191 : decode cX12_first 191 = .ok (.aload_n 0, 1) := by decide +kernel
theorem dfirst_192 : decode cX12_first 192 = .ok (.getfield 185, 3) := by decide +kernel
theorem dfirst_195 : decode cX12_first 195 = .ok (.iload_n 2, 1) := by decide +kernel
theorem dfirst_196 : decode cX12_first 196 = .ok (.iaload, 1) := by decide +kernel
theorem dfirst_197 : decode cX12_first 197 = .ok (.iload_n 3, 1) := by decide +kernel
theorem dfirst_198 : decode cX12_first 198 = .ok (.invokevirtual 1138, 3) := by decide +kernel
theorem dfirst_201 : decode cX12_first 201 = .ok (.goto 163, 3) := by decide +kernel
theorem dfirst_204 : decode cX12_first 204 = .ok (.iload 4, 2) := by decide +kernel
theorem dfirst_206 : decode cX12_first 206 = .ok (.bipush 12, 2) := by decide +kernel
theorem dfirst_208 : decode cX12_first 208 = .ok (.if_icmp .ne 55, 3) := by decide +kernel
theorem dfirst_211 : decode cX12_first 211 = .ok (.bipush 7, 2) := by decide +kernel
theorem dfirst_213 : decode cX12_first 213 = .ok (.istore 6, 2) := by decide +kernel
theorem dfirst_215 : decode cX12_first 215 = .ok (.iload 6, 2) := by decide +kernel
theorem dfirst_217 : decode cX12_first 217 = .ok (.bipush 14, 2) := by decide +kernel
theorem dfirst_219 : decode cX12_first 219 = .ok (.if_icmp .ge 25, 3) := by decide +kernel
theorem dfirst_222 : decode cX12_first 222 = .ok (.aload_n 0, 1) := by decide +kernel
theorem dfirst_223 : decode cX12_first 223 = .ok (.getfield 399, 3) := by decide +kernel
theorem dfirst_226 : decode cX12_first 226 = .ok (.iload 6, 2) := by decide +kernel
theorem dfirst_228 : decode cX12_first 228 = .ok (.iconst 0, 1) := by decide +kernel
theorem dfirst_229 : decode cX12_first 229 = .ok (.iastore, 1) := by decide +kernel
theorem dfirst_230 : decode cX12_first 230 = .ok (.aload_n 0, 1) := by decide +kernel
theorem dfirst_231 : decode cX12_first 231 = .ok (.getfield 402, 3) := by decide +kernel
theorem dfirst_234 : decode cX12_first 234 = .ok (.iload 6, 2) := by decide +kernel
theorem dfirst_236 : decode cX12_first 236 = .ok (.iconst 0, 1) := by decide +kernel
theorem dfirst_237 : decode cX12_first 237 = .ok (.iastore, 1) := by decide +kernel
theorem dfirst_238 : decode cX12_first 238 = .ok (.iinc 6 1, 3) := by decide +kernel
theorem dfirst_241 : decode cX12_first 241 = .ok (.goto (-26), 3) := by decide +kernel
theorem dfirst_244 : decode cX12_first 244 = .ok (.aload_n 0, 1) := by decide +kernel
theorem dfirst_245 : decode cX12_first 245 = .ok (.aload_n 0, 1) := by decide +kernel
theorem dfirst_246 : decode cX12_first 246 = .ok (.getfield 119, 3) := by decide +kernel
theorem dfirst_249 : decode cX12_first 249 = .ok (.aload_n 0, 1) := by decide +kernel
theorem dfirst_250 : decode cX12_first 250 = .ok (.getfield 185, 3) := by decide +kernel
theorem dfirst_253 : decode cX12_first 253 = .ok (.iload_n 2, 1) := by decide +kernel
theorem dfirst_254 : decode cX12_first 254 = .ok (.iaload, 1) := by decide +kernel
theorem dfirst_255 : decode cX12_first 255 = .ok (.iaload, 1) := by decide +kernel
theorem dfirst_256 : decode cX12_first 256 = .ok (.iload_n 3, 1) := by decide +kernel
theorem dfirst_257 : decode cX12_first 257 = .ok (.invokevirtual 1138, 3) := by decide +kernel
theorem dfirst_260 : decode cX12_first 260 = .ok (.goto 104, 3) := by decide +kernel
theorem dfirst_263 : decode cX12_first 263 = .ok (.iload 4, 2) := by decide +kernel
theorem dfirst_265 : decode cX12_first 265 = .ok (.bipush 11, 2) := by decide +kernel
theorem dfirst_267 : decode cX12_first 267 = .ok (.if_icmp .ne 54, 3) := by decide +kernel
theorem dfirst_270 : decode cX12_first 270 = .ok (.aload_n 0, 1) := by decide +kernel
theorem dfirst_271 : decode cX12_first 271 = .ok (.aload_n 0, 1) := by decide +kernel
theorem dfirst_272 : decode cX12_first 272 = .ok (.getfield 978, 3) := by decide +kernel
theorem dfirst_275 : decode cX12_first 275 = .ok (.ldc_w 1075, 3) := by decide +kernel
theorem dfirst_278 : decode cX12_first 278 = .ok (.if_icmp .ge 12, 3) := by decide +kernel
theorem dfirst_281 : decode cX12_first 281 = .ok (.aload_n 0, 1) := by decide +kernel
theorem dfirst_282 : decode cX12_first 282 = .ok (.getfield 978, 3) := by decide +kernel
theorem dfirst_285 : decode cX12_first 285 = .ok (.iconst 1, 1) := by decide +kernel
theorem dfirst_286 : decode cX12_first 286 = .ok (.iadd, 1) := by decide +kernel
theorem dfirst_287 : decode cX12_first 287 = .ok (.goto 7, 3) := by decide +kernel
theorem dfirst_290 : decode cX12_first 290 = .ok (.aload_n 0, 1) := by decide +kernel
theorem dfirst_291 : decode cX12_first 291 = .ok (.getfield 978, 3) := by decide +kernel
theorem dfirst_294 : decode cX12_first 294 = .ok (.putfield 978, 3) := by decide +kernel
theorem dfirst_297 : decode cX12_first 297 = .ok (.aload_n 0, 1) := by decide +kernel
theorem dfirst_298 : decode cX12_first 298 = .ok (.getfield 414, 3) := by decide +kernel
theorem dfirst_301 : decode cX12_first 301 = .ok (.iload_n 1, 1) := by decide +kernel
theorem dfirst_302 : decode cX12_first 302 = .ok (.aload_n 0, 1) := by decide +kernel
theorem dfirst_303 : decode cX12_first 303 = .ok (.getfield 1005, 3) := by decide +kernel
theorem dfirst_306 : decode cX12_first 306 = .ok (.iastore, 1) := by decide +kernel
theorem dfirst_307 : decode cX12_first 307 = .ok (.aload_n 0, 1) := by decide +kernel
theorem dfirst_308 : decode cX12_first 308 = .ok (.aload_n 0, 1) := by decide +kernel
theorem dfirst_309 : decode cX12_first 309 = .ok (.getfield 185, 3) := by decide +kernel
theorem dfirst_312 : decode cX12_first 312 = .ok (.iload_n 2, 1) := by decide +kernel
theorem dfirst_313 : decode cX12_first 313 = .ok (.iaload, 1) := by decide +kernel
theorem dfirst_314 : decode cX12_first 314 = .ok (.iload_n 3, 1) := by decide +kernel
theorem dfirst_315 : decode cX12_first 315 = .ok (.invokevirtual 1138, 3) := by decide +kernel
theorem dfirst_318 : decode cX12_first 318 = .ok (.goto 46, 3) := by decide +kernel
theorem dfirst_321 : decode cX12_first 321 = .ok (.aload_n 0, 1) := by decide +kernel
theorem dfirst_322 : decode cX12_first 322 = .ok (.iload 5, 2) := by decide +kernel
theorem dfirst_324 : decode cX12_first 324 = .ok (.iconst 1, 1) := by decide +kernel
theorem dfirst_325 : decode cX12_first 325 = .ok (.if_icmp .eq 13, 3) := by decide +kernel
theorem dfirst_328 : decode cX12_first 328 = .ok (.aload_n 0, 1) := by decide +kernel
theorem dfirst_329 : decode cX12_first 329 = .ok (.getfield 978, 3) := by decide +kernel
theorem dfirst_332 : decode cX12_first 332 = .ok (.ldc_w 1075, 3) := by decide +kernel
theorem dfirst_335 : decode cX12_first 335 = .ok (.if_icmp .ne 10, 3) := by decide +kernel
theorem dfirst_338 : decode cX12_first 338 = .ok (.aload_n 0, 1) := by decide +kernel
theorem dfirst_339 : decode cX12_first 339 = .ok (.getfield 978, 3) := by decide +kernel
theorem dfirst_342 : decode cX12_first 342 = .ok (.goto 9, 3) := by decide +kernel
theorem dfirst_345 : decode cX12_first 345 = .ok (.aload_n 0, 1) := by decide +kernel
theorem dfirst_346 : decode cX12_first 346 = .ok (.getfield 978, 3) := by decide +kernel
theorem dfirst_349 : decode cX12_first 349 = .ok (.iconst 1, 1) := by decide +kernel
theorem dfirst_350 : decode cX12_first 350 = .ok (.iadd, 1) := by decide +kernel
theorem dfirst_351 : decode cX12_first 351 = .ok (.putfield 978, 3) := by decide +kernel
theorem dfirst_354 : decode cX12_first 354 = .ok (.aload_n 0, 1) := by decide +kernel
theorem dfirst_355 : decode cX12_first 355 = .ok (.aload_n 0, 1) := by decide +kernel
theorem dfirst_356 : decode cX12_first 356 = .ok (.iload_n 2, 1) := by decide +kernel
theorem dfirst_357 : decode cX12_first 357 = .ok (.iload_n 3, 1) := by decide +kernel
theorem dfirst_358 : decode cX12_first 358 = .ok (.invokevirtual 1154, 3) := by decide +kernel
theorem dfirst_361 : decode cX12_first 361 = .ok (.invokevirtual 1150, 3) := by decide +kernel
theorem dfirst_364 : decode cX12_first 364 = .ok (.return_, 1) := by decide +kernel
section
variable {l : Launch} {D : va_G} {cA : Nat → ClassId} {ad : Nat → Nat}
theorem s_first {a1 : Int} {ht st rg : Nat → Int} {h : ja_H} {Q : Option ja_V → ja_H → Prop} (g : mo_G mo_zr h) (r1 : -2147483648 ≤ a1 ∧ a1 ≤ 2147483647) (p1 : a1 = (h 0 202) - 1) (p2 : 1 ≤ (h 0 202)) (p3 : (h 133 (a1).toNat) = 0) (p4 : VI h) (p5 : CI h ht st rg) (p6 : evI h) (p7 : RW h) (k1 : ∀ (h' : ja_H), ((evI h' ∧ evV h' < evV h) ∧ mo_ag FEVK h h' ∧ VI h') → mo_G mo_zr h' → Q none h') : mM_first l D cA ad a1 h Q := by
  show mJ l D cA ad 7 cX12_first 7 none 0 [(0, (2, ((0 : Nat) : Int))), (1, (0, a1))] [] h Q
  have kn_ev := gF_ev g
  have kn_reached := gF_reached g
  have kn_tests := gF_tests g
  have kn_nodes := gF_nodes g
  have CUT : ∀ n : Nat, (∀ (s0 : Int), (-2147483648 ≤ s0 ∧ s0 ≤ 2147483647) → (0 ≤ s0 ∧ s0 ≤ 2) → (1000) = n → mJ l D cA ad 7 cX12_first 7 none 50 [(0, (2, ((0 : Nat) : Int))), (1, (0, a1)), (2, (0, (h 132 (a1).toNat))), (3, (0, (h 134 (a1).toNat))), (4, (0, (h 58 (h 132 (a1).toNat).toNat)))] [(0, s0)] h Q) ∧ (∀ (x6 : Int) (u : ja_H), mo_G mo_zr u → (-2147483648 ≤ x6 ∧ x6 ≤ 2147483647) → ((0 ≤ x6 ∧ x6 ≤ 14 ∧ (h 58 (h 132 (a1).toNat).toNat) = 12) ∧ mo_ag FBI (ja_up h 133 (a1).toNat 1) u ∧ VI u) → (((100 : Int) - x6).toNat) = n → mJ l D cA ad 7 cX12_first 7 none 215 [(0, (2, ((0 : Nat) : Int))), (2, (0, (h 132 (a1).toNat))), (3, (0, (h 134 (a1).toNat))), (6, (0, x6))] [] u Q) := by
    intro n
    induction n using Nat.strongRecOn with
    | _ n ih =>
      refine ⟨?_, ?_⟩
      · intro s0 qs0 iv hm
        subst hm
        have kn2_nodes := gF_nodes g
        have kn2_tests := gF_tests g
        have hq := p6 (a1).toNat (by omega)
        obtain ⟨v1, v2, v3, v4, v5⟩ := hq
        clear v3
        have h9 := ev_900 p6 (by omega)
        have gvn := gC_evNode g (a1).toNat
        have gvr := gC_evRow g (a1).toNat
        have gva := gC_evAt g (a1).toNat
        have gkd := gC_nodeKind g (h 132 (a1).toNat).toNat
        obtain ⟨hrw, hrs⟩ := p7 (h 134 (a1).toNat).toNat (by omega)
        obtain ⟨kd1, kd2, kd3⟩ := ci_kid g p5 (n := (h 132 (a1).toNat).toNat) (by omega)
        have hne : ¬ (a1).toNat = (h 0 202).toNat := by omega
        have grc := gF_reached g
        refine ja_istore dfirst_50 (by decide) (L2 := [(5, (0, s0)), (0, (2, ((0 : Nat) : Int))), (1, (0, a1)), (2, (0, (h 132 (a1).toNat))), (3, (0, (h 134 (a1).toNat))), (4, (0, (h 58 (h 132 (a1).toNat).toNat)))]) rfl ?_
        refine ja_aload_n dfirst_52 rfl rfl ?_
        refine fa_evState dfirst_53 ?_
        refine ja_iload_n dfirst_56 rfl rfl ?_
        refine ja_iconst dfirst_57 ?_
        have g1 := gW_evState g (a1).toNat (x := 1) ⟨by decide, by decide⟩
        refine is_evState ⟨by omega, by omega⟩ dfirst_58 ?_
        refine ja_iload dfirst_59 rfl ?_
        refine ja_if_ne 72 dfirst_61 rfl ⟨by omega, by omega⟩ (fun c61 => ?_) (fun c61 => ?_)
        · refine ja_iload dfirst_72 rfl ?_
          refine ja_iconst dfirst_74 ?_
          refine ja_icmp_ne 100 dfirst_75 rfl ⟨by omega, by omega⟩ ⟨by decide, by decide⟩ (fun c75 => ?_) (fun c75 => ?_)
          · refine ja_iload dfirst_100 rfl ?_
            refine ja_iconst dfirst_102 ?_
            refine ja_icmp_ne 169 dfirst_103 rfl ⟨by omega, by omega⟩ ⟨by decide, by decide⟩ (fun c103 => ?_) (fun c103 => ?_)
            · refine ja_iload dfirst_169 rfl ?_
              refine ja_bipush 13 dfirst_171 rfl ?_
              refine ja_icmp_eq 190 dfirst_173 rfl ⟨by omega, by omega⟩ ⟨by decide, by decide⟩ (fun c173 => ?_) (fun c173 => ?_)
              · have kk : kid h (h 59 (h 132 (a1).toNat).toNat) (h 132 (a1).toNat).toNat := by first | exact (kd1 (by omega)).1 | exact kd2 (by omega)
                have kk1 := kk.1
                have kk2 := kk.2.1
                refine ja_aload_n dfirst_190 rfl rfl ?_
                refine ja_aload_n dfirst_191 rfl rfl ?_
                refine fa_nodeA dfirst_192 ?_
                refine ja_iload_n dfirst_195 rfl rfl ?_
                refine il_nodeA (v := h 59 (h 132 (a1).toNat).toNat) rfl ⟨by omega, by omega⟩ dfirst_196 ?_
                have f2 := gC_nodeA g (h 132 (a1).toNat).toNat
                refine ja_iload_n dfirst_197 rfl rfl ?_
                refine t_ask (by decide) (show (0 : Nat) ≤ 8 by decide) dfirst_198 g1 ⟨by omega, by omega⟩ ⟨by omega, by omega⟩ (show 0 ≤ (h 59 (h 132 (a1).toNat).toNat) ∧ (h 59 (h 132 (a1).toNat).toNat) ≤ 899 by omega) (show 0 ≤ (h 134 (a1).toNat) ∧ (h 134 (a1).toNat) ≤ 119 by omega) (show (h 0 202) ≤ 999 by omega) ?_
                intro g3
                replace g3 : mo_G mo_zr (ja_up (ja_up (ja_up (ja_up (ja_up (ja_up h 133 ((a1).toNat) 1) 132 ((h 0 202).toNat) (h 59 (h 132 (a1).toNat).toNat)) 134 ((h 0 202).toNat) (h 134 (a1).toNat)) 133 ((h 0 202).toNat) 0) 135 ((h 0 202).toNat) 0) 0 202 ((h 0 202) + 1)) := g3
                show mJ l D cA ad 7 cX12_first 7 none 201 [(5, (0, s0)), (0, (2, ((0 : Nat) : Int))), (1, (0, a1)), (2, (0, (h 132 (a1).toNat))), (3, (0, (h 134 (a1).toNat))), (4, (0, (h 58 (h 132 (a1).toNat).toNat)))] [] (ja_up (ja_up (ja_up (ja_up (ja_up (ja_up h 133 ((a1).toNat) 1) 132 ((h 0 202).toNat) (h 59 (h 132 (a1).toNat).toNat)) 134 ((h 0 202).toNat) (h 134 (a1).toNat)) 133 ((h 0 202).toNat) 0) 135 ((h 0 202).toNat) 0) 0 202 ((h 0 202) + 1)) Q
                refine ja_goto 364 dfirst_201 rfl ?_
                refine ja_return dfirst_364 rfl ?_
                exact k1 (ja_up (ja_up (ja_up (ja_up (ja_up (ja_up h 133 ((a1).toNat) 1) 132 ((h 0 202).toNat) (h 59 (h 132 (a1).toNat).toNat)) 134 ((h 0 202).toNat) (h 134 (a1).toNat)) 133 ((h 0 202).toNat) 0) 135 ((h 0 202).toNat) 0) 0 202 ((h 0 202) + 1)) (⟨ev_ask (e := a1) (c := (h 59 (h 132 (a1).toNat).toNat)) (r := (h 134 (a1).toNat)) g g3 p6 (by omega) (by omega) (by (repeat (first | exact ag_refl | refine ag_up rfl ?_))) (show (((h 0 202) + 1) : Int) = (h 0 202) + 1 by omega) (fun j h1 h2 => by refine ⟨?_, ?_, ?_, ?_⟩ <;> simp [ja_up, h1, h2]) (by simp [ja_up, hne]) (by simp [ja_up, hne]) (by omega) (by simp [ja_up, hne] <;> omega) (by simp [ja_up]) (by simp [ja_up]) (by simp [ja_up]) (by simp [ja_up]) (by first | exact (kd1 (by omega)).1 | exact kd2 (by omega)) ⟨by omega, by omega⟩ (by unfold evD; simp [ja_up, hne, p3] <;> omega), (by (repeat (first | exact ag_refl | refine ag_up rfl ?_))), (by (repeat (first | exact p4 | refine vi_set (by decide) (by decide) (by decide) ?_ (by first | exact (fun z => absurd z (by decide)) | exact vi_aS p4 (by decide) _ | exact (fun z => ⟨by omega, hca⟩) | exact (fun z => ⟨by omega, hca z⟩) | (intro z; exfalso; omega)) | refine vi_res ?_ (by first | exact (fun z => absurd z (by decide)) | exact vi_aS p4 (by decide) _ | exact (fun z => ⟨by omega, hca⟩) | exact (fun z => ⟨by omega, hca z⟩) | (intro z; exfalso; omega)) | refine vi_arr (by decide) (by decide) ?_ | refine vi_up (by decide) (by decide) ?_)))⟩) g3
              · refine ja_iload dfirst_176 rfl ?_
                refine ja_bipush 14 dfirst_178 rfl ?_
                refine ja_icmp_eq 190 dfirst_180 rfl ⟨by omega, by omega⟩ ⟨by decide, by decide⟩ (fun c180 => ?_) (fun c180 => ?_)
                · have kk : kid h (h 59 (h 132 (a1).toNat).toNat) (h 132 (a1).toNat).toNat := by first | exact (kd1 (by omega)).1 | exact kd2 (by omega)
                  have kk1 := kk.1
                  have kk2 := kk.2.1
                  refine ja_aload_n dfirst_190 rfl rfl ?_
                  refine ja_aload_n dfirst_191 rfl rfl ?_
                  refine fa_nodeA dfirst_192 ?_
                  refine ja_iload_n dfirst_195 rfl rfl ?_
                  refine il_nodeA (v := h 59 (h 132 (a1).toNat).toNat) rfl ⟨by omega, by omega⟩ dfirst_196 ?_
                  have f4 := gC_nodeA g (h 132 (a1).toNat).toNat
                  refine ja_iload_n dfirst_197 rfl rfl ?_
                  refine t_ask (by decide) (show (0 : Nat) ≤ 8 by decide) dfirst_198 g1 ⟨by omega, by omega⟩ ⟨by omega, by omega⟩ (show 0 ≤ (h 59 (h 132 (a1).toNat).toNat) ∧ (h 59 (h 132 (a1).toNat).toNat) ≤ 899 by omega) (show 0 ≤ (h 134 (a1).toNat) ∧ (h 134 (a1).toNat) ≤ 119 by omega) (show (h 0 202) ≤ 999 by omega) ?_
                  intro g5
                  replace g5 : mo_G mo_zr (ja_up (ja_up (ja_up (ja_up (ja_up (ja_up h 133 ((a1).toNat) 1) 132 ((h 0 202).toNat) (h 59 (h 132 (a1).toNat).toNat)) 134 ((h 0 202).toNat) (h 134 (a1).toNat)) 133 ((h 0 202).toNat) 0) 135 ((h 0 202).toNat) 0) 0 202 ((h 0 202) + 1)) := g5
                  show mJ l D cA ad 7 cX12_first 7 none 201 [(5, (0, s0)), (0, (2, ((0 : Nat) : Int))), (1, (0, a1)), (2, (0, (h 132 (a1).toNat))), (3, (0, (h 134 (a1).toNat))), (4, (0, (h 58 (h 132 (a1).toNat).toNat)))] [] (ja_up (ja_up (ja_up (ja_up (ja_up (ja_up h 133 ((a1).toNat) 1) 132 ((h 0 202).toNat) (h 59 (h 132 (a1).toNat).toNat)) 134 ((h 0 202).toNat) (h 134 (a1).toNat)) 133 ((h 0 202).toNat) 0) 135 ((h 0 202).toNat) 0) 0 202 ((h 0 202) + 1)) Q
                  refine ja_goto 364 dfirst_201 rfl ?_
                  refine ja_return dfirst_364 rfl ?_
                  exact k1 (ja_up (ja_up (ja_up (ja_up (ja_up (ja_up h 133 ((a1).toNat) 1) 132 ((h 0 202).toNat) (h 59 (h 132 (a1).toNat).toNat)) 134 ((h 0 202).toNat) (h 134 (a1).toNat)) 133 ((h 0 202).toNat) 0) 135 ((h 0 202).toNat) 0) 0 202 ((h 0 202) + 1)) (⟨ev_ask (e := a1) (c := (h 59 (h 132 (a1).toNat).toNat)) (r := (h 134 (a1).toNat)) g g5 p6 (by omega) (by omega) (by (repeat (first | exact ag_refl | refine ag_up rfl ?_))) (show (((h 0 202) + 1) : Int) = (h 0 202) + 1 by omega) (fun j h1 h2 => by refine ⟨?_, ?_, ?_, ?_⟩ <;> simp [ja_up, h1, h2]) (by simp [ja_up, hne]) (by simp [ja_up, hne]) (by omega) (by simp [ja_up, hne] <;> omega) (by simp [ja_up]) (by simp [ja_up]) (by simp [ja_up]) (by simp [ja_up]) (by first | exact (kd1 (by omega)).1 | exact kd2 (by omega)) ⟨by omega, by omega⟩ (by unfold evD; simp [ja_up, hne, p3] <;> omega), (by (repeat (first | exact ag_refl | refine ag_up rfl ?_))), (by (repeat (first | exact p4 | refine vi_set (by decide) (by decide) (by decide) ?_ (by first | exact (fun z => absurd z (by decide)) | exact vi_aS p4 (by decide) _ | exact (fun z => ⟨by omega, hca⟩) | exact (fun z => ⟨by omega, hca z⟩) | (intro z; exfalso; omega)) | refine vi_res ?_ (by first | exact (fun z => absurd z (by decide)) | exact vi_aS p4 (by decide) _ | exact (fun z => ⟨by omega, hca⟩) | exact (fun z => ⟨by omega, hca z⟩) | (intro z; exfalso; omega)) | refine vi_arr (by decide) (by decide) ?_ | refine vi_up (by decide) (by decide) ?_)))⟩) g5
                · refine ja_iload dfirst_183 rfl ?_
                  refine ja_bipush 15 dfirst_185 rfl ?_
                  refine ja_icmp_ne 204 dfirst_187 rfl ⟨by omega, by omega⟩ ⟨by decide, by decide⟩ (fun c187 => ?_) (fun c187 => ?_)
                  · refine ja_iload dfirst_204 rfl ?_
                    refine ja_bipush 12 dfirst_206 rfl ?_
                    refine ja_icmp_ne 263 dfirst_208 rfl ⟨by omega, by omega⟩ ⟨by decide, by decide⟩ (fun c208 => ?_) (fun c208 => ?_)
                    · refine ja_iload dfirst_263 rfl ?_
                      refine ja_bipush 11 dfirst_265 rfl ?_
                      refine ja_icmp_ne 321 dfirst_267 rfl ⟨by omega, by omega⟩ ⟨by decide, by decide⟩ (fun c267 => ?_) (fun c267 => ?_)
                      · refine ja_aload_n dfirst_321 rfl rfl ?_
                        refine ja_iload dfirst_322 rfl ?_
                        refine ja_iconst dfirst_324 ?_
                        refine ja_icmp_eq 338 dfirst_325 rfl ⟨by omega, by omega⟩ ⟨by decide, by decide⟩ (fun c325 => ?_) (fun c325 => ?_)
                        · refine ja_aload_n dfirst_338 rfl rfl ?_
                          refine fg_tests (v := h 0 131) rfl dfirst_339 ?_
                          have f6 := gF_tests g
                          refine ja_goto 351 dfirst_342 rfl ?_
                          have g7 := gP_tests g1 (x := h 0 131) ⟨by omega, by omega⟩
                          refine fp_tests dfirst_351 ?_
                          refine ja_aload_n dfirst_354 rfl rfl ?_
                          refine ja_aload_n dfirst_355 rfl rfl ?_
                          refine ja_iload_n dfirst_356 rfl rfl ?_
                          refine ja_iload_n dfirst_357 rfl rfl ?_
                          refine t_isLeaf (by decide) (show (1 : Nat) ≤ 8 by decide) dfirst_358 g7 ⟨by omega, by omega⟩ ⟨by omega, by omega⟩ (show 0 ≤ (h 132 (a1).toNat) ∧ (h 132 (a1).toNat) ≤ 899 by omega) (show 0 ≤ (h 134 (a1).toNat) ∧ (h 134 (a1).toNat) ≤ 119 by omega) ((by (repeat (first | exact p4 | refine vi_set (by decide) (by decide) (by decide) ?_ (by first | exact (fun z => absurd z (by decide)) | exact vi_aS p4 (by decide) _ | exact (fun z => ⟨by omega, hca⟩) | exact (fun z => ⟨by omega, hca z⟩) | (intro z; exfalso; omega)) | refine vi_res ?_ (by first | exact (fun z => absurd z (by decide)) | exact vi_aS p4 (by decide) _ | exact (fun z => ⟨by omega, hca⟩) | exact (fun z => ⟨by omega, hca z⟩) | (intro z; exfalso; omega)) | refine vi_arr (by decide) (by decide) ?_ | refine vi_up (by decide) (by decide) ?_)))) (ci_g p5 (by (repeat (first | exact ag_refl | refine ag_up rfl ?_)))) (show (h 132 (a1).toNat) < (h 0 95) by omega) (show (h 115 (h 134 (a1).toNat).toNat) < (h 0 88) by omega) (hrs) ?_
                          intro w8 h9 k358_0 g10
                          replace k358_0 : (0 ≤ w8 ∧ w8 ≤ 1) ∧ mo_ag FBI (ja_up (ja_up h 133 ((a1).toNat) 1) 0 131 (h 0 131)) h9 ∧ VI h9 := k358_0
                          have c_ev : (h9 0 202) = (h 0 202) := k358_0.2.1 0 202 rfl
                          refine t_answer (by decide) (show (0 : Nat) ≤ 8 by decide) dfirst_361 g10 ⟨by omega, by omega⟩ (show 1 ≤ (h9 0 202) by omega) ?_
                          intro g11
                          replace g11 : mo_G mo_zr (ja_up (ja_up h9 0 203 w8) 0 202 ((h9 0 202) - 1)) := g11
                          show mJ l D cA ad 7 cX12_first 7 none 364 [(5, (0, s0)), (0, (2, ((0 : Nat) : Int))), (1, (0, a1)), (2, (0, (h 132 (a1).toNat))), (3, (0, (h 134 (a1).toNat))), (4, (0, (h 58 (h 132 (a1).toNat).toNat)))] [] (ja_up (ja_up h9 0 203 w8) 0 202 ((h9 0 202) - 1)) Q
                          refine ja_return dfirst_364 rfl ?_
                          exact k1 (ja_up (ja_up h9 0 203 w8) 0 202 ((h9 0 202) - 1)) (⟨ev_pop (e := a1) g11 p6 (by omega) (by omega) (by omega) (ag_trans (by (repeat (first | exact ag_refl | refine ag_up rfl ?_))) (ag_trans (ag_sub (X_X (by decide) (by decide)) k358_0.2.1) (by (repeat (first | exact ag_refl | refine ag_up rfl ?_))))) (show (((h9 0 202) - 1) : Int) = (h 0 202) - 1 by omega) (fun j hj => ⟨(show ((ja_up (ja_up h9 0 203 w8) 0 202 ((h9 0 202) - 1)) 132) j = _ from (by simp [ja_up, c_ev, hj])).trans ((k358_0.2.1 132 j rfl).trans (by simp [ja_up, c_ev, hj])), (show ((ja_up (ja_up h9 0 203 w8) 0 202 ((h9 0 202) - 1)) 134) j = _ from (by simp [ja_up, c_ev, hj])).trans ((k358_0.2.1 134 j rfl).trans (by simp [ja_up, c_ev, hj])), (show ((ja_up (ja_up h9 0 203 w8) 0 202 ((h9 0 202) - 1)) 133) j = _ from (by simp [ja_up, c_ev, hj])).trans ((k358_0.2.1 133 j rfl).trans (by simp [ja_up, c_ev, hj])), (show ((ja_up (ja_up h9 0 203 w8) 0 202 ((h9 0 202) - 1)) 135) j = _ from (by simp [ja_up, c_ev, hj])).trans ((k358_0.2.1 135 j rfl).trans (by simp [ja_up, c_ev, hj]))⟩) g, (ag_trans (by (repeat (first | exact ag_refl | refine ag_up rfl ?_))) (ag_trans (ag_sub (X_X (by decide) (by decide)) k358_0.2.1) (by (repeat (first | exact ag_refl | refine ag_up rfl ?_))))), (by (repeat (first | exact k358_0.2.2 | refine vi_set (by decide) (by decide) (by decide) ?_ (by first | exact (fun z => absurd z (by decide)) | exact vi_aS k358_0.2.2 (by decide) _ | exact (fun z => ⟨by omega, hca⟩) | exact (fun z => ⟨by omega, hca z⟩) | (intro z; exfalso; omega)) | refine vi_res ?_ (by first | exact (fun z => absurd z (by decide)) | exact vi_aS k358_0.2.2 (by decide) _ | exact (fun z => ⟨by omega, hca⟩) | exact (fun z => ⟨by omega, hca z⟩) | (intro z; exfalso; omega)) | refine vi_arr (by decide) (by decide) ?_ | refine vi_up (by decide) (by decide) ?_)))⟩) g11
                        · refine ja_aload_n dfirst_328 rfl rfl ?_
                          refine fg_tests (v := h 0 131) rfl dfirst_329 ?_
                          have f12 := gF_tests g
                          refine mk_1075w dfirst_332 ?_
                          refine ja_icmp_ne 345 dfirst_335 rfl ⟨by omega, by omega⟩ ⟨by decide, by decide⟩ (fun c335 => ?_) (fun c335 => ?_)
                          · refine ja_aload_n dfirst_345 rfl rfl ?_
                            refine fg_tests (v := h 0 131) rfl dfirst_346 ?_
                            refine ja_iconst dfirst_349 ?_
                            refine ja_iadd dfirst_350 ?_
                            have g13 := gP_tests g1 (x := (h 0 131) + 1) ⟨by omega, by omega⟩
                            refine fp_tests dfirst_351 ?_
                            refine ja_aload_n dfirst_354 rfl rfl ?_
                            refine ja_aload_n dfirst_355 rfl rfl ?_
                            refine ja_iload_n dfirst_356 rfl rfl ?_
                            refine ja_iload_n dfirst_357 rfl rfl ?_
                            refine t_isLeaf (by decide) (show (1 : Nat) ≤ 8 by decide) dfirst_358 g13 ⟨by omega, by omega⟩ ⟨by omega, by omega⟩ (show 0 ≤ (h 132 (a1).toNat) ∧ (h 132 (a1).toNat) ≤ 899 by omega) (show 0 ≤ (h 134 (a1).toNat) ∧ (h 134 (a1).toNat) ≤ 119 by omega) ((by (repeat (first | exact p4 | refine vi_set (by decide) (by decide) (by decide) ?_ (by first | exact (fun z => absurd z (by decide)) | exact vi_aS p4 (by decide) _ | exact (fun z => ⟨by omega, hca⟩) | exact (fun z => ⟨by omega, hca z⟩) | (intro z; exfalso; omega)) | refine vi_res ?_ (by first | exact (fun z => absurd z (by decide)) | exact vi_aS p4 (by decide) _ | exact (fun z => ⟨by omega, hca⟩) | exact (fun z => ⟨by omega, hca z⟩) | (intro z; exfalso; omega)) | refine vi_arr (by decide) (by decide) ?_ | refine vi_up (by decide) (by decide) ?_)))) (ci_g p5 (by (repeat (first | exact ag_refl | refine ag_up rfl ?_)))) (show (h 132 (a1).toNat) < (h 0 95) by omega) (show (h 115 (h 134 (a1).toNat).toNat) < (h 0 88) by omega) (hrs) ?_
                            intro w14 h15 k358_0 g16
                            replace k358_0 : (0 ≤ w14 ∧ w14 ≤ 1) ∧ mo_ag FBI (ja_up (ja_up h 133 ((a1).toNat) 1) 0 131 ((h 0 131) + 1)) h15 ∧ VI h15 := k358_0
                            have c_ev : (h15 0 202) = (h 0 202) := k358_0.2.1 0 202 rfl
                            refine t_answer (by decide) (show (0 : Nat) ≤ 8 by decide) dfirst_361 g16 ⟨by omega, by omega⟩ (show 1 ≤ (h15 0 202) by omega) ?_
                            intro g17
                            replace g17 : mo_G mo_zr (ja_up (ja_up h15 0 203 w14) 0 202 ((h15 0 202) - 1)) := g17
                            show mJ l D cA ad 7 cX12_first 7 none 364 [(5, (0, s0)), (0, (2, ((0 : Nat) : Int))), (1, (0, a1)), (2, (0, (h 132 (a1).toNat))), (3, (0, (h 134 (a1).toNat))), (4, (0, (h 58 (h 132 (a1).toNat).toNat)))] [] (ja_up (ja_up h15 0 203 w14) 0 202 ((h15 0 202) - 1)) Q
                            refine ja_return dfirst_364 rfl ?_
                            exact k1 (ja_up (ja_up h15 0 203 w14) 0 202 ((h15 0 202) - 1)) (⟨ev_pop (e := a1) g17 p6 (by omega) (by omega) (by omega) (ag_trans (by (repeat (first | exact ag_refl | refine ag_up rfl ?_))) (ag_trans (ag_sub (X_X (by decide) (by decide)) k358_0.2.1) (by (repeat (first | exact ag_refl | refine ag_up rfl ?_))))) (show (((h15 0 202) - 1) : Int) = (h 0 202) - 1 by omega) (fun j hj => ⟨(show ((ja_up (ja_up h15 0 203 w14) 0 202 ((h15 0 202) - 1)) 132) j = _ from (by simp [ja_up, c_ev, hj])).trans ((k358_0.2.1 132 j rfl).trans (by simp [ja_up, c_ev, hj])), (show ((ja_up (ja_up h15 0 203 w14) 0 202 ((h15 0 202) - 1)) 134) j = _ from (by simp [ja_up, c_ev, hj])).trans ((k358_0.2.1 134 j rfl).trans (by simp [ja_up, c_ev, hj])), (show ((ja_up (ja_up h15 0 203 w14) 0 202 ((h15 0 202) - 1)) 133) j = _ from (by simp [ja_up, c_ev, hj])).trans ((k358_0.2.1 133 j rfl).trans (by simp [ja_up, c_ev, hj])), (show ((ja_up (ja_up h15 0 203 w14) 0 202 ((h15 0 202) - 1)) 135) j = _ from (by simp [ja_up, c_ev, hj])).trans ((k358_0.2.1 135 j rfl).trans (by simp [ja_up, c_ev, hj]))⟩) g, (ag_trans (by (repeat (first | exact ag_refl | refine ag_up rfl ?_))) (ag_trans (ag_sub (X_X (by decide) (by decide)) k358_0.2.1) (by (repeat (first | exact ag_refl | refine ag_up rfl ?_))))), (by (repeat (first | exact k358_0.2.2 | refine vi_set (by decide) (by decide) (by decide) ?_ (by first | exact (fun z => absurd z (by decide)) | exact vi_aS k358_0.2.2 (by decide) _ | exact (fun z => ⟨by omega, hca⟩) | exact (fun z => ⟨by omega, hca z⟩) | (intro z; exfalso; omega)) | refine vi_res ?_ (by first | exact (fun z => absurd z (by decide)) | exact vi_aS k358_0.2.2 (by decide) _ | exact (fun z => ⟨by omega, hca⟩) | exact (fun z => ⟨by omega, hca z⟩) | (intro z; exfalso; omega)) | refine vi_arr (by decide) (by decide) ?_ | refine vi_up (by decide) (by decide) ?_)))⟩) g17
                          · refine ja_aload_n dfirst_338 rfl rfl ?_
                            refine fg_tests (v := h 0 131) rfl dfirst_339 ?_
                            refine ja_goto 351 dfirst_342 rfl ?_
                            have g18 := gP_tests g1 (x := h 0 131) ⟨by omega, by omega⟩
                            refine fp_tests dfirst_351 ?_
                            refine ja_aload_n dfirst_354 rfl rfl ?_
                            refine ja_aload_n dfirst_355 rfl rfl ?_
                            refine ja_iload_n dfirst_356 rfl rfl ?_
                            refine ja_iload_n dfirst_357 rfl rfl ?_
                            refine t_isLeaf (by decide) (show (1 : Nat) ≤ 8 by decide) dfirst_358 g18 ⟨by omega, by omega⟩ ⟨by omega, by omega⟩ (show 0 ≤ (h 132 (a1).toNat) ∧ (h 132 (a1).toNat) ≤ 899 by omega) (show 0 ≤ (h 134 (a1).toNat) ∧ (h 134 (a1).toNat) ≤ 119 by omega) ((by (repeat (first | exact p4 | refine vi_set (by decide) (by decide) (by decide) ?_ (by first | exact (fun z => absurd z (by decide)) | exact vi_aS p4 (by decide) _ | exact (fun z => ⟨by omega, hca⟩) | exact (fun z => ⟨by omega, hca z⟩) | (intro z; exfalso; omega)) | refine vi_res ?_ (by first | exact (fun z => absurd z (by decide)) | exact vi_aS p4 (by decide) _ | exact (fun z => ⟨by omega, hca⟩) | exact (fun z => ⟨by omega, hca z⟩) | (intro z; exfalso; omega)) | refine vi_arr (by decide) (by decide) ?_ | refine vi_up (by decide) (by decide) ?_)))) (ci_g p5 (by (repeat (first | exact ag_refl | refine ag_up rfl ?_)))) (show (h 132 (a1).toNat) < (h 0 95) by omega) (show (h 115 (h 134 (a1).toNat).toNat) < (h 0 88) by omega) (hrs) ?_
                            intro w19 h20 k358_0 g21
                            replace k358_0 : (0 ≤ w19 ∧ w19 ≤ 1) ∧ mo_ag FBI (ja_up (ja_up h 133 ((a1).toNat) 1) 0 131 (h 0 131)) h20 ∧ VI h20 := k358_0
                            have c_ev : (h20 0 202) = (h 0 202) := k358_0.2.1 0 202 rfl
                            refine t_answer (by decide) (show (0 : Nat) ≤ 8 by decide) dfirst_361 g21 ⟨by omega, by omega⟩ (show 1 ≤ (h20 0 202) by omega) ?_
                            intro g22
                            replace g22 : mo_G mo_zr (ja_up (ja_up h20 0 203 w19) 0 202 ((h20 0 202) - 1)) := g22
                            show mJ l D cA ad 7 cX12_first 7 none 364 [(5, (0, s0)), (0, (2, ((0 : Nat) : Int))), (1, (0, a1)), (2, (0, (h 132 (a1).toNat))), (3, (0, (h 134 (a1).toNat))), (4, (0, (h 58 (h 132 (a1).toNat).toNat)))] [] (ja_up (ja_up h20 0 203 w19) 0 202 ((h20 0 202) - 1)) Q
                            refine ja_return dfirst_364 rfl ?_
                            exact k1 (ja_up (ja_up h20 0 203 w19) 0 202 ((h20 0 202) - 1)) (⟨ev_pop (e := a1) g22 p6 (by omega) (by omega) (by omega) (ag_trans (by (repeat (first | exact ag_refl | refine ag_up rfl ?_))) (ag_trans (ag_sub (X_X (by decide) (by decide)) k358_0.2.1) (by (repeat (first | exact ag_refl | refine ag_up rfl ?_))))) (show (((h20 0 202) - 1) : Int) = (h 0 202) - 1 by omega) (fun j hj => ⟨(show ((ja_up (ja_up h20 0 203 w19) 0 202 ((h20 0 202) - 1)) 132) j = _ from (by simp [ja_up, c_ev, hj])).trans ((k358_0.2.1 132 j rfl).trans (by simp [ja_up, c_ev, hj])), (show ((ja_up (ja_up h20 0 203 w19) 0 202 ((h20 0 202) - 1)) 134) j = _ from (by simp [ja_up, c_ev, hj])).trans ((k358_0.2.1 134 j rfl).trans (by simp [ja_up, c_ev, hj])), (show ((ja_up (ja_up h20 0 203 w19) 0 202 ((h20 0 202) - 1)) 133) j = _ from (by simp [ja_up, c_ev, hj])).trans ((k358_0.2.1 133 j rfl).trans (by simp [ja_up, c_ev, hj])), (show ((ja_up (ja_up h20 0 203 w19) 0 202 ((h20 0 202) - 1)) 135) j = _ from (by simp [ja_up, c_ev, hj])).trans ((k358_0.2.1 135 j rfl).trans (by simp [ja_up, c_ev, hj]))⟩) g, (ag_trans (by (repeat (first | exact ag_refl | refine ag_up rfl ?_))) (ag_trans (ag_sub (X_X (by decide) (by decide)) k358_0.2.1) (by (repeat (first | exact ag_refl | refine ag_up rfl ?_))))), (by (repeat (first | exact k358_0.2.2 | refine vi_set (by decide) (by decide) (by decide) ?_ (by first | exact (fun z => absurd z (by decide)) | exact vi_aS k358_0.2.2 (by decide) _ | exact (fun z => ⟨by omega, hca⟩) | exact (fun z => ⟨by omega, hca z⟩) | (intro z; exfalso; omega)) | refine vi_res ?_ (by first | exact (fun z => absurd z (by decide)) | exact vi_aS k358_0.2.2 (by decide) _ | exact (fun z => ⟨by omega, hca⟩) | exact (fun z => ⟨by omega, hca z⟩) | (intro z; exfalso; omega)) | refine vi_arr (by decide) (by decide) ?_ | refine vi_up (by decide) (by decide) ?_)))⟩) g22
                      · refine ja_aload_n dfirst_270 rfl rfl ?_
                        refine ja_aload_n dfirst_271 rfl rfl ?_
                        refine fg_tests (v := h 0 131) rfl dfirst_272 ?_
                        have f23 := gF_tests g
                        refine mk_1075w dfirst_275 ?_
                        refine ja_icmp_ge 290 dfirst_278 rfl ⟨by omega, by omega⟩ ⟨by decide, by decide⟩ (fun c278 => ?_) (fun c278 => ?_)
                        · refine ja_aload_n dfirst_290 rfl rfl ?_
                          refine fg_tests (v := h 0 131) rfl dfirst_291 ?_
                          have g24 := gP_tests g1 (x := h 0 131) ⟨by omega, by omega⟩
                          refine fp_tests dfirst_294 ?_
                          refine ja_aload_n dfirst_297 rfl rfl ?_
                          refine fa_evAt dfirst_298 ?_
                          refine ja_iload_n dfirst_301 rfl rfl ?_
                          refine ja_aload_n dfirst_302 rfl rfl ?_
                          refine fg_reached (v := h 0 172) rfl dfirst_303 ?_
                          have f25 := gF_reached g
                          have g26 := gW_evAt g24 (a1).toNat (x := h 0 172) ⟨by omega, by omega⟩
                          refine is_evAt ⟨by omega, by omega⟩ dfirst_306 ?_
                          have kk : kid h (h 59 (h 132 (a1).toNat).toNat) (h 132 (a1).toNat).toNat := by first | exact (kd1 (by omega)).1 | exact kd2 (by omega)
                          have kk1 := kk.1
                          have kk2 := kk.2.1
                          refine ja_aload_n dfirst_307 rfl rfl ?_
                          refine ja_aload_n dfirst_308 rfl rfl ?_
                          refine fa_nodeA dfirst_309 ?_
                          refine ja_iload_n dfirst_312 rfl rfl ?_
                          refine il_nodeA (v := h 59 (h 132 (a1).toNat).toNat) rfl ⟨by omega, by omega⟩ dfirst_313 ?_
                          have f27 := gC_nodeA g (h 132 (a1).toNat).toNat
                          refine ja_iload_n dfirst_314 rfl rfl ?_
                          refine t_ask (by decide) (show (0 : Nat) ≤ 8 by decide) dfirst_315 g26 ⟨by omega, by omega⟩ ⟨by omega, by omega⟩ (show 0 ≤ (h 59 (h 132 (a1).toNat).toNat) ∧ (h 59 (h 132 (a1).toNat).toNat) ≤ 899 by omega) (show 0 ≤ (h 134 (a1).toNat) ∧ (h 134 (a1).toNat) ≤ 119 by omega) (show (h 0 202) ≤ 999 by omega) ?_
                          intro g28
                          replace g28 : mo_G mo_zr (ja_up (ja_up (ja_up (ja_up (ja_up (ja_up (ja_up (ja_up h 133 ((a1).toNat) 1) 0 131 (h 0 131)) 135 ((a1).toNat) (h 0 172)) 132 ((h 0 202).toNat) (h 59 (h 132 (a1).toNat).toNat)) 134 ((h 0 202).toNat) (h 134 (a1).toNat)) 133 ((h 0 202).toNat) 0) 135 ((h 0 202).toNat) 0) 0 202 ((h 0 202) + 1)) := g28
                          show mJ l D cA ad 7 cX12_first 7 none 318 [(5, (0, s0)), (0, (2, ((0 : Nat) : Int))), (1, (0, a1)), (2, (0, (h 132 (a1).toNat))), (3, (0, (h 134 (a1).toNat))), (4, (0, (h 58 (h 132 (a1).toNat).toNat)))] [] (ja_up (ja_up (ja_up (ja_up (ja_up (ja_up (ja_up (ja_up h 133 ((a1).toNat) 1) 0 131 (h 0 131)) 135 ((a1).toNat) (h 0 172)) 132 ((h 0 202).toNat) (h 59 (h 132 (a1).toNat).toNat)) 134 ((h 0 202).toNat) (h 134 (a1).toNat)) 133 ((h 0 202).toNat) 0) 135 ((h 0 202).toNat) 0) 0 202 ((h 0 202) + 1)) Q
                          refine ja_goto 364 dfirst_318 rfl ?_
                          refine ja_return dfirst_364 rfl ?_
                          exact k1 (ja_up (ja_up (ja_up (ja_up (ja_up (ja_up (ja_up (ja_up h 133 ((a1).toNat) 1) 0 131 (h 0 131)) 135 ((a1).toNat) (h 0 172)) 132 ((h 0 202).toNat) (h 59 (h 132 (a1).toNat).toNat)) 134 ((h 0 202).toNat) (h 134 (a1).toNat)) 133 ((h 0 202).toNat) 0) 135 ((h 0 202).toNat) 0) 0 202 ((h 0 202) + 1)) (⟨ev_ask (e := a1) (c := (h 59 (h 132 (a1).toNat).toNat)) (r := (h 134 (a1).toNat)) g g28 p6 (by omega) (by omega) (by (repeat (first | exact ag_refl | refine ag_up rfl ?_))) (show (((h 0 202) + 1) : Int) = (h 0 202) + 1 by omega) (fun j h1 h2 => by refine ⟨?_, ?_, ?_, ?_⟩ <;> simp [ja_up, h1, h2]) (by simp [ja_up, hne]) (by simp [ja_up, hne]) (by omega) (by simp [ja_up, hne] <;> omega) (by simp [ja_up]) (by simp [ja_up]) (by simp [ja_up]) (by simp [ja_up]) (kd2 (by omega)) ⟨by omega, by omega⟩ (by unfold evD; simp [ja_up, hne, p3] <;> omega), (by (repeat (first | exact ag_refl | refine ag_up rfl ?_))), (by (repeat (first | exact p4 | refine vi_set (by decide) (by decide) (by decide) ?_ (by first | exact (fun z => absurd z (by decide)) | exact vi_aS p4 (by decide) _ | exact (fun z => ⟨by omega, hca⟩) | exact (fun z => ⟨by omega, hca z⟩) | (intro z; exfalso; omega)) | refine vi_res ?_ (by first | exact (fun z => absurd z (by decide)) | exact vi_aS p4 (by decide) _ | exact (fun z => ⟨by omega, hca⟩) | exact (fun z => ⟨by omega, hca z⟩) | (intro z; exfalso; omega)) | refine vi_arr (by decide) (by decide) ?_ | refine vi_up (by decide) (by decide) ?_)))⟩) g28
                        · refine ja_aload_n dfirst_281 rfl rfl ?_
                          refine fg_tests (v := h 0 131) rfl dfirst_282 ?_
                          refine ja_iconst dfirst_285 ?_
                          refine ja_iadd dfirst_286 ?_
                          refine ja_goto 294 dfirst_287 rfl ?_
                          have g29 := gP_tests g1 (x := (h 0 131) + 1) ⟨by omega, by omega⟩
                          refine fp_tests dfirst_294 ?_
                          refine ja_aload_n dfirst_297 rfl rfl ?_
                          refine fa_evAt dfirst_298 ?_
                          refine ja_iload_n dfirst_301 rfl rfl ?_
                          refine ja_aload_n dfirst_302 rfl rfl ?_
                          refine fg_reached (v := h 0 172) rfl dfirst_303 ?_
                          have f30 := gF_reached g
                          have g31 := gW_evAt g29 (a1).toNat (x := h 0 172) ⟨by omega, by omega⟩
                          refine is_evAt ⟨by omega, by omega⟩ dfirst_306 ?_
                          have kk : kid h (h 59 (h 132 (a1).toNat).toNat) (h 132 (a1).toNat).toNat := by first | exact (kd1 (by omega)).1 | exact kd2 (by omega)
                          have kk1 := kk.1
                          have kk2 := kk.2.1
                          refine ja_aload_n dfirst_307 rfl rfl ?_
                          refine ja_aload_n dfirst_308 rfl rfl ?_
                          refine fa_nodeA dfirst_309 ?_
                          refine ja_iload_n dfirst_312 rfl rfl ?_
                          refine il_nodeA (v := h 59 (h 132 (a1).toNat).toNat) rfl ⟨by omega, by omega⟩ dfirst_313 ?_
                          have f32 := gC_nodeA g (h 132 (a1).toNat).toNat
                          refine ja_iload_n dfirst_314 rfl rfl ?_
                          refine t_ask (by decide) (show (0 : Nat) ≤ 8 by decide) dfirst_315 g31 ⟨by omega, by omega⟩ ⟨by omega, by omega⟩ (show 0 ≤ (h 59 (h 132 (a1).toNat).toNat) ∧ (h 59 (h 132 (a1).toNat).toNat) ≤ 899 by omega) (show 0 ≤ (h 134 (a1).toNat) ∧ (h 134 (a1).toNat) ≤ 119 by omega) (show (h 0 202) ≤ 999 by omega) ?_
                          intro g33
                          replace g33 : mo_G mo_zr (ja_up (ja_up (ja_up (ja_up (ja_up (ja_up (ja_up (ja_up h 133 ((a1).toNat) 1) 0 131 ((h 0 131) + 1)) 135 ((a1).toNat) (h 0 172)) 132 ((h 0 202).toNat) (h 59 (h 132 (a1).toNat).toNat)) 134 ((h 0 202).toNat) (h 134 (a1).toNat)) 133 ((h 0 202).toNat) 0) 135 ((h 0 202).toNat) 0) 0 202 ((h 0 202) + 1)) := g33
                          show mJ l D cA ad 7 cX12_first 7 none 318 [(5, (0, s0)), (0, (2, ((0 : Nat) : Int))), (1, (0, a1)), (2, (0, (h 132 (a1).toNat))), (3, (0, (h 134 (a1).toNat))), (4, (0, (h 58 (h 132 (a1).toNat).toNat)))] [] (ja_up (ja_up (ja_up (ja_up (ja_up (ja_up (ja_up (ja_up h 133 ((a1).toNat) 1) 0 131 ((h 0 131) + 1)) 135 ((a1).toNat) (h 0 172)) 132 ((h 0 202).toNat) (h 59 (h 132 (a1).toNat).toNat)) 134 ((h 0 202).toNat) (h 134 (a1).toNat)) 133 ((h 0 202).toNat) 0) 135 ((h 0 202).toNat) 0) 0 202 ((h 0 202) + 1)) Q
                          refine ja_goto 364 dfirst_318 rfl ?_
                          refine ja_return dfirst_364 rfl ?_
                          exact k1 (ja_up (ja_up (ja_up (ja_up (ja_up (ja_up (ja_up (ja_up h 133 ((a1).toNat) 1) 0 131 ((h 0 131) + 1)) 135 ((a1).toNat) (h 0 172)) 132 ((h 0 202).toNat) (h 59 (h 132 (a1).toNat).toNat)) 134 ((h 0 202).toNat) (h 134 (a1).toNat)) 133 ((h 0 202).toNat) 0) 135 ((h 0 202).toNat) 0) 0 202 ((h 0 202) + 1)) (⟨ev_ask (e := a1) (c := (h 59 (h 132 (a1).toNat).toNat)) (r := (h 134 (a1).toNat)) g g33 p6 (by omega) (by omega) (by (repeat (first | exact ag_refl | refine ag_up rfl ?_))) (show (((h 0 202) + 1) : Int) = (h 0 202) + 1 by omega) (fun j h1 h2 => by refine ⟨?_, ?_, ?_, ?_⟩ <;> simp [ja_up, h1, h2]) (by simp [ja_up, hne]) (by simp [ja_up, hne]) (by omega) (by simp [ja_up, hne] <;> omega) (by simp [ja_up]) (by simp [ja_up]) (by simp [ja_up]) (by simp [ja_up]) (kd2 (by omega)) ⟨by omega, by omega⟩ (by unfold evD; simp [ja_up, hne, p3] <;> omega), (by (repeat (first | exact ag_refl | refine ag_up rfl ?_))), (by (repeat (first | exact p4 | refine vi_set (by decide) (by decide) (by decide) ?_ (by first | exact (fun z => absurd z (by decide)) | exact vi_aS p4 (by decide) _ | exact (fun z => ⟨by omega, hca⟩) | exact (fun z => ⟨by omega, hca z⟩) | (intro z; exfalso; omega)) | refine vi_res ?_ (by first | exact (fun z => absurd z (by decide)) | exact vi_aS p4 (by decide) _ | exact (fun z => ⟨by omega, hca⟩) | exact (fun z => ⟨by omega, hca z⟩) | (intro z; exfalso; omega)) | refine vi_arr (by decide) (by decide) ?_ | refine vi_up (by decide) (by decide) ?_)))⟩) g33
                    · refine ja_bipush 7 dfirst_211 rfl ?_
                      refine ja_istore dfirst_213 (by decide) (L2 := [(6, (0, 7)), (5, (0, s0)), (0, (2, ((0 : Nat) : Int))), (1, (0, a1)), (2, (0, (h 132 (a1).toNat))), (3, (0, (h 134 (a1).toNat))), (4, (0, (h 58 (h 132 (a1).toNat).toNat)))]) rfl ?_
                      exact ja_wk (fun q hq => by simp only [List.mem_cons, List.not_mem_nil, or_false] at hq; rcases hq with rfl | rfl | rfl | rfl <;> rfl) ((ih (((100 : Int) - 7).toNat) (by omega)).2 7 (ja_up h 133 ((a1).toNat) 1) g1 ⟨by decide, by decide⟩ (⟨by omega, (by (repeat (first | exact ag_refl | refine ag_up rfl ?_))), (by (repeat (first | exact p4 | refine vi_set (by decide) (by decide) (by decide) ?_ (by first | exact (fun z => absurd z (by decide)) | exact vi_aS p4 (by decide) _ | exact (fun z => ⟨by omega, hca⟩) | exact (fun z => ⟨by omega, hca z⟩) | (intro z; exfalso; omega)) | refine vi_res ?_ (by first | exact (fun z => absurd z (by decide)) | exact vi_aS p4 (by decide) _ | exact (fun z => ⟨by omega, hca⟩) | exact (fun z => ⟨by omega, hca z⟩) | (intro z; exfalso; omega)) | refine vi_arr (by decide) (by decide) ?_ | refine vi_up (by decide) (by decide) ?_)))⟩) rfl)
                  · have kk : kid h (h 59 (h 132 (a1).toNat).toNat) (h 132 (a1).toNat).toNat := by first | exact (kd1 (by omega)).1 | exact kd2 (by omega)
                    have kk1 := kk.1
                    have kk2 := kk.2.1
                    refine ja_aload_n dfirst_190 rfl rfl ?_
                    refine ja_aload_n dfirst_191 rfl rfl ?_
                    refine fa_nodeA dfirst_192 ?_
                    refine ja_iload_n dfirst_195 rfl rfl ?_
                    refine il_nodeA (v := h 59 (h 132 (a1).toNat).toNat) rfl ⟨by omega, by omega⟩ dfirst_196 ?_
                    have f34 := gC_nodeA g (h 132 (a1).toNat).toNat
                    refine ja_iload_n dfirst_197 rfl rfl ?_
                    refine t_ask (by decide) (show (0 : Nat) ≤ 8 by decide) dfirst_198 g1 ⟨by omega, by omega⟩ ⟨by omega, by omega⟩ (show 0 ≤ (h 59 (h 132 (a1).toNat).toNat) ∧ (h 59 (h 132 (a1).toNat).toNat) ≤ 899 by omega) (show 0 ≤ (h 134 (a1).toNat) ∧ (h 134 (a1).toNat) ≤ 119 by omega) (show (h 0 202) ≤ 999 by omega) ?_
                    intro g35
                    replace g35 : mo_G mo_zr (ja_up (ja_up (ja_up (ja_up (ja_up (ja_up h 133 ((a1).toNat) 1) 132 ((h 0 202).toNat) (h 59 (h 132 (a1).toNat).toNat)) 134 ((h 0 202).toNat) (h 134 (a1).toNat)) 133 ((h 0 202).toNat) 0) 135 ((h 0 202).toNat) 0) 0 202 ((h 0 202) + 1)) := g35
                    show mJ l D cA ad 7 cX12_first 7 none 201 [(5, (0, s0)), (0, (2, ((0 : Nat) : Int))), (1, (0, a1)), (2, (0, (h 132 (a1).toNat))), (3, (0, (h 134 (a1).toNat))), (4, (0, (h 58 (h 132 (a1).toNat).toNat)))] [] (ja_up (ja_up (ja_up (ja_up (ja_up (ja_up h 133 ((a1).toNat) 1) 132 ((h 0 202).toNat) (h 59 (h 132 (a1).toNat).toNat)) 134 ((h 0 202).toNat) (h 134 (a1).toNat)) 133 ((h 0 202).toNat) 0) 135 ((h 0 202).toNat) 0) 0 202 ((h 0 202) + 1)) Q
                    refine ja_goto 364 dfirst_201 rfl ?_
                    refine ja_return dfirst_364 rfl ?_
                    exact k1 (ja_up (ja_up (ja_up (ja_up (ja_up (ja_up h 133 ((a1).toNat) 1) 132 ((h 0 202).toNat) (h 59 (h 132 (a1).toNat).toNat)) 134 ((h 0 202).toNat) (h 134 (a1).toNat)) 133 ((h 0 202).toNat) 0) 135 ((h 0 202).toNat) 0) 0 202 ((h 0 202) + 1)) (⟨ev_ask (e := a1) (c := (h 59 (h 132 (a1).toNat).toNat)) (r := (h 134 (a1).toNat)) g g35 p6 (by omega) (by omega) (by (repeat (first | exact ag_refl | refine ag_up rfl ?_))) (show (((h 0 202) + 1) : Int) = (h 0 202) + 1 by omega) (fun j h1 h2 => by refine ⟨?_, ?_, ?_, ?_⟩ <;> simp [ja_up, h1, h2]) (by simp [ja_up, hne]) (by simp [ja_up, hne]) (by omega) (by simp [ja_up, hne] <;> omega) (by simp [ja_up]) (by simp [ja_up]) (by simp [ja_up]) (by simp [ja_up]) (by first | exact (kd1 (by omega)).1 | exact kd2 (by omega)) ⟨by omega, by omega⟩ (by unfold evD; simp [ja_up, hne, p3] <;> omega), (by (repeat (first | exact ag_refl | refine ag_up rfl ?_))), (by (repeat (first | exact p4 | refine vi_set (by decide) (by decide) (by decide) ?_ (by first | exact (fun z => absurd z (by decide)) | exact vi_aS p4 (by decide) _ | exact (fun z => ⟨by omega, hca⟩) | exact (fun z => ⟨by omega, hca z⟩) | (intro z; exfalso; omega)) | refine vi_res ?_ (by first | exact (fun z => absurd z (by decide)) | exact vi_aS p4 (by decide) _ | exact (fun z => ⟨by omega, hca⟩) | exact (fun z => ⟨by omega, hca z⟩) | (intro z; exfalso; omega)) | refine vi_arr (by decide) (by decide) ?_ | refine vi_up (by decide) (by decide) ?_)))⟩) g35
            · refine ja_iload dfirst_106 rfl ?_
              refine ja_bipush 14 dfirst_108 rfl ?_
              refine ja_icmp_ne 169 dfirst_110 rfl ⟨by omega, by omega⟩ ⟨by decide, by decide⟩ (fun c110 => ?_) (fun c110 => ?_)
              · refine ja_iload dfirst_169 rfl ?_
                refine ja_bipush 13 dfirst_171 rfl ?_
                refine ja_icmp_eq 190 dfirst_173 rfl ⟨by omega, by omega⟩ ⟨by decide, by decide⟩ (fun c173 => ?_) (fun c173 => ?_)
                · have kk : kid h (h 59 (h 132 (a1).toNat).toNat) (h 132 (a1).toNat).toNat := by first | exact (kd1 (by omega)).1 | exact kd2 (by omega)
                  have kk1 := kk.1
                  have kk2 := kk.2.1
                  refine ja_aload_n dfirst_190 rfl rfl ?_
                  refine ja_aload_n dfirst_191 rfl rfl ?_
                  refine fa_nodeA dfirst_192 ?_
                  refine ja_iload_n dfirst_195 rfl rfl ?_
                  refine il_nodeA (v := h 59 (h 132 (a1).toNat).toNat) rfl ⟨by omega, by omega⟩ dfirst_196 ?_
                  have f36 := gC_nodeA g (h 132 (a1).toNat).toNat
                  refine ja_iload_n dfirst_197 rfl rfl ?_
                  refine t_ask (by decide) (show (0 : Nat) ≤ 8 by decide) dfirst_198 g1 ⟨by omega, by omega⟩ ⟨by omega, by omega⟩ (show 0 ≤ (h 59 (h 132 (a1).toNat).toNat) ∧ (h 59 (h 132 (a1).toNat).toNat) ≤ 899 by omega) (show 0 ≤ (h 134 (a1).toNat) ∧ (h 134 (a1).toNat) ≤ 119 by omega) (show (h 0 202) ≤ 999 by omega) ?_
                  intro g37
                  replace g37 : mo_G mo_zr (ja_up (ja_up (ja_up (ja_up (ja_up (ja_up h 133 ((a1).toNat) 1) 132 ((h 0 202).toNat) (h 59 (h 132 (a1).toNat).toNat)) 134 ((h 0 202).toNat) (h 134 (a1).toNat)) 133 ((h 0 202).toNat) 0) 135 ((h 0 202).toNat) 0) 0 202 ((h 0 202) + 1)) := g37
                  show mJ l D cA ad 7 cX12_first 7 none 201 [(5, (0, s0)), (0, (2, ((0 : Nat) : Int))), (1, (0, a1)), (2, (0, (h 132 (a1).toNat))), (3, (0, (h 134 (a1).toNat))), (4, (0, (h 58 (h 132 (a1).toNat).toNat)))] [] (ja_up (ja_up (ja_up (ja_up (ja_up (ja_up h 133 ((a1).toNat) 1) 132 ((h 0 202).toNat) (h 59 (h 132 (a1).toNat).toNat)) 134 ((h 0 202).toNat) (h 134 (a1).toNat)) 133 ((h 0 202).toNat) 0) 135 ((h 0 202).toNat) 0) 0 202 ((h 0 202) + 1)) Q
                  refine ja_goto 364 dfirst_201 rfl ?_
                  refine ja_return dfirst_364 rfl ?_
                  exact k1 (ja_up (ja_up (ja_up (ja_up (ja_up (ja_up h 133 ((a1).toNat) 1) 132 ((h 0 202).toNat) (h 59 (h 132 (a1).toNat).toNat)) 134 ((h 0 202).toNat) (h 134 (a1).toNat)) 133 ((h 0 202).toNat) 0) 135 ((h 0 202).toNat) 0) 0 202 ((h 0 202) + 1)) (⟨ev_ask (e := a1) (c := (h 59 (h 132 (a1).toNat).toNat)) (r := (h 134 (a1).toNat)) g g37 p6 (by omega) (by omega) (by (repeat (first | exact ag_refl | refine ag_up rfl ?_))) (show (((h 0 202) + 1) : Int) = (h 0 202) + 1 by omega) (fun j h1 h2 => by refine ⟨?_, ?_, ?_, ?_⟩ <;> simp [ja_up, h1, h2]) (by simp [ja_up, hne]) (by simp [ja_up, hne]) (by omega) (by simp [ja_up, hne] <;> omega) (by simp [ja_up]) (by simp [ja_up]) (by simp [ja_up]) (by simp [ja_up]) (by first | exact (kd1 (by omega)).1 | exact kd2 (by omega)) ⟨by omega, by omega⟩ (by unfold evD; simp [ja_up, hne, p3] <;> omega), (by (repeat (first | exact ag_refl | refine ag_up rfl ?_))), (by (repeat (first | exact p4 | refine vi_set (by decide) (by decide) (by decide) ?_ (by first | exact (fun z => absurd z (by decide)) | exact vi_aS p4 (by decide) _ | exact (fun z => ⟨by omega, hca⟩) | exact (fun z => ⟨by omega, hca z⟩) | (intro z; exfalso; omega)) | refine vi_res ?_ (by first | exact (fun z => absurd z (by decide)) | exact vi_aS p4 (by decide) _ | exact (fun z => ⟨by omega, hca⟩) | exact (fun z => ⟨by omega, hca z⟩) | (intro z; exfalso; omega)) | refine vi_arr (by decide) (by decide) ?_ | refine vi_up (by decide) (by decide) ?_)))⟩) g37
                · refine ja_iload dfirst_176 rfl ?_
                  refine ja_bipush 14 dfirst_178 rfl ?_
                  refine ja_icmp_eq 190 dfirst_180 rfl ⟨by omega, by omega⟩ ⟨by decide, by decide⟩ (fun c180 => ?_) (fun c180 => ?_)
                  · have kk : kid h (h 59 (h 132 (a1).toNat).toNat) (h 132 (a1).toNat).toNat := by first | exact (kd1 (by omega)).1 | exact kd2 (by omega)
                    have kk1 := kk.1
                    have kk2 := kk.2.1
                    refine ja_aload_n dfirst_190 rfl rfl ?_
                    refine ja_aload_n dfirst_191 rfl rfl ?_
                    refine fa_nodeA dfirst_192 ?_
                    refine ja_iload_n dfirst_195 rfl rfl ?_
                    refine il_nodeA (v := h 59 (h 132 (a1).toNat).toNat) rfl ⟨by omega, by omega⟩ dfirst_196 ?_
                    have f38 := gC_nodeA g (h 132 (a1).toNat).toNat
                    refine ja_iload_n dfirst_197 rfl rfl ?_
                    refine t_ask (by decide) (show (0 : Nat) ≤ 8 by decide) dfirst_198 g1 ⟨by omega, by omega⟩ ⟨by omega, by omega⟩ (show 0 ≤ (h 59 (h 132 (a1).toNat).toNat) ∧ (h 59 (h 132 (a1).toNat).toNat) ≤ 899 by omega) (show 0 ≤ (h 134 (a1).toNat) ∧ (h 134 (a1).toNat) ≤ 119 by omega) (show (h 0 202) ≤ 999 by omega) ?_
                    intro g39
                    replace g39 : mo_G mo_zr (ja_up (ja_up (ja_up (ja_up (ja_up (ja_up h 133 ((a1).toNat) 1) 132 ((h 0 202).toNat) (h 59 (h 132 (a1).toNat).toNat)) 134 ((h 0 202).toNat) (h 134 (a1).toNat)) 133 ((h 0 202).toNat) 0) 135 ((h 0 202).toNat) 0) 0 202 ((h 0 202) + 1)) := g39
                    show mJ l D cA ad 7 cX12_first 7 none 201 [(5, (0, s0)), (0, (2, ((0 : Nat) : Int))), (1, (0, a1)), (2, (0, (h 132 (a1).toNat))), (3, (0, (h 134 (a1).toNat))), (4, (0, (h 58 (h 132 (a1).toNat).toNat)))] [] (ja_up (ja_up (ja_up (ja_up (ja_up (ja_up h 133 ((a1).toNat) 1) 132 ((h 0 202).toNat) (h 59 (h 132 (a1).toNat).toNat)) 134 ((h 0 202).toNat) (h 134 (a1).toNat)) 133 ((h 0 202).toNat) 0) 135 ((h 0 202).toNat) 0) 0 202 ((h 0 202) + 1)) Q
                    refine ja_goto 364 dfirst_201 rfl ?_
                    refine ja_return dfirst_364 rfl ?_
                    exact k1 (ja_up (ja_up (ja_up (ja_up (ja_up (ja_up h 133 ((a1).toNat) 1) 132 ((h 0 202).toNat) (h 59 (h 132 (a1).toNat).toNat)) 134 ((h 0 202).toNat) (h 134 (a1).toNat)) 133 ((h 0 202).toNat) 0) 135 ((h 0 202).toNat) 0) 0 202 ((h 0 202) + 1)) (⟨ev_ask (e := a1) (c := (h 59 (h 132 (a1).toNat).toNat)) (r := (h 134 (a1).toNat)) g g39 p6 (by omega) (by omega) (by (repeat (first | exact ag_refl | refine ag_up rfl ?_))) (show (((h 0 202) + 1) : Int) = (h 0 202) + 1 by omega) (fun j h1 h2 => by refine ⟨?_, ?_, ?_, ?_⟩ <;> simp [ja_up, h1, h2]) (by simp [ja_up, hne]) (by simp [ja_up, hne]) (by omega) (by simp [ja_up, hne] <;> omega) (by simp [ja_up]) (by simp [ja_up]) (by simp [ja_up]) (by simp [ja_up]) (by first | exact (kd1 (by omega)).1 | exact kd2 (by omega)) ⟨by omega, by omega⟩ (by unfold evD; simp [ja_up, hne, p3] <;> omega), (by (repeat (first | exact ag_refl | refine ag_up rfl ?_))), (by (repeat (first | exact p4 | refine vi_set (by decide) (by decide) (by decide) ?_ (by first | exact (fun z => absurd z (by decide)) | exact vi_aS p4 (by decide) _ | exact (fun z => ⟨by omega, hca⟩) | exact (fun z => ⟨by omega, hca z⟩) | (intro z; exfalso; omega)) | refine vi_res ?_ (by first | exact (fun z => absurd z (by decide)) | exact vi_aS p4 (by decide) _ | exact (fun z => ⟨by omega, hca⟩) | exact (fun z => ⟨by omega, hca z⟩) | (intro z; exfalso; omega)) | refine vi_arr (by decide) (by decide) ?_ | refine vi_up (by decide) (by decide) ?_)))⟩) g39
                  · refine ja_iload dfirst_183 rfl ?_
                    refine ja_bipush 15 dfirst_185 rfl ?_
                    refine ja_icmp_ne 204 dfirst_187 rfl ⟨by omega, by omega⟩ ⟨by decide, by decide⟩ (fun c187 => ?_) (fun c187 => ?_)
                    · refine ja_iload dfirst_204 rfl ?_
                      refine ja_bipush 12 dfirst_206 rfl ?_
                      refine ja_icmp_ne 263 dfirst_208 rfl ⟨by omega, by omega⟩ ⟨by decide, by decide⟩ (fun c208 => ?_) (fun c208 => ?_)
                      · refine ja_iload dfirst_263 rfl ?_
                        refine ja_bipush 11 dfirst_265 rfl ?_
                        refine ja_icmp_ne 321 dfirst_267 rfl ⟨by omega, by omega⟩ ⟨by decide, by decide⟩ (fun c267 => ?_) (fun c267 => ?_)
                        · refine ja_aload_n dfirst_321 rfl rfl ?_
                          refine ja_iload dfirst_322 rfl ?_
                          refine ja_iconst dfirst_324 ?_
                          refine ja_icmp_eq 338 dfirst_325 rfl ⟨by omega, by omega⟩ ⟨by decide, by decide⟩ (fun c325 => ?_) (fun c325 => ?_)
                          · refine ja_aload_n dfirst_338 rfl rfl ?_
                            refine fg_tests (v := h 0 131) rfl dfirst_339 ?_
                            have f40 := gF_tests g
                            refine ja_goto 351 dfirst_342 rfl ?_
                            have g41 := gP_tests g1 (x := h 0 131) ⟨by omega, by omega⟩
                            refine fp_tests dfirst_351 ?_
                            refine ja_aload_n dfirst_354 rfl rfl ?_
                            refine ja_aload_n dfirst_355 rfl rfl ?_
                            refine ja_iload_n dfirst_356 rfl rfl ?_
                            refine ja_iload_n dfirst_357 rfl rfl ?_
                            refine t_isLeaf (by decide) (show (1 : Nat) ≤ 8 by decide) dfirst_358 g41 ⟨by omega, by omega⟩ ⟨by omega, by omega⟩ (show 0 ≤ (h 132 (a1).toNat) ∧ (h 132 (a1).toNat) ≤ 899 by omega) (show 0 ≤ (h 134 (a1).toNat) ∧ (h 134 (a1).toNat) ≤ 119 by omega) ((by (repeat (first | exact p4 | refine vi_set (by decide) (by decide) (by decide) ?_ (by first | exact (fun z => absurd z (by decide)) | exact vi_aS p4 (by decide) _ | exact (fun z => ⟨by omega, hca⟩) | exact (fun z => ⟨by omega, hca z⟩) | (intro z; exfalso; omega)) | refine vi_res ?_ (by first | exact (fun z => absurd z (by decide)) | exact vi_aS p4 (by decide) _ | exact (fun z => ⟨by omega, hca⟩) | exact (fun z => ⟨by omega, hca z⟩) | (intro z; exfalso; omega)) | refine vi_arr (by decide) (by decide) ?_ | refine vi_up (by decide) (by decide) ?_)))) (ci_g p5 (by (repeat (first | exact ag_refl | refine ag_up rfl ?_)))) (show (h 132 (a1).toNat) < (h 0 95) by omega) (show (h 115 (h 134 (a1).toNat).toNat) < (h 0 88) by omega) (hrs) ?_
                            intro w42 h43 k358_0 g44
                            replace k358_0 : (0 ≤ w42 ∧ w42 ≤ 1) ∧ mo_ag FBI (ja_up (ja_up h 133 ((a1).toNat) 1) 0 131 (h 0 131)) h43 ∧ VI h43 := k358_0
                            have c_ev : (h43 0 202) = (h 0 202) := k358_0.2.1 0 202 rfl
                            refine t_answer (by decide) (show (0 : Nat) ≤ 8 by decide) dfirst_361 g44 ⟨by omega, by omega⟩ (show 1 ≤ (h43 0 202) by omega) ?_
                            intro g45
                            replace g45 : mo_G mo_zr (ja_up (ja_up h43 0 203 w42) 0 202 ((h43 0 202) - 1)) := g45
                            show mJ l D cA ad 7 cX12_first 7 none 364 [(5, (0, s0)), (0, (2, ((0 : Nat) : Int))), (1, (0, a1)), (2, (0, (h 132 (a1).toNat))), (3, (0, (h 134 (a1).toNat))), (4, (0, (h 58 (h 132 (a1).toNat).toNat)))] [] (ja_up (ja_up h43 0 203 w42) 0 202 ((h43 0 202) - 1)) Q
                            refine ja_return dfirst_364 rfl ?_
                            exact k1 (ja_up (ja_up h43 0 203 w42) 0 202 ((h43 0 202) - 1)) (⟨ev_pop (e := a1) g45 p6 (by omega) (by omega) (by omega) (ag_trans (by (repeat (first | exact ag_refl | refine ag_up rfl ?_))) (ag_trans (ag_sub (X_X (by decide) (by decide)) k358_0.2.1) (by (repeat (first | exact ag_refl | refine ag_up rfl ?_))))) (show (((h43 0 202) - 1) : Int) = (h 0 202) - 1 by omega) (fun j hj => ⟨(show ((ja_up (ja_up h43 0 203 w42) 0 202 ((h43 0 202) - 1)) 132) j = _ from (by simp [ja_up, c_ev, hj])).trans ((k358_0.2.1 132 j rfl).trans (by simp [ja_up, c_ev, hj])), (show ((ja_up (ja_up h43 0 203 w42) 0 202 ((h43 0 202) - 1)) 134) j = _ from (by simp [ja_up, c_ev, hj])).trans ((k358_0.2.1 134 j rfl).trans (by simp [ja_up, c_ev, hj])), (show ((ja_up (ja_up h43 0 203 w42) 0 202 ((h43 0 202) - 1)) 133) j = _ from (by simp [ja_up, c_ev, hj])).trans ((k358_0.2.1 133 j rfl).trans (by simp [ja_up, c_ev, hj])), (show ((ja_up (ja_up h43 0 203 w42) 0 202 ((h43 0 202) - 1)) 135) j = _ from (by simp [ja_up, c_ev, hj])).trans ((k358_0.2.1 135 j rfl).trans (by simp [ja_up, c_ev, hj]))⟩) g, (ag_trans (by (repeat (first | exact ag_refl | refine ag_up rfl ?_))) (ag_trans (ag_sub (X_X (by decide) (by decide)) k358_0.2.1) (by (repeat (first | exact ag_refl | refine ag_up rfl ?_))))), (by (repeat (first | exact k358_0.2.2 | refine vi_set (by decide) (by decide) (by decide) ?_ (by first | exact (fun z => absurd z (by decide)) | exact vi_aS k358_0.2.2 (by decide) _ | exact (fun z => ⟨by omega, hca⟩) | exact (fun z => ⟨by omega, hca z⟩) | (intro z; exfalso; omega)) | refine vi_res ?_ (by first | exact (fun z => absurd z (by decide)) | exact vi_aS k358_0.2.2 (by decide) _ | exact (fun z => ⟨by omega, hca⟩) | exact (fun z => ⟨by omega, hca z⟩) | (intro z; exfalso; omega)) | refine vi_arr (by decide) (by decide) ?_ | refine vi_up (by decide) (by decide) ?_)))⟩) g45
                          · refine ja_aload_n dfirst_328 rfl rfl ?_
                            refine fg_tests (v := h 0 131) rfl dfirst_329 ?_
                            have f46 := gF_tests g
                            refine mk_1075w dfirst_332 ?_
                            refine ja_icmp_ne 345 dfirst_335 rfl ⟨by omega, by omega⟩ ⟨by decide, by decide⟩ (fun c335 => ?_) (fun c335 => ?_)
                            · refine ja_aload_n dfirst_345 rfl rfl ?_
                              refine fg_tests (v := h 0 131) rfl dfirst_346 ?_
                              refine ja_iconst dfirst_349 ?_
                              refine ja_iadd dfirst_350 ?_
                              have g47 := gP_tests g1 (x := (h 0 131) + 1) ⟨by omega, by omega⟩
                              refine fp_tests dfirst_351 ?_
                              refine ja_aload_n dfirst_354 rfl rfl ?_
                              refine ja_aload_n dfirst_355 rfl rfl ?_
                              refine ja_iload_n dfirst_356 rfl rfl ?_
                              refine ja_iload_n dfirst_357 rfl rfl ?_
                              refine t_isLeaf (by decide) (show (1 : Nat) ≤ 8 by decide) dfirst_358 g47 ⟨by omega, by omega⟩ ⟨by omega, by omega⟩ (show 0 ≤ (h 132 (a1).toNat) ∧ (h 132 (a1).toNat) ≤ 899 by omega) (show 0 ≤ (h 134 (a1).toNat) ∧ (h 134 (a1).toNat) ≤ 119 by omega) ((by (repeat (first | exact p4 | refine vi_set (by decide) (by decide) (by decide) ?_ (by first | exact (fun z => absurd z (by decide)) | exact vi_aS p4 (by decide) _ | exact (fun z => ⟨by omega, hca⟩) | exact (fun z => ⟨by omega, hca z⟩) | (intro z; exfalso; omega)) | refine vi_res ?_ (by first | exact (fun z => absurd z (by decide)) | exact vi_aS p4 (by decide) _ | exact (fun z => ⟨by omega, hca⟩) | exact (fun z => ⟨by omega, hca z⟩) | (intro z; exfalso; omega)) | refine vi_arr (by decide) (by decide) ?_ | refine vi_up (by decide) (by decide) ?_)))) (ci_g p5 (by (repeat (first | exact ag_refl | refine ag_up rfl ?_)))) (show (h 132 (a1).toNat) < (h 0 95) by omega) (show (h 115 (h 134 (a1).toNat).toNat) < (h 0 88) by omega) (hrs) ?_
                              intro w48 h49 k358_0 g50
                              replace k358_0 : (0 ≤ w48 ∧ w48 ≤ 1) ∧ mo_ag FBI (ja_up (ja_up h 133 ((a1).toNat) 1) 0 131 ((h 0 131) + 1)) h49 ∧ VI h49 := k358_0
                              have c_ev : (h49 0 202) = (h 0 202) := k358_0.2.1 0 202 rfl
                              refine t_answer (by decide) (show (0 : Nat) ≤ 8 by decide) dfirst_361 g50 ⟨by omega, by omega⟩ (show 1 ≤ (h49 0 202) by omega) ?_
                              intro g51
                              replace g51 : mo_G mo_zr (ja_up (ja_up h49 0 203 w48) 0 202 ((h49 0 202) - 1)) := g51
                              show mJ l D cA ad 7 cX12_first 7 none 364 [(5, (0, s0)), (0, (2, ((0 : Nat) : Int))), (1, (0, a1)), (2, (0, (h 132 (a1).toNat))), (3, (0, (h 134 (a1).toNat))), (4, (0, (h 58 (h 132 (a1).toNat).toNat)))] [] (ja_up (ja_up h49 0 203 w48) 0 202 ((h49 0 202) - 1)) Q
                              refine ja_return dfirst_364 rfl ?_
                              exact k1 (ja_up (ja_up h49 0 203 w48) 0 202 ((h49 0 202) - 1)) (⟨ev_pop (e := a1) g51 p6 (by omega) (by omega) (by omega) (ag_trans (by (repeat (first | exact ag_refl | refine ag_up rfl ?_))) (ag_trans (ag_sub (X_X (by decide) (by decide)) k358_0.2.1) (by (repeat (first | exact ag_refl | refine ag_up rfl ?_))))) (show (((h49 0 202) - 1) : Int) = (h 0 202) - 1 by omega) (fun j hj => ⟨(show ((ja_up (ja_up h49 0 203 w48) 0 202 ((h49 0 202) - 1)) 132) j = _ from (by simp [ja_up, c_ev, hj])).trans ((k358_0.2.1 132 j rfl).trans (by simp [ja_up, c_ev, hj])), (show ((ja_up (ja_up h49 0 203 w48) 0 202 ((h49 0 202) - 1)) 134) j = _ from (by simp [ja_up, c_ev, hj])).trans ((k358_0.2.1 134 j rfl).trans (by simp [ja_up, c_ev, hj])), (show ((ja_up (ja_up h49 0 203 w48) 0 202 ((h49 0 202) - 1)) 133) j = _ from (by simp [ja_up, c_ev, hj])).trans ((k358_0.2.1 133 j rfl).trans (by simp [ja_up, c_ev, hj])), (show ((ja_up (ja_up h49 0 203 w48) 0 202 ((h49 0 202) - 1)) 135) j = _ from (by simp [ja_up, c_ev, hj])).trans ((k358_0.2.1 135 j rfl).trans (by simp [ja_up, c_ev, hj]))⟩) g, (ag_trans (by (repeat (first | exact ag_refl | refine ag_up rfl ?_))) (ag_trans (ag_sub (X_X (by decide) (by decide)) k358_0.2.1) (by (repeat (first | exact ag_refl | refine ag_up rfl ?_))))), (by (repeat (first | exact k358_0.2.2 | refine vi_set (by decide) (by decide) (by decide) ?_ (by first | exact (fun z => absurd z (by decide)) | exact vi_aS k358_0.2.2 (by decide) _ | exact (fun z => ⟨by omega, hca⟩) | exact (fun z => ⟨by omega, hca z⟩) | (intro z; exfalso; omega)) | refine vi_res ?_ (by first | exact (fun z => absurd z (by decide)) | exact vi_aS k358_0.2.2 (by decide) _ | exact (fun z => ⟨by omega, hca⟩) | exact (fun z => ⟨by omega, hca z⟩) | (intro z; exfalso; omega)) | refine vi_arr (by decide) (by decide) ?_ | refine vi_up (by decide) (by decide) ?_)))⟩) g51
                            · refine ja_aload_n dfirst_338 rfl rfl ?_
                              refine fg_tests (v := h 0 131) rfl dfirst_339 ?_
                              refine ja_goto 351 dfirst_342 rfl ?_
                              have g52 := gP_tests g1 (x := h 0 131) ⟨by omega, by omega⟩
                              refine fp_tests dfirst_351 ?_
                              refine ja_aload_n dfirst_354 rfl rfl ?_
                              refine ja_aload_n dfirst_355 rfl rfl ?_
                              refine ja_iload_n dfirst_356 rfl rfl ?_
                              refine ja_iload_n dfirst_357 rfl rfl ?_
                              refine t_isLeaf (by decide) (show (1 : Nat) ≤ 8 by decide) dfirst_358 g52 ⟨by omega, by omega⟩ ⟨by omega, by omega⟩ (show 0 ≤ (h 132 (a1).toNat) ∧ (h 132 (a1).toNat) ≤ 899 by omega) (show 0 ≤ (h 134 (a1).toNat) ∧ (h 134 (a1).toNat) ≤ 119 by omega) ((by (repeat (first | exact p4 | refine vi_set (by decide) (by decide) (by decide) ?_ (by first | exact (fun z => absurd z (by decide)) | exact vi_aS p4 (by decide) _ | exact (fun z => ⟨by omega, hca⟩) | exact (fun z => ⟨by omega, hca z⟩) | (intro z; exfalso; omega)) | refine vi_res ?_ (by first | exact (fun z => absurd z (by decide)) | exact vi_aS p4 (by decide) _ | exact (fun z => ⟨by omega, hca⟩) | exact (fun z => ⟨by omega, hca z⟩) | (intro z; exfalso; omega)) | refine vi_arr (by decide) (by decide) ?_ | refine vi_up (by decide) (by decide) ?_)))) (ci_g p5 (by (repeat (first | exact ag_refl | refine ag_up rfl ?_)))) (show (h 132 (a1).toNat) < (h 0 95) by omega) (show (h 115 (h 134 (a1).toNat).toNat) < (h 0 88) by omega) (hrs) ?_
                              intro w53 h54 k358_0 g55
                              replace k358_0 : (0 ≤ w53 ∧ w53 ≤ 1) ∧ mo_ag FBI (ja_up (ja_up h 133 ((a1).toNat) 1) 0 131 (h 0 131)) h54 ∧ VI h54 := k358_0
                              have c_ev : (h54 0 202) = (h 0 202) := k358_0.2.1 0 202 rfl
                              refine t_answer (by decide) (show (0 : Nat) ≤ 8 by decide) dfirst_361 g55 ⟨by omega, by omega⟩ (show 1 ≤ (h54 0 202) by omega) ?_
                              intro g56
                              replace g56 : mo_G mo_zr (ja_up (ja_up h54 0 203 w53) 0 202 ((h54 0 202) - 1)) := g56
                              show mJ l D cA ad 7 cX12_first 7 none 364 [(5, (0, s0)), (0, (2, ((0 : Nat) : Int))), (1, (0, a1)), (2, (0, (h 132 (a1).toNat))), (3, (0, (h 134 (a1).toNat))), (4, (0, (h 58 (h 132 (a1).toNat).toNat)))] [] (ja_up (ja_up h54 0 203 w53) 0 202 ((h54 0 202) - 1)) Q
                              refine ja_return dfirst_364 rfl ?_
                              exact k1 (ja_up (ja_up h54 0 203 w53) 0 202 ((h54 0 202) - 1)) (⟨ev_pop (e := a1) g56 p6 (by omega) (by omega) (by omega) (ag_trans (by (repeat (first | exact ag_refl | refine ag_up rfl ?_))) (ag_trans (ag_sub (X_X (by decide) (by decide)) k358_0.2.1) (by (repeat (first | exact ag_refl | refine ag_up rfl ?_))))) (show (((h54 0 202) - 1) : Int) = (h 0 202) - 1 by omega) (fun j hj => ⟨(show ((ja_up (ja_up h54 0 203 w53) 0 202 ((h54 0 202) - 1)) 132) j = _ from (by simp [ja_up, c_ev, hj])).trans ((k358_0.2.1 132 j rfl).trans (by simp [ja_up, c_ev, hj])), (show ((ja_up (ja_up h54 0 203 w53) 0 202 ((h54 0 202) - 1)) 134) j = _ from (by simp [ja_up, c_ev, hj])).trans ((k358_0.2.1 134 j rfl).trans (by simp [ja_up, c_ev, hj])), (show ((ja_up (ja_up h54 0 203 w53) 0 202 ((h54 0 202) - 1)) 133) j = _ from (by simp [ja_up, c_ev, hj])).trans ((k358_0.2.1 133 j rfl).trans (by simp [ja_up, c_ev, hj])), (show ((ja_up (ja_up h54 0 203 w53) 0 202 ((h54 0 202) - 1)) 135) j = _ from (by simp [ja_up, c_ev, hj])).trans ((k358_0.2.1 135 j rfl).trans (by simp [ja_up, c_ev, hj]))⟩) g, (ag_trans (by (repeat (first | exact ag_refl | refine ag_up rfl ?_))) (ag_trans (ag_sub (X_X (by decide) (by decide)) k358_0.2.1) (by (repeat (first | exact ag_refl | refine ag_up rfl ?_))))), (by (repeat (first | exact k358_0.2.2 | refine vi_set (by decide) (by decide) (by decide) ?_ (by first | exact (fun z => absurd z (by decide)) | exact vi_aS k358_0.2.2 (by decide) _ | exact (fun z => ⟨by omega, hca⟩) | exact (fun z => ⟨by omega, hca z⟩) | (intro z; exfalso; omega)) | refine vi_res ?_ (by first | exact (fun z => absurd z (by decide)) | exact vi_aS k358_0.2.2 (by decide) _ | exact (fun z => ⟨by omega, hca⟩) | exact (fun z => ⟨by omega, hca z⟩) | (intro z; exfalso; omega)) | refine vi_arr (by decide) (by decide) ?_ | refine vi_up (by decide) (by decide) ?_)))⟩) g56
                        · refine ja_aload_n dfirst_270 rfl rfl ?_
                          refine ja_aload_n dfirst_271 rfl rfl ?_
                          refine fg_tests (v := h 0 131) rfl dfirst_272 ?_
                          have f57 := gF_tests g
                          refine mk_1075w dfirst_275 ?_
                          refine ja_icmp_ge 290 dfirst_278 rfl ⟨by omega, by omega⟩ ⟨by decide, by decide⟩ (fun c278 => ?_) (fun c278 => ?_)
                          · refine ja_aload_n dfirst_290 rfl rfl ?_
                            refine fg_tests (v := h 0 131) rfl dfirst_291 ?_
                            have g58 := gP_tests g1 (x := h 0 131) ⟨by omega, by omega⟩
                            refine fp_tests dfirst_294 ?_
                            refine ja_aload_n dfirst_297 rfl rfl ?_
                            refine fa_evAt dfirst_298 ?_
                            refine ja_iload_n dfirst_301 rfl rfl ?_
                            refine ja_aload_n dfirst_302 rfl rfl ?_
                            refine fg_reached (v := h 0 172) rfl dfirst_303 ?_
                            have f59 := gF_reached g
                            have g60 := gW_evAt g58 (a1).toNat (x := h 0 172) ⟨by omega, by omega⟩
                            refine is_evAt ⟨by omega, by omega⟩ dfirst_306 ?_
                            have kk : kid h (h 59 (h 132 (a1).toNat).toNat) (h 132 (a1).toNat).toNat := by first | exact (kd1 (by omega)).1 | exact kd2 (by omega)
                            have kk1 := kk.1
                            have kk2 := kk.2.1
                            refine ja_aload_n dfirst_307 rfl rfl ?_
                            refine ja_aload_n dfirst_308 rfl rfl ?_
                            refine fa_nodeA dfirst_309 ?_
                            refine ja_iload_n dfirst_312 rfl rfl ?_
                            refine il_nodeA (v := h 59 (h 132 (a1).toNat).toNat) rfl ⟨by omega, by omega⟩ dfirst_313 ?_
                            have f61 := gC_nodeA g (h 132 (a1).toNat).toNat
                            refine ja_iload_n dfirst_314 rfl rfl ?_
                            refine t_ask (by decide) (show (0 : Nat) ≤ 8 by decide) dfirst_315 g60 ⟨by omega, by omega⟩ ⟨by omega, by omega⟩ (show 0 ≤ (h 59 (h 132 (a1).toNat).toNat) ∧ (h 59 (h 132 (a1).toNat).toNat) ≤ 899 by omega) (show 0 ≤ (h 134 (a1).toNat) ∧ (h 134 (a1).toNat) ≤ 119 by omega) (show (h 0 202) ≤ 999 by omega) ?_
                            intro g62
                            replace g62 : mo_G mo_zr (ja_up (ja_up (ja_up (ja_up (ja_up (ja_up (ja_up (ja_up h 133 ((a1).toNat) 1) 0 131 (h 0 131)) 135 ((a1).toNat) (h 0 172)) 132 ((h 0 202).toNat) (h 59 (h 132 (a1).toNat).toNat)) 134 ((h 0 202).toNat) (h 134 (a1).toNat)) 133 ((h 0 202).toNat) 0) 135 ((h 0 202).toNat) 0) 0 202 ((h 0 202) + 1)) := g62
                            show mJ l D cA ad 7 cX12_first 7 none 318 [(5, (0, s0)), (0, (2, ((0 : Nat) : Int))), (1, (0, a1)), (2, (0, (h 132 (a1).toNat))), (3, (0, (h 134 (a1).toNat))), (4, (0, (h 58 (h 132 (a1).toNat).toNat)))] [] (ja_up (ja_up (ja_up (ja_up (ja_up (ja_up (ja_up (ja_up h 133 ((a1).toNat) 1) 0 131 (h 0 131)) 135 ((a1).toNat) (h 0 172)) 132 ((h 0 202).toNat) (h 59 (h 132 (a1).toNat).toNat)) 134 ((h 0 202).toNat) (h 134 (a1).toNat)) 133 ((h 0 202).toNat) 0) 135 ((h 0 202).toNat) 0) 0 202 ((h 0 202) + 1)) Q
                            refine ja_goto 364 dfirst_318 rfl ?_
                            refine ja_return dfirst_364 rfl ?_
                            exact k1 (ja_up (ja_up (ja_up (ja_up (ja_up (ja_up (ja_up (ja_up h 133 ((a1).toNat) 1) 0 131 (h 0 131)) 135 ((a1).toNat) (h 0 172)) 132 ((h 0 202).toNat) (h 59 (h 132 (a1).toNat).toNat)) 134 ((h 0 202).toNat) (h 134 (a1).toNat)) 133 ((h 0 202).toNat) 0) 135 ((h 0 202).toNat) 0) 0 202 ((h 0 202) + 1)) (⟨ev_ask (e := a1) (c := (h 59 (h 132 (a1).toNat).toNat)) (r := (h 134 (a1).toNat)) g g62 p6 (by omega) (by omega) (by (repeat (first | exact ag_refl | refine ag_up rfl ?_))) (show (((h 0 202) + 1) : Int) = (h 0 202) + 1 by omega) (fun j h1 h2 => by refine ⟨?_, ?_, ?_, ?_⟩ <;> simp [ja_up, h1, h2]) (by simp [ja_up, hne]) (by simp [ja_up, hne]) (by omega) (by simp [ja_up, hne] <;> omega) (by simp [ja_up]) (by simp [ja_up]) (by simp [ja_up]) (by simp [ja_up]) (kd2 (by omega)) ⟨by omega, by omega⟩ (by unfold evD; simp [ja_up, hne, p3] <;> omega), (by (repeat (first | exact ag_refl | refine ag_up rfl ?_))), (by (repeat (first | exact p4 | refine vi_set (by decide) (by decide) (by decide) ?_ (by first | exact (fun z => absurd z (by decide)) | exact vi_aS p4 (by decide) _ | exact (fun z => ⟨by omega, hca⟩) | exact (fun z => ⟨by omega, hca z⟩) | (intro z; exfalso; omega)) | refine vi_res ?_ (by first | exact (fun z => absurd z (by decide)) | exact vi_aS p4 (by decide) _ | exact (fun z => ⟨by omega, hca⟩) | exact (fun z => ⟨by omega, hca z⟩) | (intro z; exfalso; omega)) | refine vi_arr (by decide) (by decide) ?_ | refine vi_up (by decide) (by decide) ?_)))⟩) g62
                          · refine ja_aload_n dfirst_281 rfl rfl ?_
                            refine fg_tests (v := h 0 131) rfl dfirst_282 ?_
                            refine ja_iconst dfirst_285 ?_
                            refine ja_iadd dfirst_286 ?_
                            refine ja_goto 294 dfirst_287 rfl ?_
                            have g63 := gP_tests g1 (x := (h 0 131) + 1) ⟨by omega, by omega⟩
                            refine fp_tests dfirst_294 ?_
                            refine ja_aload_n dfirst_297 rfl rfl ?_
                            refine fa_evAt dfirst_298 ?_
                            refine ja_iload_n dfirst_301 rfl rfl ?_
                            refine ja_aload_n dfirst_302 rfl rfl ?_
                            refine fg_reached (v := h 0 172) rfl dfirst_303 ?_
                            have f64 := gF_reached g
                            have g65 := gW_evAt g63 (a1).toNat (x := h 0 172) ⟨by omega, by omega⟩
                            refine is_evAt ⟨by omega, by omega⟩ dfirst_306 ?_
                            have kk : kid h (h 59 (h 132 (a1).toNat).toNat) (h 132 (a1).toNat).toNat := by first | exact (kd1 (by omega)).1 | exact kd2 (by omega)
                            have kk1 := kk.1
                            have kk2 := kk.2.1
                            refine ja_aload_n dfirst_307 rfl rfl ?_
                            refine ja_aload_n dfirst_308 rfl rfl ?_
                            refine fa_nodeA dfirst_309 ?_
                            refine ja_iload_n dfirst_312 rfl rfl ?_
                            refine il_nodeA (v := h 59 (h 132 (a1).toNat).toNat) rfl ⟨by omega, by omega⟩ dfirst_313 ?_
                            have f66 := gC_nodeA g (h 132 (a1).toNat).toNat
                            refine ja_iload_n dfirst_314 rfl rfl ?_
                            refine t_ask (by decide) (show (0 : Nat) ≤ 8 by decide) dfirst_315 g65 ⟨by omega, by omega⟩ ⟨by omega, by omega⟩ (show 0 ≤ (h 59 (h 132 (a1).toNat).toNat) ∧ (h 59 (h 132 (a1).toNat).toNat) ≤ 899 by omega) (show 0 ≤ (h 134 (a1).toNat) ∧ (h 134 (a1).toNat) ≤ 119 by omega) (show (h 0 202) ≤ 999 by omega) ?_
                            intro g67
                            replace g67 : mo_G mo_zr (ja_up (ja_up (ja_up (ja_up (ja_up (ja_up (ja_up (ja_up h 133 ((a1).toNat) 1) 0 131 ((h 0 131) + 1)) 135 ((a1).toNat) (h 0 172)) 132 ((h 0 202).toNat) (h 59 (h 132 (a1).toNat).toNat)) 134 ((h 0 202).toNat) (h 134 (a1).toNat)) 133 ((h 0 202).toNat) 0) 135 ((h 0 202).toNat) 0) 0 202 ((h 0 202) + 1)) := g67
                            show mJ l D cA ad 7 cX12_first 7 none 318 [(5, (0, s0)), (0, (2, ((0 : Nat) : Int))), (1, (0, a1)), (2, (0, (h 132 (a1).toNat))), (3, (0, (h 134 (a1).toNat))), (4, (0, (h 58 (h 132 (a1).toNat).toNat)))] [] (ja_up (ja_up (ja_up (ja_up (ja_up (ja_up (ja_up (ja_up h 133 ((a1).toNat) 1) 0 131 ((h 0 131) + 1)) 135 ((a1).toNat) (h 0 172)) 132 ((h 0 202).toNat) (h 59 (h 132 (a1).toNat).toNat)) 134 ((h 0 202).toNat) (h 134 (a1).toNat)) 133 ((h 0 202).toNat) 0) 135 ((h 0 202).toNat) 0) 0 202 ((h 0 202) + 1)) Q
                            refine ja_goto 364 dfirst_318 rfl ?_
                            refine ja_return dfirst_364 rfl ?_
                            exact k1 (ja_up (ja_up (ja_up (ja_up (ja_up (ja_up (ja_up (ja_up h 133 ((a1).toNat) 1) 0 131 ((h 0 131) + 1)) 135 ((a1).toNat) (h 0 172)) 132 ((h 0 202).toNat) (h 59 (h 132 (a1).toNat).toNat)) 134 ((h 0 202).toNat) (h 134 (a1).toNat)) 133 ((h 0 202).toNat) 0) 135 ((h 0 202).toNat) 0) 0 202 ((h 0 202) + 1)) (⟨ev_ask (e := a1) (c := (h 59 (h 132 (a1).toNat).toNat)) (r := (h 134 (a1).toNat)) g g67 p6 (by omega) (by omega) (by (repeat (first | exact ag_refl | refine ag_up rfl ?_))) (show (((h 0 202) + 1) : Int) = (h 0 202) + 1 by omega) (fun j h1 h2 => by refine ⟨?_, ?_, ?_, ?_⟩ <;> simp [ja_up, h1, h2]) (by simp [ja_up, hne]) (by simp [ja_up, hne]) (by omega) (by simp [ja_up, hne] <;> omega) (by simp [ja_up]) (by simp [ja_up]) (by simp [ja_up]) (by simp [ja_up]) (kd2 (by omega)) ⟨by omega, by omega⟩ (by unfold evD; simp [ja_up, hne, p3] <;> omega), (by (repeat (first | exact ag_refl | refine ag_up rfl ?_))), (by (repeat (first | exact p4 | refine vi_set (by decide) (by decide) (by decide) ?_ (by first | exact (fun z => absurd z (by decide)) | exact vi_aS p4 (by decide) _ | exact (fun z => ⟨by omega, hca⟩) | exact (fun z => ⟨by omega, hca z⟩) | (intro z; exfalso; omega)) | refine vi_res ?_ (by first | exact (fun z => absurd z (by decide)) | exact vi_aS p4 (by decide) _ | exact (fun z => ⟨by omega, hca⟩) | exact (fun z => ⟨by omega, hca z⟩) | (intro z; exfalso; omega)) | refine vi_arr (by decide) (by decide) ?_ | refine vi_up (by decide) (by decide) ?_)))⟩) g67
                      · refine ja_bipush 7 dfirst_211 rfl ?_
                        refine ja_istore dfirst_213 (by decide) (L2 := [(6, (0, 7)), (5, (0, s0)), (0, (2, ((0 : Nat) : Int))), (1, (0, a1)), (2, (0, (h 132 (a1).toNat))), (3, (0, (h 134 (a1).toNat))), (4, (0, (h 58 (h 132 (a1).toNat).toNat)))]) rfl ?_
                        exact ja_wk (fun q hq => by simp only [List.mem_cons, List.not_mem_nil, or_false] at hq; rcases hq with rfl | rfl | rfl | rfl <;> rfl) ((ih (((100 : Int) - 7).toNat) (by omega)).2 7 (ja_up h 133 ((a1).toNat) 1) g1 ⟨by decide, by decide⟩ (⟨by omega, (by (repeat (first | exact ag_refl | refine ag_up rfl ?_))), (by (repeat (first | exact p4 | refine vi_set (by decide) (by decide) (by decide) ?_ (by first | exact (fun z => absurd z (by decide)) | exact vi_aS p4 (by decide) _ | exact (fun z => ⟨by omega, hca⟩) | exact (fun z => ⟨by omega, hca z⟩) | (intro z; exfalso; omega)) | refine vi_res ?_ (by first | exact (fun z => absurd z (by decide)) | exact vi_aS p4 (by decide) _ | exact (fun z => ⟨by omega, hca⟩) | exact (fun z => ⟨by omega, hca z⟩) | (intro z; exfalso; omega)) | refine vi_arr (by decide) (by decide) ?_ | refine vi_up (by decide) (by decide) ?_)))⟩) rfl)
                    · have kk : kid h (h 59 (h 132 (a1).toNat).toNat) (h 132 (a1).toNat).toNat := by first | exact (kd1 (by omega)).1 | exact kd2 (by omega)
                      have kk1 := kk.1
                      have kk2 := kk.2.1
                      refine ja_aload_n dfirst_190 rfl rfl ?_
                      refine ja_aload_n dfirst_191 rfl rfl ?_
                      refine fa_nodeA dfirst_192 ?_
                      refine ja_iload_n dfirst_195 rfl rfl ?_
                      refine il_nodeA (v := h 59 (h 132 (a1).toNat).toNat) rfl ⟨by omega, by omega⟩ dfirst_196 ?_
                      have f68 := gC_nodeA g (h 132 (a1).toNat).toNat
                      refine ja_iload_n dfirst_197 rfl rfl ?_
                      refine t_ask (by decide) (show (0 : Nat) ≤ 8 by decide) dfirst_198 g1 ⟨by omega, by omega⟩ ⟨by omega, by omega⟩ (show 0 ≤ (h 59 (h 132 (a1).toNat).toNat) ∧ (h 59 (h 132 (a1).toNat).toNat) ≤ 899 by omega) (show 0 ≤ (h 134 (a1).toNat) ∧ (h 134 (a1).toNat) ≤ 119 by omega) (show (h 0 202) ≤ 999 by omega) ?_
                      intro g69
                      replace g69 : mo_G mo_zr (ja_up (ja_up (ja_up (ja_up (ja_up (ja_up h 133 ((a1).toNat) 1) 132 ((h 0 202).toNat) (h 59 (h 132 (a1).toNat).toNat)) 134 ((h 0 202).toNat) (h 134 (a1).toNat)) 133 ((h 0 202).toNat) 0) 135 ((h 0 202).toNat) 0) 0 202 ((h 0 202) + 1)) := g69
                      show mJ l D cA ad 7 cX12_first 7 none 201 [(5, (0, s0)), (0, (2, ((0 : Nat) : Int))), (1, (0, a1)), (2, (0, (h 132 (a1).toNat))), (3, (0, (h 134 (a1).toNat))), (4, (0, (h 58 (h 132 (a1).toNat).toNat)))] [] (ja_up (ja_up (ja_up (ja_up (ja_up (ja_up h 133 ((a1).toNat) 1) 132 ((h 0 202).toNat) (h 59 (h 132 (a1).toNat).toNat)) 134 ((h 0 202).toNat) (h 134 (a1).toNat)) 133 ((h 0 202).toNat) 0) 135 ((h 0 202).toNat) 0) 0 202 ((h 0 202) + 1)) Q
                      refine ja_goto 364 dfirst_201 rfl ?_
                      refine ja_return dfirst_364 rfl ?_
                      exact k1 (ja_up (ja_up (ja_up (ja_up (ja_up (ja_up h 133 ((a1).toNat) 1) 132 ((h 0 202).toNat) (h 59 (h 132 (a1).toNat).toNat)) 134 ((h 0 202).toNat) (h 134 (a1).toNat)) 133 ((h 0 202).toNat) 0) 135 ((h 0 202).toNat) 0) 0 202 ((h 0 202) + 1)) (⟨ev_ask (e := a1) (c := (h 59 (h 132 (a1).toNat).toNat)) (r := (h 134 (a1).toNat)) g g69 p6 (by omega) (by omega) (by (repeat (first | exact ag_refl | refine ag_up rfl ?_))) (show (((h 0 202) + 1) : Int) = (h 0 202) + 1 by omega) (fun j h1 h2 => by refine ⟨?_, ?_, ?_, ?_⟩ <;> simp [ja_up, h1, h2]) (by simp [ja_up, hne]) (by simp [ja_up, hne]) (by omega) (by simp [ja_up, hne] <;> omega) (by simp [ja_up]) (by simp [ja_up]) (by simp [ja_up]) (by simp [ja_up]) (by first | exact (kd1 (by omega)).1 | exact kd2 (by omega)) ⟨by omega, by omega⟩ (by unfold evD; simp [ja_up, hne, p3] <;> omega), (by (repeat (first | exact ag_refl | refine ag_up rfl ?_))), (by (repeat (first | exact p4 | refine vi_set (by decide) (by decide) (by decide) ?_ (by first | exact (fun z => absurd z (by decide)) | exact vi_aS p4 (by decide) _ | exact (fun z => ⟨by omega, hca⟩) | exact (fun z => ⟨by omega, hca z⟩) | (intro z; exfalso; omega)) | refine vi_res ?_ (by first | exact (fun z => absurd z (by decide)) | exact vi_aS p4 (by decide) _ | exact (fun z => ⟨by omega, hca⟩) | exact (fun z => ⟨by omega, hca z⟩) | (intro z; exfalso; omega)) | refine vi_arr (by decide) (by decide) ?_ | refine vi_up (by decide) (by decide) ?_)))⟩) g69
              · have kA := (kd1 (by omega)).1
                have kB := (kd1 (by omega)).2
                have kA1 := kA.1
                have kA2 := kA.2.1
                have kB1 := kB.1
                have kB2 := kB.2.1
                refine ja_aload_n dfirst_113 rfl rfl ?_
                refine fa_evState dfirst_114 ?_
                refine ja_iload_n dfirst_117 rfl rfl ?_
                refine ja_iconst dfirst_118 ?_
                have g70 := gW_evState g1 (a1).toNat (x := 3) ⟨by decide, by decide⟩
                refine is_evState ⟨by omega, by omega⟩ dfirst_119 ?_
                refine ja_aload_n dfirst_120 rfl rfl ?_
                refine ja_aload_n dfirst_121 rfl rfl ?_
                refine fa_ahead dfirst_122 ?_
                refine ja_sipush 400 dfirst_125 rfl ?_
                refine ja_aload_n dfirst_128 rfl rfl ?_
                refine fa_nodeA dfirst_129 ?_
                refine ja_iload_n dfirst_132 rfl rfl ?_
                refine il_nodeA (v := h 59 (h 132 (a1).toNat).toNat) rfl ⟨by omega, by omega⟩ dfirst_133 ?_
                have f71 := gC_nodeA g (h 132 (a1).toNat).toNat
                refine ja_imul dfirst_134 ?_
                refine ja_aload_n dfirst_135 rfl rfl ?_
                refine fa_reachPoint dfirst_136 ?_
                refine ja_iload_n dfirst_139 rfl rfl ?_
                refine il_reachPoint (v := h 115 (h 134 (a1).toNat).toNat) rfl ⟨by omega, by omega⟩ dfirst_140 ?_
                have f72 := gC_reachPoint g (h 134 (a1).toNat).toNat
                refine ja_iadd dfirst_141 ?_
                refine il_ahead (v := h 71 ((400 * (h 59 (h 132 (a1).toNat).toNat)) + (h 115 (h 134 (a1).toNat).toNat)).toNat) rfl ⟨by omega, by omega⟩ dfirst_142 ?_
                have f73 := gC_ahead g ((400 * (h 59 (h 132 (a1).toNat).toNat)) + (h 115 (h 134 (a1).toNat).toNat)).toNat
                refine ja_iconst dfirst_143 ?_
                refine ja_icmp_ne 156 dfirst_144 rfl ⟨by omega, by omega⟩ ⟨by decide, by decide⟩ (fun c144 => ?_) (fun c144 => ?_)
                · refine ja_aload_n dfirst_156 rfl rfl ?_
                  refine fa_nodeB dfirst_157 ?_
                  refine ja_iload_n dfirst_160 rfl rfl ?_
                  refine il_nodeB (v := h 60 (h 132 (a1).toNat).toNat) rfl ⟨by omega, by omega⟩ dfirst_161 ?_
                  have f74 := gC_nodeB g (h 132 (a1).toNat).toNat
                  refine ja_iload_n dfirst_162 rfl rfl ?_
                  refine t_ask (by decide) (show (0 : Nat) ≤ 8 by decide) dfirst_163 g70 ⟨by omega, by omega⟩ ⟨by omega, by omega⟩ (show 0 ≤ (h 60 (h 132 (a1).toNat).toNat) ∧ (h 60 (h 132 (a1).toNat).toNat) ≤ 899 by omega) (show 0 ≤ (h 134 (a1).toNat) ∧ (h 134 (a1).toNat) ≤ 119 by omega) (show (h 0 202) ≤ 999 by omega) ?_
                  intro g75
                  replace g75 : mo_G mo_zr (ja_up (ja_up (ja_up (ja_up (ja_up (ja_up (ja_up h 133 ((a1).toNat) 1) 133 ((a1).toNat) 3) 132 ((h 0 202).toNat) (h 60 (h 132 (a1).toNat).toNat)) 134 ((h 0 202).toNat) (h 134 (a1).toNat)) 133 ((h 0 202).toNat) 0) 135 ((h 0 202).toNat) 0) 0 202 ((h 0 202) + 1)) := g75
                  show mJ l D cA ad 7 cX12_first 7 none 166 [(5, (0, s0)), (0, (2, ((0 : Nat) : Int))), (1, (0, a1)), (2, (0, (h 132 (a1).toNat))), (3, (0, (h 134 (a1).toNat))), (4, (0, (h 58 (h 132 (a1).toNat).toNat)))] [] (ja_up (ja_up (ja_up (ja_up (ja_up (ja_up (ja_up h 133 ((a1).toNat) 1) 133 ((a1).toNat) 3) 132 ((h 0 202).toNat) (h 60 (h 132 (a1).toNat).toNat)) 134 ((h 0 202).toNat) (h 134 (a1).toNat)) 133 ((h 0 202).toNat) 0) 135 ((h 0 202).toNat) 0) 0 202 ((h 0 202) + 1)) Q
                  refine ja_goto 364 dfirst_166 rfl ?_
                  refine ja_return dfirst_364 rfl ?_
                  exact k1 (ja_up (ja_up (ja_up (ja_up (ja_up (ja_up (ja_up h 133 ((a1).toNat) 1) 133 ((a1).toNat) 3) 132 ((h 0 202).toNat) (h 60 (h 132 (a1).toNat).toNat)) 134 ((h 0 202).toNat) (h 134 (a1).toNat)) 133 ((h 0 202).toNat) 0) 135 ((h 0 202).toNat) 0) 0 202 ((h 0 202) + 1)) (⟨ev_ask (e := a1) (c := (h 60 (h 132 (a1).toNat).toNat)) (r := (h 134 (a1).toNat)) g g75 p6 (by omega) (by omega) (by (repeat (first | exact ag_refl | refine ag_up rfl ?_))) (show (((h 0 202) + 1) : Int) = (h 0 202) + 1 by omega) (fun j h1 h2 => by refine ⟨?_, ?_, ?_, ?_⟩ <;> simp [ja_up, h1, h2]) (by simp [ja_up, hne]) (by simp [ja_up, hne]) (by omega) (by simp [ja_up, hne] <;> omega) (by simp [ja_up]) (by simp [ja_up]) (by simp [ja_up]) (by simp [ja_up]) (kd1 (by omega)).2 ⟨by omega, by omega⟩ (by unfold evD; simp [ja_up, hne, p3] <;> omega), (by (repeat (first | exact ag_refl | refine ag_up rfl ?_))), (by (repeat (first | exact p4 | refine vi_set (by decide) (by decide) (by decide) ?_ (by first | exact (fun z => absurd z (by decide)) | exact vi_aS p4 (by decide) _ | exact (fun z => ⟨by omega, hca⟩) | exact (fun z => ⟨by omega, hca z⟩) | (intro z; exfalso; omega)) | refine vi_res ?_ (by first | exact (fun z => absurd z (by decide)) | exact vi_aS p4 (by decide) _ | exact (fun z => ⟨by omega, hca⟩) | exact (fun z => ⟨by omega, hca z⟩) | (intro z; exfalso; omega)) | refine vi_arr (by decide) (by decide) ?_ | refine vi_up (by decide) (by decide) ?_)))⟩) g75
                · refine ja_aload_n dfirst_147 rfl rfl ?_
                  refine fa_nodeA dfirst_148 ?_
                  refine ja_iload_n dfirst_151 rfl rfl ?_
                  refine il_nodeA (v := h 59 (h 132 (a1).toNat).toNat) rfl ⟨by omega, by omega⟩ dfirst_152 ?_
                  refine ja_goto 162 dfirst_153 rfl ?_
                  refine ja_iload_n dfirst_162 rfl rfl ?_
                  refine t_ask (by decide) (show (0 : Nat) ≤ 8 by decide) dfirst_163 g70 ⟨by omega, by omega⟩ ⟨by omega, by omega⟩ (show 0 ≤ (h 59 (h 132 (a1).toNat).toNat) ∧ (h 59 (h 132 (a1).toNat).toNat) ≤ 899 by omega) (show 0 ≤ (h 134 (a1).toNat) ∧ (h 134 (a1).toNat) ≤ 119 by omega) (show (h 0 202) ≤ 999 by omega) ?_
                  intro g76
                  replace g76 : mo_G mo_zr (ja_up (ja_up (ja_up (ja_up (ja_up (ja_up (ja_up h 133 ((a1).toNat) 1) 133 ((a1).toNat) 3) 132 ((h 0 202).toNat) (h 59 (h 132 (a1).toNat).toNat)) 134 ((h 0 202).toNat) (h 134 (a1).toNat)) 133 ((h 0 202).toNat) 0) 135 ((h 0 202).toNat) 0) 0 202 ((h 0 202) + 1)) := g76
                  show mJ l D cA ad 7 cX12_first 7 none 166 [(5, (0, s0)), (0, (2, ((0 : Nat) : Int))), (1, (0, a1)), (2, (0, (h 132 (a1).toNat))), (3, (0, (h 134 (a1).toNat))), (4, (0, (h 58 (h 132 (a1).toNat).toNat)))] [] (ja_up (ja_up (ja_up (ja_up (ja_up (ja_up (ja_up h 133 ((a1).toNat) 1) 133 ((a1).toNat) 3) 132 ((h 0 202).toNat) (h 59 (h 132 (a1).toNat).toNat)) 134 ((h 0 202).toNat) (h 134 (a1).toNat)) 133 ((h 0 202).toNat) 0) 135 ((h 0 202).toNat) 0) 0 202 ((h 0 202) + 1)) Q
                  refine ja_goto 364 dfirst_166 rfl ?_
                  refine ja_return dfirst_364 rfl ?_
                  exact k1 (ja_up (ja_up (ja_up (ja_up (ja_up (ja_up (ja_up h 133 ((a1).toNat) 1) 133 ((a1).toNat) 3) 132 ((h 0 202).toNat) (h 59 (h 132 (a1).toNat).toNat)) 134 ((h 0 202).toNat) (h 134 (a1).toNat)) 133 ((h 0 202).toNat) 0) 135 ((h 0 202).toNat) 0) 0 202 ((h 0 202) + 1)) (⟨ev_ask (e := a1) (c := (h 59 (h 132 (a1).toNat).toNat)) (r := (h 134 (a1).toNat)) g g76 p6 (by omega) (by omega) (by (repeat (first | exact ag_refl | refine ag_up rfl ?_))) (show (((h 0 202) + 1) : Int) = (h 0 202) + 1 by omega) (fun j h1 h2 => by refine ⟨?_, ?_, ?_, ?_⟩ <;> simp [ja_up, h1, h2]) (by simp [ja_up, hne]) (by simp [ja_up, hne]) (by omega) (by simp [ja_up, hne] <;> omega) (by simp [ja_up]) (by simp [ja_up]) (by simp [ja_up]) (by simp [ja_up]) (kd1 (by omega)).1 ⟨by omega, by omega⟩ (by unfold evD; simp [ja_up, hne, p3] <;> omega), (by (repeat (first | exact ag_refl | refine ag_up rfl ?_))), (by (repeat (first | exact p4 | refine vi_set (by decide) (by decide) (by decide) ?_ (by first | exact (fun z => absurd z (by decide)) | exact vi_aS p4 (by decide) _ | exact (fun z => ⟨by omega, hca⟩) | exact (fun z => ⟨by omega, hca z⟩) | (intro z; exfalso; omega)) | refine vi_res ?_ (by first | exact (fun z => absurd z (by decide)) | exact vi_aS p4 (by decide) _ | exact (fun z => ⟨by omega, hca⟩) | exact (fun z => ⟨by omega, hca z⟩) | (intro z; exfalso; omega)) | refine vi_arr (by decide) (by decide) ?_ | refine vi_up (by decide) (by decide) ?_)))⟩) g76
          · refine ja_iload dfirst_78 rfl ?_
            refine ja_bipush 15 dfirst_80 rfl ?_
            refine ja_icmp_eq 92 dfirst_82 rfl ⟨by omega, by omega⟩ ⟨by decide, by decide⟩ (fun c82 => ?_) (fun c82 => ?_)
            · refine ja_aload_n dfirst_92 rfl rfl ?_
              refine ja_iconst dfirst_93 ?_
              refine t_answer (by decide) (show (0 : Nat) ≤ 8 by decide) dfirst_94 g1 ⟨by decide, by decide⟩ (show 1 ≤ (h 0 202) by omega) ?_
              intro g77
              replace g77 : mo_G mo_zr (ja_up (ja_up (ja_up h 133 ((a1).toNat) 1) 0 203 1) 0 202 ((h 0 202) - 1)) := g77
              show mJ l D cA ad 7 cX12_first 7 none 97 [(5, (0, s0)), (0, (2, ((0 : Nat) : Int))), (1, (0, a1)), (2, (0, (h 132 (a1).toNat))), (3, (0, (h 134 (a1).toNat))), (4, (0, (h 58 (h 132 (a1).toNat).toNat)))] [] (ja_up (ja_up (ja_up h 133 ((a1).toNat) 1) 0 203 1) 0 202 ((h 0 202) - 1)) Q
              refine ja_goto 364 dfirst_97 rfl ?_
              refine ja_return dfirst_364 rfl ?_
              exact k1 (ja_up (ja_up (ja_up h 133 ((a1).toNat) 1) 0 203 1) 0 202 ((h 0 202) - 1)) (⟨ev_pop (e := a1) g77 p6 (by omega) (by omega) (by omega) (by (repeat (first | exact ag_refl | refine ag_up rfl ?_))) (show (((h 0 202) - 1) : Int) = (h 0 202) - 1 by omega) (fun j hj => by refine ⟨?_, ?_, ?_, ?_⟩ <;> simp [ja_up, hj]) g, (by (repeat (first | exact ag_refl | refine ag_up rfl ?_))), (by (repeat (first | exact p4 | refine vi_set (by decide) (by decide) (by decide) ?_ (by first | exact (fun z => absurd z (by decide)) | exact vi_aS p4 (by decide) _ | exact (fun z => ⟨by omega, hca⟩) | exact (fun z => ⟨by omega, hca z⟩) | (intro z; exfalso; omega)) | refine vi_res ?_ (by first | exact (fun z => absurd z (by decide)) | exact vi_aS p4 (by decide) _ | exact (fun z => ⟨by omega, hca⟩) | exact (fun z => ⟨by omega, hca z⟩) | (intro z; exfalso; omega)) | refine vi_arr (by decide) (by decide) ?_ | refine vi_up (by decide) (by decide) ?_)))⟩) g77
            · refine ja_iload dfirst_85 rfl ?_
              refine ja_bipush 11 dfirst_87 rfl ?_
              refine ja_icmp_ne 100 dfirst_89 rfl ⟨by omega, by omega⟩ ⟨by decide, by decide⟩ (fun c89 => ?_) (fun c89 => ?_)
              · refine ja_iload dfirst_100 rfl ?_
                refine ja_iconst dfirst_102 ?_
                refine ja_icmp_ne 169 dfirst_103 rfl ⟨by omega, by omega⟩ ⟨by decide, by decide⟩ (fun c103 => ?_) (fun c103 => ?_)
                · refine ja_iload dfirst_169 rfl ?_
                  refine ja_bipush 13 dfirst_171 rfl ?_
                  refine ja_icmp_eq 190 dfirst_173 rfl ⟨by omega, by omega⟩ ⟨by decide, by decide⟩ (fun c173 => ?_) (fun c173 => ?_)
                  · have kk : kid h (h 59 (h 132 (a1).toNat).toNat) (h 132 (a1).toNat).toNat := by first | exact (kd1 (by omega)).1 | exact kd2 (by omega)
                    have kk1 := kk.1
                    have kk2 := kk.2.1
                    refine ja_aload_n dfirst_190 rfl rfl ?_
                    refine ja_aload_n dfirst_191 rfl rfl ?_
                    refine fa_nodeA dfirst_192 ?_
                    refine ja_iload_n dfirst_195 rfl rfl ?_
                    refine il_nodeA (v := h 59 (h 132 (a1).toNat).toNat) rfl ⟨by omega, by omega⟩ dfirst_196 ?_
                    have f78 := gC_nodeA g (h 132 (a1).toNat).toNat
                    refine ja_iload_n dfirst_197 rfl rfl ?_
                    refine t_ask (by decide) (show (0 : Nat) ≤ 8 by decide) dfirst_198 g1 ⟨by omega, by omega⟩ ⟨by omega, by omega⟩ (show 0 ≤ (h 59 (h 132 (a1).toNat).toNat) ∧ (h 59 (h 132 (a1).toNat).toNat) ≤ 899 by omega) (show 0 ≤ (h 134 (a1).toNat) ∧ (h 134 (a1).toNat) ≤ 119 by omega) (show (h 0 202) ≤ 999 by omega) ?_
                    intro g79
                    replace g79 : mo_G mo_zr (ja_up (ja_up (ja_up (ja_up (ja_up (ja_up h 133 ((a1).toNat) 1) 132 ((h 0 202).toNat) (h 59 (h 132 (a1).toNat).toNat)) 134 ((h 0 202).toNat) (h 134 (a1).toNat)) 133 ((h 0 202).toNat) 0) 135 ((h 0 202).toNat) 0) 0 202 ((h 0 202) + 1)) := g79
                    show mJ l D cA ad 7 cX12_first 7 none 201 [(5, (0, s0)), (0, (2, ((0 : Nat) : Int))), (1, (0, a1)), (2, (0, (h 132 (a1).toNat))), (3, (0, (h 134 (a1).toNat))), (4, (0, (h 58 (h 132 (a1).toNat).toNat)))] [] (ja_up (ja_up (ja_up (ja_up (ja_up (ja_up h 133 ((a1).toNat) 1) 132 ((h 0 202).toNat) (h 59 (h 132 (a1).toNat).toNat)) 134 ((h 0 202).toNat) (h 134 (a1).toNat)) 133 ((h 0 202).toNat) 0) 135 ((h 0 202).toNat) 0) 0 202 ((h 0 202) + 1)) Q
                    refine ja_goto 364 dfirst_201 rfl ?_
                    refine ja_return dfirst_364 rfl ?_
                    exact k1 (ja_up (ja_up (ja_up (ja_up (ja_up (ja_up h 133 ((a1).toNat) 1) 132 ((h 0 202).toNat) (h 59 (h 132 (a1).toNat).toNat)) 134 ((h 0 202).toNat) (h 134 (a1).toNat)) 133 ((h 0 202).toNat) 0) 135 ((h 0 202).toNat) 0) 0 202 ((h 0 202) + 1)) (⟨ev_ask (e := a1) (c := (h 59 (h 132 (a1).toNat).toNat)) (r := (h 134 (a1).toNat)) g g79 p6 (by omega) (by omega) (by (repeat (first | exact ag_refl | refine ag_up rfl ?_))) (show (((h 0 202) + 1) : Int) = (h 0 202) + 1 by omega) (fun j h1 h2 => by refine ⟨?_, ?_, ?_, ?_⟩ <;> simp [ja_up, h1, h2]) (by simp [ja_up, hne]) (by simp [ja_up, hne]) (by omega) (by simp [ja_up, hne] <;> omega) (by simp [ja_up]) (by simp [ja_up]) (by simp [ja_up]) (by simp [ja_up]) (by first | exact (kd1 (by omega)).1 | exact kd2 (by omega)) ⟨by omega, by omega⟩ (by unfold evD; simp [ja_up, hne, p3] <;> omega), (by (repeat (first | exact ag_refl | refine ag_up rfl ?_))), (by (repeat (first | exact p4 | refine vi_set (by decide) (by decide) (by decide) ?_ (by first | exact (fun z => absurd z (by decide)) | exact vi_aS p4 (by decide) _ | exact (fun z => ⟨by omega, hca⟩) | exact (fun z => ⟨by omega, hca z⟩) | (intro z; exfalso; omega)) | refine vi_res ?_ (by first | exact (fun z => absurd z (by decide)) | exact vi_aS p4 (by decide) _ | exact (fun z => ⟨by omega, hca⟩) | exact (fun z => ⟨by omega, hca z⟩) | (intro z; exfalso; omega)) | refine vi_arr (by decide) (by decide) ?_ | refine vi_up (by decide) (by decide) ?_)))⟩) g79
                  · refine ja_iload dfirst_176 rfl ?_
                    refine ja_bipush 14 dfirst_178 rfl ?_
                    refine ja_icmp_eq 190 dfirst_180 rfl ⟨by omega, by omega⟩ ⟨by decide, by decide⟩ (fun c180 => ?_) (fun c180 => ?_)
                    · have kk : kid h (h 59 (h 132 (a1).toNat).toNat) (h 132 (a1).toNat).toNat := by first | exact (kd1 (by omega)).1 | exact kd2 (by omega)
                      have kk1 := kk.1
                      have kk2 := kk.2.1
                      refine ja_aload_n dfirst_190 rfl rfl ?_
                      refine ja_aload_n dfirst_191 rfl rfl ?_
                      refine fa_nodeA dfirst_192 ?_
                      refine ja_iload_n dfirst_195 rfl rfl ?_
                      refine il_nodeA (v := h 59 (h 132 (a1).toNat).toNat) rfl ⟨by omega, by omega⟩ dfirst_196 ?_
                      have f80 := gC_nodeA g (h 132 (a1).toNat).toNat
                      refine ja_iload_n dfirst_197 rfl rfl ?_
                      refine t_ask (by decide) (show (0 : Nat) ≤ 8 by decide) dfirst_198 g1 ⟨by omega, by omega⟩ ⟨by omega, by omega⟩ (show 0 ≤ (h 59 (h 132 (a1).toNat).toNat) ∧ (h 59 (h 132 (a1).toNat).toNat) ≤ 899 by omega) (show 0 ≤ (h 134 (a1).toNat) ∧ (h 134 (a1).toNat) ≤ 119 by omega) (show (h 0 202) ≤ 999 by omega) ?_
                      intro g81
                      replace g81 : mo_G mo_zr (ja_up (ja_up (ja_up (ja_up (ja_up (ja_up h 133 ((a1).toNat) 1) 132 ((h 0 202).toNat) (h 59 (h 132 (a1).toNat).toNat)) 134 ((h 0 202).toNat) (h 134 (a1).toNat)) 133 ((h 0 202).toNat) 0) 135 ((h 0 202).toNat) 0) 0 202 ((h 0 202) + 1)) := g81
                      show mJ l D cA ad 7 cX12_first 7 none 201 [(5, (0, s0)), (0, (2, ((0 : Nat) : Int))), (1, (0, a1)), (2, (0, (h 132 (a1).toNat))), (3, (0, (h 134 (a1).toNat))), (4, (0, (h 58 (h 132 (a1).toNat).toNat)))] [] (ja_up (ja_up (ja_up (ja_up (ja_up (ja_up h 133 ((a1).toNat) 1) 132 ((h 0 202).toNat) (h 59 (h 132 (a1).toNat).toNat)) 134 ((h 0 202).toNat) (h 134 (a1).toNat)) 133 ((h 0 202).toNat) 0) 135 ((h 0 202).toNat) 0) 0 202 ((h 0 202) + 1)) Q
                      refine ja_goto 364 dfirst_201 rfl ?_
                      refine ja_return dfirst_364 rfl ?_
                      exact k1 (ja_up (ja_up (ja_up (ja_up (ja_up (ja_up h 133 ((a1).toNat) 1) 132 ((h 0 202).toNat) (h 59 (h 132 (a1).toNat).toNat)) 134 ((h 0 202).toNat) (h 134 (a1).toNat)) 133 ((h 0 202).toNat) 0) 135 ((h 0 202).toNat) 0) 0 202 ((h 0 202) + 1)) (⟨ev_ask (e := a1) (c := (h 59 (h 132 (a1).toNat).toNat)) (r := (h 134 (a1).toNat)) g g81 p6 (by omega) (by omega) (by (repeat (first | exact ag_refl | refine ag_up rfl ?_))) (show (((h 0 202) + 1) : Int) = (h 0 202) + 1 by omega) (fun j h1 h2 => by refine ⟨?_, ?_, ?_, ?_⟩ <;> simp [ja_up, h1, h2]) (by simp [ja_up, hne]) (by simp [ja_up, hne]) (by omega) (by simp [ja_up, hne] <;> omega) (by simp [ja_up]) (by simp [ja_up]) (by simp [ja_up]) (by simp [ja_up]) (by first | exact (kd1 (by omega)).1 | exact kd2 (by omega)) ⟨by omega, by omega⟩ (by unfold evD; simp [ja_up, hne, p3] <;> omega), (by (repeat (first | exact ag_refl | refine ag_up rfl ?_))), (by (repeat (first | exact p4 | refine vi_set (by decide) (by decide) (by decide) ?_ (by first | exact (fun z => absurd z (by decide)) | exact vi_aS p4 (by decide) _ | exact (fun z => ⟨by omega, hca⟩) | exact (fun z => ⟨by omega, hca z⟩) | (intro z; exfalso; omega)) | refine vi_res ?_ (by first | exact (fun z => absurd z (by decide)) | exact vi_aS p4 (by decide) _ | exact (fun z => ⟨by omega, hca⟩) | exact (fun z => ⟨by omega, hca z⟩) | (intro z; exfalso; omega)) | refine vi_arr (by decide) (by decide) ?_ | refine vi_up (by decide) (by decide) ?_)))⟩) g81
                    · refine ja_iload dfirst_183 rfl ?_
                      refine ja_bipush 15 dfirst_185 rfl ?_
                      refine ja_icmp_ne 204 dfirst_187 rfl ⟨by omega, by omega⟩ ⟨by decide, by decide⟩ (fun c187 => ?_) (fun c187 => ?_)
                      · refine ja_iload dfirst_204 rfl ?_
                        refine ja_bipush 12 dfirst_206 rfl ?_
                        refine ja_icmp_ne 263 dfirst_208 rfl ⟨by omega, by omega⟩ ⟨by decide, by decide⟩ (fun c208 => ?_) (fun c208 => ?_)
                        · refine ja_iload dfirst_263 rfl ?_
                          refine ja_bipush 11 dfirst_265 rfl ?_
                          refine ja_icmp_ne 321 dfirst_267 rfl ⟨by omega, by omega⟩ ⟨by decide, by decide⟩ (fun c267 => ?_) (fun c267 => ?_)
                          · refine ja_aload_n dfirst_321 rfl rfl ?_
                            refine ja_iload dfirst_322 rfl ?_
                            refine ja_iconst dfirst_324 ?_
                            refine ja_icmp_eq 338 dfirst_325 rfl ⟨by omega, by omega⟩ ⟨by decide, by decide⟩ (fun c325 => ?_) (fun c325 => ?_)
                            · refine ja_aload_n dfirst_338 rfl rfl ?_
                              refine fg_tests (v := h 0 131) rfl dfirst_339 ?_
                              have f82 := gF_tests g
                              refine ja_goto 351 dfirst_342 rfl ?_
                              have g83 := gP_tests g1 (x := h 0 131) ⟨by omega, by omega⟩
                              refine fp_tests dfirst_351 ?_
                              refine ja_aload_n dfirst_354 rfl rfl ?_
                              refine ja_aload_n dfirst_355 rfl rfl ?_
                              refine ja_iload_n dfirst_356 rfl rfl ?_
                              refine ja_iload_n dfirst_357 rfl rfl ?_
                              refine t_isLeaf (by decide) (show (1 : Nat) ≤ 8 by decide) dfirst_358 g83 ⟨by omega, by omega⟩ ⟨by omega, by omega⟩ (show 0 ≤ (h 132 (a1).toNat) ∧ (h 132 (a1).toNat) ≤ 899 by omega) (show 0 ≤ (h 134 (a1).toNat) ∧ (h 134 (a1).toNat) ≤ 119 by omega) ((by (repeat (first | exact p4 | refine vi_set (by decide) (by decide) (by decide) ?_ (by first | exact (fun z => absurd z (by decide)) | exact vi_aS p4 (by decide) _ | exact (fun z => ⟨by omega, hca⟩) | exact (fun z => ⟨by omega, hca z⟩) | (intro z; exfalso; omega)) | refine vi_res ?_ (by first | exact (fun z => absurd z (by decide)) | exact vi_aS p4 (by decide) _ | exact (fun z => ⟨by omega, hca⟩) | exact (fun z => ⟨by omega, hca z⟩) | (intro z; exfalso; omega)) | refine vi_arr (by decide) (by decide) ?_ | refine vi_up (by decide) (by decide) ?_)))) (ci_g p5 (by (repeat (first | exact ag_refl | refine ag_up rfl ?_)))) (show (h 132 (a1).toNat) < (h 0 95) by omega) (show (h 115 (h 134 (a1).toNat).toNat) < (h 0 88) by omega) (hrs) ?_
                              intro w84 h85 k358_0 g86
                              replace k358_0 : (0 ≤ w84 ∧ w84 ≤ 1) ∧ mo_ag FBI (ja_up (ja_up h 133 ((a1).toNat) 1) 0 131 (h 0 131)) h85 ∧ VI h85 := k358_0
                              have c_ev : (h85 0 202) = (h 0 202) := k358_0.2.1 0 202 rfl
                              refine t_answer (by decide) (show (0 : Nat) ≤ 8 by decide) dfirst_361 g86 ⟨by omega, by omega⟩ (show 1 ≤ (h85 0 202) by omega) ?_
                              intro g87
                              replace g87 : mo_G mo_zr (ja_up (ja_up h85 0 203 w84) 0 202 ((h85 0 202) - 1)) := g87
                              show mJ l D cA ad 7 cX12_first 7 none 364 [(5, (0, s0)), (0, (2, ((0 : Nat) : Int))), (1, (0, a1)), (2, (0, (h 132 (a1).toNat))), (3, (0, (h 134 (a1).toNat))), (4, (0, (h 58 (h 132 (a1).toNat).toNat)))] [] (ja_up (ja_up h85 0 203 w84) 0 202 ((h85 0 202) - 1)) Q
                              refine ja_return dfirst_364 rfl ?_
                              exact k1 (ja_up (ja_up h85 0 203 w84) 0 202 ((h85 0 202) - 1)) (⟨ev_pop (e := a1) g87 p6 (by omega) (by omega) (by omega) (ag_trans (by (repeat (first | exact ag_refl | refine ag_up rfl ?_))) (ag_trans (ag_sub (X_X (by decide) (by decide)) k358_0.2.1) (by (repeat (first | exact ag_refl | refine ag_up rfl ?_))))) (show (((h85 0 202) - 1) : Int) = (h 0 202) - 1 by omega) (fun j hj => ⟨(show ((ja_up (ja_up h85 0 203 w84) 0 202 ((h85 0 202) - 1)) 132) j = _ from (by simp [ja_up, c_ev, hj])).trans ((k358_0.2.1 132 j rfl).trans (by simp [ja_up, c_ev, hj])), (show ((ja_up (ja_up h85 0 203 w84) 0 202 ((h85 0 202) - 1)) 134) j = _ from (by simp [ja_up, c_ev, hj])).trans ((k358_0.2.1 134 j rfl).trans (by simp [ja_up, c_ev, hj])), (show ((ja_up (ja_up h85 0 203 w84) 0 202 ((h85 0 202) - 1)) 133) j = _ from (by simp [ja_up, c_ev, hj])).trans ((k358_0.2.1 133 j rfl).trans (by simp [ja_up, c_ev, hj])), (show ((ja_up (ja_up h85 0 203 w84) 0 202 ((h85 0 202) - 1)) 135) j = _ from (by simp [ja_up, c_ev, hj])).trans ((k358_0.2.1 135 j rfl).trans (by simp [ja_up, c_ev, hj]))⟩) g, (ag_trans (by (repeat (first | exact ag_refl | refine ag_up rfl ?_))) (ag_trans (ag_sub (X_X (by decide) (by decide)) k358_0.2.1) (by (repeat (first | exact ag_refl | refine ag_up rfl ?_))))), (by (repeat (first | exact k358_0.2.2 | refine vi_set (by decide) (by decide) (by decide) ?_ (by first | exact (fun z => absurd z (by decide)) | exact vi_aS k358_0.2.2 (by decide) _ | exact (fun z => ⟨by omega, hca⟩) | exact (fun z => ⟨by omega, hca z⟩) | (intro z; exfalso; omega)) | refine vi_res ?_ (by first | exact (fun z => absurd z (by decide)) | exact vi_aS k358_0.2.2 (by decide) _ | exact (fun z => ⟨by omega, hca⟩) | exact (fun z => ⟨by omega, hca z⟩) | (intro z; exfalso; omega)) | refine vi_arr (by decide) (by decide) ?_ | refine vi_up (by decide) (by decide) ?_)))⟩) g87
                            · refine ja_aload_n dfirst_328 rfl rfl ?_
                              refine fg_tests (v := h 0 131) rfl dfirst_329 ?_
                              have f88 := gF_tests g
                              refine mk_1075w dfirst_332 ?_
                              refine ja_icmp_ne 345 dfirst_335 rfl ⟨by omega, by omega⟩ ⟨by decide, by decide⟩ (fun c335 => ?_) (fun c335 => ?_)
                              · refine ja_aload_n dfirst_345 rfl rfl ?_
                                refine fg_tests (v := h 0 131) rfl dfirst_346 ?_
                                refine ja_iconst dfirst_349 ?_
                                refine ja_iadd dfirst_350 ?_
                                have g89 := gP_tests g1 (x := (h 0 131) + 1) ⟨by omega, by omega⟩
                                refine fp_tests dfirst_351 ?_
                                refine ja_aload_n dfirst_354 rfl rfl ?_
                                refine ja_aload_n dfirst_355 rfl rfl ?_
                                refine ja_iload_n dfirst_356 rfl rfl ?_
                                refine ja_iload_n dfirst_357 rfl rfl ?_
                                refine t_isLeaf (by decide) (show (1 : Nat) ≤ 8 by decide) dfirst_358 g89 ⟨by omega, by omega⟩ ⟨by omega, by omega⟩ (show 0 ≤ (h 132 (a1).toNat) ∧ (h 132 (a1).toNat) ≤ 899 by omega) (show 0 ≤ (h 134 (a1).toNat) ∧ (h 134 (a1).toNat) ≤ 119 by omega) ((by (repeat (first | exact p4 | refine vi_set (by decide) (by decide) (by decide) ?_ (by first | exact (fun z => absurd z (by decide)) | exact vi_aS p4 (by decide) _ | exact (fun z => ⟨by omega, hca⟩) | exact (fun z => ⟨by omega, hca z⟩) | (intro z; exfalso; omega)) | refine vi_res ?_ (by first | exact (fun z => absurd z (by decide)) | exact vi_aS p4 (by decide) _ | exact (fun z => ⟨by omega, hca⟩) | exact (fun z => ⟨by omega, hca z⟩) | (intro z; exfalso; omega)) | refine vi_arr (by decide) (by decide) ?_ | refine vi_up (by decide) (by decide) ?_)))) (ci_g p5 (by (repeat (first | exact ag_refl | refine ag_up rfl ?_)))) (show (h 132 (a1).toNat) < (h 0 95) by omega) (show (h 115 (h 134 (a1).toNat).toNat) < (h 0 88) by omega) (hrs) ?_
                                intro w90 h91 k358_0 g92
                                replace k358_0 : (0 ≤ w90 ∧ w90 ≤ 1) ∧ mo_ag FBI (ja_up (ja_up h 133 ((a1).toNat) 1) 0 131 ((h 0 131) + 1)) h91 ∧ VI h91 := k358_0
                                have c_ev : (h91 0 202) = (h 0 202) := k358_0.2.1 0 202 rfl
                                refine t_answer (by decide) (show (0 : Nat) ≤ 8 by decide) dfirst_361 g92 ⟨by omega, by omega⟩ (show 1 ≤ (h91 0 202) by omega) ?_
                                intro g93
                                replace g93 : mo_G mo_zr (ja_up (ja_up h91 0 203 w90) 0 202 ((h91 0 202) - 1)) := g93
                                show mJ l D cA ad 7 cX12_first 7 none 364 [(5, (0, s0)), (0, (2, ((0 : Nat) : Int))), (1, (0, a1)), (2, (0, (h 132 (a1).toNat))), (3, (0, (h 134 (a1).toNat))), (4, (0, (h 58 (h 132 (a1).toNat).toNat)))] [] (ja_up (ja_up h91 0 203 w90) 0 202 ((h91 0 202) - 1)) Q
                                refine ja_return dfirst_364 rfl ?_
                                exact k1 (ja_up (ja_up h91 0 203 w90) 0 202 ((h91 0 202) - 1)) (⟨ev_pop (e := a1) g93 p6 (by omega) (by omega) (by omega) (ag_trans (by (repeat (first | exact ag_refl | refine ag_up rfl ?_))) (ag_trans (ag_sub (X_X (by decide) (by decide)) k358_0.2.1) (by (repeat (first | exact ag_refl | refine ag_up rfl ?_))))) (show (((h91 0 202) - 1) : Int) = (h 0 202) - 1 by omega) (fun j hj => ⟨(show ((ja_up (ja_up h91 0 203 w90) 0 202 ((h91 0 202) - 1)) 132) j = _ from (by simp [ja_up, c_ev, hj])).trans ((k358_0.2.1 132 j rfl).trans (by simp [ja_up, c_ev, hj])), (show ((ja_up (ja_up h91 0 203 w90) 0 202 ((h91 0 202) - 1)) 134) j = _ from (by simp [ja_up, c_ev, hj])).trans ((k358_0.2.1 134 j rfl).trans (by simp [ja_up, c_ev, hj])), (show ((ja_up (ja_up h91 0 203 w90) 0 202 ((h91 0 202) - 1)) 133) j = _ from (by simp [ja_up, c_ev, hj])).trans ((k358_0.2.1 133 j rfl).trans (by simp [ja_up, c_ev, hj])), (show ((ja_up (ja_up h91 0 203 w90) 0 202 ((h91 0 202) - 1)) 135) j = _ from (by simp [ja_up, c_ev, hj])).trans ((k358_0.2.1 135 j rfl).trans (by simp [ja_up, c_ev, hj]))⟩) g, (ag_trans (by (repeat (first | exact ag_refl | refine ag_up rfl ?_))) (ag_trans (ag_sub (X_X (by decide) (by decide)) k358_0.2.1) (by (repeat (first | exact ag_refl | refine ag_up rfl ?_))))), (by (repeat (first | exact k358_0.2.2 | refine vi_set (by decide) (by decide) (by decide) ?_ (by first | exact (fun z => absurd z (by decide)) | exact vi_aS k358_0.2.2 (by decide) _ | exact (fun z => ⟨by omega, hca⟩) | exact (fun z => ⟨by omega, hca z⟩) | (intro z; exfalso; omega)) | refine vi_res ?_ (by first | exact (fun z => absurd z (by decide)) | exact vi_aS k358_0.2.2 (by decide) _ | exact (fun z => ⟨by omega, hca⟩) | exact (fun z => ⟨by omega, hca z⟩) | (intro z; exfalso; omega)) | refine vi_arr (by decide) (by decide) ?_ | refine vi_up (by decide) (by decide) ?_)))⟩) g93
                              · refine ja_aload_n dfirst_338 rfl rfl ?_
                                refine fg_tests (v := h 0 131) rfl dfirst_339 ?_
                                refine ja_goto 351 dfirst_342 rfl ?_
                                have g94 := gP_tests g1 (x := h 0 131) ⟨by omega, by omega⟩
                                refine fp_tests dfirst_351 ?_
                                refine ja_aload_n dfirst_354 rfl rfl ?_
                                refine ja_aload_n dfirst_355 rfl rfl ?_
                                refine ja_iload_n dfirst_356 rfl rfl ?_
                                refine ja_iload_n dfirst_357 rfl rfl ?_
                                refine t_isLeaf (by decide) (show (1 : Nat) ≤ 8 by decide) dfirst_358 g94 ⟨by omega, by omega⟩ ⟨by omega, by omega⟩ (show 0 ≤ (h 132 (a1).toNat) ∧ (h 132 (a1).toNat) ≤ 899 by omega) (show 0 ≤ (h 134 (a1).toNat) ∧ (h 134 (a1).toNat) ≤ 119 by omega) ((by (repeat (first | exact p4 | refine vi_set (by decide) (by decide) (by decide) ?_ (by first | exact (fun z => absurd z (by decide)) | exact vi_aS p4 (by decide) _ | exact (fun z => ⟨by omega, hca⟩) | exact (fun z => ⟨by omega, hca z⟩) | (intro z; exfalso; omega)) | refine vi_res ?_ (by first | exact (fun z => absurd z (by decide)) | exact vi_aS p4 (by decide) _ | exact (fun z => ⟨by omega, hca⟩) | exact (fun z => ⟨by omega, hca z⟩) | (intro z; exfalso; omega)) | refine vi_arr (by decide) (by decide) ?_ | refine vi_up (by decide) (by decide) ?_)))) (ci_g p5 (by (repeat (first | exact ag_refl | refine ag_up rfl ?_)))) (show (h 132 (a1).toNat) < (h 0 95) by omega) (show (h 115 (h 134 (a1).toNat).toNat) < (h 0 88) by omega) (hrs) ?_
                                intro w95 h96 k358_0 g97
                                replace k358_0 : (0 ≤ w95 ∧ w95 ≤ 1) ∧ mo_ag FBI (ja_up (ja_up h 133 ((a1).toNat) 1) 0 131 (h 0 131)) h96 ∧ VI h96 := k358_0
                                have c_ev : (h96 0 202) = (h 0 202) := k358_0.2.1 0 202 rfl
                                refine t_answer (by decide) (show (0 : Nat) ≤ 8 by decide) dfirst_361 g97 ⟨by omega, by omega⟩ (show 1 ≤ (h96 0 202) by omega) ?_
                                intro g98
                                replace g98 : mo_G mo_zr (ja_up (ja_up h96 0 203 w95) 0 202 ((h96 0 202) - 1)) := g98
                                show mJ l D cA ad 7 cX12_first 7 none 364 [(5, (0, s0)), (0, (2, ((0 : Nat) : Int))), (1, (0, a1)), (2, (0, (h 132 (a1).toNat))), (3, (0, (h 134 (a1).toNat))), (4, (0, (h 58 (h 132 (a1).toNat).toNat)))] [] (ja_up (ja_up h96 0 203 w95) 0 202 ((h96 0 202) - 1)) Q
                                refine ja_return dfirst_364 rfl ?_
                                exact k1 (ja_up (ja_up h96 0 203 w95) 0 202 ((h96 0 202) - 1)) (⟨ev_pop (e := a1) g98 p6 (by omega) (by omega) (by omega) (ag_trans (by (repeat (first | exact ag_refl | refine ag_up rfl ?_))) (ag_trans (ag_sub (X_X (by decide) (by decide)) k358_0.2.1) (by (repeat (first | exact ag_refl | refine ag_up rfl ?_))))) (show (((h96 0 202) - 1) : Int) = (h 0 202) - 1 by omega) (fun j hj => ⟨(show ((ja_up (ja_up h96 0 203 w95) 0 202 ((h96 0 202) - 1)) 132) j = _ from (by simp [ja_up, c_ev, hj])).trans ((k358_0.2.1 132 j rfl).trans (by simp [ja_up, c_ev, hj])), (show ((ja_up (ja_up h96 0 203 w95) 0 202 ((h96 0 202) - 1)) 134) j = _ from (by simp [ja_up, c_ev, hj])).trans ((k358_0.2.1 134 j rfl).trans (by simp [ja_up, c_ev, hj])), (show ((ja_up (ja_up h96 0 203 w95) 0 202 ((h96 0 202) - 1)) 133) j = _ from (by simp [ja_up, c_ev, hj])).trans ((k358_0.2.1 133 j rfl).trans (by simp [ja_up, c_ev, hj])), (show ((ja_up (ja_up h96 0 203 w95) 0 202 ((h96 0 202) - 1)) 135) j = _ from (by simp [ja_up, c_ev, hj])).trans ((k358_0.2.1 135 j rfl).trans (by simp [ja_up, c_ev, hj]))⟩) g, (ag_trans (by (repeat (first | exact ag_refl | refine ag_up rfl ?_))) (ag_trans (ag_sub (X_X (by decide) (by decide)) k358_0.2.1) (by (repeat (first | exact ag_refl | refine ag_up rfl ?_))))), (by (repeat (first | exact k358_0.2.2 | refine vi_set (by decide) (by decide) (by decide) ?_ (by first | exact (fun z => absurd z (by decide)) | exact vi_aS k358_0.2.2 (by decide) _ | exact (fun z => ⟨by omega, hca⟩) | exact (fun z => ⟨by omega, hca z⟩) | (intro z; exfalso; omega)) | refine vi_res ?_ (by first | exact (fun z => absurd z (by decide)) | exact vi_aS k358_0.2.2 (by decide) _ | exact (fun z => ⟨by omega, hca⟩) | exact (fun z => ⟨by omega, hca z⟩) | (intro z; exfalso; omega)) | refine vi_arr (by decide) (by decide) ?_ | refine vi_up (by decide) (by decide) ?_)))⟩) g98
                          · refine ja_aload_n dfirst_270 rfl rfl ?_
                            refine ja_aload_n dfirst_271 rfl rfl ?_
                            refine fg_tests (v := h 0 131) rfl dfirst_272 ?_
                            have f99 := gF_tests g
                            refine mk_1075w dfirst_275 ?_
                            refine ja_icmp_ge 290 dfirst_278 rfl ⟨by omega, by omega⟩ ⟨by decide, by decide⟩ (fun c278 => ?_) (fun c278 => ?_)
                            · refine ja_aload_n dfirst_290 rfl rfl ?_
                              refine fg_tests (v := h 0 131) rfl dfirst_291 ?_
                              have g100 := gP_tests g1 (x := h 0 131) ⟨by omega, by omega⟩
                              refine fp_tests dfirst_294 ?_
                              refine ja_aload_n dfirst_297 rfl rfl ?_
                              refine fa_evAt dfirst_298 ?_
                              refine ja_iload_n dfirst_301 rfl rfl ?_
                              refine ja_aload_n dfirst_302 rfl rfl ?_
                              refine fg_reached (v := h 0 172) rfl dfirst_303 ?_
                              have f101 := gF_reached g
                              have g102 := gW_evAt g100 (a1).toNat (x := h 0 172) ⟨by omega, by omega⟩
                              refine is_evAt ⟨by omega, by omega⟩ dfirst_306 ?_
                              have kk : kid h (h 59 (h 132 (a1).toNat).toNat) (h 132 (a1).toNat).toNat := by first | exact (kd1 (by omega)).1 | exact kd2 (by omega)
                              have kk1 := kk.1
                              have kk2 := kk.2.1
                              refine ja_aload_n dfirst_307 rfl rfl ?_
                              refine ja_aload_n dfirst_308 rfl rfl ?_
                              refine fa_nodeA dfirst_309 ?_
                              refine ja_iload_n dfirst_312 rfl rfl ?_
                              refine il_nodeA (v := h 59 (h 132 (a1).toNat).toNat) rfl ⟨by omega, by omega⟩ dfirst_313 ?_
                              have f103 := gC_nodeA g (h 132 (a1).toNat).toNat
                              refine ja_iload_n dfirst_314 rfl rfl ?_
                              refine t_ask (by decide) (show (0 : Nat) ≤ 8 by decide) dfirst_315 g102 ⟨by omega, by omega⟩ ⟨by omega, by omega⟩ (show 0 ≤ (h 59 (h 132 (a1).toNat).toNat) ∧ (h 59 (h 132 (a1).toNat).toNat) ≤ 899 by omega) (show 0 ≤ (h 134 (a1).toNat) ∧ (h 134 (a1).toNat) ≤ 119 by omega) (show (h 0 202) ≤ 999 by omega) ?_
                              intro g104
                              replace g104 : mo_G mo_zr (ja_up (ja_up (ja_up (ja_up (ja_up (ja_up (ja_up (ja_up h 133 ((a1).toNat) 1) 0 131 (h 0 131)) 135 ((a1).toNat) (h 0 172)) 132 ((h 0 202).toNat) (h 59 (h 132 (a1).toNat).toNat)) 134 ((h 0 202).toNat) (h 134 (a1).toNat)) 133 ((h 0 202).toNat) 0) 135 ((h 0 202).toNat) 0) 0 202 ((h 0 202) + 1)) := g104
                              show mJ l D cA ad 7 cX12_first 7 none 318 [(5, (0, s0)), (0, (2, ((0 : Nat) : Int))), (1, (0, a1)), (2, (0, (h 132 (a1).toNat))), (3, (0, (h 134 (a1).toNat))), (4, (0, (h 58 (h 132 (a1).toNat).toNat)))] [] (ja_up (ja_up (ja_up (ja_up (ja_up (ja_up (ja_up (ja_up h 133 ((a1).toNat) 1) 0 131 (h 0 131)) 135 ((a1).toNat) (h 0 172)) 132 ((h 0 202).toNat) (h 59 (h 132 (a1).toNat).toNat)) 134 ((h 0 202).toNat) (h 134 (a1).toNat)) 133 ((h 0 202).toNat) 0) 135 ((h 0 202).toNat) 0) 0 202 ((h 0 202) + 1)) Q
                              refine ja_goto 364 dfirst_318 rfl ?_
                              refine ja_return dfirst_364 rfl ?_
                              exact k1 (ja_up (ja_up (ja_up (ja_up (ja_up (ja_up (ja_up (ja_up h 133 ((a1).toNat) 1) 0 131 (h 0 131)) 135 ((a1).toNat) (h 0 172)) 132 ((h 0 202).toNat) (h 59 (h 132 (a1).toNat).toNat)) 134 ((h 0 202).toNat) (h 134 (a1).toNat)) 133 ((h 0 202).toNat) 0) 135 ((h 0 202).toNat) 0) 0 202 ((h 0 202) + 1)) (⟨ev_ask (e := a1) (c := (h 59 (h 132 (a1).toNat).toNat)) (r := (h 134 (a1).toNat)) g g104 p6 (by omega) (by omega) (by (repeat (first | exact ag_refl | refine ag_up rfl ?_))) (show (((h 0 202) + 1) : Int) = (h 0 202) + 1 by omega) (fun j h1 h2 => by refine ⟨?_, ?_, ?_, ?_⟩ <;> simp [ja_up, h1, h2]) (by simp [ja_up, hne]) (by simp [ja_up, hne]) (by omega) (by simp [ja_up, hne] <;> omega) (by simp [ja_up]) (by simp [ja_up]) (by simp [ja_up]) (by simp [ja_up]) (kd2 (by omega)) ⟨by omega, by omega⟩ (by unfold evD; simp [ja_up, hne, p3] <;> omega), (by (repeat (first | exact ag_refl | refine ag_up rfl ?_))), (by (repeat (first | exact p4 | refine vi_set (by decide) (by decide) (by decide) ?_ (by first | exact (fun z => absurd z (by decide)) | exact vi_aS p4 (by decide) _ | exact (fun z => ⟨by omega, hca⟩) | exact (fun z => ⟨by omega, hca z⟩) | (intro z; exfalso; omega)) | refine vi_res ?_ (by first | exact (fun z => absurd z (by decide)) | exact vi_aS p4 (by decide) _ | exact (fun z => ⟨by omega, hca⟩) | exact (fun z => ⟨by omega, hca z⟩) | (intro z; exfalso; omega)) | refine vi_arr (by decide) (by decide) ?_ | refine vi_up (by decide) (by decide) ?_)))⟩) g104
                            · refine ja_aload_n dfirst_281 rfl rfl ?_
                              refine fg_tests (v := h 0 131) rfl dfirst_282 ?_
                              refine ja_iconst dfirst_285 ?_
                              refine ja_iadd dfirst_286 ?_
                              refine ja_goto 294 dfirst_287 rfl ?_
                              have g105 := gP_tests g1 (x := (h 0 131) + 1) ⟨by omega, by omega⟩
                              refine fp_tests dfirst_294 ?_
                              refine ja_aload_n dfirst_297 rfl rfl ?_
                              refine fa_evAt dfirst_298 ?_
                              refine ja_iload_n dfirst_301 rfl rfl ?_
                              refine ja_aload_n dfirst_302 rfl rfl ?_
                              refine fg_reached (v := h 0 172) rfl dfirst_303 ?_
                              have f106 := gF_reached g
                              have g107 := gW_evAt g105 (a1).toNat (x := h 0 172) ⟨by omega, by omega⟩
                              refine is_evAt ⟨by omega, by omega⟩ dfirst_306 ?_
                              have kk : kid h (h 59 (h 132 (a1).toNat).toNat) (h 132 (a1).toNat).toNat := by first | exact (kd1 (by omega)).1 | exact kd2 (by omega)
                              have kk1 := kk.1
                              have kk2 := kk.2.1
                              refine ja_aload_n dfirst_307 rfl rfl ?_
                              refine ja_aload_n dfirst_308 rfl rfl ?_
                              refine fa_nodeA dfirst_309 ?_
                              refine ja_iload_n dfirst_312 rfl rfl ?_
                              refine il_nodeA (v := h 59 (h 132 (a1).toNat).toNat) rfl ⟨by omega, by omega⟩ dfirst_313 ?_
                              have f108 := gC_nodeA g (h 132 (a1).toNat).toNat
                              refine ja_iload_n dfirst_314 rfl rfl ?_
                              refine t_ask (by decide) (show (0 : Nat) ≤ 8 by decide) dfirst_315 g107 ⟨by omega, by omega⟩ ⟨by omega, by omega⟩ (show 0 ≤ (h 59 (h 132 (a1).toNat).toNat) ∧ (h 59 (h 132 (a1).toNat).toNat) ≤ 899 by omega) (show 0 ≤ (h 134 (a1).toNat) ∧ (h 134 (a1).toNat) ≤ 119 by omega) (show (h 0 202) ≤ 999 by omega) ?_
                              intro g109
                              replace g109 : mo_G mo_zr (ja_up (ja_up (ja_up (ja_up (ja_up (ja_up (ja_up (ja_up h 133 ((a1).toNat) 1) 0 131 ((h 0 131) + 1)) 135 ((a1).toNat) (h 0 172)) 132 ((h 0 202).toNat) (h 59 (h 132 (a1).toNat).toNat)) 134 ((h 0 202).toNat) (h 134 (a1).toNat)) 133 ((h 0 202).toNat) 0) 135 ((h 0 202).toNat) 0) 0 202 ((h 0 202) + 1)) := g109
                              show mJ l D cA ad 7 cX12_first 7 none 318 [(5, (0, s0)), (0, (2, ((0 : Nat) : Int))), (1, (0, a1)), (2, (0, (h 132 (a1).toNat))), (3, (0, (h 134 (a1).toNat))), (4, (0, (h 58 (h 132 (a1).toNat).toNat)))] [] (ja_up (ja_up (ja_up (ja_up (ja_up (ja_up (ja_up (ja_up h 133 ((a1).toNat) 1) 0 131 ((h 0 131) + 1)) 135 ((a1).toNat) (h 0 172)) 132 ((h 0 202).toNat) (h 59 (h 132 (a1).toNat).toNat)) 134 ((h 0 202).toNat) (h 134 (a1).toNat)) 133 ((h 0 202).toNat) 0) 135 ((h 0 202).toNat) 0) 0 202 ((h 0 202) + 1)) Q
                              refine ja_goto 364 dfirst_318 rfl ?_
                              refine ja_return dfirst_364 rfl ?_
                              exact k1 (ja_up (ja_up (ja_up (ja_up (ja_up (ja_up (ja_up (ja_up h 133 ((a1).toNat) 1) 0 131 ((h 0 131) + 1)) 135 ((a1).toNat) (h 0 172)) 132 ((h 0 202).toNat) (h 59 (h 132 (a1).toNat).toNat)) 134 ((h 0 202).toNat) (h 134 (a1).toNat)) 133 ((h 0 202).toNat) 0) 135 ((h 0 202).toNat) 0) 0 202 ((h 0 202) + 1)) (⟨ev_ask (e := a1) (c := (h 59 (h 132 (a1).toNat).toNat)) (r := (h 134 (a1).toNat)) g g109 p6 (by omega) (by omega) (by (repeat (first | exact ag_refl | refine ag_up rfl ?_))) (show (((h 0 202) + 1) : Int) = (h 0 202) + 1 by omega) (fun j h1 h2 => by refine ⟨?_, ?_, ?_, ?_⟩ <;> simp [ja_up, h1, h2]) (by simp [ja_up, hne]) (by simp [ja_up, hne]) (by omega) (by simp [ja_up, hne] <;> omega) (by simp [ja_up]) (by simp [ja_up]) (by simp [ja_up]) (by simp [ja_up]) (kd2 (by omega)) ⟨by omega, by omega⟩ (by unfold evD; simp [ja_up, hne, p3] <;> omega), (by (repeat (first | exact ag_refl | refine ag_up rfl ?_))), (by (repeat (first | exact p4 | refine vi_set (by decide) (by decide) (by decide) ?_ (by first | exact (fun z => absurd z (by decide)) | exact vi_aS p4 (by decide) _ | exact (fun z => ⟨by omega, hca⟩) | exact (fun z => ⟨by omega, hca z⟩) | (intro z; exfalso; omega)) | refine vi_res ?_ (by first | exact (fun z => absurd z (by decide)) | exact vi_aS p4 (by decide) _ | exact (fun z => ⟨by omega, hca⟩) | exact (fun z => ⟨by omega, hca z⟩) | (intro z; exfalso; omega)) | refine vi_arr (by decide) (by decide) ?_ | refine vi_up (by decide) (by decide) ?_)))⟩) g109
                        · refine ja_bipush 7 dfirst_211 rfl ?_
                          refine ja_istore dfirst_213 (by decide) (L2 := [(6, (0, 7)), (5, (0, s0)), (0, (2, ((0 : Nat) : Int))), (1, (0, a1)), (2, (0, (h 132 (a1).toNat))), (3, (0, (h 134 (a1).toNat))), (4, (0, (h 58 (h 132 (a1).toNat).toNat)))]) rfl ?_
                          exact ja_wk (fun q hq => by simp only [List.mem_cons, List.not_mem_nil, or_false] at hq; rcases hq with rfl | rfl | rfl | rfl <;> rfl) ((ih (((100 : Int) - 7).toNat) (by omega)).2 7 (ja_up h 133 ((a1).toNat) 1) g1 ⟨by decide, by decide⟩ (⟨by omega, (by (repeat (first | exact ag_refl | refine ag_up rfl ?_))), (by (repeat (first | exact p4 | refine vi_set (by decide) (by decide) (by decide) ?_ (by first | exact (fun z => absurd z (by decide)) | exact vi_aS p4 (by decide) _ | exact (fun z => ⟨by omega, hca⟩) | exact (fun z => ⟨by omega, hca z⟩) | (intro z; exfalso; omega)) | refine vi_res ?_ (by first | exact (fun z => absurd z (by decide)) | exact vi_aS p4 (by decide) _ | exact (fun z => ⟨by omega, hca⟩) | exact (fun z => ⟨by omega, hca z⟩) | (intro z; exfalso; omega)) | refine vi_arr (by decide) (by decide) ?_ | refine vi_up (by decide) (by decide) ?_)))⟩) rfl)
                      · have kk : kid h (h 59 (h 132 (a1).toNat).toNat) (h 132 (a1).toNat).toNat := by first | exact (kd1 (by omega)).1 | exact kd2 (by omega)
                        have kk1 := kk.1
                        have kk2 := kk.2.1
                        refine ja_aload_n dfirst_190 rfl rfl ?_
                        refine ja_aload_n dfirst_191 rfl rfl ?_
                        refine fa_nodeA dfirst_192 ?_
                        refine ja_iload_n dfirst_195 rfl rfl ?_
                        refine il_nodeA (v := h 59 (h 132 (a1).toNat).toNat) rfl ⟨by omega, by omega⟩ dfirst_196 ?_
                        have f110 := gC_nodeA g (h 132 (a1).toNat).toNat
                        refine ja_iload_n dfirst_197 rfl rfl ?_
                        refine t_ask (by decide) (show (0 : Nat) ≤ 8 by decide) dfirst_198 g1 ⟨by omega, by omega⟩ ⟨by omega, by omega⟩ (show 0 ≤ (h 59 (h 132 (a1).toNat).toNat) ∧ (h 59 (h 132 (a1).toNat).toNat) ≤ 899 by omega) (show 0 ≤ (h 134 (a1).toNat) ∧ (h 134 (a1).toNat) ≤ 119 by omega) (show (h 0 202) ≤ 999 by omega) ?_
                        intro g111
                        replace g111 : mo_G mo_zr (ja_up (ja_up (ja_up (ja_up (ja_up (ja_up h 133 ((a1).toNat) 1) 132 ((h 0 202).toNat) (h 59 (h 132 (a1).toNat).toNat)) 134 ((h 0 202).toNat) (h 134 (a1).toNat)) 133 ((h 0 202).toNat) 0) 135 ((h 0 202).toNat) 0) 0 202 ((h 0 202) + 1)) := g111
                        show mJ l D cA ad 7 cX12_first 7 none 201 [(5, (0, s0)), (0, (2, ((0 : Nat) : Int))), (1, (0, a1)), (2, (0, (h 132 (a1).toNat))), (3, (0, (h 134 (a1).toNat))), (4, (0, (h 58 (h 132 (a1).toNat).toNat)))] [] (ja_up (ja_up (ja_up (ja_up (ja_up (ja_up h 133 ((a1).toNat) 1) 132 ((h 0 202).toNat) (h 59 (h 132 (a1).toNat).toNat)) 134 ((h 0 202).toNat) (h 134 (a1).toNat)) 133 ((h 0 202).toNat) 0) 135 ((h 0 202).toNat) 0) 0 202 ((h 0 202) + 1)) Q
                        refine ja_goto 364 dfirst_201 rfl ?_
                        refine ja_return dfirst_364 rfl ?_
                        exact k1 (ja_up (ja_up (ja_up (ja_up (ja_up (ja_up h 133 ((a1).toNat) 1) 132 ((h 0 202).toNat) (h 59 (h 132 (a1).toNat).toNat)) 134 ((h 0 202).toNat) (h 134 (a1).toNat)) 133 ((h 0 202).toNat) 0) 135 ((h 0 202).toNat) 0) 0 202 ((h 0 202) + 1)) (⟨ev_ask (e := a1) (c := (h 59 (h 132 (a1).toNat).toNat)) (r := (h 134 (a1).toNat)) g g111 p6 (by omega) (by omega) (by (repeat (first | exact ag_refl | refine ag_up rfl ?_))) (show (((h 0 202) + 1) : Int) = (h 0 202) + 1 by omega) (fun j h1 h2 => by refine ⟨?_, ?_, ?_, ?_⟩ <;> simp [ja_up, h1, h2]) (by simp [ja_up, hne]) (by simp [ja_up, hne]) (by omega) (by simp [ja_up, hne] <;> omega) (by simp [ja_up]) (by simp [ja_up]) (by simp [ja_up]) (by simp [ja_up]) (by first | exact (kd1 (by omega)).1 | exact kd2 (by omega)) ⟨by omega, by omega⟩ (by unfold evD; simp [ja_up, hne, p3] <;> omega), (by (repeat (first | exact ag_refl | refine ag_up rfl ?_))), (by (repeat (first | exact p4 | refine vi_set (by decide) (by decide) (by decide) ?_ (by first | exact (fun z => absurd z (by decide)) | exact vi_aS p4 (by decide) _ | exact (fun z => ⟨by omega, hca⟩) | exact (fun z => ⟨by omega, hca z⟩) | (intro z; exfalso; omega)) | refine vi_res ?_ (by first | exact (fun z => absurd z (by decide)) | exact vi_aS p4 (by decide) _ | exact (fun z => ⟨by omega, hca⟩) | exact (fun z => ⟨by omega, hca z⟩) | (intro z; exfalso; omega)) | refine vi_arr (by decide) (by decide) ?_ | refine vi_up (by decide) (by decide) ?_)))⟩) g111
                · refine ja_iload dfirst_106 rfl ?_
                  refine ja_bipush 14 dfirst_108 rfl ?_
                  refine ja_icmp_ne 169 dfirst_110 rfl ⟨by omega, by omega⟩ ⟨by decide, by decide⟩ (fun c110 => ?_) (fun c110 => ?_)
                  · refine ja_iload dfirst_169 rfl ?_
                    refine ja_bipush 13 dfirst_171 rfl ?_
                    refine ja_icmp_eq 190 dfirst_173 rfl ⟨by omega, by omega⟩ ⟨by decide, by decide⟩ (fun c173 => ?_) (fun c173 => ?_)
                    · have kk : kid h (h 59 (h 132 (a1).toNat).toNat) (h 132 (a1).toNat).toNat := by first | exact (kd1 (by omega)).1 | exact kd2 (by omega)
                      have kk1 := kk.1
                      have kk2 := kk.2.1
                      refine ja_aload_n dfirst_190 rfl rfl ?_
                      refine ja_aload_n dfirst_191 rfl rfl ?_
                      refine fa_nodeA dfirst_192 ?_
                      refine ja_iload_n dfirst_195 rfl rfl ?_
                      refine il_nodeA (v := h 59 (h 132 (a1).toNat).toNat) rfl ⟨by omega, by omega⟩ dfirst_196 ?_
                      have f112 := gC_nodeA g (h 132 (a1).toNat).toNat
                      refine ja_iload_n dfirst_197 rfl rfl ?_
                      refine t_ask (by decide) (show (0 : Nat) ≤ 8 by decide) dfirst_198 g1 ⟨by omega, by omega⟩ ⟨by omega, by omega⟩ (show 0 ≤ (h 59 (h 132 (a1).toNat).toNat) ∧ (h 59 (h 132 (a1).toNat).toNat) ≤ 899 by omega) (show 0 ≤ (h 134 (a1).toNat) ∧ (h 134 (a1).toNat) ≤ 119 by omega) (show (h 0 202) ≤ 999 by omega) ?_
                      intro g113
                      replace g113 : mo_G mo_zr (ja_up (ja_up (ja_up (ja_up (ja_up (ja_up h 133 ((a1).toNat) 1) 132 ((h 0 202).toNat) (h 59 (h 132 (a1).toNat).toNat)) 134 ((h 0 202).toNat) (h 134 (a1).toNat)) 133 ((h 0 202).toNat) 0) 135 ((h 0 202).toNat) 0) 0 202 ((h 0 202) + 1)) := g113
                      show mJ l D cA ad 7 cX12_first 7 none 201 [(5, (0, s0)), (0, (2, ((0 : Nat) : Int))), (1, (0, a1)), (2, (0, (h 132 (a1).toNat))), (3, (0, (h 134 (a1).toNat))), (4, (0, (h 58 (h 132 (a1).toNat).toNat)))] [] (ja_up (ja_up (ja_up (ja_up (ja_up (ja_up h 133 ((a1).toNat) 1) 132 ((h 0 202).toNat) (h 59 (h 132 (a1).toNat).toNat)) 134 ((h 0 202).toNat) (h 134 (a1).toNat)) 133 ((h 0 202).toNat) 0) 135 ((h 0 202).toNat) 0) 0 202 ((h 0 202) + 1)) Q
                      refine ja_goto 364 dfirst_201 rfl ?_
                      refine ja_return dfirst_364 rfl ?_
                      exact k1 (ja_up (ja_up (ja_up (ja_up (ja_up (ja_up h 133 ((a1).toNat) 1) 132 ((h 0 202).toNat) (h 59 (h 132 (a1).toNat).toNat)) 134 ((h 0 202).toNat) (h 134 (a1).toNat)) 133 ((h 0 202).toNat) 0) 135 ((h 0 202).toNat) 0) 0 202 ((h 0 202) + 1)) (⟨ev_ask (e := a1) (c := (h 59 (h 132 (a1).toNat).toNat)) (r := (h 134 (a1).toNat)) g g113 p6 (by omega) (by omega) (by (repeat (first | exact ag_refl | refine ag_up rfl ?_))) (show (((h 0 202) + 1) : Int) = (h 0 202) + 1 by omega) (fun j h1 h2 => by refine ⟨?_, ?_, ?_, ?_⟩ <;> simp [ja_up, h1, h2]) (by simp [ja_up, hne]) (by simp [ja_up, hne]) (by omega) (by simp [ja_up, hne] <;> omega) (by simp [ja_up]) (by simp [ja_up]) (by simp [ja_up]) (by simp [ja_up]) (by first | exact (kd1 (by omega)).1 | exact kd2 (by omega)) ⟨by omega, by omega⟩ (by unfold evD; simp [ja_up, hne, p3] <;> omega), (by (repeat (first | exact ag_refl | refine ag_up rfl ?_))), (by (repeat (first | exact p4 | refine vi_set (by decide) (by decide) (by decide) ?_ (by first | exact (fun z => absurd z (by decide)) | exact vi_aS p4 (by decide) _ | exact (fun z => ⟨by omega, hca⟩) | exact (fun z => ⟨by omega, hca z⟩) | (intro z; exfalso; omega)) | refine vi_res ?_ (by first | exact (fun z => absurd z (by decide)) | exact vi_aS p4 (by decide) _ | exact (fun z => ⟨by omega, hca⟩) | exact (fun z => ⟨by omega, hca z⟩) | (intro z; exfalso; omega)) | refine vi_arr (by decide) (by decide) ?_ | refine vi_up (by decide) (by decide) ?_)))⟩) g113
                    · refine ja_iload dfirst_176 rfl ?_
                      refine ja_bipush 14 dfirst_178 rfl ?_
                      refine ja_icmp_eq 190 dfirst_180 rfl ⟨by omega, by omega⟩ ⟨by decide, by decide⟩ (fun c180 => ?_) (fun c180 => ?_)
                      · have kk : kid h (h 59 (h 132 (a1).toNat).toNat) (h 132 (a1).toNat).toNat := by first | exact (kd1 (by omega)).1 | exact kd2 (by omega)
                        have kk1 := kk.1
                        have kk2 := kk.2.1
                        refine ja_aload_n dfirst_190 rfl rfl ?_
                        refine ja_aload_n dfirst_191 rfl rfl ?_
                        refine fa_nodeA dfirst_192 ?_
                        refine ja_iload_n dfirst_195 rfl rfl ?_
                        refine il_nodeA (v := h 59 (h 132 (a1).toNat).toNat) rfl ⟨by omega, by omega⟩ dfirst_196 ?_
                        have f114 := gC_nodeA g (h 132 (a1).toNat).toNat
                        refine ja_iload_n dfirst_197 rfl rfl ?_
                        refine t_ask (by decide) (show (0 : Nat) ≤ 8 by decide) dfirst_198 g1 ⟨by omega, by omega⟩ ⟨by omega, by omega⟩ (show 0 ≤ (h 59 (h 132 (a1).toNat).toNat) ∧ (h 59 (h 132 (a1).toNat).toNat) ≤ 899 by omega) (show 0 ≤ (h 134 (a1).toNat) ∧ (h 134 (a1).toNat) ≤ 119 by omega) (show (h 0 202) ≤ 999 by omega) ?_
                        intro g115
                        replace g115 : mo_G mo_zr (ja_up (ja_up (ja_up (ja_up (ja_up (ja_up h 133 ((a1).toNat) 1) 132 ((h 0 202).toNat) (h 59 (h 132 (a1).toNat).toNat)) 134 ((h 0 202).toNat) (h 134 (a1).toNat)) 133 ((h 0 202).toNat) 0) 135 ((h 0 202).toNat) 0) 0 202 ((h 0 202) + 1)) := g115
                        show mJ l D cA ad 7 cX12_first 7 none 201 [(5, (0, s0)), (0, (2, ((0 : Nat) : Int))), (1, (0, a1)), (2, (0, (h 132 (a1).toNat))), (3, (0, (h 134 (a1).toNat))), (4, (0, (h 58 (h 132 (a1).toNat).toNat)))] [] (ja_up (ja_up (ja_up (ja_up (ja_up (ja_up h 133 ((a1).toNat) 1) 132 ((h 0 202).toNat) (h 59 (h 132 (a1).toNat).toNat)) 134 ((h 0 202).toNat) (h 134 (a1).toNat)) 133 ((h 0 202).toNat) 0) 135 ((h 0 202).toNat) 0) 0 202 ((h 0 202) + 1)) Q
                        refine ja_goto 364 dfirst_201 rfl ?_
                        refine ja_return dfirst_364 rfl ?_
                        exact k1 (ja_up (ja_up (ja_up (ja_up (ja_up (ja_up h 133 ((a1).toNat) 1) 132 ((h 0 202).toNat) (h 59 (h 132 (a1).toNat).toNat)) 134 ((h 0 202).toNat) (h 134 (a1).toNat)) 133 ((h 0 202).toNat) 0) 135 ((h 0 202).toNat) 0) 0 202 ((h 0 202) + 1)) (⟨ev_ask (e := a1) (c := (h 59 (h 132 (a1).toNat).toNat)) (r := (h 134 (a1).toNat)) g g115 p6 (by omega) (by omega) (by (repeat (first | exact ag_refl | refine ag_up rfl ?_))) (show (((h 0 202) + 1) : Int) = (h 0 202) + 1 by omega) (fun j h1 h2 => by refine ⟨?_, ?_, ?_, ?_⟩ <;> simp [ja_up, h1, h2]) (by simp [ja_up, hne]) (by simp [ja_up, hne]) (by omega) (by simp [ja_up, hne] <;> omega) (by simp [ja_up]) (by simp [ja_up]) (by simp [ja_up]) (by simp [ja_up]) (by first | exact (kd1 (by omega)).1 | exact kd2 (by omega)) ⟨by omega, by omega⟩ (by unfold evD; simp [ja_up, hne, p3] <;> omega), (by (repeat (first | exact ag_refl | refine ag_up rfl ?_))), (by (repeat (first | exact p4 | refine vi_set (by decide) (by decide) (by decide) ?_ (by first | exact (fun z => absurd z (by decide)) | exact vi_aS p4 (by decide) _ | exact (fun z => ⟨by omega, hca⟩) | exact (fun z => ⟨by omega, hca z⟩) | (intro z; exfalso; omega)) | refine vi_res ?_ (by first | exact (fun z => absurd z (by decide)) | exact vi_aS p4 (by decide) _ | exact (fun z => ⟨by omega, hca⟩) | exact (fun z => ⟨by omega, hca z⟩) | (intro z; exfalso; omega)) | refine vi_arr (by decide) (by decide) ?_ | refine vi_up (by decide) (by decide) ?_)))⟩) g115
                      · refine ja_iload dfirst_183 rfl ?_
                        refine ja_bipush 15 dfirst_185 rfl ?_
                        refine ja_icmp_ne 204 dfirst_187 rfl ⟨by omega, by omega⟩ ⟨by decide, by decide⟩ (fun c187 => ?_) (fun c187 => ?_)
                        · refine ja_iload dfirst_204 rfl ?_
                          refine ja_bipush 12 dfirst_206 rfl ?_
                          refine ja_icmp_ne 263 dfirst_208 rfl ⟨by omega, by omega⟩ ⟨by decide, by decide⟩ (fun c208 => ?_) (fun c208 => ?_)
                          · refine ja_iload dfirst_263 rfl ?_
                            refine ja_bipush 11 dfirst_265 rfl ?_
                            refine ja_icmp_ne 321 dfirst_267 rfl ⟨by omega, by omega⟩ ⟨by decide, by decide⟩ (fun c267 => ?_) (fun c267 => ?_)
                            · refine ja_aload_n dfirst_321 rfl rfl ?_
                              refine ja_iload dfirst_322 rfl ?_
                              refine ja_iconst dfirst_324 ?_
                              refine ja_icmp_eq 338 dfirst_325 rfl ⟨by omega, by omega⟩ ⟨by decide, by decide⟩ (fun c325 => ?_) (fun c325 => ?_)
                              · refine ja_aload_n dfirst_338 rfl rfl ?_
                                refine fg_tests (v := h 0 131) rfl dfirst_339 ?_
                                have f116 := gF_tests g
                                refine ja_goto 351 dfirst_342 rfl ?_
                                have g117 := gP_tests g1 (x := h 0 131) ⟨by omega, by omega⟩
                                refine fp_tests dfirst_351 ?_
                                refine ja_aload_n dfirst_354 rfl rfl ?_
                                refine ja_aload_n dfirst_355 rfl rfl ?_
                                refine ja_iload_n dfirst_356 rfl rfl ?_
                                refine ja_iload_n dfirst_357 rfl rfl ?_
                                refine t_isLeaf (by decide) (show (1 : Nat) ≤ 8 by decide) dfirst_358 g117 ⟨by omega, by omega⟩ ⟨by omega, by omega⟩ (show 0 ≤ (h 132 (a1).toNat) ∧ (h 132 (a1).toNat) ≤ 899 by omega) (show 0 ≤ (h 134 (a1).toNat) ∧ (h 134 (a1).toNat) ≤ 119 by omega) ((by (repeat (first | exact p4 | refine vi_set (by decide) (by decide) (by decide) ?_ (by first | exact (fun z => absurd z (by decide)) | exact vi_aS p4 (by decide) _ | exact (fun z => ⟨by omega, hca⟩) | exact (fun z => ⟨by omega, hca z⟩) | (intro z; exfalso; omega)) | refine vi_res ?_ (by first | exact (fun z => absurd z (by decide)) | exact vi_aS p4 (by decide) _ | exact (fun z => ⟨by omega, hca⟩) | exact (fun z => ⟨by omega, hca z⟩) | (intro z; exfalso; omega)) | refine vi_arr (by decide) (by decide) ?_ | refine vi_up (by decide) (by decide) ?_)))) (ci_g p5 (by (repeat (first | exact ag_refl | refine ag_up rfl ?_)))) (show (h 132 (a1).toNat) < (h 0 95) by omega) (show (h 115 (h 134 (a1).toNat).toNat) < (h 0 88) by omega) (hrs) ?_
                                intro w118 h119 k358_0 g120
                                replace k358_0 : (0 ≤ w118 ∧ w118 ≤ 1) ∧ mo_ag FBI (ja_up (ja_up h 133 ((a1).toNat) 1) 0 131 (h 0 131)) h119 ∧ VI h119 := k358_0
                                have c_ev : (h119 0 202) = (h 0 202) := k358_0.2.1 0 202 rfl
                                refine t_answer (by decide) (show (0 : Nat) ≤ 8 by decide) dfirst_361 g120 ⟨by omega, by omega⟩ (show 1 ≤ (h119 0 202) by omega) ?_
                                intro g121
                                replace g121 : mo_G mo_zr (ja_up (ja_up h119 0 203 w118) 0 202 ((h119 0 202) - 1)) := g121
                                show mJ l D cA ad 7 cX12_first 7 none 364 [(5, (0, s0)), (0, (2, ((0 : Nat) : Int))), (1, (0, a1)), (2, (0, (h 132 (a1).toNat))), (3, (0, (h 134 (a1).toNat))), (4, (0, (h 58 (h 132 (a1).toNat).toNat)))] [] (ja_up (ja_up h119 0 203 w118) 0 202 ((h119 0 202) - 1)) Q
                                refine ja_return dfirst_364 rfl ?_
                                exact k1 (ja_up (ja_up h119 0 203 w118) 0 202 ((h119 0 202) - 1)) (⟨ev_pop (e := a1) g121 p6 (by omega) (by omega) (by omega) (ag_trans (by (repeat (first | exact ag_refl | refine ag_up rfl ?_))) (ag_trans (ag_sub (X_X (by decide) (by decide)) k358_0.2.1) (by (repeat (first | exact ag_refl | refine ag_up rfl ?_))))) (show (((h119 0 202) - 1) : Int) = (h 0 202) - 1 by omega) (fun j hj => ⟨(show ((ja_up (ja_up h119 0 203 w118) 0 202 ((h119 0 202) - 1)) 132) j = _ from (by simp [ja_up, c_ev, hj])).trans ((k358_0.2.1 132 j rfl).trans (by simp [ja_up, c_ev, hj])), (show ((ja_up (ja_up h119 0 203 w118) 0 202 ((h119 0 202) - 1)) 134) j = _ from (by simp [ja_up, c_ev, hj])).trans ((k358_0.2.1 134 j rfl).trans (by simp [ja_up, c_ev, hj])), (show ((ja_up (ja_up h119 0 203 w118) 0 202 ((h119 0 202) - 1)) 133) j = _ from (by simp [ja_up, c_ev, hj])).trans ((k358_0.2.1 133 j rfl).trans (by simp [ja_up, c_ev, hj])), (show ((ja_up (ja_up h119 0 203 w118) 0 202 ((h119 0 202) - 1)) 135) j = _ from (by simp [ja_up, c_ev, hj])).trans ((k358_0.2.1 135 j rfl).trans (by simp [ja_up, c_ev, hj]))⟩) g, (ag_trans (by (repeat (first | exact ag_refl | refine ag_up rfl ?_))) (ag_trans (ag_sub (X_X (by decide) (by decide)) k358_0.2.1) (by (repeat (first | exact ag_refl | refine ag_up rfl ?_))))), (by (repeat (first | exact k358_0.2.2 | refine vi_set (by decide) (by decide) (by decide) ?_ (by first | exact (fun z => absurd z (by decide)) | exact vi_aS k358_0.2.2 (by decide) _ | exact (fun z => ⟨by omega, hca⟩) | exact (fun z => ⟨by omega, hca z⟩) | (intro z; exfalso; omega)) | refine vi_res ?_ (by first | exact (fun z => absurd z (by decide)) | exact vi_aS k358_0.2.2 (by decide) _ | exact (fun z => ⟨by omega, hca⟩) | exact (fun z => ⟨by omega, hca z⟩) | (intro z; exfalso; omega)) | refine vi_arr (by decide) (by decide) ?_ | refine vi_up (by decide) (by decide) ?_)))⟩) g121
                              · refine ja_aload_n dfirst_328 rfl rfl ?_
                                refine fg_tests (v := h 0 131) rfl dfirst_329 ?_
                                have f122 := gF_tests g
                                refine mk_1075w dfirst_332 ?_
                                refine ja_icmp_ne 345 dfirst_335 rfl ⟨by omega, by omega⟩ ⟨by decide, by decide⟩ (fun c335 => ?_) (fun c335 => ?_)
                                · refine ja_aload_n dfirst_345 rfl rfl ?_
                                  refine fg_tests (v := h 0 131) rfl dfirst_346 ?_
                                  refine ja_iconst dfirst_349 ?_
                                  refine ja_iadd dfirst_350 ?_
                                  have g123 := gP_tests g1 (x := (h 0 131) + 1) ⟨by omega, by omega⟩
                                  refine fp_tests dfirst_351 ?_
                                  refine ja_aload_n dfirst_354 rfl rfl ?_
                                  refine ja_aload_n dfirst_355 rfl rfl ?_
                                  refine ja_iload_n dfirst_356 rfl rfl ?_
                                  refine ja_iload_n dfirst_357 rfl rfl ?_
                                  refine t_isLeaf (by decide) (show (1 : Nat) ≤ 8 by decide) dfirst_358 g123 ⟨by omega, by omega⟩ ⟨by omega, by omega⟩ (show 0 ≤ (h 132 (a1).toNat) ∧ (h 132 (a1).toNat) ≤ 899 by omega) (show 0 ≤ (h 134 (a1).toNat) ∧ (h 134 (a1).toNat) ≤ 119 by omega) ((by (repeat (first | exact p4 | refine vi_set (by decide) (by decide) (by decide) ?_ (by first | exact (fun z => absurd z (by decide)) | exact vi_aS p4 (by decide) _ | exact (fun z => ⟨by omega, hca⟩) | exact (fun z => ⟨by omega, hca z⟩) | (intro z; exfalso; omega)) | refine vi_res ?_ (by first | exact (fun z => absurd z (by decide)) | exact vi_aS p4 (by decide) _ | exact (fun z => ⟨by omega, hca⟩) | exact (fun z => ⟨by omega, hca z⟩) | (intro z; exfalso; omega)) | refine vi_arr (by decide) (by decide) ?_ | refine vi_up (by decide) (by decide) ?_)))) (ci_g p5 (by (repeat (first | exact ag_refl | refine ag_up rfl ?_)))) (show (h 132 (a1).toNat) < (h 0 95) by omega) (show (h 115 (h 134 (a1).toNat).toNat) < (h 0 88) by omega) (hrs) ?_
                                  intro w124 h125 k358_0 g126
                                  replace k358_0 : (0 ≤ w124 ∧ w124 ≤ 1) ∧ mo_ag FBI (ja_up (ja_up h 133 ((a1).toNat) 1) 0 131 ((h 0 131) + 1)) h125 ∧ VI h125 := k358_0
                                  have c_ev : (h125 0 202) = (h 0 202) := k358_0.2.1 0 202 rfl
                                  refine t_answer (by decide) (show (0 : Nat) ≤ 8 by decide) dfirst_361 g126 ⟨by omega, by omega⟩ (show 1 ≤ (h125 0 202) by omega) ?_
                                  intro g127
                                  replace g127 : mo_G mo_zr (ja_up (ja_up h125 0 203 w124) 0 202 ((h125 0 202) - 1)) := g127
                                  show mJ l D cA ad 7 cX12_first 7 none 364 [(5, (0, s0)), (0, (2, ((0 : Nat) : Int))), (1, (0, a1)), (2, (0, (h 132 (a1).toNat))), (3, (0, (h 134 (a1).toNat))), (4, (0, (h 58 (h 132 (a1).toNat).toNat)))] [] (ja_up (ja_up h125 0 203 w124) 0 202 ((h125 0 202) - 1)) Q
                                  refine ja_return dfirst_364 rfl ?_
                                  exact k1 (ja_up (ja_up h125 0 203 w124) 0 202 ((h125 0 202) - 1)) (⟨ev_pop (e := a1) g127 p6 (by omega) (by omega) (by omega) (ag_trans (by (repeat (first | exact ag_refl | refine ag_up rfl ?_))) (ag_trans (ag_sub (X_X (by decide) (by decide)) k358_0.2.1) (by (repeat (first | exact ag_refl | refine ag_up rfl ?_))))) (show (((h125 0 202) - 1) : Int) = (h 0 202) - 1 by omega) (fun j hj => ⟨(show ((ja_up (ja_up h125 0 203 w124) 0 202 ((h125 0 202) - 1)) 132) j = _ from (by simp [ja_up, c_ev, hj])).trans ((k358_0.2.1 132 j rfl).trans (by simp [ja_up, c_ev, hj])), (show ((ja_up (ja_up h125 0 203 w124) 0 202 ((h125 0 202) - 1)) 134) j = _ from (by simp [ja_up, c_ev, hj])).trans ((k358_0.2.1 134 j rfl).trans (by simp [ja_up, c_ev, hj])), (show ((ja_up (ja_up h125 0 203 w124) 0 202 ((h125 0 202) - 1)) 133) j = _ from (by simp [ja_up, c_ev, hj])).trans ((k358_0.2.1 133 j rfl).trans (by simp [ja_up, c_ev, hj])), (show ((ja_up (ja_up h125 0 203 w124) 0 202 ((h125 0 202) - 1)) 135) j = _ from (by simp [ja_up, c_ev, hj])).trans ((k358_0.2.1 135 j rfl).trans (by simp [ja_up, c_ev, hj]))⟩) g, (ag_trans (by (repeat (first | exact ag_refl | refine ag_up rfl ?_))) (ag_trans (ag_sub (X_X (by decide) (by decide)) k358_0.2.1) (by (repeat (first | exact ag_refl | refine ag_up rfl ?_))))), (by (repeat (first | exact k358_0.2.2 | refine vi_set (by decide) (by decide) (by decide) ?_ (by first | exact (fun z => absurd z (by decide)) | exact vi_aS k358_0.2.2 (by decide) _ | exact (fun z => ⟨by omega, hca⟩) | exact (fun z => ⟨by omega, hca z⟩) | (intro z; exfalso; omega)) | refine vi_res ?_ (by first | exact (fun z => absurd z (by decide)) | exact vi_aS k358_0.2.2 (by decide) _ | exact (fun z => ⟨by omega, hca⟩) | exact (fun z => ⟨by omega, hca z⟩) | (intro z; exfalso; omega)) | refine vi_arr (by decide) (by decide) ?_ | refine vi_up (by decide) (by decide) ?_)))⟩) g127
                                · refine ja_aload_n dfirst_338 rfl rfl ?_
                                  refine fg_tests (v := h 0 131) rfl dfirst_339 ?_
                                  refine ja_goto 351 dfirst_342 rfl ?_
                                  have g128 := gP_tests g1 (x := h 0 131) ⟨by omega, by omega⟩
                                  refine fp_tests dfirst_351 ?_
                                  refine ja_aload_n dfirst_354 rfl rfl ?_
                                  refine ja_aload_n dfirst_355 rfl rfl ?_
                                  refine ja_iload_n dfirst_356 rfl rfl ?_
                                  refine ja_iload_n dfirst_357 rfl rfl ?_
                                  refine t_isLeaf (by decide) (show (1 : Nat) ≤ 8 by decide) dfirst_358 g128 ⟨by omega, by omega⟩ ⟨by omega, by omega⟩ (show 0 ≤ (h 132 (a1).toNat) ∧ (h 132 (a1).toNat) ≤ 899 by omega) (show 0 ≤ (h 134 (a1).toNat) ∧ (h 134 (a1).toNat) ≤ 119 by omega) ((by (repeat (first | exact p4 | refine vi_set (by decide) (by decide) (by decide) ?_ (by first | exact (fun z => absurd z (by decide)) | exact vi_aS p4 (by decide) _ | exact (fun z => ⟨by omega, hca⟩) | exact (fun z => ⟨by omega, hca z⟩) | (intro z; exfalso; omega)) | refine vi_res ?_ (by first | exact (fun z => absurd z (by decide)) | exact vi_aS p4 (by decide) _ | exact (fun z => ⟨by omega, hca⟩) | exact (fun z => ⟨by omega, hca z⟩) | (intro z; exfalso; omega)) | refine vi_arr (by decide) (by decide) ?_ | refine vi_up (by decide) (by decide) ?_)))) (ci_g p5 (by (repeat (first | exact ag_refl | refine ag_up rfl ?_)))) (show (h 132 (a1).toNat) < (h 0 95) by omega) (show (h 115 (h 134 (a1).toNat).toNat) < (h 0 88) by omega) (hrs) ?_
                                  intro w129 h130 k358_0 g131
                                  replace k358_0 : (0 ≤ w129 ∧ w129 ≤ 1) ∧ mo_ag FBI (ja_up (ja_up h 133 ((a1).toNat) 1) 0 131 (h 0 131)) h130 ∧ VI h130 := k358_0
                                  have c_ev : (h130 0 202) = (h 0 202) := k358_0.2.1 0 202 rfl
                                  refine t_answer (by decide) (show (0 : Nat) ≤ 8 by decide) dfirst_361 g131 ⟨by omega, by omega⟩ (show 1 ≤ (h130 0 202) by omega) ?_
                                  intro g132
                                  replace g132 : mo_G mo_zr (ja_up (ja_up h130 0 203 w129) 0 202 ((h130 0 202) - 1)) := g132
                                  show mJ l D cA ad 7 cX12_first 7 none 364 [(5, (0, s0)), (0, (2, ((0 : Nat) : Int))), (1, (0, a1)), (2, (0, (h 132 (a1).toNat))), (3, (0, (h 134 (a1).toNat))), (4, (0, (h 58 (h 132 (a1).toNat).toNat)))] [] (ja_up (ja_up h130 0 203 w129) 0 202 ((h130 0 202) - 1)) Q
                                  refine ja_return dfirst_364 rfl ?_
                                  exact k1 (ja_up (ja_up h130 0 203 w129) 0 202 ((h130 0 202) - 1)) (⟨ev_pop (e := a1) g132 p6 (by omega) (by omega) (by omega) (ag_trans (by (repeat (first | exact ag_refl | refine ag_up rfl ?_))) (ag_trans (ag_sub (X_X (by decide) (by decide)) k358_0.2.1) (by (repeat (first | exact ag_refl | refine ag_up rfl ?_))))) (show (((h130 0 202) - 1) : Int) = (h 0 202) - 1 by omega) (fun j hj => ⟨(show ((ja_up (ja_up h130 0 203 w129) 0 202 ((h130 0 202) - 1)) 132) j = _ from (by simp [ja_up, c_ev, hj])).trans ((k358_0.2.1 132 j rfl).trans (by simp [ja_up, c_ev, hj])), (show ((ja_up (ja_up h130 0 203 w129) 0 202 ((h130 0 202) - 1)) 134) j = _ from (by simp [ja_up, c_ev, hj])).trans ((k358_0.2.1 134 j rfl).trans (by simp [ja_up, c_ev, hj])), (show ((ja_up (ja_up h130 0 203 w129) 0 202 ((h130 0 202) - 1)) 133) j = _ from (by simp [ja_up, c_ev, hj])).trans ((k358_0.2.1 133 j rfl).trans (by simp [ja_up, c_ev, hj])), (show ((ja_up (ja_up h130 0 203 w129) 0 202 ((h130 0 202) - 1)) 135) j = _ from (by simp [ja_up, c_ev, hj])).trans ((k358_0.2.1 135 j rfl).trans (by simp [ja_up, c_ev, hj]))⟩) g, (ag_trans (by (repeat (first | exact ag_refl | refine ag_up rfl ?_))) (ag_trans (ag_sub (X_X (by decide) (by decide)) k358_0.2.1) (by (repeat (first | exact ag_refl | refine ag_up rfl ?_))))), (by (repeat (first | exact k358_0.2.2 | refine vi_set (by decide) (by decide) (by decide) ?_ (by first | exact (fun z => absurd z (by decide)) | exact vi_aS k358_0.2.2 (by decide) _ | exact (fun z => ⟨by omega, hca⟩) | exact (fun z => ⟨by omega, hca z⟩) | (intro z; exfalso; omega)) | refine vi_res ?_ (by first | exact (fun z => absurd z (by decide)) | exact vi_aS k358_0.2.2 (by decide) _ | exact (fun z => ⟨by omega, hca⟩) | exact (fun z => ⟨by omega, hca z⟩) | (intro z; exfalso; omega)) | refine vi_arr (by decide) (by decide) ?_ | refine vi_up (by decide) (by decide) ?_)))⟩) g132
                            · refine ja_aload_n dfirst_270 rfl rfl ?_
                              refine ja_aload_n dfirst_271 rfl rfl ?_
                              refine fg_tests (v := h 0 131) rfl dfirst_272 ?_
                              have f133 := gF_tests g
                              refine mk_1075w dfirst_275 ?_
                              refine ja_icmp_ge 290 dfirst_278 rfl ⟨by omega, by omega⟩ ⟨by decide, by decide⟩ (fun c278 => ?_) (fun c278 => ?_)
                              · refine ja_aload_n dfirst_290 rfl rfl ?_
                                refine fg_tests (v := h 0 131) rfl dfirst_291 ?_
                                have g134 := gP_tests g1 (x := h 0 131) ⟨by omega, by omega⟩
                                refine fp_tests dfirst_294 ?_
                                refine ja_aload_n dfirst_297 rfl rfl ?_
                                refine fa_evAt dfirst_298 ?_
                                refine ja_iload_n dfirst_301 rfl rfl ?_
                                refine ja_aload_n dfirst_302 rfl rfl ?_
                                refine fg_reached (v := h 0 172) rfl dfirst_303 ?_
                                have f135 := gF_reached g
                                have g136 := gW_evAt g134 (a1).toNat (x := h 0 172) ⟨by omega, by omega⟩
                                refine is_evAt ⟨by omega, by omega⟩ dfirst_306 ?_
                                have kk : kid h (h 59 (h 132 (a1).toNat).toNat) (h 132 (a1).toNat).toNat := by first | exact (kd1 (by omega)).1 | exact kd2 (by omega)
                                have kk1 := kk.1
                                have kk2 := kk.2.1
                                refine ja_aload_n dfirst_307 rfl rfl ?_
                                refine ja_aload_n dfirst_308 rfl rfl ?_
                                refine fa_nodeA dfirst_309 ?_
                                refine ja_iload_n dfirst_312 rfl rfl ?_
                                refine il_nodeA (v := h 59 (h 132 (a1).toNat).toNat) rfl ⟨by omega, by omega⟩ dfirst_313 ?_
                                have f137 := gC_nodeA g (h 132 (a1).toNat).toNat
                                refine ja_iload_n dfirst_314 rfl rfl ?_
                                refine t_ask (by decide) (show (0 : Nat) ≤ 8 by decide) dfirst_315 g136 ⟨by omega, by omega⟩ ⟨by omega, by omega⟩ (show 0 ≤ (h 59 (h 132 (a1).toNat).toNat) ∧ (h 59 (h 132 (a1).toNat).toNat) ≤ 899 by omega) (show 0 ≤ (h 134 (a1).toNat) ∧ (h 134 (a1).toNat) ≤ 119 by omega) (show (h 0 202) ≤ 999 by omega) ?_
                                intro g138
                                replace g138 : mo_G mo_zr (ja_up (ja_up (ja_up (ja_up (ja_up (ja_up (ja_up (ja_up h 133 ((a1).toNat) 1) 0 131 (h 0 131)) 135 ((a1).toNat) (h 0 172)) 132 ((h 0 202).toNat) (h 59 (h 132 (a1).toNat).toNat)) 134 ((h 0 202).toNat) (h 134 (a1).toNat)) 133 ((h 0 202).toNat) 0) 135 ((h 0 202).toNat) 0) 0 202 ((h 0 202) + 1)) := g138
                                show mJ l D cA ad 7 cX12_first 7 none 318 [(5, (0, s0)), (0, (2, ((0 : Nat) : Int))), (1, (0, a1)), (2, (0, (h 132 (a1).toNat))), (3, (0, (h 134 (a1).toNat))), (4, (0, (h 58 (h 132 (a1).toNat).toNat)))] [] (ja_up (ja_up (ja_up (ja_up (ja_up (ja_up (ja_up (ja_up h 133 ((a1).toNat) 1) 0 131 (h 0 131)) 135 ((a1).toNat) (h 0 172)) 132 ((h 0 202).toNat) (h 59 (h 132 (a1).toNat).toNat)) 134 ((h 0 202).toNat) (h 134 (a1).toNat)) 133 ((h 0 202).toNat) 0) 135 ((h 0 202).toNat) 0) 0 202 ((h 0 202) + 1)) Q
                                refine ja_goto 364 dfirst_318 rfl ?_
                                refine ja_return dfirst_364 rfl ?_
                                exact k1 (ja_up (ja_up (ja_up (ja_up (ja_up (ja_up (ja_up (ja_up h 133 ((a1).toNat) 1) 0 131 (h 0 131)) 135 ((a1).toNat) (h 0 172)) 132 ((h 0 202).toNat) (h 59 (h 132 (a1).toNat).toNat)) 134 ((h 0 202).toNat) (h 134 (a1).toNat)) 133 ((h 0 202).toNat) 0) 135 ((h 0 202).toNat) 0) 0 202 ((h 0 202) + 1)) (⟨ev_ask (e := a1) (c := (h 59 (h 132 (a1).toNat).toNat)) (r := (h 134 (a1).toNat)) g g138 p6 (by omega) (by omega) (by (repeat (first | exact ag_refl | refine ag_up rfl ?_))) (show (((h 0 202) + 1) : Int) = (h 0 202) + 1 by omega) (fun j h1 h2 => by refine ⟨?_, ?_, ?_, ?_⟩ <;> simp [ja_up, h1, h2]) (by simp [ja_up, hne]) (by simp [ja_up, hne]) (by omega) (by simp [ja_up, hne] <;> omega) (by simp [ja_up]) (by simp [ja_up]) (by simp [ja_up]) (by simp [ja_up]) (kd2 (by omega)) ⟨by omega, by omega⟩ (by unfold evD; simp [ja_up, hne, p3] <;> omega), (by (repeat (first | exact ag_refl | refine ag_up rfl ?_))), (by (repeat (first | exact p4 | refine vi_set (by decide) (by decide) (by decide) ?_ (by first | exact (fun z => absurd z (by decide)) | exact vi_aS p4 (by decide) _ | exact (fun z => ⟨by omega, hca⟩) | exact (fun z => ⟨by omega, hca z⟩) | (intro z; exfalso; omega)) | refine vi_res ?_ (by first | exact (fun z => absurd z (by decide)) | exact vi_aS p4 (by decide) _ | exact (fun z => ⟨by omega, hca⟩) | exact (fun z => ⟨by omega, hca z⟩) | (intro z; exfalso; omega)) | refine vi_arr (by decide) (by decide) ?_ | refine vi_up (by decide) (by decide) ?_)))⟩) g138
                              · refine ja_aload_n dfirst_281 rfl rfl ?_
                                refine fg_tests (v := h 0 131) rfl dfirst_282 ?_
                                refine ja_iconst dfirst_285 ?_
                                refine ja_iadd dfirst_286 ?_
                                refine ja_goto 294 dfirst_287 rfl ?_
                                have g139 := gP_tests g1 (x := (h 0 131) + 1) ⟨by omega, by omega⟩
                                refine fp_tests dfirst_294 ?_
                                refine ja_aload_n dfirst_297 rfl rfl ?_
                                refine fa_evAt dfirst_298 ?_
                                refine ja_iload_n dfirst_301 rfl rfl ?_
                                refine ja_aload_n dfirst_302 rfl rfl ?_
                                refine fg_reached (v := h 0 172) rfl dfirst_303 ?_
                                have f140 := gF_reached g
                                have g141 := gW_evAt g139 (a1).toNat (x := h 0 172) ⟨by omega, by omega⟩
                                refine is_evAt ⟨by omega, by omega⟩ dfirst_306 ?_
                                have kk : kid h (h 59 (h 132 (a1).toNat).toNat) (h 132 (a1).toNat).toNat := by first | exact (kd1 (by omega)).1 | exact kd2 (by omega)
                                have kk1 := kk.1
                                have kk2 := kk.2.1
                                refine ja_aload_n dfirst_307 rfl rfl ?_
                                refine ja_aload_n dfirst_308 rfl rfl ?_
                                refine fa_nodeA dfirst_309 ?_
                                refine ja_iload_n dfirst_312 rfl rfl ?_
                                refine il_nodeA (v := h 59 (h 132 (a1).toNat).toNat) rfl ⟨by omega, by omega⟩ dfirst_313 ?_
                                have f142 := gC_nodeA g (h 132 (a1).toNat).toNat
                                refine ja_iload_n dfirst_314 rfl rfl ?_
                                refine t_ask (by decide) (show (0 : Nat) ≤ 8 by decide) dfirst_315 g141 ⟨by omega, by omega⟩ ⟨by omega, by omega⟩ (show 0 ≤ (h 59 (h 132 (a1).toNat).toNat) ∧ (h 59 (h 132 (a1).toNat).toNat) ≤ 899 by omega) (show 0 ≤ (h 134 (a1).toNat) ∧ (h 134 (a1).toNat) ≤ 119 by omega) (show (h 0 202) ≤ 999 by omega) ?_
                                intro g143
                                replace g143 : mo_G mo_zr (ja_up (ja_up (ja_up (ja_up (ja_up (ja_up (ja_up (ja_up h 133 ((a1).toNat) 1) 0 131 ((h 0 131) + 1)) 135 ((a1).toNat) (h 0 172)) 132 ((h 0 202).toNat) (h 59 (h 132 (a1).toNat).toNat)) 134 ((h 0 202).toNat) (h 134 (a1).toNat)) 133 ((h 0 202).toNat) 0) 135 ((h 0 202).toNat) 0) 0 202 ((h 0 202) + 1)) := g143
                                show mJ l D cA ad 7 cX12_first 7 none 318 [(5, (0, s0)), (0, (2, ((0 : Nat) : Int))), (1, (0, a1)), (2, (0, (h 132 (a1).toNat))), (3, (0, (h 134 (a1).toNat))), (4, (0, (h 58 (h 132 (a1).toNat).toNat)))] [] (ja_up (ja_up (ja_up (ja_up (ja_up (ja_up (ja_up (ja_up h 133 ((a1).toNat) 1) 0 131 ((h 0 131) + 1)) 135 ((a1).toNat) (h 0 172)) 132 ((h 0 202).toNat) (h 59 (h 132 (a1).toNat).toNat)) 134 ((h 0 202).toNat) (h 134 (a1).toNat)) 133 ((h 0 202).toNat) 0) 135 ((h 0 202).toNat) 0) 0 202 ((h 0 202) + 1)) Q
                                refine ja_goto 364 dfirst_318 rfl ?_
                                refine ja_return dfirst_364 rfl ?_
                                exact k1 (ja_up (ja_up (ja_up (ja_up (ja_up (ja_up (ja_up (ja_up h 133 ((a1).toNat) 1) 0 131 ((h 0 131) + 1)) 135 ((a1).toNat) (h 0 172)) 132 ((h 0 202).toNat) (h 59 (h 132 (a1).toNat).toNat)) 134 ((h 0 202).toNat) (h 134 (a1).toNat)) 133 ((h 0 202).toNat) 0) 135 ((h 0 202).toNat) 0) 0 202 ((h 0 202) + 1)) (⟨ev_ask (e := a1) (c := (h 59 (h 132 (a1).toNat).toNat)) (r := (h 134 (a1).toNat)) g g143 p6 (by omega) (by omega) (by (repeat (first | exact ag_refl | refine ag_up rfl ?_))) (show (((h 0 202) + 1) : Int) = (h 0 202) + 1 by omega) (fun j h1 h2 => by refine ⟨?_, ?_, ?_, ?_⟩ <;> simp [ja_up, h1, h2]) (by simp [ja_up, hne]) (by simp [ja_up, hne]) (by omega) (by simp [ja_up, hne] <;> omega) (by simp [ja_up]) (by simp [ja_up]) (by simp [ja_up]) (by simp [ja_up]) (kd2 (by omega)) ⟨by omega, by omega⟩ (by unfold evD; simp [ja_up, hne, p3] <;> omega), (by (repeat (first | exact ag_refl | refine ag_up rfl ?_))), (by (repeat (first | exact p4 | refine vi_set (by decide) (by decide) (by decide) ?_ (by first | exact (fun z => absurd z (by decide)) | exact vi_aS p4 (by decide) _ | exact (fun z => ⟨by omega, hca⟩) | exact (fun z => ⟨by omega, hca z⟩) | (intro z; exfalso; omega)) | refine vi_res ?_ (by first | exact (fun z => absurd z (by decide)) | exact vi_aS p4 (by decide) _ | exact (fun z => ⟨by omega, hca⟩) | exact (fun z => ⟨by omega, hca z⟩) | (intro z; exfalso; omega)) | refine vi_arr (by decide) (by decide) ?_ | refine vi_up (by decide) (by decide) ?_)))⟩) g143
                          · refine ja_bipush 7 dfirst_211 rfl ?_
                            refine ja_istore dfirst_213 (by decide) (L2 := [(6, (0, 7)), (5, (0, s0)), (0, (2, ((0 : Nat) : Int))), (1, (0, a1)), (2, (0, (h 132 (a1).toNat))), (3, (0, (h 134 (a1).toNat))), (4, (0, (h 58 (h 132 (a1).toNat).toNat)))]) rfl ?_
                            exact ja_wk (fun q hq => by simp only [List.mem_cons, List.not_mem_nil, or_false] at hq; rcases hq with rfl | rfl | rfl | rfl <;> rfl) ((ih (((100 : Int) - 7).toNat) (by omega)).2 7 (ja_up h 133 ((a1).toNat) 1) g1 ⟨by decide, by decide⟩ (⟨by omega, (by (repeat (first | exact ag_refl | refine ag_up rfl ?_))), (by (repeat (first | exact p4 | refine vi_set (by decide) (by decide) (by decide) ?_ (by first | exact (fun z => absurd z (by decide)) | exact vi_aS p4 (by decide) _ | exact (fun z => ⟨by omega, hca⟩) | exact (fun z => ⟨by omega, hca z⟩) | (intro z; exfalso; omega)) | refine vi_res ?_ (by first | exact (fun z => absurd z (by decide)) | exact vi_aS p4 (by decide) _ | exact (fun z => ⟨by omega, hca⟩) | exact (fun z => ⟨by omega, hca z⟩) | (intro z; exfalso; omega)) | refine vi_arr (by decide) (by decide) ?_ | refine vi_up (by decide) (by decide) ?_)))⟩) rfl)
                        · have kk : kid h (h 59 (h 132 (a1).toNat).toNat) (h 132 (a1).toNat).toNat := by first | exact (kd1 (by omega)).1 | exact kd2 (by omega)
                          have kk1 := kk.1
                          have kk2 := kk.2.1
                          refine ja_aload_n dfirst_190 rfl rfl ?_
                          refine ja_aload_n dfirst_191 rfl rfl ?_
                          refine fa_nodeA dfirst_192 ?_
                          refine ja_iload_n dfirst_195 rfl rfl ?_
                          refine il_nodeA (v := h 59 (h 132 (a1).toNat).toNat) rfl ⟨by omega, by omega⟩ dfirst_196 ?_
                          have f144 := gC_nodeA g (h 132 (a1).toNat).toNat
                          refine ja_iload_n dfirst_197 rfl rfl ?_
                          refine t_ask (by decide) (show (0 : Nat) ≤ 8 by decide) dfirst_198 g1 ⟨by omega, by omega⟩ ⟨by omega, by omega⟩ (show 0 ≤ (h 59 (h 132 (a1).toNat).toNat) ∧ (h 59 (h 132 (a1).toNat).toNat) ≤ 899 by omega) (show 0 ≤ (h 134 (a1).toNat) ∧ (h 134 (a1).toNat) ≤ 119 by omega) (show (h 0 202) ≤ 999 by omega) ?_
                          intro g145
                          replace g145 : mo_G mo_zr (ja_up (ja_up (ja_up (ja_up (ja_up (ja_up h 133 ((a1).toNat) 1) 132 ((h 0 202).toNat) (h 59 (h 132 (a1).toNat).toNat)) 134 ((h 0 202).toNat) (h 134 (a1).toNat)) 133 ((h 0 202).toNat) 0) 135 ((h 0 202).toNat) 0) 0 202 ((h 0 202) + 1)) := g145
                          show mJ l D cA ad 7 cX12_first 7 none 201 [(5, (0, s0)), (0, (2, ((0 : Nat) : Int))), (1, (0, a1)), (2, (0, (h 132 (a1).toNat))), (3, (0, (h 134 (a1).toNat))), (4, (0, (h 58 (h 132 (a1).toNat).toNat)))] [] (ja_up (ja_up (ja_up (ja_up (ja_up (ja_up h 133 ((a1).toNat) 1) 132 ((h 0 202).toNat) (h 59 (h 132 (a1).toNat).toNat)) 134 ((h 0 202).toNat) (h 134 (a1).toNat)) 133 ((h 0 202).toNat) 0) 135 ((h 0 202).toNat) 0) 0 202 ((h 0 202) + 1)) Q
                          refine ja_goto 364 dfirst_201 rfl ?_
                          refine ja_return dfirst_364 rfl ?_
                          exact k1 (ja_up (ja_up (ja_up (ja_up (ja_up (ja_up h 133 ((a1).toNat) 1) 132 ((h 0 202).toNat) (h 59 (h 132 (a1).toNat).toNat)) 134 ((h 0 202).toNat) (h 134 (a1).toNat)) 133 ((h 0 202).toNat) 0) 135 ((h 0 202).toNat) 0) 0 202 ((h 0 202) + 1)) (⟨ev_ask (e := a1) (c := (h 59 (h 132 (a1).toNat).toNat)) (r := (h 134 (a1).toNat)) g g145 p6 (by omega) (by omega) (by (repeat (first | exact ag_refl | refine ag_up rfl ?_))) (show (((h 0 202) + 1) : Int) = (h 0 202) + 1 by omega) (fun j h1 h2 => by refine ⟨?_, ?_, ?_, ?_⟩ <;> simp [ja_up, h1, h2]) (by simp [ja_up, hne]) (by simp [ja_up, hne]) (by omega) (by simp [ja_up, hne] <;> omega) (by simp [ja_up]) (by simp [ja_up]) (by simp [ja_up]) (by simp [ja_up]) (by first | exact (kd1 (by omega)).1 | exact kd2 (by omega)) ⟨by omega, by omega⟩ (by unfold evD; simp [ja_up, hne, p3] <;> omega), (by (repeat (first | exact ag_refl | refine ag_up rfl ?_))), (by (repeat (first | exact p4 | refine vi_set (by decide) (by decide) (by decide) ?_ (by first | exact (fun z => absurd z (by decide)) | exact vi_aS p4 (by decide) _ | exact (fun z => ⟨by omega, hca⟩) | exact (fun z => ⟨by omega, hca z⟩) | (intro z; exfalso; omega)) | refine vi_res ?_ (by first | exact (fun z => absurd z (by decide)) | exact vi_aS p4 (by decide) _ | exact (fun z => ⟨by omega, hca⟩) | exact (fun z => ⟨by omega, hca z⟩) | (intro z; exfalso; omega)) | refine vi_arr (by decide) (by decide) ?_ | refine vi_up (by decide) (by decide) ?_)))⟩) g145
                  · have kA := (kd1 (by omega)).1
                    have kB := (kd1 (by omega)).2
                    have kA1 := kA.1
                    have kA2 := kA.2.1
                    have kB1 := kB.1
                    have kB2 := kB.2.1
                    refine ja_aload_n dfirst_113 rfl rfl ?_
                    refine fa_evState dfirst_114 ?_
                    refine ja_iload_n dfirst_117 rfl rfl ?_
                    refine ja_iconst dfirst_118 ?_
                    have g146 := gW_evState g1 (a1).toNat (x := 3) ⟨by decide, by decide⟩
                    refine is_evState ⟨by omega, by omega⟩ dfirst_119 ?_
                    refine ja_aload_n dfirst_120 rfl rfl ?_
                    refine ja_aload_n dfirst_121 rfl rfl ?_
                    refine fa_ahead dfirst_122 ?_
                    refine ja_sipush 400 dfirst_125 rfl ?_
                    refine ja_aload_n dfirst_128 rfl rfl ?_
                    refine fa_nodeA dfirst_129 ?_
                    refine ja_iload_n dfirst_132 rfl rfl ?_
                    refine il_nodeA (v := h 59 (h 132 (a1).toNat).toNat) rfl ⟨by omega, by omega⟩ dfirst_133 ?_
                    have f147 := gC_nodeA g (h 132 (a1).toNat).toNat
                    refine ja_imul dfirst_134 ?_
                    refine ja_aload_n dfirst_135 rfl rfl ?_
                    refine fa_reachPoint dfirst_136 ?_
                    refine ja_iload_n dfirst_139 rfl rfl ?_
                    refine il_reachPoint (v := h 115 (h 134 (a1).toNat).toNat) rfl ⟨by omega, by omega⟩ dfirst_140 ?_
                    have f148 := gC_reachPoint g (h 134 (a1).toNat).toNat
                    refine ja_iadd dfirst_141 ?_
                    refine il_ahead (v := h 71 ((400 * (h 59 (h 132 (a1).toNat).toNat)) + (h 115 (h 134 (a1).toNat).toNat)).toNat) rfl ⟨by omega, by omega⟩ dfirst_142 ?_
                    have f149 := gC_ahead g ((400 * (h 59 (h 132 (a1).toNat).toNat)) + (h 115 (h 134 (a1).toNat).toNat)).toNat
                    refine ja_iconst dfirst_143 ?_
                    refine ja_icmp_ne 156 dfirst_144 rfl ⟨by omega, by omega⟩ ⟨by decide, by decide⟩ (fun c144 => ?_) (fun c144 => ?_)
                    · refine ja_aload_n dfirst_156 rfl rfl ?_
                      refine fa_nodeB dfirst_157 ?_
                      refine ja_iload_n dfirst_160 rfl rfl ?_
                      refine il_nodeB (v := h 60 (h 132 (a1).toNat).toNat) rfl ⟨by omega, by omega⟩ dfirst_161 ?_
                      have f150 := gC_nodeB g (h 132 (a1).toNat).toNat
                      refine ja_iload_n dfirst_162 rfl rfl ?_
                      refine t_ask (by decide) (show (0 : Nat) ≤ 8 by decide) dfirst_163 g146 ⟨by omega, by omega⟩ ⟨by omega, by omega⟩ (show 0 ≤ (h 60 (h 132 (a1).toNat).toNat) ∧ (h 60 (h 132 (a1).toNat).toNat) ≤ 899 by omega) (show 0 ≤ (h 134 (a1).toNat) ∧ (h 134 (a1).toNat) ≤ 119 by omega) (show (h 0 202) ≤ 999 by omega) ?_
                      intro g151
                      replace g151 : mo_G mo_zr (ja_up (ja_up (ja_up (ja_up (ja_up (ja_up (ja_up h 133 ((a1).toNat) 1) 133 ((a1).toNat) 3) 132 ((h 0 202).toNat) (h 60 (h 132 (a1).toNat).toNat)) 134 ((h 0 202).toNat) (h 134 (a1).toNat)) 133 ((h 0 202).toNat) 0) 135 ((h 0 202).toNat) 0) 0 202 ((h 0 202) + 1)) := g151
                      show mJ l D cA ad 7 cX12_first 7 none 166 [(5, (0, s0)), (0, (2, ((0 : Nat) : Int))), (1, (0, a1)), (2, (0, (h 132 (a1).toNat))), (3, (0, (h 134 (a1).toNat))), (4, (0, (h 58 (h 132 (a1).toNat).toNat)))] [] (ja_up (ja_up (ja_up (ja_up (ja_up (ja_up (ja_up h 133 ((a1).toNat) 1) 133 ((a1).toNat) 3) 132 ((h 0 202).toNat) (h 60 (h 132 (a1).toNat).toNat)) 134 ((h 0 202).toNat) (h 134 (a1).toNat)) 133 ((h 0 202).toNat) 0) 135 ((h 0 202).toNat) 0) 0 202 ((h 0 202) + 1)) Q
                      refine ja_goto 364 dfirst_166 rfl ?_
                      refine ja_return dfirst_364 rfl ?_
                      exact k1 (ja_up (ja_up (ja_up (ja_up (ja_up (ja_up (ja_up h 133 ((a1).toNat) 1) 133 ((a1).toNat) 3) 132 ((h 0 202).toNat) (h 60 (h 132 (a1).toNat).toNat)) 134 ((h 0 202).toNat) (h 134 (a1).toNat)) 133 ((h 0 202).toNat) 0) 135 ((h 0 202).toNat) 0) 0 202 ((h 0 202) + 1)) (⟨ev_ask (e := a1) (c := (h 60 (h 132 (a1).toNat).toNat)) (r := (h 134 (a1).toNat)) g g151 p6 (by omega) (by omega) (by (repeat (first | exact ag_refl | refine ag_up rfl ?_))) (show (((h 0 202) + 1) : Int) = (h 0 202) + 1 by omega) (fun j h1 h2 => by refine ⟨?_, ?_, ?_, ?_⟩ <;> simp [ja_up, h1, h2]) (by simp [ja_up, hne]) (by simp [ja_up, hne]) (by omega) (by simp [ja_up, hne] <;> omega) (by simp [ja_up]) (by simp [ja_up]) (by simp [ja_up]) (by simp [ja_up]) (kd1 (by omega)).2 ⟨by omega, by omega⟩ (by unfold evD; simp [ja_up, hne, p3] <;> omega), (by (repeat (first | exact ag_refl | refine ag_up rfl ?_))), (by (repeat (first | exact p4 | refine vi_set (by decide) (by decide) (by decide) ?_ (by first | exact (fun z => absurd z (by decide)) | exact vi_aS p4 (by decide) _ | exact (fun z => ⟨by omega, hca⟩) | exact (fun z => ⟨by omega, hca z⟩) | (intro z; exfalso; omega)) | refine vi_res ?_ (by first | exact (fun z => absurd z (by decide)) | exact vi_aS p4 (by decide) _ | exact (fun z => ⟨by omega, hca⟩) | exact (fun z => ⟨by omega, hca z⟩) | (intro z; exfalso; omega)) | refine vi_arr (by decide) (by decide) ?_ | refine vi_up (by decide) (by decide) ?_)))⟩) g151
                    · refine ja_aload_n dfirst_147 rfl rfl ?_
                      refine fa_nodeA dfirst_148 ?_
                      refine ja_iload_n dfirst_151 rfl rfl ?_
                      refine il_nodeA (v := h 59 (h 132 (a1).toNat).toNat) rfl ⟨by omega, by omega⟩ dfirst_152 ?_
                      refine ja_goto 162 dfirst_153 rfl ?_
                      refine ja_iload_n dfirst_162 rfl rfl ?_
                      refine t_ask (by decide) (show (0 : Nat) ≤ 8 by decide) dfirst_163 g146 ⟨by omega, by omega⟩ ⟨by omega, by omega⟩ (show 0 ≤ (h 59 (h 132 (a1).toNat).toNat) ∧ (h 59 (h 132 (a1).toNat).toNat) ≤ 899 by omega) (show 0 ≤ (h 134 (a1).toNat) ∧ (h 134 (a1).toNat) ≤ 119 by omega) (show (h 0 202) ≤ 999 by omega) ?_
                      intro g152
                      replace g152 : mo_G mo_zr (ja_up (ja_up (ja_up (ja_up (ja_up (ja_up (ja_up h 133 ((a1).toNat) 1) 133 ((a1).toNat) 3) 132 ((h 0 202).toNat) (h 59 (h 132 (a1).toNat).toNat)) 134 ((h 0 202).toNat) (h 134 (a1).toNat)) 133 ((h 0 202).toNat) 0) 135 ((h 0 202).toNat) 0) 0 202 ((h 0 202) + 1)) := g152
                      show mJ l D cA ad 7 cX12_first 7 none 166 [(5, (0, s0)), (0, (2, ((0 : Nat) : Int))), (1, (0, a1)), (2, (0, (h 132 (a1).toNat))), (3, (0, (h 134 (a1).toNat))), (4, (0, (h 58 (h 132 (a1).toNat).toNat)))] [] (ja_up (ja_up (ja_up (ja_up (ja_up (ja_up (ja_up h 133 ((a1).toNat) 1) 133 ((a1).toNat) 3) 132 ((h 0 202).toNat) (h 59 (h 132 (a1).toNat).toNat)) 134 ((h 0 202).toNat) (h 134 (a1).toNat)) 133 ((h 0 202).toNat) 0) 135 ((h 0 202).toNat) 0) 0 202 ((h 0 202) + 1)) Q
                      refine ja_goto 364 dfirst_166 rfl ?_
                      refine ja_return dfirst_364 rfl ?_
                      exact k1 (ja_up (ja_up (ja_up (ja_up (ja_up (ja_up (ja_up h 133 ((a1).toNat) 1) 133 ((a1).toNat) 3) 132 ((h 0 202).toNat) (h 59 (h 132 (a1).toNat).toNat)) 134 ((h 0 202).toNat) (h 134 (a1).toNat)) 133 ((h 0 202).toNat) 0) 135 ((h 0 202).toNat) 0) 0 202 ((h 0 202) + 1)) (⟨ev_ask (e := a1) (c := (h 59 (h 132 (a1).toNat).toNat)) (r := (h 134 (a1).toNat)) g g152 p6 (by omega) (by omega) (by (repeat (first | exact ag_refl | refine ag_up rfl ?_))) (show (((h 0 202) + 1) : Int) = (h 0 202) + 1 by omega) (fun j h1 h2 => by refine ⟨?_, ?_, ?_, ?_⟩ <;> simp [ja_up, h1, h2]) (by simp [ja_up, hne]) (by simp [ja_up, hne]) (by omega) (by simp [ja_up, hne] <;> omega) (by simp [ja_up]) (by simp [ja_up]) (by simp [ja_up]) (by simp [ja_up]) (kd1 (by omega)).1 ⟨by omega, by omega⟩ (by unfold evD; simp [ja_up, hne, p3] <;> omega), (by (repeat (first | exact ag_refl | refine ag_up rfl ?_))), (by (repeat (first | exact p4 | refine vi_set (by decide) (by decide) (by decide) ?_ (by first | exact (fun z => absurd z (by decide)) | exact vi_aS p4 (by decide) _ | exact (fun z => ⟨by omega, hca⟩) | exact (fun z => ⟨by omega, hca z⟩) | (intro z; exfalso; omega)) | refine vi_res ?_ (by first | exact (fun z => absurd z (by decide)) | exact vi_aS p4 (by decide) _ | exact (fun z => ⟨by omega, hca⟩) | exact (fun z => ⟨by omega, hca z⟩) | (intro z; exfalso; omega)) | refine vi_arr (by decide) (by decide) ?_ | refine vi_up (by decide) (by decide) ?_)))⟩) g152
              · refine ja_aload_n dfirst_92 rfl rfl ?_
                refine ja_iconst dfirst_93 ?_
                refine t_answer (by decide) (show (0 : Nat) ≤ 8 by decide) dfirst_94 g1 ⟨by decide, by decide⟩ (show 1 ≤ (h 0 202) by omega) ?_
                intro g153
                replace g153 : mo_G mo_zr (ja_up (ja_up (ja_up h 133 ((a1).toNat) 1) 0 203 1) 0 202 ((h 0 202) - 1)) := g153
                show mJ l D cA ad 7 cX12_first 7 none 97 [(5, (0, s0)), (0, (2, ((0 : Nat) : Int))), (1, (0, a1)), (2, (0, (h 132 (a1).toNat))), (3, (0, (h 134 (a1).toNat))), (4, (0, (h 58 (h 132 (a1).toNat).toNat)))] [] (ja_up (ja_up (ja_up h 133 ((a1).toNat) 1) 0 203 1) 0 202 ((h 0 202) - 1)) Q
                refine ja_goto 364 dfirst_97 rfl ?_
                refine ja_return dfirst_364 rfl ?_
                exact k1 (ja_up (ja_up (ja_up h 133 ((a1).toNat) 1) 0 203 1) 0 202 ((h 0 202) - 1)) (⟨ev_pop (e := a1) g153 p6 (by omega) (by omega) (by omega) (by (repeat (first | exact ag_refl | refine ag_up rfl ?_))) (show (((h 0 202) - 1) : Int) = (h 0 202) - 1 by omega) (fun j hj => by refine ⟨?_, ?_, ?_, ?_⟩ <;> simp [ja_up, hj]) g, (by (repeat (first | exact ag_refl | refine ag_up rfl ?_))), (by (repeat (first | exact p4 | refine vi_set (by decide) (by decide) (by decide) ?_ (by first | exact (fun z => absurd z (by decide)) | exact vi_aS p4 (by decide) _ | exact (fun z => ⟨by omega, hca⟩) | exact (fun z => ⟨by omega, hca z⟩) | (intro z; exfalso; omega)) | refine vi_res ?_ (by first | exact (fun z => absurd z (by decide)) | exact vi_aS p4 (by decide) _ | exact (fun z => ⟨by omega, hca⟩) | exact (fun z => ⟨by omega, hca z⟩) | (intro z; exfalso; omega)) | refine vi_arr (by decide) (by decide) ?_ | refine vi_up (by decide) (by decide) ?_)))⟩) g153
        · refine ja_aload_n dfirst_64 rfl rfl ?_
          refine ja_iconst dfirst_65 ?_
          refine t_answer (by decide) (show (0 : Nat) ≤ 8 by decide) dfirst_66 g1 ⟨by decide, by decide⟩ (show 1 ≤ (h 0 202) by omega) ?_
          intro g154
          replace g154 : mo_G mo_zr (ja_up (ja_up (ja_up h 133 ((a1).toNat) 1) 0 203 0) 0 202 ((h 0 202) - 1)) := g154
          show mJ l D cA ad 7 cX12_first 7 none 69 [(5, (0, s0)), (0, (2, ((0 : Nat) : Int))), (1, (0, a1)), (2, (0, (h 132 (a1).toNat))), (3, (0, (h 134 (a1).toNat))), (4, (0, (h 58 (h 132 (a1).toNat).toNat)))] [] (ja_up (ja_up (ja_up h 133 ((a1).toNat) 1) 0 203 0) 0 202 ((h 0 202) - 1)) Q
          refine ja_goto 364 dfirst_69 rfl ?_
          refine ja_return dfirst_364 rfl ?_
          exact k1 (ja_up (ja_up (ja_up h 133 ((a1).toNat) 1) 0 203 0) 0 202 ((h 0 202) - 1)) (⟨ev_pop (e := a1) g154 p6 (by omega) (by omega) (by omega) (by (repeat (first | exact ag_refl | refine ag_up rfl ?_))) (show (((h 0 202) - 1) : Int) = (h 0 202) - 1 by omega) (fun j hj => by refine ⟨?_, ?_, ?_, ?_⟩ <;> simp [ja_up, hj]) g, (by (repeat (first | exact ag_refl | refine ag_up rfl ?_))), (by (repeat (first | exact p4 | refine vi_set (by decide) (by decide) (by decide) ?_ (by first | exact (fun z => absurd z (by decide)) | exact vi_aS p4 (by decide) _ | exact (fun z => ⟨by omega, hca⟩) | exact (fun z => ⟨by omega, hca z⟩) | (intro z; exfalso; omega)) | refine vi_res ?_ (by first | exact (fun z => absurd z (by decide)) | exact vi_aS p4 (by decide) _ | exact (fun z => ⟨by omega, hca⟩) | exact (fun z => ⟨by omega, hca z⟩) | (intro z; exfalso; omega)) | refine vi_arr (by decide) (by decide) ?_ | refine vi_up (by decide) (by decide) ?_)))⟩) g154
      · intro x6 u gu qx6 iv hm
        subst hm
        have ku_ev := gF_ev gu
        have ku_reached := gF_reached gu
        have ku_tests := gF_tests gu
        have ku_nodes := gF_nodes gu
        have kn2_nodes := gF_nodes g
        have hq := p6 (a1).toNat (by omega)
        obtain ⟨v1, v2, v3, v4, v5⟩ := hq
        clear v3
        have h9 := ev_900 p6 (by omega)
        have gvn := gC_evNode g (a1).toNat
        have gvr := gC_evRow g (a1).toNat
        have gva := gC_evAt g (a1).toNat
        have gkd := gC_nodeKind g (h 132 (a1).toNat).toNat
        obtain ⟨hrw, hrs⟩ := p7 (h 134 (a1).toNat).toNat (by omega)
        obtain ⟨kd1, kd2, kd3⟩ := ci_kid g p5 (n := (h 132 (a1).toNat).toNat) (by omega)
        have hne : ¬ (a1).toNat = (h 0 202).toNat := by omega
        have grc := gF_reached g
        obtain ⟨iv, ag, qv⟩ := iv
        have c_nodeA : (u 59) = (h 59) := funext fun j => ag 59 j rfl
        have c_pickRoot : (u 37) = (h 37) := funext fun j => ag 37 j rfl
        have c_ev : (u 0 202) = (h 0 202) := ag 0 202 rfl
        refine ja_iload dfirst_215 rfl ?_
        refine ja_bipush 14 dfirst_217 rfl ?_
        refine ja_icmp_ge 244 dfirst_219 rfl ⟨by omega, by omega⟩ ⟨by decide, by decide⟩ (fun c219 => ?_) (fun c219 => ?_)
        · have h12 := (p5.2.2.1 (h 132 (a1).toNat).toNat (by omega)).2.2.2.1 (by omega)
          have h12b := h12.2.1
          have c_na := congrFun c_nodeA (h 132 (a1).toNat).toNat
          have gpk := gF_picks g
          refine ja_aload_n dfirst_244 rfl rfl ?_
          refine ja_aload_n dfirst_245 rfl rfl ?_
          refine fa_pickRoot dfirst_246 ?_
          refine ja_aload_n dfirst_249 rfl rfl ?_
          refine fa_nodeA dfirst_250 ?_
          refine ja_iload_n dfirst_253 rfl rfl ?_
          refine il_nodeA (v := u 59 (h 132 (a1).toNat).toNat) rfl ⟨by omega, by omega⟩ dfirst_254 ?_
          have f155 := gC_nodeA gu (h 132 (a1).toNat).toNat
          refine il_pickRoot (v := u 37 (u 59 (h 132 (a1).toNat).toNat).toNat) rfl ⟨by omega, by omega⟩ dfirst_255 ?_
          have f156 := gC_pickRoot gu (u 59 (h 132 (a1).toNat).toNat).toNat
          refine ja_iload_n dfirst_256 rfl rfl ?_
          refine t_ask (by decide) (show (0 : Nat) ≤ 8 by decide) dfirst_257 gu ⟨by omega, by omega⟩ ⟨by omega, by omega⟩ (show 0 ≤ (u 37 (u 59 (h 132 (a1).toNat).toNat).toNat) ∧ (u 37 (u 59 (h 132 (a1).toNat).toNat).toNat) ≤ 899 by omega) (show 0 ≤ (h 134 (a1).toNat) ∧ (h 134 (a1).toNat) ≤ 119 by omega) (show (u 0 202) ≤ 999 by omega) ?_
          intro g157
          replace g157 : mo_G mo_zr (ja_up (ja_up (ja_up (ja_up (ja_up u 132 ((u 0 202).toNat) (u 37 (u 59 (h 132 (a1).toNat).toNat).toNat)) 134 ((u 0 202).toNat) (h 134 (a1).toNat)) 133 ((u 0 202).toNat) 0) 135 ((u 0 202).toNat) 0) 0 202 ((u 0 202) + 1)) := g157
          show mJ l D cA ad 7 cX12_first 7 none 260 [(0, (2, ((0 : Nat) : Int))), (2, (0, (h 132 (a1).toNat))), (3, (0, (h 134 (a1).toNat))), (6, (0, x6))] [] (ja_up (ja_up (ja_up (ja_up (ja_up u 132 ((u 0 202).toNat) (u 37 (u 59 (h 132 (a1).toNat).toNat).toNat)) 134 ((u 0 202).toNat) (h 134 (a1).toNat)) 133 ((u 0 202).toNat) 0) 135 ((u 0 202).toNat) 0) 0 202 ((u 0 202) + 1)) Q
          refine ja_goto 364 dfirst_260 rfl ?_
          refine ja_return dfirst_364 rfl ?_
          exact k1 (ja_up (ja_up (ja_up (ja_up (ja_up u 132 ((u 0 202).toNat) (u 37 (u 59 (h 132 (a1).toNat).toNat).toNat)) 134 ((u 0 202).toNat) (h 134 (a1).toNat)) 133 ((u 0 202).toNat) 0) 135 ((u 0 202).toNat) 0) 0 202 ((u 0 202) + 1)) (⟨ev_ask (e := a1) (c := (h 37 (h 59 (h 132 (a1).toNat).toNat).toNat)) (r := (h 134 (a1).toNat)) g g157 p6 (by omega) (by omega) (ag_trans (by (repeat (first | exact ag_refl | refine ag_up rfl ?_))) (ag_trans (ag_sub (X_X (by decide) (by decide)) ag) (by (repeat (first | exact ag_refl | refine ag_up rfl ?_))))) (show (((u 0 202) + 1) : Int) = (h 0 202) + 1 by omega) (fun j h1 h2 => ⟨(show ((ja_up (ja_up (ja_up (ja_up (ja_up u 132 ((u 0 202).toNat) (u 37 (u 59 (h 132 (a1).toNat).toNat).toNat)) 134 ((u 0 202).toNat) (h 134 (a1).toNat)) 133 ((u 0 202).toNat) 0) 135 ((u 0 202).toNat) 0) 0 202 ((u 0 202) + 1)) 132) j = _ from (by simp [ja_up, c_ev, h1, h2])).trans ((ag 132 j rfl).trans (by simp [ja_up, c_ev, h1, h2])), (show ((ja_up (ja_up (ja_up (ja_up (ja_up u 132 ((u 0 202).toNat) (u 37 (u 59 (h 132 (a1).toNat).toNat).toNat)) 134 ((u 0 202).toNat) (h 134 (a1).toNat)) 133 ((u 0 202).toNat) 0) 135 ((u 0 202).toNat) 0) 0 202 ((u 0 202) + 1)) 134) j = _ from (by simp [ja_up, c_ev, h1, h2])).trans ((ag 134 j rfl).trans (by simp [ja_up, c_ev, h1, h2])), (show ((ja_up (ja_up (ja_up (ja_up (ja_up u 132 ((u 0 202).toNat) (u 37 (u 59 (h 132 (a1).toNat).toNat).toNat)) 134 ((u 0 202).toNat) (h 134 (a1).toNat)) 133 ((u 0 202).toNat) 0) 135 ((u 0 202).toNat) 0) 0 202 ((u 0 202) + 1)) 133) j = _ from (by simp [ja_up, c_ev, h1, h2])).trans ((ag 133 j rfl).trans (by simp [ja_up, c_ev, h1, h2])), (show ((ja_up (ja_up (ja_up (ja_up (ja_up u 132 ((u 0 202).toNat) (u 37 (u 59 (h 132 (a1).toNat).toNat).toNat)) 134 ((u 0 202).toNat) (h 134 (a1).toNat)) 133 ((u 0 202).toNat) 0) 135 ((u 0 202).toNat) 0) 0 202 ((u 0 202) + 1)) 135) j = _ from (by simp [ja_up, c_ev, h1, h2])).trans ((ag 135 j rfl).trans (by simp [ja_up, c_ev, h1, h2]))⟩) ((show ((ja_up (ja_up (ja_up (ja_up (ja_up u 132 ((u 0 202).toNat) (u 37 (u 59 (h 132 (a1).toNat).toNat).toNat)) 134 ((u 0 202).toNat) (h 134 (a1).toNat)) 133 ((u 0 202).toNat) 0) 135 ((u 0 202).toNat) 0) 0 202 ((u 0 202) + 1)) 132) (a1).toNat = (u 132) (a1).toNat from (by simp [ja_up, hne, c_ev])).trans ((ag 132 (a1).toNat rfl).trans (by simp [ja_up, hne, c_ev]))) ((show ((ja_up (ja_up (ja_up (ja_up (ja_up u 132 ((u 0 202).toNat) (u 37 (u 59 (h 132 (a1).toNat).toNat).toNat)) 134 ((u 0 202).toNat) (h 134 (a1).toNat)) 133 ((u 0 202).toNat) 0) 135 ((u 0 202).toNat) 0) 0 202 ((u 0 202) + 1)) 134) (a1).toNat = (u 134) (a1).toNat from (by simp [ja_up, hne, c_ev])).trans ((ag 134 (a1).toNat rfl).trans (by simp [ja_up, hne, c_ev]))) (by omega) (by have zz : ((ja_up (ja_up (ja_up (ja_up (ja_up u 132 ((u 0 202).toNat) (u 37 (u 59 (h 132 (a1).toNat).toNat).toNat)) 134 ((u 0 202).toNat) (h 134 (a1).toNat)) 133 ((u 0 202).toNat) 0) 135 ((u 0 202).toNat) 0) 0 202 ((u 0 202) + 1)) 135) (a1).toNat = (h 135 (a1).toNat) := ((show ((ja_up (ja_up (ja_up (ja_up (ja_up u 132 ((u 0 202).toNat) (u 37 (u 59 (h 132 (a1).toNat).toNat).toNat)) 134 ((u 0 202).toNat) (h 134 (a1).toNat)) 133 ((u 0 202).toNat) 0) 135 ((u 0 202).toNat) 0) 0 202 ((u 0 202) + 1)) 135) (a1).toNat = (u 135) (a1).toNat from (by simp [ja_up, hne, c_ev])).trans ((ag 135 (a1).toNat rfl).trans (by simp [ja_up, hne, c_ev]))); omega) (by simp [ja_up, c_ev, c_nodeA, c_pickRoot]) (by simp [ja_up, c_ev, c_nodeA, c_pickRoot]) (by simp [ja_up, c_ev, c_nodeA, c_pickRoot]) (by simp [ja_up, c_ev, c_nodeA, c_pickRoot]) (kd3 (by omega)) ⟨by omega, by omega⟩ (by have zz : ((ja_up (ja_up (ja_up (ja_up (ja_up u 132 ((u 0 202).toNat) (u 37 (u 59 (h 132 (a1).toNat).toNat).toNat)) 134 ((u 0 202).toNat) (h 134 (a1).toNat)) 133 ((u 0 202).toNat) 0) 135 ((u 0 202).toNat) 0) 0 202 ((u 0 202) + 1)) 135) (a1).toNat = (h 135 (a1).toNat) := ((show ((ja_up (ja_up (ja_up (ja_up (ja_up u 132 ((u 0 202).toNat) (u 37 (u 59 (h 132 (a1).toNat).toNat).toNat)) 134 ((u 0 202).toNat) (h 134 (a1).toNat)) 133 ((u 0 202).toNat) 0) 135 ((u 0 202).toNat) 0) 0 202 ((u 0 202) + 1)) 135) (a1).toNat = (u 135) (a1).toNat from (by simp [ja_up, hne, c_ev])).trans ((ag 135 (a1).toNat rfl).trans (by simp [ja_up, hne, c_ev]))); have yy : ((ja_up (ja_up (ja_up (ja_up (ja_up u 132 ((u 0 202).toNat) (u 37 (u 59 (h 132 (a1).toNat).toNat).toNat)) 134 ((u 0 202).toNat) (h 134 (a1).toNat)) 133 ((u 0 202).toNat) 0) 135 ((u 0 202).toNat) 0) 0 202 ((u 0 202) + 1)) 133) (a1).toNat = 1 := ((show ((ja_up (ja_up (ja_up (ja_up (ja_up u 132 ((u 0 202).toNat) (u 37 (u 59 (h 132 (a1).toNat).toNat).toNat)) 134 ((u 0 202).toNat) (h 134 (a1).toNat)) 133 ((u 0 202).toNat) 0) 135 ((u 0 202).toNat) 0) 0 202 ((u 0 202) + 1)) 133) (a1).toNat = (u 133) (a1).toNat from (by simp [ja_up, hne, c_ev])).trans ((ag 133 (a1).toNat rfl).trans (show _ = (1 : Int) from (by simp [ja_up, c_ev, c_nodeA, c_pickRoot])))); unfold evD; rw [yy, zz]; simp [p3] <;> omega), (ag_trans (by (repeat (first | exact ag_refl | refine ag_up rfl ?_))) (ag_trans (ag_sub (X_X (by decide) (by decide)) ag) (by (repeat (first | exact ag_refl | refine ag_up rfl ?_))))), (by (repeat (first | exact qv | refine vi_set (by decide) (by decide) (by decide) ?_ (by first | exact (fun z => absurd z (by decide)) | exact vi_aS qv (by decide) _ | exact (fun z => ⟨by omega, hca⟩) | exact (fun z => ⟨by omega, hca z⟩) | (intro z; exfalso; omega)) | refine vi_res ?_ (by first | exact (fun z => absurd z (by decide)) | exact vi_aS qv (by decide) _ | exact (fun z => ⟨by omega, hca⟩) | exact (fun z => ⟨by omega, hca z⟩) | (intro z; exfalso; omega)) | refine vi_arr (by decide) (by decide) ?_ | refine vi_up (by decide) (by decide) ?_)))⟩) g157
        · refine ja_aload_n dfirst_222 rfl rfl ?_
          refine fa_bindKind dfirst_223 ?_
          refine ja_iload dfirst_226 rfl ?_
          refine ja_iconst dfirst_228 ?_
          have g158 := gW_bindKind gu (x6).toNat (x := 0) ⟨by decide, by decide⟩
          refine is_bindKind ⟨by omega, by omega⟩ dfirst_229 ?_
          refine ja_aload_n dfirst_230 rfl rfl ?_
          refine fa_bindValue dfirst_231 ?_
          refine ja_iload dfirst_234 rfl ?_
          refine ja_iconst dfirst_236 ?_
          have g159 := gW_bindValue g158 (x6).toNat (x := 0) ⟨by decide, by decide⟩
          refine is_bindValue ⟨by omega, by omega⟩ dfirst_237 ?_
          refine ja_iinc dfirst_238 rfl (by decide) (L2 := [(6, (0, (x6 + 1))), (0, (2, ((0 : Nat) : Int))), (2, (0, (h 132 (a1).toNat))), (3, (0, (h 134 (a1).toNat)))]) rfl ?_
          refine ja_goto 215 dfirst_241 rfl ?_
          exact ja_wk (fun q hq => by simp only [List.mem_cons, List.not_mem_nil, or_false] at hq; rcases hq with rfl | rfl | rfl | rfl <;> rfl) ((ih (((100 : Int) - (x6 + 1)).toNat) (by omega)).2 (x6 + 1) (ja_up (ja_up u 130 ((x6).toNat) 0) 131 ((x6).toNat) 0) g159 ⟨by omega, by omega⟩ (⟨by omega, (ag_trans ag (by (repeat (first | exact ag_refl | refine ag_up rfl ?_)))), (by (repeat (first | exact qv | refine vi_set (by decide) (by decide) (by decide) ?_ (by first | exact (fun z => absurd z (by decide)) | exact vi_aS qv (by decide) _ | exact (fun z => ⟨by omega, hca⟩) | exact (fun z => ⟨by omega, hca z⟩) | (intro z; exfalso; omega)) | refine vi_res ?_ (by first | exact (fun z => absurd z (by decide)) | exact vi_aS qv (by decide) _ | exact (fun z => ⟨by omega, hca⟩) | exact (fun z => ⟨by omega, hca z⟩) | (intro z; exfalso; omega)) | refine vi_arr (by decide) (by decide) ?_ | refine vi_up (by decide) (by decide) ?_)))⟩) rfl)
  have hq := p6 (a1).toNat (by omega)
  obtain ⟨v1, v2, v3, v4, v5⟩ := hq
  clear v3
  have h9 := ev_900 p6 (by omega)
  have gvn := gC_evNode g (a1).toNat
  have gvr := gC_evRow g (a1).toNat
  have gva := gC_evAt g (a1).toNat
  have gkd := gC_nodeKind g (h 132 (a1).toNat).toNat
  obtain ⟨hrw, hrs⟩ := p7 (h 134 (a1).toNat).toNat (by omega)
  obtain ⟨kd1, kd2, kd3⟩ := ci_kid g p5 (n := (h 132 (a1).toNat).toNat) (by omega)
  have hne : ¬ (a1).toNat = (h 0 202).toNat := by omega
  have grc := gF_reached g
  refine ja_aload_n dfirst_0 rfl rfl ?_
  refine fa_evNode dfirst_1 ?_
  refine ja_iload_n dfirst_4 rfl rfl ?_
  refine il_evNode (v := h 132 (a1).toNat) rfl ⟨by omega, by omega⟩ dfirst_5 ?_
  have f160 := gC_evNode g (a1).toNat
  refine ja_istore_n dfirst_6 rfl (by decide) (L2 := [(2, (0, (h 132 (a1).toNat))), (0, (2, ((0 : Nat) : Int))), (1, (0, a1))]) rfl ?_
  refine ja_aload_n dfirst_7 rfl rfl ?_
  refine fa_evRow dfirst_8 ?_
  refine ja_iload_n dfirst_11 rfl rfl ?_
  refine il_evRow (v := h 134 (a1).toNat) rfl ⟨by omega, by omega⟩ dfirst_12 ?_
  have f161 := gC_evRow g (a1).toNat
  refine ja_istore_n dfirst_13 rfl (by decide) (L2 := [(3, (0, (h 134 (a1).toNat))), (2, (0, (h 132 (a1).toNat))), (0, (2, ((0 : Nat) : Int))), (1, (0, a1))]) rfl ?_
  refine ja_aload_n dfirst_14 rfl rfl ?_
  refine fa_nodeKind dfirst_15 ?_
  refine ja_iload_n dfirst_18 rfl rfl ?_
  refine il_nodeKind (v := h 58 (h 132 (a1).toNat).toNat) rfl ⟨by omega, by omega⟩ dfirst_19 ?_
  have f162 := gC_nodeKind g (h 132 (a1).toNat).toNat
  refine ja_istore dfirst_20 (by decide) (L2 := [(4, (0, (h 58 (h 132 (a1).toNat).toNat))), (3, (0, (h 134 (a1).toNat))), (2, (0, (h 132 (a1).toNat))), (0, (2, ((0 : Nat) : Int))), (1, (0, a1))]) rfl ?_
  refine ja_aload_n dfirst_22 rfl rfl ?_
  refine fg_woven (v := h 0 128) rfl dfirst_23 ?_
  have f163 := gF_woven g
  refine ja_if_eq 49 dfirst_26 rfl ⟨by omega, by omega⟩ (fun c26 => ?_) (fun c26 => ?_)
  · refine ja_iconst dfirst_49 ?_
    exact ja_wk (fun q hq => by simp only [List.mem_cons, List.not_mem_nil, or_false] at hq; rcases hq with rfl | rfl | rfl | rfl | rfl <;> rfl) ((CUT _).1 2  ⟨by decide, by decide⟩ (show 0 ≤ 2 ∧ 2 ≤ 2 by omega) rfl)
  · refine ja_aload_n dfirst_29 rfl rfl ?_
    refine fa_ahead dfirst_30 ?_
    refine ja_sipush 400 dfirst_33 rfl ?_
    refine ja_iload_n dfirst_36 rfl rfl ?_
    refine ja_imul dfirst_37 ?_
    refine ja_aload_n dfirst_38 rfl rfl ?_
    refine fa_reachPoint dfirst_39 ?_
    refine ja_iload_n dfirst_42 rfl rfl ?_
    refine il_reachPoint (v := h 115 (h 134 (a1).toNat).toNat) rfl ⟨by omega, by omega⟩ dfirst_43 ?_
    have f164 := gC_reachPoint g (h 134 (a1).toNat).toNat
    refine ja_iadd dfirst_44 ?_
    refine il_ahead (v := h 71 ((400 * (h 132 (a1).toNat)) + (h 115 (h 134 (a1).toNat).toNat)).toNat) rfl ⟨by omega, by omega⟩ dfirst_45 ?_
    have f165 := gC_ahead g ((400 * (h 132 (a1).toNat)) + (h 115 (h 134 (a1).toNat).toNat)).toNat
    refine ja_goto 50 dfirst_46 rfl ?_
    exact ja_wk (fun q hq => by simp only [List.mem_cons, List.not_mem_nil, or_false] at hq; rcases hq with rfl | rfl | rfl | rfl | rfl <;> rfl) ((CUT _).1 (h 71 ((400 * (h 132 (a1).toNat)) + (h 115 (h 134 (a1).toNat).toNat)).toNat)  ⟨by omega, by omega⟩ (show 0 ≤ (h 71 ((400 * (h 132 (a1).toNat)) + (h 115 (h 134 (a1).toNat).toNat)).toNat) ∧ (h 71 ((400 * (h 132 (a1).toNat)) + (h 115 (h 134 (a1).toNat).toNat)).toNat) ≤ 2 by omega) rfl)
theorem t_first {a1 : Int} {ht st rg : Nat → Int} {d nL pc : Nat} {cc : ByteArray} {rt : Option FieldType} {L : List (Nat × ja_V)} {S : List ja_V} {h : ja_H} {Q : Option ja_V → ja_H → Prop} (hdd : 7 < d) (hwd : ja_wd S ≤ 8) (hd : decode cc pc = .ok (.invokevirtual 1141, 3)) (g : mo_G mo_zr h) (r1 : -2147483648 ≤ a1 ∧ a1 ≤ 2147483647) (p1 : a1 = (h 0 202) - 1) (p2 : 1 ≤ (h 0 202)) (p3 : (h 133 (a1).toNat) = 0) (p4 : VI h) (p5 : CI h ht st rg) (p6 : evI h) (p7 : RW h) (k1 : ∀ (h' : ja_H), ((evI h' ∧ evV h' < evV h) ∧ mo_ag FEVK h h' ∧ VI h') → mo_G mo_zr h' → mJ l D cA ad d cc nL rt (pc + 3) L S h' Q) : mJ l D cA ad d cc nL rt pc L ((0, a1) :: (2, ((0 : Nat) : Int)) :: S) h Q :=
  mc_first hdd hwd hd (s_first g r1 p1 p2 p3 p4 p5 p6 p7 k1)
end
