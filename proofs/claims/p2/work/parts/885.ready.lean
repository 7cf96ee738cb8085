/-! Parser: refuse stops; beyond depth 16 no operand is ready, by hand -/
theorem rf_d0 : decode cX5_refuse 0 = .ok (.aload_n 0, 1) := by decide +kernel
theorem rf_d1 : decode cX5_refuse 1 = .ok (.getfield 37, 3) := by decide +kernel
theorem rf_d4 : decode cX5_refuse 4 = .ok (.ifCond .ne 44, 3) := by decide +kernel
theorem rf_d7 : decode cX5_refuse 7 = .ok (.aload_n 0, 1) := by decide +kernel
theorem rf_d8 : decode cX5_refuse 8 = .ok (.iconst 1, 1) := by decide +kernel
theorem rf_d9 : decode cX5_refuse 9 = .ok (.putfield 37, 3) := by decide +kernel
theorem rf_d12 : decode cX5_refuse 12 = .ok (.aload_n 0, 1) := by decide +kernel
theorem rf_d13 : decode cX5_refuse 13 = .ok (.iload_n 1, 1) := by decide +kernel
theorem rf_d14 : decode cX5_refuse 14 = .ok (.iconst 2, 1) := by decide +kernel
theorem rf_d15 : decode cX5_refuse 15 = .ok (.if_icmp .ne 15, 3) := by decide +kernel
theorem rf_d18 : decode cX5_refuse 18 = .ok (.aload_n 0, 1) := by decide +kernel
theorem rf_d19 : decode cX5_refuse 19 = .ok (.getfield 54, 3) := by decide +kernel
theorem rf_d22 : decode cX5_refuse 22 = .ok (.iconst 1, 1) := by decide +kernel
theorem rf_d23 : decode cX5_refuse 23 = .ok (.if_icmp .ne 7, 3) := by decide +kernel
theorem rf_d26 : decode cX5_refuse 26 = .ok (.iconst 1, 1) := by decide +kernel
theorem rf_d27 : decode cX5_refuse 27 = .ok (.goto 4, 3) := by decide +kernel
theorem rf_d30 : decode cX5_refuse 30 = .ok (.iload_n 1, 1) := by decide +kernel
theorem rf_d31 : decode cX5_refuse 31 = .ok (.putfield 98, 3) := by decide +kernel
theorem rf_d34 : decode cX5_refuse 34 = .ok (.aload_n 0, 1) := by decide +kernel
theorem rf_d35 : decode cX5_refuse 35 = .ok (.aload_n 0, 1) := by decide +kernel
theorem rf_d36 : decode cX5_refuse 36 = .ok (.getfield 109, 3) := by decide +kernel
theorem rf_d39 : decode cX5_refuse 39 = .ok (.putfield 101, 3) := by decide +kernel
theorem rf_d42 : decode cX5_refuse 42 = .ok (.aload_n 0, 1) := by decide +kernel
theorem rf_d43 : decode cX5_refuse 43 = .ok (.bipush 24, 2) := by decide +kernel
theorem rf_d45 : decode cX5_refuse 45 = .ok (.putfield 54, 3) := by decide +kernel
theorem rf_d48 : decode cX5_refuse 48 = .ok (.return_, 1) := by decide +kernel
theorem ro_d0 : decode cX5_readyForOperand 0 = .ok (.aload_n 0, 1) := by decide +kernel
theorem ro_d1 : decode cX5_readyForOperand 1 = .ok (.invokevirtual 298, 3) := by decide +kernel
theorem ro_d4 : decode cX5_readyForOperand 4 = .ok (.ifCond .ne 11, 3) := by decide +kernel
theorem ro_d7 : decode cX5_readyForOperand 7 = .ok (.aload_n 0, 1) := by decide +kernel
theorem ro_d8 : decode cX5_readyForOperand 8 = .ok (.iconst 2, 1) := by decide +kernel
theorem ro_d9 : decode cX5_readyForOperand 9 = .ok (.invokevirtual 61, 3) := by decide +kernel
theorem ro_d12 : decode cX5_readyForOperand 12 = .ok (.goto 14, 3) := by decide +kernel
theorem ro_d15 : decode cX5_readyForOperand 15 = .ok (.iload_n 1, 1) := by decide +kernel
theorem ro_d16 : decode cX5_readyForOperand 16 = .ok (.bipush 16, 2) := by decide +kernel
theorem ro_d18 : decode cX5_readyForOperand 18 = .ok (.if_icmp .le 8, 3) := by decide +kernel
theorem ro_d21 : decode cX5_readyForOperand 21 = .ok (.aload_n 0, 1) := by decide +kernel
theorem ro_d22 : decode cX5_readyForOperand 22 = .ok (.iconst 3, 1) := by decide +kernel
theorem ro_d23 : decode cX5_readyForOperand 23 = .ok (.invokevirtual 61, 3) := by decide +kernel
theorem ro_d26 : decode cX5_readyForOperand 26 = .ok (.aload_n 0, 1) := by decide +kernel
theorem ro_d27 : decode cX5_readyForOperand 27 = .ok (.getfield 37, 3) := by decide +kernel
theorem ro_d30 : decode cX5_readyForOperand 30 = .ok (.ifCond .ne 7, 3) := by decide +kernel
theorem ro_d33 : decode cX5_readyForOperand 33 = .ok (.iconst 1, 1) := by decide +kernel
theorem ro_d34 : decode cX5_readyForOperand 34 = .ok (.goto 4, 3) := by decide +kernel
theorem ro_d37 : decode cX5_readyForOperand 37 = .ok (.iconst 0, 1) := by decide +kernel
theorem ro_d38 : decode cX5_readyForOperand 38 = .ok (.ireturn, 1) := by decide +kernel
theorem rp_d0 : decode cX5_readyForPick 0 = .ok (.aload_n 0, 1) := by decide +kernel
theorem rp_d1 : decode cX5_readyForPick 1 = .ok (.getfield 54, 3) := by decide +kernel
theorem rp_d4 : decode cX5_readyForPick 4 = .ok (.lookupswitch 165 #[(2, 151), (17, 132), (31, 132), (37, 132), (38, 132), (44, 137), (45, 132), (48, 132), (53, 132), (57, 132), (64, 132), (65, 132), (66, 132), (67, 132), (73, 132)], 132) := by decide +kernel
theorem rp_d136 : decode cX5_readyForPick 136 = .ok (.iconst 1, 1) := by decide +kernel
theorem rp_d137 : decode cX5_readyForPick 137 = .ok (.istore_n 3, 1) := by decide +kernel
theorem rp_d138 : decode cX5_readyForPick 138 = .ok (.goto 33, 3) := by decide +kernel
theorem rp_d141 : decode cX5_readyForPick 141 = .ok (.iload_n 2, 1) := by decide +kernel
theorem rp_d142 : decode cX5_readyForPick 142 = .ok (.iconst 2, 1) := by decide +kernel
theorem rp_d143 : decode cX5_readyForPick 143 = .ok (.if_icmp .ge 7, 3) := by decide +kernel
theorem rp_d146 : decode cX5_readyForPick 146 = .ok (.iconst 1, 1) := by decide +kernel
theorem rp_d147 : decode cX5_readyForPick 147 = .ok (.goto 4, 3) := by decide +kernel
theorem rp_d150 : decode cX5_readyForPick 150 = .ok (.iconst 0, 1) := by decide +kernel
theorem rp_d151 : decode cX5_readyForPick 151 = .ok (.istore_n 3, 1) := by decide +kernel
theorem rp_d152 : decode cX5_readyForPick 152 = .ok (.goto 19, 3) := by decide +kernel
theorem rp_d155 : decode cX5_readyForPick 155 = .ok (.iload_n 2, 1) := by decide +kernel
theorem rp_d156 : decode cX5_readyForPick 156 = .ok (.iconst 1, 1) := by decide +kernel
theorem rp_d157 : decode cX5_readyForPick 157 = .ok (.if_icmp .ge 7, 3) := by decide +kernel
theorem rp_d160 : decode cX5_readyForPick 160 = .ok (.iconst 1, 1) := by decide +kernel
theorem rp_d161 : decode cX5_readyForPick 161 = .ok (.goto 4, 3) := by decide +kernel
theorem rp_d164 : decode cX5_readyForPick 164 = .ok (.iconst 0, 1) := by decide +kernel
theorem rp_d165 : decode cX5_readyForPick 165 = .ok (.istore_n 3, 1) := by decide +kernel
theorem rp_d166 : decode cX5_readyForPick 166 = .ok (.goto 5, 3) := by decide +kernel
theorem rp_d169 : decode cX5_readyForPick 169 = .ok (.iconst 0, 1) := by decide +kernel
theorem rp_d170 : decode cX5_readyForPick 170 = .ok (.istore_n 3, 1) := by decide +kernel
theorem rp_d171 : decode cX5_readyForPick 171 = .ok (.iload_n 3, 1) := by decide +kernel
theorem rp_d172 : decode cX5_readyForPick 172 = .ok (.ifCond .ne 11, 3) := by decide +kernel
theorem rp_d175 : decode cX5_readyForPick 175 = .ok (.aload_n 0, 1) := by decide +kernel
theorem rp_d176 : decode cX5_readyForPick 176 = .ok (.iconst 2, 1) := by decide +kernel
theorem rp_d177 : decode cX5_readyForPick 177 = .ok (.invokevirtual 61, 3) := by decide +kernel
theorem rp_d180 : decode cX5_readyForPick 180 = .ok (.goto 14, 3) := by decide +kernel
theorem rp_d183 : decode cX5_readyForPick 183 = .ok (.iload_n 1, 1) := by decide +kernel
theorem rp_d184 : decode cX5_readyForPick 184 = .ok (.bipush 16, 2) := by decide +kernel
theorem rp_d186 : decode cX5_readyForPick 186 = .ok (.if_icmp .le 8, 3) := by decide +kernel
theorem rp_d189 : decode cX5_readyForPick 189 = .ok (.aload_n 0, 1) := by decide +kernel
theorem rp_d190 : decode cX5_readyForPick 190 = .ok (.iconst 3, 1) := by decide +kernel
theorem rp_d191 : decode cX5_readyForPick 191 = .ok (.invokevirtual 61, 3) := by decide +kernel
theorem rp_d194 : decode cX5_readyForPick 194 = .ok (.aload_n 0, 1) := by decide +kernel
theorem rp_d195 : decode cX5_readyForPick 195 = .ok (.getfield 37, 3) := by decide +kernel
theorem rp_d198 : decode cX5_readyForPick 198 = .ok (.ifCond .ne 7, 3) := by decide +kernel
theorem rp_d201 : decode cX5_readyForPick 201 = .ok (.iconst 1, 1) := by decide +kernel
theorem rp_d202 : decode cX5_readyForPick 202 = .ok (.goto 4, 3) := by decide +kernel
theorem rp_d205 : decode cX5_readyForPick 205 = .ok (.iconst 0, 1) := by decide +kernel
theorem rp_d206 : decode cX5_readyForPick 206 = .ok (.ireturn, 1) := by decide +kernel
theorem rf_ne : cw_ss 161 ≠ [] := fun h => absurd (congrArg List.isEmpty h) (by decide +kernel)
theorem rf_w {idx j pl : Nat} (e : cw_pf 5 idx = some (idx, 0, 5, j, pl)) : Cond.fieldLink RX5 idx (TX5 j).1 (TX5 j).2.1 (TX5 j).2.2.1 ∈ ja_B := by
  obtain ⟨r, hr, hm⟩ := (cw_plok 161 rf_ne idx _ e).2.1 rfl
  have hr' : some (RX5, TX5, 21) = some r := hr
  cases hr'
  exact hm
theorem rf_m {idx mid pl : Nat} (e : cw_pf 5 idx = some (idx, 2, mid, 0, pl)) : Cond.methodLink RX5 idx (cw_mt mid).1 ∈ ja_B ∧ ck_mok (cw_mt mid) :=
  (cw_plok 161 rf_ne idx _ e).2.2.2.1 rfl
section
variable {l : Launch} {D : va_G} {cA : Nat → ClassId} {ad : Nat → Nat} {d : Nat} {v0 : Int} {Q : Option ja_V → ja_H → Prop} {cc : ByteArray} {nL : Nat} {rt : Option FieldType} {pc : Nat} {L : List (Nat × ja_V)} {S : List ja_V} {h : ja_H}
theorem rf_get (idx j pl : Nat) (e : cw_pf 5 idx = some (idx, 0, 5, j, pl)) (hj : j < 21) (hx : (cw_sp 4).2 j = 0) (hd : decode cc pc = .ok (.getfield idx, 3)) (kk : ja_J l D cA ad cw_sp cw_K d RX5 cc nL rt (pc + 3) L ((0, h 4 j) :: S) h Q) : ja_J l D cA ad cw_sp cw_K d RX5 cc nL rt pc L ((2, ((4 : Nat) : Int)) :: S) h Q := by
  refine ja_get (ci := 5) (j := j) (q := 4) (N := 21) (C := RX5) (T := TX5) (by decide +kernel) (by decide +kernel) (by decide) rfl hj cl_in5 (rf_w e) hd ?_
  have e2 : ja_fx cw_sp h 4 j = (0, h 4 j) := by unfold ja_fx; rw [hx]
  rw [e2]; exact kk
theorem rf_put (x : Int) (idx j pl : Nat) (e : cw_pf 5 idx = some (idx, 0, 5, j, pl)) (hj : j < 21) (hx : (cw_sp 4).2 j = 0) (hfin : (TX5 j).2.2.2 = false) (hti : tyX5 j = .int) (hd : decode cc pc = .ok (.putfield idx, 3)) (kk : ja_J l D cA ad cw_sp cw_K d RX5 cc nL rt (pc + 3) L S (ja_up h 4 j x) Q) : ja_J l D cA ad cw_sp cw_K d RX5 cc nL rt pc L ((0, x) :: (2, ((4 : Nat) : Int)) :: S) h Q :=
  ja_putI (x := x) (ci := 5) (j := j) (q := 4) (N := 21) (C := RX5) (T := TX5) (by decide +kernel) (by decide +kernel) (by decide) rfl hj cl_in5 tyX5 tyX5_ok nmX5 hfin hx hti (rf_w e) hd kk
theorem rf_putZ (x : Int) (idx j pl : Nat) (e : cw_pf 5 idx = some (idx, 0, 5, j, pl)) (hj : j < 21) (hx : (cw_sp 4).2 j = 0) (hfin : (TX5 j).2.2.2 = false) (hti : tyX5 j = .boolean) (h01 : x = 0 ∨ x = 1) (hd : decode cc pc = .ok (.putfield idx, 3)) (kk : ja_J l D cA ad cw_sp cw_K d RX5 cc nL rt (pc + 3) L S (ja_up h 4 j x) Q) : ja_J l D cA ad cw_sp cw_K d RX5 cc nL rt pc L ((0, x) :: (2, ((4 : Nat) : Int)) :: S) h Q :=
  ja_putZ (x := x) (ci := 5) (j := j) (q := 4) (N := 21) (C := RX5) (T := TX5) (by decide +kernel) (by decide +kernel) (by decide) rfl hj cl_in5 tyX5 tyX5_ok nmX5 hfin hx hti h01 (rf_w e) hd kk
theorem rf_8 (W : ck_W cw_sp cw_fi cw_K cw_pr v0 h) : 0 ≤ h 4 8 ∧ h 4 8 ≤ 1 := by
  have e := W.1 4 8 (by decide +kernel) (by decide +kernel) (by decide +kernel)
  rw [show ck_fi cw_sp cw_fi 4 8 = (0, 1) by decide +kernel] at e
  exact e
theorem rf_r (j : Nat) (hj : j < (cw_sp 4).1.2) (hi : ck_il cw_sp 4 j = true) (hf : ck_fi cw_sp cw_fi 4 j = (-2147483648, 2147483647)) (W : ck_W cw_sp cw_fi cw_K cw_pr v0 h) : ja_r (h 4 j) := by
  have e := W.1 4 j (by decide +kernel) hj hi
  rw [hf] at e
  exact e
theorem rf_up (j : Nat) (x : Int) (hf : ck_fi cw_sp cw_fi 4 j = (-2147483648, 2147483647)) (hx : ja_r x) (W : ck_W cw_sp cw_fi cw_K cw_pr v0 h) : ck_W cw_sp cw_fi cw_K cw_pr v0 (ja_up h 4 j x) :=
  ck_W_up W (fun _ => by rw [hf]; exact hx) (fun q => absurd q.1 (by decide +kernel))
theorem rf_end (W : ck_W cw_sp cw_fi cw_K cw_pr v0 h) (h8 : h 4 8 = 1) (hQ : ∀ h', ck_W cw_sp cw_fi cw_K cw_pr v0 h' → h' 4 8 = 1 → Q none h') {x : Int} {y : Int} (hx : ja_r x) (hL : L = [(0, (2, ((4 : Nat) : Int))), (1, (0, y))]) :
    ja_J l D cA ad cw_sp cw_K d RX5 cX5_refuse 2 none 31 L [(0, x), (2, ((4 : Nat) : Int))] h Q := by
  subst hL
  refine rf_put x 98 9 5128 (by decide +kernel) (by decide) (by decide +kernel) rfl rfl rf_d31 ?_
  refine ja_aload_n rf_d34 rfl rfl ?_
  refine ja_aload_n rf_d35 rfl rfl ?_
  refine rf_get 109 6 5125 (by decide +kernel) (by decide) (by decide +kernel) rf_d36 ?_
  have W1 := rf_up 9 x (by decide +kernel) hx W
  refine rf_put _ 101 10 5129 (by decide +kernel) (by decide) (by decide +kernel) rfl rfl rf_d39 ?_
  have W2 := rf_up 10 (ja_up h 4 9 x 4 6) (by decide +kernel) (rf_r 6 (by decide +kernel) (by decide +kernel) (by decide +kernel) W1) W1
  refine ja_aload_n rf_d42 rfl rfl ?_
  refine ja_bipush 24 rf_d43 rfl ?_
  refine rf_put _ 54 5 5124 (by decide +kernel) (by decide) (by decide +kernel) rfl rfl rf_d45 ?_
  have W3 := rf_up 5 24 (by decide +kernel) ⟨by decide, by decide⟩ W2
  refine ja_return rf_d48 rfl (hQ _ W3 ?_)
  simp [ja_up, h8]
theorem rf_ok (W : ck_W cw_sp cw_fi cw_K cw_pr v0 h) (hQ : ∀ h', ck_W cw_sp cw_fi cw_K cw_pr v0 h' → h' 4 8 = 1 → Q none h') {y : Int} (hy : ja_r y) :
    ja_M l D cA ad cw_sp cw_K d yX5_refuse cX5_refuse 2 none [(2, ((4 : Nat) : Int)), (0, y)] h Q := by
  have h8 := rf_8 W
  show ja_J l D cA ad cw_sp cw_K d RX5 cX5_refuse 2 none 0 [(0, (2, ((4 : Nat) : Int))), (1, (0, y))] [] h Q
  refine ja_aload_n rf_d0 rfl rfl ?_
  refine rf_get 37 8 5127 (by decide +kernel) (by decide) (by decide +kernel) rf_d1 ?_
  refine ja_if_ne 48 rf_d4 rfl ⟨by omega, by omega⟩ (fun q => ja_return rf_d48 rfl (hQ _ W (by omega))) (fun q => ?_)
  refine ja_aload_n rf_d7 rfl rfl ?_
  refine ja_iconst rf_d8 ?_
  refine rf_putZ 1 37 8 5127 (by decide +kernel) (by decide) (by decide +kernel) rfl rfl (.inr rfl) rf_d9 ?_
  have W1 : ck_W cw_sp cw_fi cw_K cw_pr v0 (ja_up h 4 8 1) := ck_W_up W (fun _ => by rw [show ck_fi cw_sp cw_fi 4 8 = (0, 1) by decide +kernel]; exact ⟨by decide, by decide⟩) (fun q => absurd q.1 (by decide +kernel))
  have e8 : ja_up h 4 8 1 4 8 = 1 := by simp [ja_up]
  refine ja_aload_n rf_d12 rfl rfl ?_
  refine ja_iload_n rf_d13 rfl rfl ?_
  refine ja_iconst rf_d14 ?_
  refine ja_icmp_ne 30 rf_d15 rfl hy ⟨by decide, by decide⟩ (fun _ => ?_) (fun _ => ?_)
  · refine ja_iload_n rf_d30 rfl rfl ?_
    exact rf_end W1 e8 hQ hy rfl
  · refine ja_aload_n rf_d18 rfl rfl ?_
    refine rf_get 54 5 5124 (by decide +kernel) (by decide) (by decide +kernel) rf_d19 ?_
    refine ja_iconst rf_d22 ?_
    refine ja_icmp_ne 30 rf_d23 rfl (rf_r 5 (by decide +kernel) (by decide +kernel) (by decide +kernel) W1) ⟨by decide, by decide⟩ (fun _ => ?_) (fun _ => ?_)
    · refine ja_iload_n rf_d30 rfl rfl ?_
      exact rf_end W1 e8 hQ hy rfl
    · refine ja_iconst rf_d26 ?_
      refine ja_goto 31 rf_d27 rfl ?_
      exact rf_end W1 e8 hQ ⟨by decide, by decide⟩ rfl
theorem rf_mt : cw_mt 161 = (yX5_refuse, cX5_refuse, (2, none), (5, 1, false), (5606, 5605, 14, 4871)) := rfl
/-- a call of refuse -/
theorem rf_call (hd0 : 0 < d) (W : ck_W cw_sp cw_fi cw_K cw_pr v0 h) {y : Int} (hy : ja_r y) (hd : decode cc pc = .ok (.invokevirtual 61, 3)) (kk : ∀ h', ck_W cw_sp cw_fi cw_K cw_pr v0 h' → h' 4 8 = 1 → ja_J l D cA ad cw_sp cw_K d RX5 cc nL rt (pc + 3) L [] h' Q) :
    ja_J l D cA ad cw_sp cw_K d RX5 cc nL rt pc L [(0, y), (2, ((4 : Nat) : Int))] h Q := by
  have hm := rf_m (idx := 61) (mid := 161) (pl := 5603) (by decide +kernel)
  rw [rf_mt] at hm
  obtain ⟨m0, m1, m2, m3, m4⟩ := hm
  rw [if_neg (show ¬ (false = true) by decide)] at m4
  exact ja_callV (S := []) (vals := [(0, y)]) (n := 1) (d' := 0) (N := 21) (T := TX5) (ci := 5) (q := 4) m0 m2 m1 m3 rfl hd0 (by decide) m4.1 m4.2.1 (by decide +kernel) (by decide +kernel) (by decide) rfl (show (1 : Nat) + 0 + 1 ≤ 2 by decide) (show (0 : Nat) ≤ 8 by decide) hd
    (rf_ok W (fun h' W' h8 => kk h' W' h8) hy)
end
section
variable {l : Launch} {D : va_G} {cA : Nat → ClassId} {ad : Nat → Nat} {d : Nat} {v0 : Int} {Q : Option ja_V → ja_H → Prop} {cc : ByteArray} {nL : Nat} {rt : Option FieldType} {pc : Nat} {L : List (Nat × ja_V)} {S : List ja_V} {h : ja_H}
theorem ro_mtb : cw_mt 116 = (yX5_beginsOperand, cX5_beginsOperand, (1, (some .boolean)), (5, 0, false), (5678, 5677, 265, 4871)) := rfl
theorem ro_call (hd0 : 0 < d) (hb : ck_H l D cA ad cw_sp cw_fi cw_K cw_pr v0 (cw_mt 116) cw_t116_0) (W : ck_W cw_sp cw_fi cw_K cw_pr v0 h) (hd : decode cc pc = .ok (.invokevirtual 298, 3)) (kk : ∀ x h', x = 0 ∨ x = 1 → ck_W cw_sp cw_fi cw_K cw_pr v0 h' → ja_J l D cA ad cw_sp cw_K d RX5 cc nL rt (pc + 3) L [(0, x)] h' Q) :
    ja_J l D cA ad cw_sp cw_K d RX5 cc nL rt pc L [(2, ((4 : Nat) : Int))] h Q := by
  have hm := rf_m (idx := 298) (mid := 116) (pl := 5675) (by decide +kernel)
  have hM := hb [(2, ((4 : Nat) : Int))] h ⟨⟨.inr (.inr ⟨rfl, rfl⟩), fun i q => (by cases q)⟩, trivial⟩ W
  rw [ro_mtb] at hm hM
  obtain ⟨m0, m1, m2, m3, m4⟩ := hm
  rw [if_neg (show ¬ (false = true) by decide)] at m4
  refine ja_callV (S := []) (vals := []) (n := 0) (d' := 0) (N := 21) (T := TX5) (ci := 5) (q := 4) m0 m2 m1 m3 rfl hd0 (by decide) m4.1 m4.2.1 (by decide +kernel) (by decide +kernel) (by decide) rfl (show (0 : Nat) + 1 ≤ 1 by decide) (show (0 : Nat) ≤ 8 by decide) hd
    (ja_mono (fun r h' hr => ?_) hM)
  obtain ⟨h1, W'⟩ := hr
  cases r with
  | none => exact h1.elim
  | some v =>
    obtain ⟨x, rfl, a1, a2, -⟩ := ck_int h1.1 rfl
    exact kk x h' (by have b1 : (0 : Int) ≤ x := a1; have b2 : x ≤ 1 := a2; omega) W'
/-- the end of both: the parser has stopped -/
theorem ro_ok (hd0 : 0 < d) (hb : ck_H l D cA ad cw_sp cw_fi cw_K cw_pr v0 (cw_mt 116) cw_t116_0) (W : ck_W cw_sp cw_fi cw_K cw_pr v0 h) {x : Int} (hx : 16 < x) (hr : ja_r x) (hQ : ∀ h', ck_W cw_sp cw_fi cw_K cw_pr v0 h' → Q (some (0, 0)) h') :
    ja_M l D cA ad cw_sp cw_K d yX5_readyForOperand cX5_readyForOperand 2 (some .boolean) [(2, ((4 : Nat) : Int)), (0, x)] h Q := by
  show ja_J l D cA ad cw_sp cw_K d RX5 cX5_readyForOperand 2 (some .boolean) 0 [(0, (2, ((4 : Nat) : Int))), (1, (0, x))] [] h Q
  have hend : ∀ h', ck_W cw_sp cw_fi cw_K cw_pr v0 h' → h' 4 8 = 1 → ja_J l D cA ad cw_sp cw_K d RX5 cX5_readyForOperand 2 (some .boolean) 26 [(0, (2, ((4 : Nat) : Int))), (1, (0, x))] [] h' Q := by
    intro h' W' h8
    refine ja_aload_n ro_d26 rfl rfl ?_
    refine rf_get 37 8 5127 (by decide +kernel) (by decide) (by decide +kernel) ro_d27 ?_
    refine ja_if_ne 37 ro_d30 rfl ⟨by omega, by omega⟩ (fun _ => ?_) (fun q => absurd q (by omega))
    refine ja_iconst ro_d37 ?_
    exact ja_zreturn ro_d38 rfl (.inl rfl) (hQ h' W')
  refine ja_aload_n ro_d0 rfl rfl ?_
  refine ro_call hd0 hb W ro_d1 (fun b h1 hb1 W1 => ?_)
  refine ja_if_ne 15 ro_d4 rfl ⟨by omega, by omega⟩ (fun _ => ?_) (fun _ => ?_)
  · refine ja_iload_n ro_d15 rfl rfl ?_
    refine ja_bipush 16 ro_d16 rfl ?_
    refine ja_icmp_le 26 ro_d18 rfl hr ⟨by decide, by decide⟩ (fun q => absurd q (by omega)) (fun _ => ?_)
    refine ja_aload_n ro_d21 rfl rfl ?_
    refine ja_iconst ro_d22 ?_
    exact rf_call hd0 W1 ⟨by decide, by decide⟩ ro_d23 hend
  · refine ja_aload_n ro_d7 rfl rfl ?_
    refine ja_iconst ro_d8 ?_
    refine rf_call hd0 W1 ⟨by decide, by decide⟩ ro_d9 (fun h2 W2 h8 => ?_)
    exact ja_goto 26 ro_d12 rfl (hend h2 W2 h8)
theorem rp_ok (hd0 : 0 < d) (W : ck_W cw_sp cw_fi cw_K cw_pr v0 h) {x y : Int} (hx : 16 < x) (hr : ja_r x) (hy : ja_r y) (hQ : ∀ h', ck_W cw_sp cw_fi cw_K cw_pr v0 h' → Q (some (0, 0)) h') :
    ja_M l D cA ad cw_sp cw_K d yX5_readyForPick cX5_readyForPick 4 (some .boolean) [(2, ((4 : Nat) : Int)), (0, x), (0, y)] h Q := by
  show ja_J l D cA ad cw_sp cw_K d RX5 cX5_readyForPick 4 (some .boolean) 0 [(0, (2, ((4 : Nat) : Int))), (1, (0, x)), (2, (0, y))] [] h Q
  have hend : ∀ L h', ja_g L 0 = some (2, ((4 : Nat) : Int)) → ck_W cw_sp cw_fi cw_K cw_pr v0 h' → h' 4 8 = 1 → ja_J l D cA ad cw_sp cw_K d RX5 cX5_readyForPick 4 (some .boolean) 194 L [] h' Q := by
    intro L h' hL W' h8
    refine ja_aload_n rp_d194 rfl hL ?_
    refine rf_get 37 8 5127 (by decide +kernel) (by decide) (by decide +kernel) rp_d195 ?_
    refine ja_if_ne 205 rp_d198 rfl ⟨by omega, by omega⟩ (fun _ => ?_) (fun q => absurd q (by omega))
    refine ja_iconst rp_d205 ?_
    exact ja_zreturn rp_d206 rfl (.inl rfl) (hQ h' W')
  have hmid : ∀ z, z = 0 ∨ z = 1 → ja_J l D cA ad cw_sp cw_K d RX5 cX5_readyForPick 4 (some .boolean) 171 [(3, (0, z)), (0, (2, ((4 : Nat) : Int))), (1, (0, x)), (2, (0, y))] [] h Q := by
    intro z hz
    refine ja_iload_n rp_d171 rfl rfl ?_
    refine ja_if_ne 183 rp_d172 rfl ⟨by omega, by omega⟩ (fun _ => ?_) (fun _ => ?_)
    · refine ja_iload_n rp_d183 rfl rfl ?_
      refine ja_bipush 16 rp_d184 rfl ?_
      refine ja_icmp_le 194 rp_d186 rfl hr ⟨by decide, by decide⟩ (fun q => absurd q (by omega)) (fun _ => ?_)
      refine ja_aload_n rp_d189 rfl rfl ?_
      refine ja_iconst rp_d190 ?_
      exact rf_call hd0 W ⟨by decide, by decide⟩ rp_d191 (fun h2 W2 h8 => hend _ h2 rfl W2 h8)
    · refine ja_aload_n rp_d175 rfl rfl ?_
      refine ja_iconst rp_d176 ?_
      refine rf_call hd0 W ⟨by decide, by decide⟩ rp_d177 (fun h2 W2 h8 => ?_)
      exact ja_goto 194 rp_d180 rfl (hend _ h2 rfl W2 h8)
  have h136 : ja_J l D cA ad cw_sp cw_K d RX5 cX5_readyForPick 4 (some .boolean) 136 [(0, (2, ((4 : Nat) : Int))), (1, (0, x)), (2, (0, y))] [] h Q := by
    refine ja_iconst rp_d136 ?_
    refine ja_istore_n rp_d137 rfl (by decide) rfl ?_
    exact ja_goto 171 rp_d138 rfl (hmid 1 (.inr rfl))
  have h169 : ja_J l D cA ad cw_sp cw_K d RX5 cX5_readyForPick 4 (some .boolean) 169 [(0, (2, ((4 : Nat) : Int))), (1, (0, x)), (2, (0, y))] [] h Q := by
    refine ja_iconst rp_d169 ?_
    refine ja_istore_n rp_d170 rfl (by decide) rfl ?_
    exact hmid 0 (.inl rfl)
  have h141 : ja_J l D cA ad cw_sp cw_K d RX5 cX5_readyForPick 4 (some .boolean) 141 [(0, (2, ((4 : Nat) : Int))), (1, (0, x)), (2, (0, y))] [] h Q := by
    have h151 : ∀ z, z = 0 ∨ z = 1 → ja_J l D cA ad cw_sp cw_K d RX5 cX5_readyForPick 4 (some .boolean) 151 [(0, (2, ((4 : Nat) : Int))), (1, (0, x)), (2, (0, y))] [(0, z)] h Q := by
      intro z hz
      refine ja_istore_n rp_d151 rfl (by decide) rfl ?_
      exact ja_goto 171 rp_d152 rfl (hmid z hz)
    refine ja_iload_n rp_d141 rfl rfl ?_
    refine ja_iconst rp_d142 ?_
    refine ja_icmp_ge 150 rp_d143 rfl hy ⟨by decide, by decide⟩ (fun _ => ?_) (fun _ => ?_)
    · refine ja_iconst rp_d150 ?_
      exact h151 0 (.inl rfl)
    · refine ja_iconst rp_d146 ?_
      exact ja_goto 151 rp_d147 rfl (h151 1 (.inr rfl))
  have h155 : ja_J l D cA ad cw_sp cw_K d RX5 cX5_readyForPick 4 (some .boolean) 155 [(0, (2, ((4 : Nat) : Int))), (1, (0, x)), (2, (0, y))] [] h Q := by
    have h165 : ∀ z, z = 0 ∨ z = 1 → ja_J l D cA ad cw_sp cw_K d RX5 cX5_readyForPick 4 (some .boolean) 165 [(0, (2, ((4 : Nat) : Int))), (1, (0, x)), (2, (0, y))] [(0, z)] h Q := by
      intro z hz
      refine ja_istore_n rp_d165 rfl (by decide) rfl ?_
      exact ja_goto 171 rp_d166 rfl (hmid z hz)
    refine ja_iload_n rp_d155 rfl rfl ?_
    refine ja_iconst rp_d156 ?_
    refine ja_icmp_ge 164 rp_d157 rfl hy ⟨by decide, by decide⟩ (fun _ => ?_) (fun _ => ?_)
    · refine ja_iconst rp_d164 ?_
      exact h165 0 (.inl rfl)
    · refine ja_iconst rp_d160 ?_
      exact ja_goto 165 rp_d161 rfl (h165 1 (.inr rfl))
  refine ja_aload_n rp_d0 rfl rfl ?_
  refine rf_get 54 5 5124 (by decide +kernel) (by decide) (by decide +kernel) rp_d1 ?_
  have hk := rf_r 5 (by decide +kernel) (by decide +kernel) (by decide +kernel) W
  rcases ck_look [(2, 151), (17, 132), (31, 132), (37, 132), (38, 132), (44, 137), (45, 132), (48, 132), (53, 132), (57, 132), (64, 132), (65, 132), (66, 132), (67, 132), (73, 132)] 165 (h 4 5) with e | ⟨q, hq, e⟩
  · exact ja_lookup _ 169 rp_d4 (by decide) hk e rfl h169
  · have hq2 : q.2 = 151 ∨ q.2 = 132 ∨ q.2 = 137 := by
      have := List.all_eq_true.mp (show ([(2, 151), (17, 132), (31, 132), (37, 132), (38, 132), (44, 137), (45, 132), (48, 132), (53, 132), (57, 132), (64, 132), (65, 132), (66, 132), (67, 132), (73, 132)] : List (Int × Int)).all (fun q => decide (q.2 = 151 ∨ q.2 = 132 ∨ q.2 = 137)) = true by decide) q hq
      exact of_decide_eq_true this
    rcases hq2 with e2 | e2 | e2
    · exact ja_lookup 151 155 rp_d4 (by decide) hk (e.trans e2) rfl h155
    · exact ja_lookup 132 136 rp_d4 (by decide) hk (e.trans e2) rfl h136
    · exact ja_lookup 137 141 rp_d4 (by decide) hk (e.trans e2) rfl h141
end
