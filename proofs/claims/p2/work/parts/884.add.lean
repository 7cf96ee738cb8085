/-! Table.add, by hand: its rows stay within its room -/
theorem ta_d0 : decode cX8_add 0 = .ok (.aload_n 0, 1) := by decide +kernel
theorem ta_d1 : decode cX8_add 1 = .ok (.getfield 19, 3) := by decide +kernel
theorem ta_d4 : decode cX8_add 4 = .ok (.aload_n 0, 1) := by decide +kernel
theorem ta_d5 : decode cX8_add 5 = .ok (.getfield 9, 3) := by decide +kernel
theorem ta_d8 : decode cX8_add 8 = .ok (.imul, 1) := by decide +kernel
theorem ta_d9 : decode cX8_add 9 = .ok (.istore_n 1, 1) := by decide +kernel
theorem ta_d10 : decode cX8_add 10 = .ok (.iload_n 1, 1) := by decide +kernel
theorem ta_d11 : decode cX8_add 11 = .ok (.ifCond .lt 17, 3) := by decide +kernel
theorem ta_d14 : decode cX8_add 14 = .ok (.iload_n 1, 1) := by decide +kernel
theorem ta_d15 : decode cX8_add 15 = .ok (.aload_n 0, 1) := by decide +kernel
theorem ta_d16 : decode cX8_add 16 = .ok (.getfield 9, 3) := by decide +kernel
theorem ta_d19 : decode cX8_add 19 = .ok (.iadd, 1) := by decide +kernel
theorem ta_d20 : decode cX8_add 20 = .ok (.aload_n 0, 1) := by decide +kernel
theorem ta_d21 : decode cX8_add 21 = .ok (.getfield 15, 3) := by decide +kernel
theorem ta_d24 : decode cX8_add 24 = .ok (.arraylength, 1) := by decide +kernel
theorem ta_d25 : decode cX8_add 25 = .ok (.if_icmp .le 5, 3) := by decide +kernel
theorem ta_d28 : decode cX8_add 28 = .ok (.iconst (-1), 1) := by decide +kernel
theorem ta_d29 : decode cX8_add 29 = .ok (.ireturn, 1) := by decide +kernel
theorem ta_d30 : decode cX8_add 30 = .ok (.iload_n 1, 1) := by decide +kernel
theorem ta_d31 : decode cX8_add 31 = .ok (.istore_n 2, 1) := by decide +kernel
theorem ta_d32 : decode cX8_add 32 = .ok (.iload_n 2, 1) := by decide +kernel
theorem ta_d33 : decode cX8_add 33 = .ok (.iload_n 1, 1) := by decide +kernel
theorem ta_d34 : decode cX8_add 34 = .ok (.aload_n 0, 1) := by decide +kernel
theorem ta_d35 : decode cX8_add 35 = .ok (.getfield 9, 3) := by decide +kernel
theorem ta_d38 : decode cX8_add 38 = .ok (.iadd, 1) := by decide +kernel
theorem ta_d39 : decode cX8_add 39 = .ok (.if_icmp .ge 16, 3) := by decide +kernel
theorem ta_d42 : decode cX8_add 42 = .ok (.aload_n 0, 1) := by decide +kernel
theorem ta_d43 : decode cX8_add 43 = .ok (.getfield 15, 3) := by decide +kernel
theorem ta_d46 : decode cX8_add 46 = .ok (.iload_n 2, 1) := by decide +kernel
theorem ta_d47 : decode cX8_add 47 = .ok (.iconst (-1), 1) := by decide +kernel
theorem ta_d48 : decode cX8_add 48 = .ok (.iastore, 1) := by decide +kernel
theorem ta_d49 : decode cX8_add 49 = .ok (.iinc 2 1, 3) := by decide +kernel
theorem ta_d52 : decode cX8_add 52 = .ok (.goto (-20), 3) := by decide +kernel
theorem ta_d55 : decode cX8_add 55 = .ok (.aload_n 0, 1) := by decide +kernel
theorem ta_d56 : decode cX8_add 56 = .ok (.dup, 1) := by decide +kernel
theorem ta_d57 : decode cX8_add 57 = .ok (.getfield 19, 3) := by decide +kernel
theorem ta_d60 : decode cX8_add 60 = .ok (.iconst 1, 1) := by decide +kernel
theorem ta_d61 : decode cX8_add 61 = .ok (.iadd, 1) := by decide +kernel
theorem ta_d62 : decode cX8_add 62 = .ok (.putfield 19, 3) := by decide +kernel
theorem ta_d65 : decode cX8_add 65 = .ok (.aload_n 0, 1) := by decide +kernel
theorem ta_d66 : decode cX8_add 66 = .ok (.getfield 19, 3) := by decide +kernel
theorem ta_d69 : decode cX8_add 69 = .ok (.iconst 1, 1) := by decide +kernel
theorem ta_d70 : decode cX8_add 70 = .ok (.isub, 1) := by decide +kernel
theorem ta_d71 : decode cX8_add 71 = .ok (.ireturn, 1) := by decide +kernel
theorem ta_ne : cw_ss 205 ≠ [] := fun h => absurd (congrArg List.isEmpty h) (by decide +kernel)
theorem ta_w {idx j pl : Nat} (e : cw_pf 8 idx = some (idx, 0, 8, j, pl)) : Cond.fieldLink RX8 idx (TX8 j).1 (TX8 j).2.1 (TX8 j).2.2.1 ∈ ja_B := by
  obtain ⟨r, hr, hm⟩ := (cw_plok 205 ta_ne idx _ e).2.1 rfl
  have hr' : some (RX8, TX8, 3) = some r := hr
  cases hr'
  exact hm
theorem ta_w9 : Cond.fieldLink RX8 9 (TX8 1).1 (TX8 1).2.1 (TX8 1).2.2.1 ∈ ja_B := ta_w (pl := 4911) (by decide +kernel)
theorem ta_w15 : Cond.fieldLink RX8 15 (TX8 0).1 (TX8 0).2.1 (TX8 0).2.2.1 ∈ ja_B := ta_w (pl := 4910) (by decide +kernel)
theorem ta_w19 : Cond.fieldLink RX8 19 (TX8 2).1 (TX8 2).2.1 (TX8 2).2.2.1 ∈ ja_B := ta_w (pl := 4912) (by decide +kernel)
/-- a table at cell k: its array at cell a, of n places, its rows w wide, at most c -/
abbrev ta_T (sp : ja_S) (fi : Nat → Nat → Int × Int) (K : Nat) (pr : Nat × Nat) (k a n : Nat) (w c : Int) : Prop :=
  (k < K ∧ a < K ∧ (sp k).1 = (8, 3) ∧ (sp a).1 = (100, n) ∧ (sp k).2 0 = a + 2 ∧ (sp k).2 1 = 0 ∧ (sp k).2 2 = 0) ∧
  (fi k 1 = (w, w) ∧ fi k 2 = (0, c) ∧ fi a 0 = (-2147483648, 2147483647)) ∧ (0 < w ∧ 0 ≤ c ∧ c * w ≤ n ∧ (n : Int) < (c + 1) * w ∧ n < 1000000 ∧ w < 1000000 ∧ c < 1000000) ∧ k ≠ pr.1
section
variable {l : Launch} {D : va_G} {cA : Nat → ClassId} {ad : Nat → Nat} {sp : ja_S} {fi : Nat → Nat → Int × Int} {K d : Nat} {pr : Nat × Nat} {v0 : Int} {k a n : Nat} {w c : Int} {Q : Option ja_V → ja_H → Prop}
theorem ta_wb (T : ta_T sp fi K pr k a n w c) : w ≤ 2147483647 - 1000000 := by have := T.2.2.1; omega
theorem ta_cb (T : ta_T sp fi K pr k a n w c) : c < 1000000 := by have := T.2.2.1; omega
theorem ta_1 (T : ta_T sp fi K pr k a n w c) {h : ja_H} (W : ck_W sp fi K pr v0 h) : h k 1 = w := by
  have e := W.1 k 1 T.1.1 (by rw [T.1.2.2.1]; decide) (by unfold ck_il; rw [T.1.2.2.1, T.1.2.2.2.2.2.1]; rfl)
  unfold ck_fi at e
  rw [T.1.2.2.1, if_pos (by decide), T.2.1.1] at e
  exact Int.le_antisymm e.2 e.1
theorem ta_2 (T : ta_T sp fi K pr k a n w c) {h : ja_H} (W : ck_W sp fi K pr v0 h) : 0 ≤ h k 2 ∧ h k 2 ≤ c := by
  have e := W.1 k 2 T.1.1 (by rw [T.1.2.2.1]; decide) (by unfold ck_il; rw [T.1.2.2.1, T.1.2.2.2.2.2.2]; rfl)
  unfold ck_fi at e
  rw [T.1.2.2.1, if_pos (by decide), T.2.1.2.1] at e
  exact e
theorem ta_x0 (T : ta_T sp fi K pr k a n w c) (h : ja_H) : ja_fx sp h k 0 = (2, (a : Int)) := by
  unfold ja_fx; rw [T.1.2.2.2.2.1]
theorem ta_x1 (T : ta_T sp fi K pr k a n w c) (h : ja_H) : ja_fx sp h k 1 = (0, h k 1) := by
  unfold ja_fx; rw [T.1.2.2.2.2.2.1]
theorem ta_x2 (T : ta_T sp fi K pr k a n w c) (h : ja_H) : ja_fx sp h k 2 = (0, h k 2) := by
  unfold ja_fx; rw [T.1.2.2.2.2.2.2]
theorem ta_g0 (T : ta_T sp fi K pr k a n w c) {pc : Nat} {L : List (Nat × ja_V)} {S : List ja_V} {h : ja_H} (hd : decode cX8_add pc = .ok (.getfield 15, 3)) (kk : ja_J l D cA ad sp K d RX8 cX8_add 3 (some .int) (pc + 3) L ((2, (a : Int)) :: S) h Q) : ja_J l D cA ad sp K d RX8 cX8_add 3 (some .int) pc L ((2, (k : Int)) :: S) h Q := by
  refine ja_get (ci := 8) (j := 0) (N := 3) (C := RX8) (T := TX8) T.1.1 T.1.2.2.1 (by decide) rfl (by decide) cl_in8 ta_w15 hd ?_
  rw [ta_x0 T]; exact kk
theorem ta_g1 (T : ta_T sp fi K pr k a n w c) {pc : Nat} {L : List (Nat × ja_V)} {S : List ja_V} {h : ja_H} (W : ck_W sp fi K pr v0 h) (hd : decode cX8_add pc = .ok (.getfield 9, 3)) (kk : ja_J l D cA ad sp K d RX8 cX8_add 3 (some .int) (pc + 3) L ((0, w) :: S) h Q) : ja_J l D cA ad sp K d RX8 cX8_add 3 (some .int) pc L ((2, (k : Int)) :: S) h Q := by
  refine ja_get (ci := 8) (j := 1) (N := 3) (C := RX8) (T := TX8) T.1.1 T.1.2.2.1 (by decide) rfl (by decide) cl_in8 ta_w9 hd ?_
  rw [ta_x1 T, ta_1 T W]; exact kk
theorem ta_g2 (T : ta_T sp fi K pr k a n w c) {pc : Nat} {L : List (Nat × ja_V)} {S : List ja_V} {h : ja_H} (hd : decode cX8_add pc = .ok (.getfield 19, 3)) (kk : ja_J l D cA ad sp K d RX8 cX8_add 3 (some .int) (pc + 3) L ((0, h k 2) :: S) h Q) : ja_J l D cA ad sp K d RX8 cX8_add 3 (some .int) pc L ((2, (k : Int)) :: S) h Q := by
  refine ja_get (ci := 8) (j := 2) (N := 3) (C := RX8) (T := TX8) T.1.1 T.1.2.2.1 (by decide) rfl (by decide) cl_in8 ta_w19 hd ?_
  rw [ta_x2 T]; exact kk
theorem ta_L (T : ta_T sp fi K pr k a n w c) (hA : (sp pr.1).1.1 < 13) {f r : Int} (h0 : 0 ≤ f) (hfw : f + w ≤ n) (kk : ∀ h : ja_H, ck_W sp fi K pr v0 h → h k 2 = r → ja_J l D cA ad sp K d RX8 cX8_add 3 (some .int) 55 [(2, (0, f + w)), (1, (0, f)), (0, (2, (k : Int)))] [] h Q) :
    ∀ (m : Nat) (i : Int) (h : ja_H), i + m = f + w → f ≤ i → ck_W sp fi K pr v0 h → h k 2 = r → ja_J l D cA ad sp K d RX8 cX8_add 3 (some .int) 32 [(2, (0, i)), (1, (0, f)), (0, (2, (k : Int)))] [] h Q := by
  have hn := T.2.2.1
  intro m
  induction m with
  | zero =>
    intro i h hi hf W hr
    have hi : i = f + w := by omega
    subst hi
    refine ja_iload_n ta_d32 rfl rfl ?_
    refine ja_iload_n ta_d33 rfl rfl ?_
    refine ja_aload_n ta_d34 rfl rfl ?_
    refine ta_g1 T W ta_d35 ?_
    refine ja_iadd ta_d38 ?_
    refine ja_icmp_ge 55 ta_d39 rfl ⟨by omega, by omega⟩ ⟨by omega, by omega⟩ (fun _ => kk h W hr) (fun q => absurd (Int.le_refl _) q)
  | succ m ih =>
    intro i h hi hf W hr
    refine ja_iload_n ta_d32 rfl rfl ?_
    refine ja_iload_n ta_d33 rfl rfl ?_
    refine ja_aload_n ta_d34 rfl rfl ?_
    refine ta_g1 T W ta_d35 ?_
    refine ja_iadd ta_d38 ?_
    refine ja_icmp_ge 55 ta_d39 rfl ⟨by omega, by omega⟩ ⟨by omega, by omega⟩ (fun q => absurd q (by omega)) (fun _ => ?_)
    refine ja_aload_n ta_d42 rfl rfl ?_
    refine ta_g0 T ta_d43 ?_
    refine ja_iload_n ta_d46 rfl rfl ?_
    refine ja_iconst ta_d47 ?_
    refine ja_iast T.1.2.1 T.1.2.2.2.1 (by omega) (by omega) (by omega) ta_d48 ?_
    refine ja_iinc ta_d49 rfl (by decide) rfl ?_
    refine ja_goto 32 ta_d52 rfl ?_
    have hka : k ≠ a := by
      intro e
      have h1 := T.1.2.2.1
      rw [e, T.1.2.2.2.1] at h1
      exact absurd (show (100 : Nat) = 8 from congrArg Prod.fst h1) (by decide)
    refine ih (i + 1) _ (by omega) (by omega) (ck_W_up W (fun _ => ?_) (ck_prA (kd := 100) hA (by rw [T.1.2.2.2.1]) (by decide))) ?_
    · unfold ck_fi
      rw [if_neg (by rw [T.1.2.2.2.1]; exact (by decide : ¬ (100 : Nat) < 13)), T.2.1.2.2]
      exact ⟨by decide, by decide⟩
    · unfold ja_up
      rw [if_neg (fun q => hka q.1)]
      exact hr
theorem ta_add (T : ta_T sp fi K pr k a n w c) (hA : (sp pr.1).1.1 < 13) {h : ja_H} (W : ck_W sp fi K pr v0 h) (hQ : ∀ (x : Int) (h' : ja_H), -1 ≤ x → x < c ∨ x = -1 → ck_W sp fi K pr v0 h' → Q (some (0, x)) h') :
    ja_M l D cA ad sp K d yX8_add cX8_add 3 (some .int) [(2, (k : Int))] h Q := by
  have hn := T.2.2.1
  have h2 := ta_2 T W
  have hb : 0 ≤ h k 2 * w := Int.mul_nonneg h2.1 (by omega)
  have hb2 : h k 2 * w ≤ c * w := Int.mul_le_mul_of_nonneg_right h2.2 (by omega)
  have hw : w ≤ n ∨ c = 0 := by
    rcases Int.lt_or_le 0 c with q | q
    · left
      have : 1 * w ≤ c * w := Int.mul_le_mul_of_nonneg_right (by omega) (by omega)
      omega
    · right; omega
  have hww : w < 1000001 ∨ c = 0 := by omega
  show ja_J l D cA ad sp K d RX8 cX8_add 3 (some .int) 0 [(0, (2, (k : Int)))] [] h Q
  refine ja_aload_n ta_d0 rfl rfl ?_
  refine ta_g2 T ta_d1 ?_
  refine ja_aload_n ta_d4 rfl rfl ?_
  refine ta_g1 T W ta_d5 ?_
  refine ja_imul ta_d8 ?_
  refine ja_istore_n (L2 := [(1, (0, h k 2 * w)), (0, (2, (k : Int)))]) ta_d9 rfl (by decide) rfl ?_
  refine ja_iload_n ta_d10 rfl rfl ?_
  refine ja_if_lt 28 ta_d11 rfl ⟨by omega, by omega⟩ (fun q => absurd q (by omega)) (fun _ => ?_)
  refine ja_iload_n ta_d14 rfl rfl ?_
  refine ja_aload_n ta_d15 rfl rfl ?_
  refine ta_g1 T W ta_d16 ?_
  refine ja_iadd ta_d19 ?_
  refine ja_aload_n ta_d20 rfl rfl ?_
  refine ta_g0 T ta_d21 ?_
  refine ja_alen T.1.2.1 T.1.2.2.2.1 (.inl rfl) ta_d24 ?_
  refine ja_icmp_le 30 ta_d25 rfl ⟨by omega, ?_⟩ ⟨by omega, by omega⟩ (fun hle => ?_) (fun _ => ?_)
  · have hwr := T.2.2.1
    have e := ta_1 T W
    have : w ≤ 2147483647 - 1000000 := ta_wb T
    omega
  · refine ja_iload_n ta_d30 rfl rfl ?_
    refine ja_istore_n (L2 := [(2, (0, h k 2 * w)), (1, (0, h k 2 * w)), (0, (2, (k : Int)))]) ta_d31 rfl (by decide) rfl ?_
    have hlt : h k 2 < c := by
      rcases Int.lt_or_le (h k 2) c with q | q
      · exact q
      · exfalso
        have e : h k 2 = c := by omega
        have e2 : (c + 1) * w = c * w + w := by rw [Int.add_mul, Int.one_mul]
        rw [e] at hle
        omega
    refine ta_L T hA (f := h k 2 * w) (r := h k 2) hb hle (fun h' W' hr => ?_) w.toNat _ h (by omega) (Int.le_refl _) W rfl
    refine ja_aload_n ta_d55 rfl rfl ?_
    refine ja_dup ta_d56 (show (2 : Nat) ≠ 1 by decide) ?_
    refine ta_g2 T ta_d57 ?_
    rw [hr]
    refine ja_iconst ta_d60 ?_
    refine ja_iadd ta_d61 ?_
    refine ja_putI (x := h k 2 + 1) (ci := 8) (j := 2) (N := 3) (C := RX8) (T := TX8) T.1.1 T.1.2.2.1 (by decide) rfl (by decide) cl_in8 tyX8 tyX8_ok nmX8 rfl T.1.2.2.2.2.2.2 rfl ta_w19 ta_d62 ?_
    have W2 : ck_W sp fi K pr v0 (ja_up h' k 2 (h k 2 + 1)) := ck_W_up W' (fun _ => by
      unfold ck_fi
      rw [if_pos (by rw [T.1.2.2.1]; decide), T.2.1.2.1]
      exact ⟨by show (0 : Int) ≤ _; omega, by show _ ≤ c; omega⟩) (fun q => T.2.2.2 q.1)
    refine ja_aload_n ta_d65 rfl rfl ?_
    refine ta_g2 T ta_d66 ?_
    have e : ja_up h' k 2 (h k 2 + 1) k 2 = h k 2 + 1 := by simp [ja_up]
    rw [e]
    refine ja_iconst ta_d69 ?_
    refine ja_isub ta_d70 ?_
    exact ja_ireturn ta_d71 rfl (hQ _ _ (by omega) (.inl (by omega)) W2)
  · refine ja_iconst ta_d28 ?_
    exact ja_ireturn ta_d29 rfl (hQ _ _ (by omega) (.inr rfl) W)
end
def ta_ts : List (Nat × Nat × Nat × Int × Int × Int) := [(14, 15, 1808, 2, 904, 903), (16, 17, 4510, 5, 902, 901), (18, 19, 108, 9, 12, 11), (44, 45, 1800, 2, 900, 899), (36, 37, 10800, 4, 2700, 2699), (34, 35, 2800, 7, 400, 399), (38, 39, 384, 3, 128, 127), (52, 53, 20, 2, 10, 9), (24, 25, 40, 5, 8, 7), (48, 49, 1800, 2, 900, 899), (20, 21, 1500, 5, 300, 299), (26, 27, 320, 4, 80, 79), (22, 23, 420, 7, 60, 59), (46, 47, 540, 3, 180, 179), (40, 41, 9040, 10, 904, 903), (42, 43, 3600, 4, 900, 899), (30, 31, 144, 6, 24, 23), (28, 29, 168, 7, 24, 23), (32, 33, 36, 3, 12, 11), (55, 56, 4800, 1, 4800, 4799), (50, 51, 24, 1, 24, 23), (70, 71, 287, 7, 41, 40), (68, 69, 4368, 2, 2184, 2183), (76, 77, 252, 3, 84, 83), (66, 67, 600, 2, 300, 299), (57, 58, 200, 1, 200, 199)]
theorem ta_ts_ok : ∀ t ∈ ta_ts, ta_T cw_sp cw_fi cw_K cw_pr t.1 t.2.1 t.2.2.1 t.2.2.2.1 t.2.2.2.2.1 ∧ t.2.2.2.2.2 = t.2.2.2.2.1 - 1 := by decide +kernel
theorem ta_ss : cw_ss 205 = ta_ts.map (fun t => ((0 : Nat), [ck_rf t.1], some (ck_i (-1) t.2.2.2.2.2), ([] : List ck_C))) := rfl
theorem ta_mt : cw_mt 205 = (yX8_add, cX8_add, (3, (some .int)), (8, 0, false), (5480, 5478, 5479, 4867)) := rfl
theorem ta_H {l : Launch} {D : va_G} {cA : Nat → ClassId} {ad : Nat → Nat} {v0 : Int} : ∀ s ∈ cw_ss 205, ck_H l D cA ad cw_sp cw_fi cw_K cw_pr v0 (cw_mt 205) s := by
  rw [ta_ss, ta_mt]
  intro s hs
  obtain ⟨t, ht, rfl⟩ := List.mem_map.mp hs
  intro vals h hv W
  obtain ⟨v, vs, rfl, hv1, hv2⟩ := ck_cons hv
  cases ck_nil hv2
  have hv3 := ck_ref2 hv1.1 rfl
  subst hv3
  obtain ⟨T, hx⟩ := ta_ts_ok t ht
  have hc := T.2.2.1
  refine ta_add T cw_prA W (fun x h' h1 h2 W' => ⟨⟨.inl ⟨rfl, rfl, h1, ?_, ⟨?_, ?_⟩, fun i q => (by cases q), fun q => (by cases q)⟩, fun i q => (by cases q)⟩, W'⟩)
  · show x ≤ t.2.2.2.2.2
    omega
  · show -2147483648 ≤ x
    omega
  · show x ≤ 2147483647
    have := ta_cb T
    omega
