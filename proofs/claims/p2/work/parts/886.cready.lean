/-! the contexts of readyForOperand and readyForPick that are answered by hand -/
theorem ro_mt : cw_mt 159 = (yX5_readyForOperand, cX5_readyForOperand, (2, (some .boolean)), (5, 1, false), (5706, 5705, 512, 4871)) := rfl
theorem rp_mt : cw_mt 160 = (yX5_readyForPick, cX5_readyForPick, (4, (some .boolean)), (5, 2, false), (5839, 5838, 1025, 4871)) := rfl
theorem ro_sb : cw_t116_0 ∈ cw_ss 116 := by
  show cw_t116_0 ∈ [cw_t116_0]
  exact List.mem_singleton.mpr rfl
theorem ro_ss : cw_ss 159 = ([(2, 1), (3, 1), (4, 1), (5, 1), (6, 1), (7, 1), (8, 1), (9, 1), (10, 1), (11, 1), (12, 1), (13, 1), (14, 1), (15, 1), (16, 1)] : List (Int × Nat)).map (fun p => cw_t159_0 p.1 p.2) ++ ([(17, 4), (18, 4), (19, 4), (20, 4), (21, 4), (22, 4)] : List (Int × Nat)).map (fun p => cw_t159_1 p.1 p.2) := rfl
theorem rp_ss : cw_ss 160 = ([(1, 1), (2, 1), (3, 1), (4, 1), (5, 1), (6, 1), (7, 1), (8, 1), (9, 1), (10, 1), (11, 1), (12, 1), (13, 1), (14, 1), (15, 1), (16, 1)] : List (Int × Nat)).map (fun p => cw_t160_0 p.1 p.2) ++ ([(17, 4), (18, 4), (19, 4)] : List (Int × Nat)).map (fun p => cw_t160_1 p.1 p.2) := rfl
section
variable {l : Launch} {D : va_G} {cA : Nat → ClassId} {ad : Nat → Nat} {v0 : Int}
theorem ro_q {h : ja_H} (W : ck_W cw_sp cw_fi cw_K cw_pr v0 h) : ck_rok (some (ck_i 0 0)) (some (0, 0)) ∧ ck_W cw_sp cw_fi cw_K cw_pr v0 h :=
  ⟨⟨.inl ⟨rfl, rfl, Int.le_refl _, Int.le_refl _, ⟨by decide, by decide⟩, fun i q => (by cases q), fun q => (by cases q)⟩, fun i q => (by cases q)⟩, W⟩
theorem ro_H (hb : ck_H l D cA ad cw_sp cw_fi cw_K cw_pr v0 (cw_mt 116) cw_t116_0) : ∀ s ∈ cw_ss 159, s.2.2.2 = [] → ck_H l D cA ad cw_sp cw_fi cw_K cw_pr v0 (cw_mt 159) s := by
  rw [ro_ss, ro_mt]
  intro s hs he
  rcases List.mem_append.mp hs with q | q
  · obtain ⟨p, hp, rfl⟩ := List.mem_map.mp q
    cases he
  · obtain ⟨p, hp, rfl⟩ := List.mem_map.mp q
    have hp2 : 16 < p.1 ∧ p.1 < 100 ∧ p.2 = 4 := of_decide_eq_true (List.all_eq_true.mp (show ([(17, 4), (18, 4), (19, 4), (20, 4), (21, 4), (22, 4)] : List (Int × Nat)).all (fun p => decide (16 < p.1 ∧ p.1 < 100 ∧ p.2 = 4)) = true by decide) p hp)
    obtain ⟨D0, d0⟩ := p
    obtain ⟨a1, a2, a3⟩ := hp2
    have a3' : d0 = 4 := a3
    subst a3'
    intro vals h hv W
    obtain ⟨v, vs, rfl, hv1, hv2⟩ := ck_cons hv
    obtain ⟨w, ws, rfl, hw1, hw2⟩ := ck_cons hv2
    cases ck_nil hw2
    have e1 := ck_ref2 hv1.1 rfl
    subst e1
    obtain ⟨x, rfl, b1, b2, b3, -⟩ := ck_int hw1.1 rfl
    have c1 : D0 ≤ x := b1
    exact ro_ok (show (0 : Nat) < 4 by decide) hb W (by have : 16 < D0 := a1; omega) b3 (fun h' W' => ro_q W')
theorem rp_H : ∀ s ∈ cw_ss 160, s.2.2.2 = [] → ck_H l D cA ad cw_sp cw_fi cw_K cw_pr v0 (cw_mt 160) s := by
  rw [rp_ss, rp_mt]
  intro s hs he
  rcases List.mem_append.mp hs with q | q
  · obtain ⟨p, hp, rfl⟩ := List.mem_map.mp q
    cases he
  · obtain ⟨p, hp, rfl⟩ := List.mem_map.mp q
    have hp2 : 16 < p.1 ∧ p.1 < 100 ∧ p.2 = 4 := of_decide_eq_true (List.all_eq_true.mp (show ([(17, 4), (18, 4), (19, 4)] : List (Int × Nat)).all (fun p => decide (16 < p.1 ∧ p.1 < 100 ∧ p.2 = 4)) = true by decide) p hp)
    obtain ⟨D0, d0⟩ := p
    obtain ⟨a1, a2, a3⟩ := hp2
    have a3' : d0 = 4 := a3
    subst a3'
    intro vals h hv W
    obtain ⟨v, vs, rfl, hv1, hv2⟩ := ck_cons hv
    obtain ⟨w, ws, rfl, hw1, hw2⟩ := ck_cons hv2
    obtain ⟨u, us, rfl, hu1, hu2⟩ := ck_cons hw2
    cases ck_nil hu2
    have e1 := ck_ref2 hv1.1 rfl
    subst e1
    obtain ⟨x, rfl, b1, b2, b3, -⟩ := ck_int hw1.1 rfl
    obtain ⟨y, rfl, f1, f2, f3, -⟩ := ck_int hu1.1 rfl
    have c1 : D0 ≤ x := b1
    exact rp_ok (show (0 : Nat) < 4 by decide) W (by have : 16 < D0 := a1; omega) b3 f3 (fun h' W' => ro_q W')
end
