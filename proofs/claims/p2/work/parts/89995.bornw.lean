/-! the class at its birth keeps its ranges, its length is 0 -/
theorem cb_obj : (List.range 85).all (fun k => decide (13 ≤ (cw_sp k).1.1) || (List.range (cw_sp k).1.2).all (fun j => !ck_il cw_sp k j || (decide ((ck_fi cw_sp cw_fi k j).1 ≤ (cb_t.getD k []).getD j 0) && decide ((cb_t.getD k []).getD j 0 ≤ (ck_fi cw_sp cw_fi k j).2)))) = true := by decide +kernel
theorem cb_arr : (List.range 85).all (fun k => decide ((cw_sp k).1.1 < 13) || (decide ((cw_fi k 0).1 ≤ 0) && decide (0 ≤ (cw_fi k 0).2) && (cb_t.getD k []).isEmpty)) = true := by decide +kernel
theorem cb_10 : cw_fi 10 0 = (-2147483648, 2147483647) := by decide +kernel
theorem cb_k10 : (cw_sp 10).1.1 = 101 := rfl
theorem cb_hk {f : Nat → Int32} {k j : Nat} (hk : k ≠ 10) : cb_h f k j = (cb_t.getD k []).getD j 0 := by
  unfold cb_h
  split
  · exact absurd rfl hk
  · rfl
theorem cb_W {f : Nat → Int32} : ck_W cw_sp cw_fi cw_K cw_pr 0 (cb_h f) := by
  refine ⟨fun k j hk hj hil => ?_, rfl⟩
  have hk85 : k ∈ List.range 85 := List.mem_range.mpr hk
  by_cases e10 : k = 10
  · subst e10
    have e : ck_fi cw_sp cw_fi 10 j = cw_fi 10 0 := by unfold ck_fi; rw [if_neg (by decide)]
    rw [e, cb_10]
    exact ck_ofr _
  · rw [cb_hk e10]
    by_cases ho : (cw_sp k).1.1 < 13
    · have h1 := List.all_eq_true.mp cb_obj k hk85
      simp only [Bool.or_eq_true, decide_eq_true_eq] at h1
      rcases h1 with h1 | h1
      · omega
      · have h2 := List.all_eq_true.mp h1 j (List.mem_range.mpr hj)
        simp only [hil, Bool.not_true, Bool.false_or, Bool.and_eq_true, decide_eq_true_eq] at h2
        exact h2
    · have h1 := List.all_eq_true.mp cb_arr k hk85
      simp only [Bool.or_eq_true, decide_eq_true_eq, Bool.and_eq_true, List.isEmpty_iff] at h1
      rcases h1 with h1 | ⟨⟨h1, h2⟩, h3⟩
      · exact absurd h1 ho
      · rw [h3]
        have e : ck_fi cw_sp cw_fi k j = cw_fi k 0 := by unfold ck_fi; rw [if_neg ho]
        rw [e]
        exact ⟨h1, h2⟩
