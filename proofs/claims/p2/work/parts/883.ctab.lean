/-! the class's tables hold -/
theorem cw_mlo0 : cw_ml0.all ck_mchk = true := by decide +kernel
theorem cw_mlo1 : cw_ml1.all ck_mchk = true := by decide +kernel
theorem cw_mlo2 : cw_ml2.all ck_mchk = true := by decide +kernel
theorem cw_mlo3 : cw_ml3.all ck_mchk = true := by decide +kernel
theorem cw_mlo4 : cw_ml4.all ck_mchk = true := by decide +kernel
theorem cw_mlo5 : cw_ml5.all ck_mchk = true := by decide +kernel
theorem cw_mlo6 : cw_ml6.all ck_mchk = true := by decide +kernel
theorem cw_mlo7 : cw_ml7.all ck_mchk = true := by decide +kernel
theorem cw_mlo8 : cw_ml8.all ck_mchk = true := by decide +kernel
theorem cw_mlo9 : cw_ml9.all ck_mchk = true := by decide +kernel
theorem cw_mlo10 : cw_ml10.all ck_mchk = true := by decide +kernel
theorem cw_mlo11 : cw_ml11.all ck_mchk = true := by decide +kernel
theorem cw_mlo12 : cw_ml12.all ck_mchk = true := by decide +kernel
theorem cw_mlo13 : cw_ml13.all ck_mchk = true := by decide +kernel
theorem cw_mlo14 : cw_ml14.all ck_mchk = true := by decide +kernel
theorem cw_mlo15 : cw_ml15.all ck_mchk = true := by decide +kernel
theorem cw_mlo16 : cw_ml16.all ck_mchk = true := by decide +kernel
theorem cw_mlo17 : cw_ml17.all ck_mchk = true := by decide +kernel
theorem cw_mlo18 : cw_ml18.all ck_mchk = true := by decide +kernel
theorem cw_mlo19 : cw_ml19.all ck_mchk = true := by decide +kernel
theorem cw_mlok : cw_ml.all ck_mchk = true := by
  unfold cw_ml
  simp only [List.all_append, cw_mlo0, cw_mlo1, cw_mlo2, cw_mlo3, cw_mlo4, cw_mlo5, cw_mlo6, cw_mlo7, cw_mlo8, cw_mlo9, cw_mlo10, cw_mlo11, cw_mlo12, cw_mlo13, cw_mlo14, cw_mlo15, cw_mlo16, cw_mlo17, cw_mlo18, cw_mlo19, Bool.and_true]
theorem cw_mtok (mid : Nat) : ck_mok (cw_mt mid) := by
  refine ck_mchk_ok (List.all_eq_true.mp cw_mlok _ ?_)
  unfold cw_mt
  by_cases h : mid < cw_ml.length
  · rw [List.getD_eq_getElem?_getD, List.getElem?_eq_getElem h]
    exact List.getElem_mem h
  · rw [List.getD_eq_getElem?_getD, List.getElem?_eq_none (by omega)]
    exact List.mem_of_getElem? (i := 0) rfl
theorem cw_owo0 : cw_ml0.all (fun M => decide (M.2.2.2.1.1 < 13) && decide (ck_own M.2.2.2.1.1 = M.1.cls)) = true := by decide +kernel
theorem cw_owo1 : cw_ml1.all (fun M => decide (M.2.2.2.1.1 < 13) && decide (ck_own M.2.2.2.1.1 = M.1.cls)) = true := by decide +kernel
theorem cw_owo2 : cw_ml2.all (fun M => decide (M.2.2.2.1.1 < 13) && decide (ck_own M.2.2.2.1.1 = M.1.cls)) = true := by decide +kernel
theorem cw_owo3 : cw_ml3.all (fun M => decide (M.2.2.2.1.1 < 13) && decide (ck_own M.2.2.2.1.1 = M.1.cls)) = true := by decide +kernel
theorem cw_owo4 : cw_ml4.all (fun M => decide (M.2.2.2.1.1 < 13) && decide (ck_own M.2.2.2.1.1 = M.1.cls)) = true := by decide +kernel
theorem cw_owo5 : cw_ml5.all (fun M => decide (M.2.2.2.1.1 < 13) && decide (ck_own M.2.2.2.1.1 = M.1.cls)) = true := by decide +kernel
theorem cw_owo6 : cw_ml6.all (fun M => decide (M.2.2.2.1.1 < 13) && decide (ck_own M.2.2.2.1.1 = M.1.cls)) = true := by decide +kernel
theorem cw_owo7 : cw_ml7.all (fun M => decide (M.2.2.2.1.1 < 13) && decide (ck_own M.2.2.2.1.1 = M.1.cls)) = true := by decide +kernel
theorem cw_owo8 : cw_ml8.all (fun M => decide (M.2.2.2.1.1 < 13) && decide (ck_own M.2.2.2.1.1 = M.1.cls)) = true := by decide +kernel
theorem cw_owo9 : cw_ml9.all (fun M => decide (M.2.2.2.1.1 < 13) && decide (ck_own M.2.2.2.1.1 = M.1.cls)) = true := by decide +kernel
theorem cw_owo10 : cw_ml10.all (fun M => decide (M.2.2.2.1.1 < 13) && decide (ck_own M.2.2.2.1.1 = M.1.cls)) = true := by decide +kernel
theorem cw_owo11 : cw_ml11.all (fun M => decide (M.2.2.2.1.1 < 13) && decide (ck_own M.2.2.2.1.1 = M.1.cls)) = true := by decide +kernel
theorem cw_owo12 : cw_ml12.all (fun M => decide (M.2.2.2.1.1 < 13) && decide (ck_own M.2.2.2.1.1 = M.1.cls)) = true := by decide +kernel
theorem cw_owo13 : cw_ml13.all (fun M => decide (M.2.2.2.1.1 < 13) && decide (ck_own M.2.2.2.1.1 = M.1.cls)) = true := by decide +kernel
theorem cw_owo14 : cw_ml14.all (fun M => decide (M.2.2.2.1.1 < 13) && decide (ck_own M.2.2.2.1.1 = M.1.cls)) = true := by decide +kernel
theorem cw_owo15 : cw_ml15.all (fun M => decide (M.2.2.2.1.1 < 13) && decide (ck_own M.2.2.2.1.1 = M.1.cls)) = true := by decide +kernel
theorem cw_owo16 : cw_ml16.all (fun M => decide (M.2.2.2.1.1 < 13) && decide (ck_own M.2.2.2.1.1 = M.1.cls)) = true := by decide +kernel
theorem cw_owo17 : cw_ml17.all (fun M => decide (M.2.2.2.1.1 < 13) && decide (ck_own M.2.2.2.1.1 = M.1.cls)) = true := by decide +kernel
theorem cw_owo18 : cw_ml18.all (fun M => decide (M.2.2.2.1.1 < 13) && decide (ck_own M.2.2.2.1.1 = M.1.cls)) = true := by decide +kernel
theorem cw_owo19 : cw_ml19.all (fun M => decide (M.2.2.2.1.1 < 13) && decide (ck_own M.2.2.2.1.1 = M.1.cls)) = true := by decide +kernel
theorem cw_ownok : cw_ml.all (fun M => decide (M.2.2.2.1.1 < 13) && decide (ck_own M.2.2.2.1.1 = M.1.cls)) = true := by
  unfold cw_ml
  simp only [List.all_append, cw_owo0, cw_owo1, cw_owo2, cw_owo3, cw_owo4, cw_owo5, cw_owo6, cw_owo7, cw_owo8, cw_owo9, cw_owo10, cw_owo11, cw_owo12, cw_owo13, cw_owo14, cw_owo15, cw_owo16, cw_owo17, cw_owo18, cw_owo19, Bool.and_true]
theorem cw_pk0 : (List.range 1000).all (fun i => match cw_pf0 i with | some p => p.1 == i && ck_pchk cw_mt 0 p | none => true) = true := by decide +kernel
theorem cw_pk1 : (List.range 1000).all (fun i => match cw_pf1 i with | some p => p.1 == i && ck_pchk cw_mt 1 p | none => true) = true := by decide +kernel
theorem cw_pk2 : (List.range 1000).all (fun i => match cw_pf2 i with | some p => p.1 == i && ck_pchk cw_mt 2 p | none => true) = true := by decide +kernel
theorem cw_pk3 : (List.range 1000).all (fun i => match cw_pf3 i with | some p => p.1 == i && ck_pchk cw_mt 3 p | none => true) = true := by decide +kernel
theorem cw_pk4 : (List.range 1000).all (fun i => match cw_pf4 i with | some p => p.1 == i && ck_pchk cw_mt 4 p | none => true) = true := by decide +kernel
theorem cw_pk5 : (List.range 1000).all (fun i => match cw_pf5 i with | some p => p.1 == i && ck_pchk cw_mt 5 p | none => true) = true := by decide +kernel
theorem cw_pk6 : (List.range 1000).all (fun i => match cw_pf6 i with | some p => p.1 == i && ck_pchk cw_mt 6 p | none => true) = true := by decide +kernel
theorem cw_pk7 : (List.range 1000).all (fun i => match cw_pf7 i with | some p => p.1 == i && ck_pchk cw_mt 7 p | none => true) = true := by decide +kernel
theorem cw_pk8 : (List.range 1000).all (fun i => match cw_pf8 i with | some p => p.1 == i && ck_pchk cw_mt 8 p | none => true) = true := by decide +kernel
theorem cw_pk9 : (List.range 1000).all (fun i => match cw_pf9 i with | some p => p.1 == i && ck_pchk cw_mt 9 p | none => true) = true := by decide +kernel
theorem cw_pk10 : (List.range 1000).all (fun i => match cw_pf10 i with | some p => p.1 == i && ck_pchk cw_mt 10 p | none => true) = true := by decide +kernel
theorem cw_pk11 : (List.range 1000).all (fun i => match cw_pf11 i with | some p => p.1 == i && ck_pchk cw_mt 11 p | none => true) = true := by decide +kernel
theorem cw_pk12 : (List.range 1000).all (fun i => match cw_pf12 i with | some p => p.1 == i && ck_pchk cw_mt 12 p | none => true) = true := by decide +kernel
theorem cw_kk : (List.range 13).all (fun ci => (cw_kl ci).all (ck_kchk ci)) = true := by decide +kernel
theorem cw_pfN (ci i : Nat) (h : 1000 ≤ i) : cw_pf ci i = none := by
  unfold cw_pf
  have e : Nat.blt i 1000 = false := by
    rw [← Bool.not_eq_true, Nat.blt_eq]; omega
  rw [e]; rfl
theorem cw_pfE (ci : Nat) (i : Nat) (h : i < 1000) : cw_pf ci i = (cw_pfl.getD ci (fun _ => none)) i := by
  unfold cw_pf
  have e : Nat.blt i 1000 = true := by
    rw [Nat.blt_eq]; omega
  rw [e]; rfl
theorem cw_pkA (ci : Nat) (hci : ci < 13) : (List.range 1000).all (fun i => match cw_pf ci i with | some p => p.1 == i && ck_pchk cw_mt ci p | none => true) = true := by
  rw [List.all_eq_true]
  intro i hi
  rw [cw_pfE ci i (List.mem_range.mp hi)]
  match ci, hci with
  | 0, _ => exact List.all_eq_true.mp cw_pk0 i hi
  | 1, _ => exact List.all_eq_true.mp cw_pk1 i hi
  | 2, _ => exact List.all_eq_true.mp cw_pk2 i hi
  | 3, _ => exact List.all_eq_true.mp cw_pk3 i hi
  | 4, _ => exact List.all_eq_true.mp cw_pk4 i hi
  | 5, _ => exact List.all_eq_true.mp cw_pk5 i hi
  | 6, _ => exact List.all_eq_true.mp cw_pk6 i hi
  | 7, _ => exact List.all_eq_true.mp cw_pk7 i hi
  | 8, _ => exact List.all_eq_true.mp cw_pk8 i hi
  | 9, _ => exact List.all_eq_true.mp cw_pk9 i hi
  | 10, _ => exact List.all_eq_true.mp cw_pk10 i hi
  | 11, _ => exact List.all_eq_true.mp cw_pk11 i hi
  | 12, _ => exact List.all_eq_true.mp cw_pk12 i hi
  | n + 13, h => omega
theorem cw_len : cw_ml.length = 240 := by decide +kernel
theorem cw_mem {mid : Nat} (h : mid < 240) : cw_mt mid ∈ cw_ml := by
  unfold cw_mt
  rw [← cw_len] at h
  rw [List.getD_eq_getElem?_getD, List.getElem?_eq_getElem h]
  exact List.getElem_mem h
theorem cw_sslen {mid : Nat} (h : cw_ss mid ≠ []) : mid < 240 := by
  rcases Nat.lt_or_ge mid 240 with q | q
  · exact q
  · exfalso
    apply h
    unfold cw_ss
    rw [List.getD_eq_getElem?_getD, List.getElem?_eq_none (show cw_sl.length ≤ mid from q)]
    rfl
theorem cw_own_at {mid : Nat} (h : mid < 240) : (cw_mt mid).2.2.2.1.1 < 13 ∧ ck_own (cw_mt mid).2.2.2.1.1 = (cw_mt mid).1.cls := by
  have := List.all_eq_true.mp cw_ownok _ (cw_mem (mid := mid) h)
  simpa using this
theorem cw_plok (mid : Nat) (h : cw_ss mid ≠ []) : ∀ idx p, cw_pf (cw_mt mid).2.2.2.1.1 idx = some p → p.1 = idx ∧ ck_pok cw_mt (cw_mt mid).1.cls p := by
  obtain ⟨z, q⟩ := cw_own_at (cw_sslen h)
  exact ck_pf_ok q cw_mtok (fun i hi => cw_pfN _ i hi) (cw_pkA _ z)
theorem cw_klok (mid : Nat) (h : cw_ss mid ≠ []) : ∀ p ∈ cw_kl (cw_mt mid).2.2.2.1.1, ck_kok (cw_mt mid).1.cls p := by
  intro p hp
  obtain ⟨z, q⟩ := cw_own_at (cw_sslen h)
  have h1 := List.all_eq_true.mp cw_kk _ (List.mem_range.mpr z)
  exact ck_kchk_ok q (List.all_eq_true.mp h1 p hp)
theorem cw_fxok : cw_fx.all (fun l => l.all (fun e => decide (-2147483648 ≤ e.2.1) && decide (e.2.2 ≤ 2147483647))) = true := by decide +kernel
theorem cw_spok : (List.range cw_K).all (fun k => decide (13 ≤ (cw_sp k).1.1) || (match ja_cl[(cw_sp k).1.1]? with | some r => decide (r.2.2 = (cw_sp k).1.2) | none => false)) = true := by decide +kernel
theorem cw_G : ck_G cw_sp cw_fi cw_K := by
  refine ⟨fun k j => ?_, fun k hk hkd => ?_⟩
  · unfold cw_fi
    split
    · next e he =>
      have h1 := List.mem_of_find?_eq_some he
      rcases Nat.lt_or_ge k cw_fx.length with q | q
      · rw [List.getD_eq_getElem?_getD, List.getElem?_eq_getElem q] at h1
        have h2 := List.all_eq_true.mp cw_fxok _ (List.getElem_mem q)
        have h3 := List.all_eq_true.mp h2 e h1
        simpa using h3
      · rw [List.getD_eq_getElem?_getD, List.getElem?_eq_none q] at h1
        cases h1
    · exact ⟨by decide, by decide⟩
  · have h1 := List.all_eq_true.mp cw_spok k (List.mem_range.mpr hk)
    simp only [Bool.or_eq_true, decide_eq_true_eq] at h1
    rcases h1 with q | q
    · omega
    · split at q
      · next r hr => exact ⟨r, hr, by simpa using q⟩
      · cases q
theorem cw_prA : (cw_sp cw_pr.1).1.1 < 13 := by decide +kernel
