/-! every context of the class holds, wordKind's granted -/
theorem sf_dec (mid pc : Nat) (e : Instr × Nat) (h : cw_dec mid pc = some e) : decode (cw_mt mid).2.1 pc = .ok e := by
  rcases Nat.lt_or_ge mid 240 with q | q
  · exact (cw_PA mid q).2 pc e h
  · exfalso
    unfold cw_dec at h
    rw [List.getD_eq_getElem?_getD, List.getElem?_eq_none (show cw_dl.length ≤ mid from q)] at h
    cases h
theorem sf_hc (mid : Nat) (s : ck_S) (hs : s ∈ cw_ss mid) (hn : s.2.2.2 ≠ []) : ck_meth cw_sp cw_fi cw_K cw_mt cw_pf cw_kl cw_ss cw_hn cw_pr 1000 (cw_dec mid) (cw_mt mid) s = true :=
  (cw_PA mid (cw_sslen (fun e => by rw [e] at hs; cases hs))).1 s hs hn
theorem sf_hand : (List.range 240).all (fun mid => mid == 159 || mid == 160 || mid == 205 || mid == 230 || (cw_ss mid).all (fun s => !s.2.2.2.isEmpty)) = true := by decide +kernel
theorem sf_159 : (cw_ss 159).all (fun s => decide (0 < s.1)) = true := by decide +kernel
theorem sf_230 : cw_ss 230 = [cw_t230_0] := rfl
theorem cw_safe {l : Launch} {D : va_G} {cA : Nat → ClassId} {ad : Nat → Nat} {v0 : Int}
    (hw : (∀ mid2 s2, s2 ∈ cw_ss mid2 → s2.1 < cw_t230_0.1 → ck_H l D cA ad cw_sp cw_fi cw_K cw_pr v0 (cw_mt mid2) s2) → ck_H l D cA ad cw_sp cw_fi cw_K cw_pr v0 (cw_mt 230) cw_t230_0) :
    ∀ mid s, s ∈ cw_ss mid → ck_H l D cA ad cw_sp cw_fi cw_K cw_pr v0 (cw_mt mid) s := by
  refine ck_all_ok cw_G cw_prA sf_dec cw_plok cw_klok sf_hc (fun mid s hs he hless => ?_)
  have hm := cw_sslen (mid := mid) (fun e => by rw [e] at hs; cases hs)
  have h1 := List.all_eq_true.mp sf_hand mid (List.mem_range.mpr hm)
  simp only [Bool.or_eq_true, beq_iff_eq] at h1
  rcases h1 with (((h1 | h1) | h1) | h1) | h1
  · subst h1
    have h0 := of_decide_eq_true (List.all_eq_true.mp sf_159 s hs)
    exact ro_H (hless 116 cw_t116_0 ro_sb h0) s hs he
  · subst h1
    exact rp_H s hs he
  · subst h1
    exact ta_H s hs
  · subst h1
    rw [sf_230] at hs
    cases List.mem_singleton.mp hs
    exact hw hless
  · have h2 := List.all_eq_true.mp h1 s hs
    rw [he] at h2
    cases h2
