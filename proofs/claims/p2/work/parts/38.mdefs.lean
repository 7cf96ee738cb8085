/-! the reference's parser: how the pieces of its invariant go on -/
variable {Zz : Zc}
def FCe : Nat → Nat → Bool := mo_F [88, 11, 68] [52, 55, 45, 44, 46]
theorem pw_wt_FCe {h H : ja_H} (ag : mo_ag FCe h H) (k x y : Int) : pw_wt H k x y = pw_wt h k x y :=
  pw_wt_ag (ag _ _ rfl) (funext fun j => ag _ _ rfl) (funext fun j => ag _ _ rfl) (funext fun j => ag _ _ rfl) k x y
theorem pw_pop_FCe {h H : ja_H} (ag : mo_ag FCe h H) (p : Int) : pw_pop H p = pw_pop h p := by
  have f4 : (H 52) = (h 52) := funext fun j => ag _ _ rfl
  have f5 : (H 55) = (h 55) := funext fun j => ag _ _ rfl
  unfold pw_pop; rw [f4, f5]
theorem pi_C_stack {h : ja_H} {ht st rg : Nat → Int} {W : Int} {x : mo_A} {s s' : List mo_A} (c : pi_C h ht st rg W (x :: s)) (hx : ∀ w : Nat, (w : Int) < W → ¬ pj x w) (hs : ∀ y ∈ s, y ∈ s')
    (hp : ∀ w : Nat, (w : Int) < W → (h 74) w = 15 → ¬ pp_in (x :: s) ((h 75) w) → ¬ pp_in s' ((h 75) w)) : pi_C h ht st rg W s' := by
  intro w hw
  exact pw_ext hw (Int.le_refl _) (fun _ _ => ⟨rfl, rfl, rfl⟩) ⟨rfl, rfl, rfl⟩ id (fun _ _ _ q => q) (Int.le_refl _) (fun z _ _ q => ⟨rfl, hp w hw z q⟩) (fun _ q => pj_tail (hx w hw) hs q) (c w hw)
/-- acts without words and POINTS of their own -/
def pk_idle (x : mo_A) : Prop := x.1 ≠ 4 ∧ x.1 ≠ 21 ∧ x.1 ≠ 22 ∧ x.1 ≠ 28 ∧ x.1 ≠ 24 ∧ x.1 ≠ 10 ∧ x.1 ≠ 11 ∧ x.1 ≠ 19
theorem pk_idle_pj {x : mo_A} (q : pk_idle x) (w : Int) : ¬ pj x w := by
  obtain ⟨q1, q2, q3, q4, q5, -⟩ := q
  rintro (⟨e | e | e | e, -⟩ | ⟨e, -⟩)
  · exact q1 e
  · exact q2 e
  · exact q3 e
  · exact q4 e
  · exact q5 e
theorem pk_idle_pp {x : mo_A} (q : pk_idle x) (w : Int) : ¬ pp x w := by
  obtain ⟨-, -, -, -, -, q1, q2, q3⟩ := q
  rintro (⟨e | e, -⟩ | ⟨e, -⟩)
  · exact q1 e
  · exact q2 e
  · exact q3 e
theorem pp_cons {x : mo_A} {s : List mo_A} {p : Int} : pp_in (x :: s) p ↔ pp x p ∨ pp_in s p := by
  constructor
  · rintro ⟨y, hy, e⟩
    rcases List.mem_cons.mp hy with rfl | hy
    · exact Or.inl e
    · exact Or.inr ⟨y, hy, e⟩
  · rintro (e | ⟨y, hy, e⟩)
    · exact ⟨x, List.mem_cons_self, e⟩
    · exact ⟨y, List.mem_cons_of_mem _ hy, e⟩
theorem pj_cons {x : mo_A} {s : List mo_A} {p : Int} : pj_in (x :: s) p ↔ pj x p ∨ pj_in s p := by
  constructor
  · rintro ⟨y, hy, e⟩
    rcases List.mem_cons.mp hy with rfl | hy
    · exact Or.inl e
    · exact Or.inr ⟨y, hy, e⟩
  · rintro (e | ⟨y, hy, e⟩)
    · exact ⟨x, List.mem_cons_self, e⟩
    · exact ⟨y, List.mem_cons_of_mem _ hy, e⟩
theorem pi_C_drop {h : ja_H} {ht st rg : Nat → Int} {W : Int} {x : mo_A} {s : List mo_A} (hx : ∀ w : Nat, (w : Int) < W → ¬ pj x w) (c : pi_C h ht st rg W (x :: s)) : pi_C h ht st rg W s :=
  pi_C_stack c hx (fun _ q => q) (fun w _ _ q z => q (pp_cons.mpr (Or.inr z)))
theorem pi_C_push {h : ja_H} {ht st rg : Nat → Int} {W : Int} {x : mo_A} {s : List mo_A} (hx : ∀ w : Nat, (w : Int) < W → (h 74) w = 15 → ¬ pp x ((h 75) w)) (c : pi_C h ht st rg W s) : pi_C h ht st rg W (x :: s) := by
  intro w hw
  refine pw_ext hw (Int.le_refl _) (fun _ _ => ⟨rfl, rfl, rfl⟩) ⟨rfl, rfl, rfl⟩ id (fun _ _ _ q => q) (Int.le_refl _) (fun z _ _ q => ⟨rfl, fun y => ?_⟩) (fun _ q => pj_cons.mpr (Or.inr q)) (c w hw)
  rcases pp_cons.mp y with y | y
  · exact hx w hw z y
  · exact q y
theorem pi_C_emit {h H : ja_H} {ht st rg ht' st' rg' : Nat → Int} {W : Int} {s : List mo_A} (c : pi_C h ht st rg W s) (h0 : 0 ≤ W) (ex : ∀ j : Nat, (j : Int) ≤ W → ht' j = ht j ∧ st' j = st j ∧ rg' j = rg j)
    (eo : ∀ w : Nat, (w : Int) < W → (H 74) w = (h 74) w ∧ (H 75) w = (h 75) w ∧ (H 76) w = (h 76) w) (ag : mo_ag FCe h H) (new : pw H ht' st' rg' (W + 1) s W.toNat) : pi_C H ht' st' rg' (W + 1) s := by
  intro w hw
  rcases Int.lt_or_le (w : Int) W with q | q
  · refine pw_ext q (by omega) ex (eo w q) (fun z => ?_) (fun k a b z => ?_) (Int.le_of_eq (ag _ _ rfl).symm) (fun _ _ _ z => ⟨pw_pop_FCe ag _, z⟩) (fun _ z => z) (c w q)
    · rw [← z]; exact (ag _ _ rfl).symm
    · rw [pw_wt_FCe ag]; exact z
  · have e : w = W.toNat := by omega
    rw [e]; exact new
theorem pi_C_patch {h : ja_H} {ht st rg : Nat → Int} {W t : Int} {a : Nat} {x : mo_A} {s : List mo_A} (c : pi_C h ht st rg W (x :: s)) (ha : (a : Int) < W) (hx : ∀ w : Nat, pj x w → w = a) (hj : pw_jmp ((h 74) a))
    (h0 : (a : Int) < t) (h1 : t ≤ W) (h2 : ht t.toNat = ht a + pw_th ((h 74) a)) (h3 : rg t.toNat = rg a + 8 * pw_tj ((h 74) a)) (h4 : st t.toNat + pw_ts ((h 74) a) ≤ st a) : pi_C (ja_up h 75 a t) ht st rg W s := by
  intro w hw
  have hc := c w hw
  by_cases e : w = a
  · subst e
    obtain ⟨c1, c2, c3, c4, c5, c6, c7, c8, c9, c10, c11, c12, c13, c14, c15, c16⟩ := hc
    have eo : (ja_up h 75 w t) 74 w = (h 74) w := mo_upK (by decide)
    have eA : (ja_up h 75 w t) 75 w = t := mo_upS
    have n1 : ∀ z q q', pw_need ((h 74) w) z q = pw_need ((h 74) w) ((h 75) w) q' := by
      intro z q q'
      rcases hj with e | e | e | e | e | e <;> rw [e] <;> rfl
    have n2 : ∀ z q q', pw_eff ((h 74) w) z q = pw_eff ((h 74) w) ((h 75) w) q' := by
      intro z q q'
      rcases hj with e | e | e | e | e | e <;> rw [e] <;> rfl
    unfold pw
    rw [eo, eA, n1 t _ (pw_pop h ((h 75) w)), n2 t _ (pw_pop h ((h 75) w))]
    refine ⟨c1, c2, c3, c4, c5, c6, c7, c8, c9, fun _ => Or.inr ⟨by omega, h1, h2, h3, h4, Or.inl h0⟩, ?_, ?_, ?_, ?_, ?_, fun z => ⟨⟨(c16 z).1.1, (c16 z).1.2.1, fun y => ?_⟩, (c16 z).2⟩⟩
    case refine_6 => exfalso; rcases hj with e | e | e | e | e | e <;> rw [e] at y <;> simp at y
    all_goals intro z; exfalso; rcases hj with e | e | e | e | e | e <;> rw [e] at z <;> simp at z
  · refine pw_ext hw (Int.le_refl _) (fun _ _ => ⟨rfl, rfl, rfl⟩) ⟨mo_upK (by decide), mo_upJ e, mo_upK (by decide)⟩ (fun z => ?_) (fun k x y q => ?_) ?_ (fun _ _ _ q => ⟨?_, fun z => q (pp_cons.mpr (Or.inr z))⟩) (fun _ q => ?_) hc
    · rw [← z]; exact (mo_upK (by decide)).symm
    · have : pw_wt (ja_up h 75 a t) k x y = pw_wt h k x y := pw_wt_FCe (ag_up rfl ag_refl) k x y
      rw [this]; exact q
    · exact Int.le_of_eq (mo_upK (by decide)).symm
    · exact pw_pop_FCe (ag_up rfl ag_refl) _
    · rcases pj_cons.mp q with q | q
      · exact absurd (hx w q) e
      · exact q
theorem pi_U_patch {h : ja_H} {W t : Int} {a : Nat} (hj : pw_jmp ((h 74) a)) (c : pi_U h W) : pi_U (ja_up h 75 a t) W := by
  intro w v hwv hv z1 z2
  have o1 : (ja_up h 75 a t) 74 w = (h 74) w := mo_upK (by decide)
  have o2 : (ja_up h 75 a t) 74 v = (h 74) v := mo_upK (by decide)
  rw [o1] at z1; rw [o2] at z2
  have n1 : w ≠ a := fun e => by subst e; rcases hj with e | e | e | e | e | e <;> rw [e] at z1 <;> simp at z1
  have n2 : v ≠ a := fun e => by subst e; rcases hj with e | e | e | e | e | e <;> rw [e] at z2 <;> simp at z2
  rw [mo_upJ n1, mo_upJ n2]
  exact c w v hwv hv z1 z2
theorem pi_U_emit {h H : ja_H} {W : Int} (h0 : 0 ≤ W) (c : pi_U h W) (eo : ∀ w : Nat, (w : Int) < W → (H 74) w = (h 74) w ∧ (H 75) w = (h 75) w) (new : (H 74) W.toNat = 15 → ∀ w : Nat, (w : Int) < W → (h 74) w = 15 → (h 75) w ≠ (H 75) W.toNat) : pi_U H (W + 1) := by
  intro w v hwv hv z1 z2
  have hw : (w : Int) < W := by omega
  obtain ⟨a1, a2⟩ := eo w hw
  rw [a1] at z1
  rw [a2]
  rcases Int.lt_or_le (v : Int) W with q | q
  · obtain ⟨b1, b2⟩ := eo v q
    rw [b1] at z2
    rw [b2]
    exact c w v hwv q z1 z2
  · have e : v = W.toNat := by omega
    rw [e] at z2 ⊢
    exact new z2 w hw z1
theorem pi_N_ext {h H : ja_H} {ht st rg ht' st' rg' : Nat → Int} {W W' : Int} (hW : W ≤ W') (ex : ∀ j : Nat, (j : Int) < W → ht' j = ht j ∧ rg' j = rg j) (ag : mo_ag FN h H) (c : pi_N h ht st rg W) : pi_N H ht' st' rg' W' := by
  have c := pi_N_ag ag c
  refine ⟨fun n hn => ?_, c.2⟩
  obtain ⟨c1, c2, c3, c4, c5, c6⟩ := c.1 n hn
  refine ⟨c1, c2, fun z => ?_, c4, c5, c6⟩
  obtain ⟨a1, a2, a3, a4⟩ := c3 z
  obtain ⟨e1, e2⟩ := ex ((H 59) n).toNat (by omega)
  exact ⟨a1, by omega, e1.trans a3, e2.trans a4⟩
/-- the stack of acts with some more -/
theorem pk_S_1 {h H : ja_H} {s : List mo_A} {n : Nat} {x : mo_A} (q : pk_S h n s) (e : ∀ j : Nat, j < n → (H 6) j = (h 6) j ∧ (H 7) j = (h 7) j ∧ (H 8) j = (h 8) j) (ex : (H 6) n = x.1 ∧ (H 7) n = x.2.1 ∧ (H 8) n = x.2.2) : pk_S H (n + 1) (x :: s) := ⟨ex, pk_S_ext e q⟩
theorem pk_S_2 {h H : ja_H} {s : List mo_A} {n : Nat} {x y : mo_A} (q : pk_S h n s) (e : ∀ j : Nat, j < n → (H 6) j = (h 6) j ∧ (H 7) j = (h 7) j ∧ (H 8) j = (h 8) j) (ex : (H 6) n = x.1 ∧ (H 7) n = x.2.1 ∧ (H 8) n = x.2.2) (ey : (H 6) (n + 1) = y.1 ∧ (H 7) (n + 1) = y.2.1 ∧ (H 8) (n + 1) = y.2.2) : pk_S H (n + 2) (y :: x :: s) := ⟨ey, ex, pk_S_ext e q⟩
theorem pk_S_3 {h H : ja_H} {s : List mo_A} {n : Nat} {x y z : mo_A} (q : pk_S h n s) (e : ∀ j : Nat, j < n → (H 6) j = (h 6) j ∧ (H 7) j = (h 7) j ∧ (H 8) j = (h 8) j) (ex : (H 6) n = x.1 ∧ (H 7) n = x.2.1 ∧ (H 8) n = x.2.2) (ey : (H 6) (n + 1) = y.1 ∧ (H 7) (n + 1) = y.2.1 ∧ (H 8) (n + 1) = y.2.2) (ez : (H 6) (n + 2) = z.1 ∧ (H 7) (n + 2) = z.2.1 ∧ (H 8) (n + 2) = z.2.2) : pk_S H (n + 3) (z :: y :: x :: s) := ⟨ez, ey, ex, pk_S_ext e q⟩
/-- what the primitives make of a heap -/
def mo_L (h : ja_H) (a b c d : Int) : ja_H := ja_up (ja_up (ja_up (ja_up (ja_up h 6 ((h 0 17)).toNat a) 7 ((h 0 17)).toNat b) 8 ((h 0 17)).toNat c) 9 ((h 0 17)).toNat d) 0 17 ((h 0 17) + 1)
def mo_E (h : ja_H) (a b c : Int) : ja_H := ja_up (ja_up (ja_up (ja_up h 74 ((h 0 113)).toNat a) 75 ((h 0 113)).toNat b) 76 ((h 0 113)).toNat c) 0 113 ((h 0 113) + 1)
def mo_tk (h : ja_H) : ja_H := ja_up h 0 7 ((h 0 7) + 1)
