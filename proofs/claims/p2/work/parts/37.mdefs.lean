/-! the reference's parser: its invariant -/
variable {Zz : Zc}
def mo_ag (F : Nat → Nat → Bool) (h h' : ja_H) : Prop := ∀ k j, F k j = true → h' k j = h k j
theorem ag_refl {F : Nat → Nat → Bool} {h : ja_H} : mo_ag F h h := fun _ _ _ => rfl
theorem ag_up {F : Nat → Nat → Bool} {h h' : ja_H} {k j : Nat} {x : Int} (e : F k j = false) (q : mo_ag F h h') : mo_ag F h (ja_up h' k j x) := by
  intro k' j' hF
  rw [mo_upN (fun z => by obtain ⟨rfl, rfl⟩ := z; rw [e] at hF; cases hF)]
  exact q k' j' hF
theorem ag_trans {F : Nat → Nat → Bool} {h h' h'' : ja_H} (q : mo_ag F h h') (q' : mo_ag F h' h'') : mo_ag F h h'' := fun k j e => (q' k j e).trans (q k j e)
theorem ag_sub {F F' : Nat → Nat → Bool} {h h' : ja_H} (hs : ∀ k j, F' k j = true → F k j = true) (q : mo_ag F h h') : mo_ag F' h h' := fun k j e => q k j (hs k j e)
def mo_F (fs cs : List Nat) (k j : Nat) : Bool := if k = 0 then fs.contains j else cs.contains k
/-- what the words, the nodes and the POINTS rest on -/
def FC : Nat → Nat → Bool := mo_F [88, 11, 68] [74, 75, 76, 52, 55, 45, 44, 46]
def FN : Nat → Nat → Bool := mo_F [95, 11, 68, 72] [58, 59, 60, 62, 63, 67, 47, 45, 44, 46]
def FP : Nat → Nat → Bool := mo_F [88, 68, 34] [52, 54, 56, 57, 24, 45, 44, 46]
def FT : Nat → Nat → Bool := mo_F [109, 95, 85] [70, 67]
theorem pw_wt_ag {h H : ja_H} (w : (H 0 68) = (h 0 68)) (a : (H 45) = (h 45)) (b : (H 44) = (h 44)) (c : (H 46) = (h 46)) (k x y : Int) : pw_wt H k x y = pw_wt h k x y := by
  unfold pw_wt; rw [w, a, b, c]
theorem pi_C_ag {h H : ja_H} {ht st rg : Nat → Int} {W : Int} {s : List mo_A} (q : mo_ag FC h H) (c : pi_C h ht st rg W s) : pi_C H ht st rg W s := by
  have e1 : (H 0 88) = (h 0 88) := q _ _ rfl
  have e2 : (H 0 11) = (h 0 11) := q _ _ rfl
  have e3 : (H 0 68) = (h 0 68) := q _ _ rfl
  have f1 : (H 74) = (h 74) := funext fun j => q _ _ rfl
  have f2 : (H 75) = (h 75) := funext fun j => q _ _ rfl
  have f3 : (H 76) = (h 76) := funext fun j => q _ _ rfl
  have f4 : (H 52) = (h 52) := funext fun j => q _ _ rfl
  have f5 : (H 55) = (h 55) := funext fun j => q _ _ rfl
  have f6 : (H 45) = (h 45) := funext fun j => q _ _ rfl
  have f7 : (H 44) = (h 44) := funext fun j => q _ _ rfl
  have f8 : (H 46) = (h 46) := funext fun j => q _ _ rfl
  intro w hw
  have := c w hw
  unfold pw pw_pop at this ⊢
  rw [e1, e2, f1, f2, f3, f4, f5]
  simp only [pw_wt_ag e3 f6 f7 f8]
  exact this
theorem pi_U_ag {h H : ja_H} {W : Int} (q : mo_ag FC h H) (c : pi_U h W) : pi_U H W := by
  have f1 : (H 74) = (h 74) := funext fun j => q _ _ rfl
  have f2 : (H 75) = (h 75) := funext fun j => q _ _ rfl
  unfold pi_U; rw [f1, f2]; exact c
theorem pi_N_ag {h H : ja_H} {ht st rg : Nat → Int} {W : Int} (q : mo_ag FN h H) (c : pi_N h ht st rg W) : pi_N H ht st rg W := by
  have e1 : (H 0 95) = (h 0 95) := q _ _ rfl
  have e2 : (H 0 11) = (h 0 11) := q _ _ rfl
  have e3 : (H 0 68) = (h 0 68) := q _ _ rfl
  have e4 : (H 0 72) = (h 0 72) := q _ _ rfl
  have f1 : (H 58) = (h 58) := funext fun j => q _ _ rfl
  have f2 : (H 59) = (h 59) := funext fun j => q _ _ rfl
  have f3 : (H 60) = (h 60) := funext fun j => q _ _ rfl
  have f4 : (H 62) = (h 62) := funext fun j => q _ _ rfl
  have f5 : (H 63) = (h 63) := funext fun j => q _ _ rfl
  have f6 : (H 67) = (h 67) := funext fun j => q _ _ rfl
  have f7 : (H 47) = (h 47) := funext fun j => q _ _ rfl
  have g6 : (H 45) = (h 45) := funext fun j => q _ _ rfl
  have g7 : (H 44) = (h 44) := funext fun j => q _ _ rfl
  have g8 : (H 46) = (h 46) := funext fun j => q _ _ rfl
  refine ⟨fun n hn => ?_, by unfold pi_V; rw [e4, f7, e1, f1]; exact c.2⟩
  rw [e1] at hn
  have := c.1 n hn
  unfold pn at this ⊢
  rw [e2, e4, f1, f2, f3, f4, f5, f6, f7]
  simp only [pw_wt_ag e3 g6 g7 g8]
  exact this
theorem pi_P_ag {h H : ja_H} (q : mo_ag FP h H) (c : pi_P h) : pi_P H := by
  have e1 : (H 0 88) = (h 0 88) := q _ _ rfl
  have e3 : (H 0 68) = (h 0 68) := q _ _ rfl
  have f1 : (H 52) = (h 52) := funext fun j => q _ _ rfl
  have f2 : (H 54) = (h 54) := funext fun j => q _ _ rfl
  have f3 : (H 56) = (h 56) := funext fun j => q _ _ rfl
  have f4 : (H 57) = (h 57) := funext fun j => q _ _ rfl
  have g6 : (H 45) = (h 45) := funext fun j => q _ _ rfl
  have g7 : (H 44) = (h 44) := funext fun j => q _ _ rfl
  have g8 : (H 46) = (h 46) := funext fun j => q _ _ rfl
  have e5 : (H 0 34) = (h 0 34) := q _ _ rfl
  have f5 : (H 24) = (h 24) := funext fun j => q _ _ rfl
  unfold pi_P pi_M
  rw [e1, f1, f2, f3, f4, e5, f5]
  simp only [pw_wt_ag e3 g6 g7 g8]
  exact c
theorem pi_T_ag {h H : ja_H} (q : mo_ag FT h H) (c : pi_T h) : pi_T H := by
  have e1 : (H 0 109) = (h 0 109) := q _ _ rfl
  have e2 : (H 0 95) = (h 0 95) := q _ _ rfl
  have e3 : (H 0 85) = (h 0 85) := q _ _ rfl
  have f1 : (H 70) = (h 70) := funext fun j => q _ _ rfl
  have f2 : (H 67) = (h 67) := funext fun j => q _ _ rfl
  unfold pi_T; rw [e1, e2, e3, f1, f2]; exact c
/-- words that wait, POINTS that wait, once the top is done -/
theorem pj_tail {x : mo_A} {s s' : List mo_A} {w : Int} (hx : ¬ pj x w) (hs : ∀ y ∈ s, y ∈ s') (q : pj_in (x :: s) w) : pj_in s' w := by
  obtain ⟨y, hy, e⟩ := q
  rcases List.mem_cons.mp hy with rfl | hy
  · exact absurd e hx
  · exact ⟨y, hs y hy, e⟩
/-- the form of the E that stands whole -/
def pi_form (h : ja_H) (ht : Nat → Int) (s : List mo_A) : Prop :=
  ((h 0 19) = 1 → 1 ≤ (h 0 113) ∧ ((h 74) ((h 0 113) - 1).toNat = 4 ∨ ((h 74) ((h 0 113) - 1).toNat = 6 ∧ (h 76) ((h 0 113) - 1).toNat = (h 0 76)))) ∧
  ((h 0 19) = 2 → 1 ≤ (h 0 113) ∧ (h 74) ((h 0 113) - 1).toNat = 15 ∧ (h 75) ((h 0 113) - 1).toNat = (h 0 20) ∧ (h 52) (h 0 20).toNat = 3 ∧ (h 55) (h 0 20).toNat = 0) ∧
  ((h 0 19) = 1 ∨ (h 0 19) = 2 → ∀ w : Nat, (w : Int) < (h 0 113) → pw_jmp ((h 74) w) → pj_in s w ∨ (h 75) w ≤ (h 0 113) - 1)
def pi_BE (h : ja_H) : Prop := (h 2) (h 0 7).toNat = 3 ∨ (h 2) (h 0 7).toNat = 2 ∨ ((h 2) (h 0 7).toNat = 5 ∧ ((h 5) (h 0 7).toNat = 40 ∨ (h 5) (h 0 7).toNat = 45)) ∨ ((h 2) (h 0 7).toNat = 1 ∧ ((h 5) (h 0 7).toNat = 28 ∨ (h 5) (h 0 7).toNat = 27)) ∨ ((h 0 86) = 0 ∧ (h 2) (h 0 7).toNat = 1 ∧ ((h 5) (h 0 7).toNat = 36 ∨ (h 5) (h 0 7).toNat = 26 ∨ (h 5) (h 0 7).toNat = 18))
/-- what holds by the act that stands on top -/
def pi_top (h : ja_H) (ht : Nat → Int) (s : List mo_A) : Prop := match s with
  | [] => True
  | x :: z => (x.1 = 7 ∨ x.1 = 2 ∨ x.1 = 18 → pi_form h ht s) ∧ (x.1 = 6 → pi_BE h ∧ ¬ ((h 2) (h 0 7).toNat = 5 ∧ (h 5) (h 0 7).toNat = 45) ∧ ¬ ((h 2) (h 0 7).toNat = 1 ∧ (h 5) (h 0 7).toNat = 28)) ∧
    (x.1 = 1 → ∀ y z', z = y :: z' → y.1 = 9 → y.2.1 = 7 → ¬ pi_BE h) ∧ (x.1 = 9 → x.2.1 ≤ 6)
def pi_adj (h : ja_H) (s : List mo_A) : Int := match s with
  | [] => 0
  | x :: _ => if x.1 = 10 ∨ x.1 = 11 ∨ x.1 = 12 then (h 0 21) else 0
def pi_if (s : List mo_A) : Prop := ∃ x ∈ s, x.1 = 36
/-- a node that stood before: it stands, and where it did -/
def pi_nf (h : ja_H) (a : Int) : Prop := a ≤ -10 → (-10 - a) / 2 < (h 0 95) ∧ (h 67) ((-10 - a) / 2).toNat = (-10 - a) % 2
theorem nf_keep {h H : ja_H} {a : Int} (e : (H 0 95) = (h 0 95)) (f : (H 67) = (h 67)) : pi_nf H a = pi_nf h a := by
  unfold pi_nf; rw [e, f]
theorem nf_more {h H : ja_H} {a : Int} (e : ∀ n : Nat, (n : Int) < (h 0 95) → (n : Int) < (H 0 95) ∧ (H 67) n = (h 67) n) (q : pi_nf h a) : pi_nf H a := by
  intro z
  obtain ⟨q1, q2⟩ := q z
  obtain ⟨e1, e2⟩ := e ((-10 - a) / 2).toNat (by omega)
  exact ⟨by omega, e2.trans q2⟩
def pi_wn (h : ja_H) (r a : Int) : Prop := ((a = -1 → (h 0 11) = 0 → r = 3) ∧ pi_nf h a) ∧ (0 ≤ a ∧ a < 1000000 → (h 0 11) = 0 → 2 ≤ r ∧ pw_wt h 1 a (h 0 76)) ∧ (1000000 ≤ a ∧ a < 2000000 → a - 1000000 < (h 0 88) ∧ (h 52) (a - 1000000).toNat = 0) ∧ (2000000 ≤ a ∧ a < 3000000 → a - 2000000 < (h 0 88) ∧ (h 52) (a - 2000000).toNat = 2) ∧ (3000000 ≤ a → a - 3000000 < (h 0 88) ∧ (h 52) (a - 3000000).toNat = 4 ∧ (h 55) (a - 3000000).toNat = 1)
/-- the parser's invariant: the body's kind R, the region r, 0 a block or 1 a P, the trees at its end, how quiet it began -/
def piB (h : ja_H) (R r ph : Int) (tf : mo_TF) (q0 : Int) (s : List mo_A) (ht st rg : Nat → Int) (tu : Int) : Prop :=
  ((h 0 18) = pk_sum pk_c s ∧ (h 0 113) + pk_sum pk_v s < 5 * (h 0 7) ∧ (h 0 95) + pk_sum pk_d s < (h 0 7) ∧ (h 0 68) < (h 0 7) ∧ (h 0 72) ≤ (h 0 95) ∧ (h 0 84) = q0 + pk_sum pk_q s ∧ (h 0 87) = pk_sum pk_f s ∧ 0 ≤ q0 ∧ q0 ≤ 1) ∧
  ((h 0 74) = R ∧ (ph = 1 ∨ (h 0 79) ≤ (h 0 77)) ∧ (ph = 1 ∨ (h 0 77) ≤ 10) ∧ (¬ pt_let s → ph = 1 ∨ (h 0 77) ≤ 9)) ∧
  ((ph = 0 ∧ r = R ∧ (h 0 86) = 0 ∧ rg (h 0 113).toNat = r + 8 * tu ∧ ∀ y ∈ s, y.1 ≤ 30 ∨ 37 ≤ y.1) ∨ (ph = 1 ∧ (r = 4 ∧ tu = 0) ∧ (∀ y ∈ s, y.1 ≤ 12 ∨ 31 ≤ y.1) ∧ ((pi_if s ∧ (h 0 86) = 1 ∧ rg (h 0 113).toNat = 4) ∨ (¬ pi_if s ∧ (h 0 86) = 0 ∧ rg (h 0 113).toNat = 200)))) ∧
  pt (h 74) ht st rg (h 0 113) (h 0 88) (h 0 77) r tf (pi_wn h r) s (ht (h 0 113).toNat - pi_adj h s) (h 0 109) (st (h 0 113).toNat) tu ∧
  (pi_C h ht st rg (h 0 113) s ∧ pi_U h (h 0 113)) ∧ pi_N h ht st rg (h 0 113) ∧ pi_P h ∧ pi_T h ∧ pi_top h ht s
def pi (h : ja_H) (R r ph : Int) (tf : mo_TF) (q0 : Int) (s : List mo_A) (ht st rg : Nat → Int) (tu : Int) : Prop := pk_S h (h 0 17).toNat s ∧ piB h R r ph tf q0 s ht st rg tu
/-- what a parse leaves alone -/
def FK : Nat → Nat → Bool := fun k j => if k = 0 then !([7, 8, 9, 11, 12, 17, 18, 19, 20, 21, 68, 77, 79, 84, 87, 86, 88, 95, 109, 113, 72].contains j) else !([6, 7, 8, 9, 44, 45, 46, 47, 49, 50, 52, 53, 54, 55, 56, 57, 58, 59, 60, 61, 62, 63, 64, 65, 66, 67, 70, 74, 75, 76].contains k)
def pi_mu (h : ja_H) (s : List mo_A) : Int := 40 * (900 - (h 0 7)) + pk_sum pk_m s + 13
/-- an act is done: the invariant holds again, less is left to do, the rest is as it was -/
def pi_done (h h' : ja_H) (R r ph : Int) (tf : mo_TF) (q0 mu : Int) : Prop := (∃ s ht st rg tu, pi h' R r ph tf q0 s ht st rg tu ∧ pi_mu h' s < mu) ∧ mo_ag FK h h'
