/-! the reference's parser: what stands on its stack of acts, what is written -/
variable {Zz : Zc}
abbrev mo_A : Type := Int × Int × Int
/-- the trees at the end; what stood before: up to which word, its ghosts -/
abbrev mo_TF : Type := Int × Int × (Nat → Int) × (Nat → Int) × (Nat → Int) × (Int → Prop)
/-- the stack of acts, the top first -/
def pk_S (h : ja_H) : Nat → List mo_A → Prop
  | 0, [] => True
  | 0, _ :: _ => False
  | _ + 1, [] => False
  | n + 1, x :: s => ((h 6) n = x.1 ∧ (h 7) n = x.2.1 ∧ (h 8) n = x.2.2) ∧ pk_S h n s
def pk_c (a : Int) : Int := if a = 2 ∨ a = 30 ∨ a = 32 then 1 else 0
def pk_v (a : Int) : Int := if a = 1 ∨ a = 6 then -4 else if a = 19 ∨ a = 23 then 2 else if a = 3 ∨ a = 4 ∨ a = 5 ∨ a = 10 ∨ a = 11 ∨ a = 12 ∨ a = 17 ∨ a = 18 ∨ a = 20 ∨ a = 24 ∨ a = 25 ∨ a = 26 ∨ a = 27 ∨ a = 36 then 1 else 0
def pk_d (a : Int) : Int := if a = 33 ∨ a = 34 ∨ a = 35 ∨ a = 36 then 1 else 0
def pk_m (a : Int) : Int := if a = 1 then -10 else if a = 6 then -12 else if a = 20 ∨ a = 23 then 3 else 1
def pk_q (a : Int) : Int := if a = 34 ∨ a = 35 then 1 else 0
def pk_f (a : Int) : Int := if a = 35 then 1 else 0
def pk_D (r : Int) : Int := if r = 4 then 2 else 7
def pk_k (r a : Int) : Int := if a = 2 ∨ a = 30 ∨ a = 32 then pk_D r else 0
def pk_sum (f : Int → Int) : List mo_A → Int
  | [] => 0
  | x :: s => f x.1 + pk_sum f s
def pk_off (a : Int) : Int := if a = 1 ∨ a = 2 ∨ a = 31 ∨ a = 32 then 7 else if a = 30 then 6 else if a = 15 then 5 else if a = 8 ∨ a = 9 ∨ a = 14 ∨ a = 16 then 4 else if a = 10 ∨ a = 11 ∨ a = 12 ∨ a = 37 ∨ a = 38 then 3 else if a = 3 ∨ a = 4 ∨ a = 5 ∨ a = 6 ∨ a = 7 ∨ a = 33 ∨ a = 34 ∨ a = 35 ∨ a = 36 then 2 else 1
/-- the heights behind an act: of values, of trees; whether a print may come -/
def pt_c (x : mo_A) (c : Int) : Int := if x.1 = 1 ∨ x.1 = 6 ∨ x.1 = 11 ∨ x.1 = 12 then c + 1 else if x.1 = 3 then c - 1 else if x.1 = 9 then c - x.2.1 else if (14 ≤ x.1 ∧ x.1 ≤ 36) then 0 else c
def pt_t (x : mo_A) (t : Int) : Int := if x.1 = 31 ∨ x.1 = 36 then t + 1 else if x.1 = 33 then t - 1 else t
def pt_e (x : mo_A) (e : Int) : Int := if x.1 = 17 ∨ x.1 = 18 ∨ x.1 = 19 ∨ x.1 = 20 ∨ x.1 = 23 ∨ x.1 = 25 ∨ x.1 = 26 ∨ x.1 = 27 then 0 else e
/-- how many tries are open below an act -/
def pt_u (x : mo_A) (tu : Int) : Int := if x.1 = 28 then tu - 1 else tu
def pw_tj (o : Int) : Int := if o = 24 then -1 else 0
def pw_tr (o : Int) : Int := if o = 23 then 1 else if o = 24 then -1 else 0
def pw_ts (o : Int) : Int := if o = 23 then 1 else 0
def pt_call (s : List mo_A) : Prop := ∃ y z, s = y :: z ∧ (y.1 = 10 ∨ y.1 = 11 ∨ y.1 = 12)
def pt_let (s : List mo_A) : Prop := ∀ y ∈ s, y.1 ≠ 17
def pp (x : mo_A) (p : Int) : Prop := ((x.1 = 10 ∨ x.1 = 11) ∧ x.2.1 = p) ∨ (x.1 = 19 ∧ x.2.1 = 2 ∧ x.2.2 = p)
def pp_in (s : List mo_A) (p : Int) : Prop := ∃ x ∈ s, pp x p
/-- what may stand right below an act -/
def pt_low (x : mo_A) (s : List mo_A) : Prop := ∀ y z, s = y :: z → (y.1 ≠ 1 ∧ (31 ≤ x.1 ∧ x.1 ≤ 37 → 14 ≤ y.1)) ∧ y.1 ≠ 6 ∧ (y.1 = 10 ∨ y.1 = 11 ∨ y.1 = 12 → x.1 = 8 ∨ x.1 = 9) ∧ (y.1 = 7 ∨ y.1 = 2 ∨ y.1 = 18 → x.1 ≤ 12 ∨ x.1 = 38) ∧ (y.1 = 9 → y.2.1 ≤ 6 ∨ x.1 = 1)
section
variable (op ht st rg : Nat → Int) (W P lo r : Int) (tf : mo_TF) (wn : Int → Prop)
def pt_at (a : Int) (c e tu : Int) : Prop := 0 ≤ a ∧ a < W ∧ ht a.toNat = c ∧ rg a.toNat = r + 8 * tu ∧ st a.toNat = e
def pt_ok (x : mo_A) (s : List mo_A) (c t e tu : Int) : Prop :=
  (1 ≤ x.1 ∧ x.1 ≤ 38 ∧ x.1 ≠ 13 ∧ x.1 ≠ 29) ∧ 0 ≤ c ∧ 0 ≤ t ∧ ((e = 0 ∨ e = 1) ∧ 0 ≤ tu ∧ tu ≤ pk_sum pk_c s) ∧
  (x.1 = 1 → c ≤ pk_sum (pk_k r) s) ∧
  (x.1 = 2 → 1 ≤ c ∧ c ≤ pk_sum (pk_k r) s + 1) ∧
  (x.1 = 3 → 2 ≤ c ∧ c ≤ pk_sum (pk_k r) s) ∧
  (x.1 = 4 → (1 ≤ c ∧ c ≤ pk_sum (pk_k r) s) ∧ pt_at ht st rg W r x.2.1 c e tu ∧ (op x.2.1.toNat = 12 ∨ op x.2.1.toNat = 13)) ∧
  (x.1 = 5 → 1 ≤ c ∧ c ≤ pk_sum (pk_k r) s) ∧
  (x.1 = 6 → c ≤ pk_sum (pk_k r) s - pk_D r) ∧
  (x.1 = 7 ∨ x.1 = 38 → 1 ≤ c ∧ c ≤ pk_sum (pk_k r) s - pk_D r + 1) ∧
  (x.1 = 8 → pt_call s) ∧
  (x.1 = 9 → pt_call s ∧ 1 ≤ x.2.1 ∧ x.2.1 ≤ 7 ∧ x.2.1 ≤ c) ∧
  (x.1 = 10 → 1 ≤ c ∧ c ≤ pk_sum (pk_k r) s - 6 ∧ 0 ≤ x.2.1 ∧ x.2.1 < P ∧ wn (1000000 + x.2.1) ∧ r ≤ 3) ∧
  (x.1 = 11 → c ≤ pk_sum (pk_k r) s - 7 ∧ 0 ≤ x.2.1 ∧ x.2.1 < P ∧ wn (2000000 + x.2.1) ∧ r ≤ 3) ∧
  (x.1 = 12 → c ≤ pk_sum (pk_k r) s - 7 ∧ wn (-1) ∧ r ≤ 3) ∧
  (x.1 = 14 ∨ x.1 = 15 ∨ x.1 = 16 ∨ x.1 = 21 ∨ x.1 = 22 ∨ x.1 = 24 ∨ x.1 = 28 ∨ x.1 = 30 → c = 0 ∧ e = 0 ∧ pt_let s) ∧
  (x.1 = 16 → 0 ≤ x.2.1 ∧ x.2.1 ≤ lo) ∧
  (x.1 = 17 ∨ x.1 = 18 ∨ x.1 = 20 ∨ x.1 = 23 ∨ x.1 = 25 ∨ x.1 = 26 ∨ x.1 = 27 → c = 1 ∧ e = 1 ∧ pt_let s) ∧
  (x.1 = 17 → 0 ≤ x.2.1 ∧ x.2.1 ≤ 900) ∧
  (x.1 = 19 → e = 1 ∧ pt_let s ∧ ((x.2.1 = 2 ∧ c = 2 ∧ 0 ≤ x.2.2 ∧ x.2.2 < P ∧ wn (3000000 + x.2.2)) ∨ (x.2.1 = 1 ∧ c = 1 ∧ 0 ≤ x.2.2 ∧ x.2.2 ≤ 900 ∧ wn x.2.2) ∨ (x.2.1 = 0 ∧ c = 1 ∧ 0 ≤ x.2.2 ∧ x.2.2 ≤ 15))) ∧
  (x.1 = 21 → pt_at ht st rg W r x.2.1 1 1 tu ∧ op x.2.1.toNat = 22) ∧
  (x.1 = 22 → pt_at ht st rg W r x.2.1 0 0 (tu - pw_tj (op x.2.1.toNat)) ∧ (op x.2.1.toNat = 21 ∨ op x.2.1.toNat = 24)) ∧
  (x.1 = 23 → pt_at ht st rg W r x.2.1 0 0 tu ∧ st (x.2.1.toNat + 1) = 1) ∧
  (x.1 = 24 → (pt_at ht st rg W r x.2.1 0 0 tu ∧ st (x.2.1.toNat + 1) = 1) ∧ pt_at ht st rg W r x.2.2 1 1 tu ∧ op x.2.2.toNat = 22) ∧
  (x.1 = 28 → pt_at ht st rg W r x.2.1 0 1 (tu - 1) ∧ op x.2.1.toNat = 23) ∧
  (x.1 = 31 → c = 0 ∧ e = 0 ∧ t ≤ pk_sum pk_c s) ∧
  (x.1 = 32 → c = 0 ∧ e = 0 ∧ 1 ≤ t ∧ t ≤ pk_sum pk_c s + 1) ∧
  (x.1 = 33 → c = 0 ∧ e = 0 ∧ 2 ≤ t) ∧
  (x.1 = 34 ∨ x.1 = 35 → c = 0 ∧ e = 0 ∧ 1 ≤ t) ∧
  (x.1 = 36 → c = 1 ∧ e = 0 ∧ pt_at ht st rg (W + 1) r x.2.1 0 0 tu ∧ t ≤ pk_sum pk_c s) ∧
  (x.1 = 18 → 1 ≤ pk_sum (pk_k r) s)
def pt : List mo_A → Int → Int → Int → Int → Prop
  | [], c, t, e, tu => c = 0 ∧ t = tf.1 ∧ e = 0 ∧ tu = 0 ∧ tf.2.1 ≤ W ∧ (∀ j : Nat, (j : Int) ≤ tf.2.1 → ht j = tf.2.2.1 j ∧ st j = tf.2.2.2.1 j ∧ rg j = tf.2.2.2.2.1 j) ∧ ∀ a, tf.2.2.2.2.2 a → wn a
  | x :: s, c, t, e, tu => ((0 ≤ pk_sum pk_v s ∧ 0 ≤ pk_sum pk_m s) ∧ ∀ p, pp x p → ¬ pp_in s p) ∧ ((s.length : Int) ≤ 6 * pk_sum pk_c s + pk_off x.1 ∧ pt_low x s) ∧ pt_ok op ht st rg W P lo r wn x s c t e tu ∧ pt s (pt_c x c) (pt_t x t) (pt_e x e) (pt_u x tu)
end
/-- a word that waits for its place to be told; a POINT that waits to be written -/
def pj (x : mo_A) (w : Int) : Prop := ((x.1 = 4 ∨ x.1 = 21 ∨ x.1 = 22 ∨ x.1 = 28) ∧ x.2.1 = w) ∨ (x.1 = 24 ∧ x.2.2 = w)
def pj_in (s : List mo_A) (w : Int) : Prop := ∃ x ∈ s, pj x w
def pw_wt (h : ja_H) (k a b : Int) : Prop := ∃ i : Nat, (i : Int) < (h 0 68) ∧ (h 45) i = k ∧ (h 44) i = a ∧ (k = 1 → (h 46) i = b)
def pw_pop (h : ja_H) (p : Int) : Int := (h 55) p.toNat + (if (h 52) p.toNat = 0 ∨ (h 52) p.toNat = 3 ∨ (h 52) p.toNat = 4 then 1 else if (h 52) p.toNat = 1 then 1000 else 0)
def pw_need (o a q : Int) : Int := if o = 9 then 2 else if o = 15 then q else if o = 16 then (if a = 0 then 0 else a - 1) else if o = 5 ∨ o = 7 ∨ o = 8 ∨ o = 10 ∨ o = 11 ∨ o = 12 ∨ o = 13 ∨ o = 14 ∨ o = 17 ∨ o = 18 ∨ o = 19 ∨ o = 20 ∨ o = 22 then 1 else 0
def pw_eff (o a q : Int) : Int := if o = 1 ∨ o = 2 ∨ o = 3 ∨ o = 4 ∨ o = 6 ∨ o = 24 then 1 else if o = 15 then 1 - q else if o = 16 then (if a = 0 then 1 else 2 - a) else if o = 5 ∨ o = 7 ∨ o = 9 ∨ o = 12 ∨ o = 13 ∨ o = 17 ∨ o = 18 ∨ o = 19 ∨ o = 20 ∨ o = 22 then -1 else 0
def pw_th (o : Int) : Int := if o = 22 then -1 else if o = 23 then 1 else 0
def pw_jmp (o : Int) : Prop := o = 12 ∨ o = 13 ∨ o = 21 ∨ o = 22 ∨ o = 23 ∨ o = 24
/-- a word that is written is well made -/
def pw (h : ja_H) (ht st rg : Nat → Int) (W : Int) (s : List mo_A) (w : Nat) : Prop :=
  (1 ≤ (h 74) w ∧ (h 74) w ≤ 26) ∧ (0 ≤ ht w ∧ ht w ≤ 119) ∧ (0 ≤ rg w ∧ rg w ≤ 132 ∧ rg w % 8 ≤ 4) ∧ (st w = 0 ∨ st w = 1) ∧
  pw_need ((h 74) w) ((h 75) w) (pw_pop h ((h 75) w)) ≤ ht w ∧
  ((h 74) w = 26 → ht (w + 1) = 0 ∧ st (w + 1) = 0) ∧
  ((h 74) w ≠ 26 → ht (w + 1) = ht w + pw_eff ((h 74) w) ((h 75) w) (pw_pop h ((h 75) w)) ∧ rg (w + 1) = rg w + 8 * pw_tr ((h 74) w) ∧ (st (w + 1) = 0 ∨ st (w + 1) = 1) ∧ ((h 74) w ≠ 25 → st (w + 1) ≤ st w)) ∧
  ((h 74) w = 18 ∨ (h 74) w = 23 → st w = 1 ∧ st (w + 1) = 0) ∧
  ((h 74) w = 21 ∨ (h 74) w = 23 ∨ (h 74) w = 24 ∨ (h 74) w = 25 → ht w = 0) ∧
  (pw_jmp ((h 74) w) → pj_in s w ∨ (0 ≤ (h 75) w ∧ (h 75) w ≤ W ∧ ht ((h 75) w).toNat = ht w + pw_th ((h 74) w) ∧ rg ((h 75) w).toNat = rg w + 8 * pw_tj ((h 74) w) ∧ st ((h 75) w).toNat + pw_ts ((h 74) w) ≤ st w ∧ ((w : Int) < (h 75) w ∨ ((h 75) w < w ∧ st ((h 75) w).toNat = 0 ∧ st (((h 75) w).toNat + 1) = 1)))) ∧
  ((h 74) w = 4 ∨ (h 74) w = 5 → 0 ≤ (h 75) w ∧ (h 75) w ≤ 15) ∧
  ((h 74) w = 15 → 0 ≤ (h 75) w ∧ (h 75) w < (h 0 88) ∧ ¬ pp_in s ((h 75) w)) ∧
  ((h 74) w = 16 ∨ (h 74) w = 3 → 0 ≤ (h 75) w ∧ (h 75) w ≤ 7 ∧ ((h 0 11) = 0 → 13 * (rg w % 8) = 2 * (h 74) w + 7)) ∧
  ((h 74) w = 6 ∨ (h 74) w = 7 → 0 ≤ (h 75) w ∧ (h 75) w ≤ 900 ∧ 0 ≤ (h 76) w ∧ (h 76) w ≤ 7 ∧ ((h 0 11) = 0 → 2 ≤ rg w % 8 ∧ pw_wt h 1 ((h 75) w) ((h 76) w))) ∧
  ((h 74) w = 8 → 0 ≤ (h 75) w ∧ (h 75) w ≤ 900 ∧ pw_wt h 0 ((h 75) w) 0) ∧
  (rg w % 8 = 4 → (rg w = 4 ∧ ht w ≤ 60 ∧ ((h 74) w = 4 → (h 75) w ≤ 6)) ∧ ((h 74) w = 1 ∨ (h 74) w = 2 ∨ (h 74) w = 4 ∨ (h 74) w = 6 ∨ (8 ≤ (h 74) w ∧ (h 74) w ≤ 14) ∨ (h 74) w = 26))
def pi_C (h : ja_H) (ht st rg : Nat → Int) (W : Int) (s : List mo_A) : Prop := ∀ w : Nat, (w : Int) < W → pw h ht st rg W s w
def pi_U (h : ja_H) (W : Int) : Prop := ∀ w v : Nat, w < v → (v : Int) < W → (h 74) w = 15 → (h 74) v = 15 → (h 75) w ≠ (h 75) v
/-- a node of a P -/
def pn (h : ja_H) (ht st rg : Nat → Int) (W : Int) (n : Nat) : Prop :=
  ((h 58) n = 13 ∨ (h 58) n = 14 → 0 ≤ (h 59) n ∧ (h 59) n < n ∧ 0 ≤ (h 60) n ∧ (h 60) n < n ∧ (h 67) ((h 59) n).toNat = (h 67) n ∧ (h 67) ((h 60) n).toNat = (h 67) n) ∧
  ((h 58) n = 11 ∨ (h 58) n = 15 → 0 ≤ (h 59) n ∧ (h 59) n < n ∧ (h 67) ((h 59) n).toNat = (h 67) n) ∧
  ((h 58) n = 10 → 0 ≤ (h 59) n ∧ (h 59) n < W ∧ ht ((h 59) n).toNat = 0 ∧ rg ((h 59) n).toNat = 4) ∧
  ((h 58) n = 12 → (h 67) n = 0 ∧ ((h 0 11) = 0 → ∀ k : Nat, (k : Int) < (h 62) n → 0 ≤ (h 63) (7 * n + k) ∧ (h 63) (7 * n + k) ≤ 6) ∧ ∃ i : Nat, (i : Int) < (h 0 72) ∧ (h 47) i = n) ∧
  ((h 58) n = 7 ∨ (h 58) n = 8 → (0 ≤ (h 59) n ∧ (h 59) n ≤ 6) ∨ (1000 ≤ (h 59) n ∧ (h 59) n ≤ 1900 ∧ pw_wt h 0 ((h 59) n - 1000) 0)) ∧
  ((h 58) n = 9 → ∀ k : Nat, (k : Int) < (h 62) n → (h 63) (7 * n + k) = -1 ∨ (0 ≤ (h 63) (7 * n + k) ∧ (h 63) (7 * n + k) ≤ 6) ∨ (1000 ≤ (h 63) (7 * n + k) ∧ (h 63) (7 * n + k) ≤ 1900 ∧ pw_wt h 0 ((h 63) (7 * n + k) - 1000) 0))
def pi_V (h : ja_H) : Prop := ∀ i : Nat, (i : Int) < (h 0 72) → (h 47) i < (h 0 95) ∧ (h 58) ((h 47) i).toNat = 12
def pi_N (h : ja_H) (ht st rg : Nat → Int) (W : Int) : Prop := (∀ n : Nat, (n : Int) < (h 0 95) → pn h ht st rg W n) ∧ pi_V h
def pi_T (h : ja_H) : Prop := ∀ k : Nat, (k : Int) < (h 0 109) → (h 70) k < (h 0 95) ∧ (h 67) ((h 70) k).toNat = (h 0 85)
def pi_M (h : ja_H) : Prop := ∀ m : Nat, (m : Int) < (h 0 34) → 0 ≤ (h 24) m ∧ (h 24) m < (h 0 88) ∧ (h 52) ((h 24) m).toNat = 1
def pi_P (h : ja_H) : Prop := pi_M h ∧ ∀ p : Nat, (p : Int) < (h 0 88) → ((h 52) p = 5 ∨ 0 ≤ (h 54) p) ∧ ((h 56) p = 2 → (h 57) p ≤ 24) ∧ ((h 52) p = 1 → (h 56) p = 1 ∧ (h 57) p < (h 0 34)) ∧ ((h 52) p = 2 → pw_wt h 0 ((h 54) p) 0)
/-- sums, and what changes keep -/
theorem pk_D_r (r : Int) : (2 ≤ pk_D r ∧ pk_D r ≤ 7) ∧ (r ≤ 3 → pk_D r = 7) ∧ (r = 4 → pk_D r = 2) := by
  unfold pk_D; split <;> omega
theorem pk_sum_k (r : Int) (s : List mo_A) : (0 ≤ pk_sum (pk_k r) s ∧ pk_sum (pk_k r) s ≤ 7 * pk_sum pk_c s) ∧ (r = 4 → pk_sum (pk_k r) s = 2 * pk_sum pk_c s) := by
  induction s with
  | nil => exact ⟨⟨Int.le_refl _, Int.le_refl _⟩, fun _ => rfl⟩
  | cons x s ih =>
    have hD := pk_D_r r
    have e1 : pk_sum (pk_k r) (x :: s) = pk_k r x.1 + pk_sum (pk_k r) s := rfl
    have e2 : pk_sum pk_c (x :: s) = pk_c x.1 + pk_sum pk_c s := rfl
    have hk : (pk_k r x.1 = pk_D r ∧ pk_c x.1 = 1) ∨ (pk_k r x.1 = 0 ∧ pk_c x.1 = 0) := by
      unfold pk_k pk_c
      split
      · exact Or.inl ⟨rfl, rfl⟩
      · exact Or.inr ⟨rfl, rfl⟩
    rw [e1, e2]
    omega
theorem pk_sum_c0 (s : List mo_A) : 0 ≤ pk_sum pk_c s := by
  induction s with
  | nil => exact Int.le_refl _
  | cons x s ih =>
    have e : 0 ≤ pk_c x.1 := by unfold pk_c; split <;> omega
    show 0 ≤ pk_c x.1 + pk_sum pk_c s
    omega
theorem pk_sum_d0 (s : List mo_A) : 0 ≤ pk_sum pk_d s := by
  induction s with
  | nil => exact Int.le_refl _
  | cons x s ih =>
    have e : 0 ≤ pk_d x.1 := by unfold pk_d; split <;> omega
    show 0 ≤ pk_d x.1 + pk_sum pk_d s
    omega
theorem pk_S_len {h : ja_H} : ∀ {n : Nat} {s : List mo_A}, pk_S h n s → s.length = n
  | 0, [], _ => rfl
  | 0, _ :: _, q => q.elim
  | _ + 1, [], q => q.elim
  | n + 1, x :: s, q => by rw [List.length_cons, pk_S_len q.2]
theorem pk_S_ext {h h' : ja_H} : ∀ {n : Nat} {s : List mo_A}, (∀ j : Nat, j < n → (h' 6) j = (h 6) j ∧ (h' 7) j = (h 7) j ∧ (h' 8) j = (h 8) j) → pk_S h n s → pk_S h' n s
  | 0, [], _, _ => trivial
  | 0, _ :: _, _, q => q.elim
  | _ + 1, [], _, q => q.elim
  | n + 1, x :: s, e, q => by
    obtain ⟨⟨q1, q2, q3⟩, q4⟩ := q
    obtain ⟨e1, e2, e3⟩ := e n (Nat.lt_succ_self n)
    exact ⟨⟨e1.trans q1, e2.trans q2, e3.trans q3⟩, pk_S_ext (fun j hj => e j (Nat.lt_succ_of_lt hj)) q4⟩
theorem pk_S_pop {h : ja_H} {n : Nat} {s : List mo_A} (hn : 0 < n) (q : pk_S h n s) : ∃ x s', s = x :: s' ∧ (h 6) (n - 1) = x.1 ∧ (h 7) (n - 1) = x.2.1 ∧ (h 8) (n - 1) = x.2.2 ∧ pk_S h (n - 1) s' := by
  cases n with
  | zero => omega
  | succ n =>
    cases s with
    | nil => exact q.elim
    | cons x s => exact ⟨x, s, rfl, q.1.1, q.1.2.1, q.1.2.2, q.2⟩
theorem pt_at_ext {ht ht' st st' rg rg' : Nat → Int} {W W' r a c e tu : Int} (hW : W ≤ W') (ex : ∀ j : Nat, (j : Int) ≤ W → ht' j = ht j ∧ st' j = st j ∧ rg' j = rg j) (q : pt_at ht st rg W r a c e tu) : pt_at ht' st' rg' W' r a c e tu := by
  obtain ⟨q1, q2, q3, q4, q5⟩ := q
  obtain ⟨e1, e2, e3⟩ := ex a.toNat (by omega)
  exact ⟨q1, by omega, e1.trans q3, e3.trans q4, e2.trans q5⟩
theorem pt_ext {op op' ht ht' st st' rg rg' : Nat → Int} {W W' P P' lo lo' r : Int} {tf : mo_TF} {wn wn' : Int → Prop} (hW : W ≤ W') (hP : P ≤ P') (hlo : lo ≤ lo') (hw : ∀ a, wn a → wn' a) (ex : ∀ j : Nat, (j : Int) ≤ W → ((j : Int) < W → op' j = op j) ∧ ht' j = ht j ∧ st' j = st j ∧ rg' j = rg j) :
    ∀ {s : List mo_A} {c t e tu : Int}, pt op ht st rg W P lo r tf wn s c t e tu → pt op' ht' st' rg' W' P' lo' r tf wn' s c t e tu
  | [], _, _, _, _, q => ⟨q.1, q.2.1, q.2.2.1, q.2.2.2.1, Int.le_trans q.2.2.2.2.1 hW, fun j hj => by
    obtain ⟨-, e1, e2, e3⟩ := ex j (Int.le_trans hj q.2.2.2.2.1)
    obtain ⟨z1, z2, z3⟩ := q.2.2.2.2.2.1 j hj
    exact ⟨e1.trans z1, e2.trans z2, e3.trans z3⟩, fun a z => hw a (q.2.2.2.2.2.2 a z)⟩
  | x :: s, c, t, e, tu, q => by
    obtain ⟨q1, q2, q3, q4⟩ := q
    refine ⟨q1, q2, ?_, pt_ext hW hP hlo hw ex q4⟩
    have ex2 : ∀ j : Nat, (j : Int) ≤ W → ht' j = ht j ∧ st' j = st j ∧ rg' j = rg j := fun j hj => (ex j hj).2
    have eo : ∀ {a c e tu : Int}, pt_at ht st rg W r a c e tu → op' a.toNat = op a.toNat := fun {a c e tu} q => (ex a.toNat (by have := q.1; have := q.2.1; omega)).1 (by have := q.1; have := q.2.1; omega)
    have es : ∀ {a c e tu : Int}, pt_at ht st rg W r a c e tu → st' (a.toNat + 1) = st (a.toNat + 1) := fun {a c e tu} q => (ex2 (a.toNat + 1) (by have := q.1; have := q.2.1; omega)).2.1
    obtain ⟨b1, b2, b3, b4, o1, o2, o3, o4, o5, o6, o7, o8, o9, o10, o11, o12, o14, o16, o17, o17b, o19, o21, o22, o23, o24, o28, o31, o32, o33, o34, o36, o18⟩ := q3
    refine ⟨b1, b2, b3, b4, o1, o2, o3, fun z => ?_, o5, o6, o7, o8, o9, fun z => ?_, fun z => ?_, fun z => ⟨(o12 z).1, hw _ (o12 z).2.1, (o12 z).2.2⟩, o14, fun z => ⟨(o16 z).1, Int.le_trans (o16 z).2 hlo⟩, o17, o17b, fun z => ?_, fun z => ?_, fun z => ?_, fun z => ?_, fun z => ?_, fun z => ?_, o31, o32, o33, o34, fun z => ?_, o18⟩
    · obtain ⟨a1, a2, a3⟩ := o4 z
      exact ⟨a1, pt_at_ext hW ex2 a2, by rw [eo a2]; exact a3⟩
    · obtain ⟨a1, a2, a3, a4, a5⟩ := o10 z
      exact ⟨a1, a2, a3, by omega, hw _ a5.1, a5.2⟩
    · obtain ⟨a1, a2, a3, a4⟩ := o11 z
      exact ⟨a1, a2, by omega, hw _ a4.1, a4.2⟩
    · obtain ⟨a1, a2, a3⟩ := o19 z
      refine ⟨a1, a2, ?_⟩
      rcases a3 with a3 | a3 | a3
      · exact Or.inl ⟨a3.1, a3.2.1, a3.2.2.1, by have := a3.2.2.2.1; omega, hw _ a3.2.2.2.2⟩
      · exact Or.inr (Or.inl ⟨a3.1, a3.2.1, a3.2.2.1, a3.2.2.2.1, hw _ a3.2.2.2.2⟩)
      · exact Or.inr (Or.inr a3)
    · obtain ⟨a1, a2⟩ := o21 z
      exact ⟨pt_at_ext hW ex2 a1, by rw [eo a1]; exact a2⟩
    · obtain ⟨a1, a2⟩ := o22 z
      rw [eo a1]
      exact ⟨pt_at_ext hW ex2 a1, a2⟩
    · exact ⟨pt_at_ext hW ex2 (o23 z).1, (es (o23 z).1).trans (o23 z).2⟩
    · obtain ⟨⟨a1, a0⟩, a2, a3⟩ := o24 z
      exact ⟨⟨pt_at_ext hW ex2 a1, (es a1).trans a0⟩, pt_at_ext hW ex2 a2, by rw [eo a2]; exact a3⟩
    · obtain ⟨a1, a2⟩ := o28 z
      exact ⟨pt_at_ext hW ex2 a1, by rw [eo a1]; exact a2⟩
    · obtain ⟨a1, a2, ⟨z1, z2, z3, z4, z5⟩, a4⟩ := o36 z
      obtain ⟨y1, y2, y3⟩ := ex2 (x.2.1).toNat (by omega)
      exact ⟨a1, a2, ⟨z1, by omega, y1.trans z3, y3.trans z4, y2.trans z5⟩, a4⟩
theorem pt_base {op ht st rg : Nat → Int} {W P lo r : Int} {tf : mo_TF} {wn : Int → Prop} : ∀ {s : List mo_A} {c t e tu : Int}, pt op ht st rg W P lo r tf wn s c t e tu → tf.2.1 ≤ W ∧ (∀ j : Nat, (j : Int) ≤ tf.2.1 → ht j = tf.2.2.1 j ∧ st j = tf.2.2.2.1 j ∧ rg j = tf.2.2.2.2.1 j) ∧ ∀ a, tf.2.2.2.2.2 a → wn a
  | [], _, _, _, _, q => q.2.2.2.2
  | _ :: _, _, _, _, _, q => pt_base q.2.2.2
def tf_ok (ph : Int) (tf : mo_TF) : Prop := (ph = 0 → 0 ≤ tf.2.1 ∧ tf.2.2.2.1 tf.2.1.toNat = 0) ∧ (ph = 1 → tf.2.1 < 0 ∨ tf.2.2.2.2.1 tf.2.1.toNat ≠ 200)
theorem pw_wt_ext {h h' : ja_H} {k a b : Int} (hw : (h 0 68) ≤ (h' 0 68)) (e : ∀ j : Nat, (j : Int) < (h 0 68) → (h' 45) j = (h 45) j ∧ (h' 44) j = (h 44) j ∧ (h' 46) j = (h 46) j) (q : pw_wt h k a b) : pw_wt h' k a b := by
  obtain ⟨i, q1, q2, q3, q4⟩ := q
  obtain ⟨e1, e2, e3⟩ := e i q1
  exact ⟨i, by omega, e1.trans q2, e2.trans q3, fun z => e3.trans (q4 z)⟩
/-- a word that stays as it was -/
theorem pw_ext {h h' : ja_H} {ht ht' st st' rg rg' : Nat → Int} {W W' : Int} {s s' : List mo_A} {w : Nat} (hw : (w : Int) < W) (hW : W ≤ W') (ex : ∀ j : Nat, (j : Int) ≤ W → ht' j = ht j ∧ st' j = st j ∧ rg' j = rg j)
    (eo : (h' 74) w = (h 74) w ∧ (h' 75) w = (h 75) w ∧ (h' 76) w = (h 76) w) (hf : (h' 0 11) = 0 → (h 0 11) = 0) (hv : ∀ k a b, pw_wt h k a b → pw_wt h' k a b) (hpt : (h 0 88) ≤ (h' 0 88))
    (hpp : (h 74) w = 15 → 0 ≤ (h 75) w → (h 75) w < (h 0 88) → ¬ pp_in s ((h 75) w) → pw_pop h' ((h 75) w) = pw_pop h ((h 75) w) ∧ ¬ pp_in s' ((h 75) w)) (hj : pw_jmp ((h 74) w) → pj_in s w → pj_in s' w)
    (q : pw h ht st rg W s w) : pw h' ht' st' rg' W' s' w := by
  obtain ⟨c1, c2, c3, c4, c5, c6, c7, c8, c9, c10, c11, c12, c13, c14, c15, c16⟩ := q
  obtain ⟨e1, e2, e3⟩ := eo
  obtain ⟨x1, x2, x3⟩ := ex w (by omega)
  obtain ⟨y1, y2, y3⟩ := ex (w + 1) (by omega)
  have hq : (h 74) w = 15 → pw_pop h' ((h 75) w) = pw_pop h ((h 75) w) := fun z => by
    obtain ⟨a1, a2, a3⟩ := c12 z
    exact (hpp z a1 a2 a3).1
  have n1 : pw_need ((h 74) w) ((h 75) w) (pw_pop h' ((h 75) w)) = pw_need ((h 74) w) ((h 75) w) (pw_pop h ((h 75) w)) := by
    by_cases z : (h 74) w = 15
    · rw [hq z]
    · unfold pw_need; simp only [z, if_false]
  have n2 : pw_eff ((h 74) w) ((h 75) w) (pw_pop h' ((h 75) w)) = pw_eff ((h 74) w) ((h 75) w) (pw_pop h ((h 75) w)) := by
    by_cases z : (h 74) w = 15
    · rw [hq z]
    · unfold pw_eff; simp only [z, if_false]
  unfold pw
  rw [e1, e2, e3, x1, x2, x3, y1, y2, y3, n1, n2]
  refine ⟨c1, c2, c3, c4, c5, c6, c7, c8, c9, fun z => ?_, c11, fun z => ?_, fun z => ?_, fun z => ?_, fun z => ?_, c16⟩
  · rcases c10 z with a | ⟨a1, a2, a3, a4, a5, a6⟩
    · exact Or.inl (hj z a)
    · obtain ⟨z1, z2, z3⟩ := ex ((h 75) w).toNat (by omega)
      refine Or.inr ⟨a1, by omega, by rw [z1]; exact a3, by rw [z3]; exact a4, by rw [z2]; exact a5, ?_⟩
      rcases a6 with a6 | ⟨a6, a7, a8⟩
      · exact Or.inl a6
      · obtain ⟨-, y2, -⟩ := ex (((h 75) w).toNat + 1) (by omega)
        exact Or.inr ⟨a6, by rw [z2]; exact a7, by rw [y2]; exact a8⟩
  · obtain ⟨a1, a2, a3⟩ := c12 z
    exact ⟨a1, by omega, (hpp z a1 a2 a3).2⟩
  · obtain ⟨a1, a2, a3⟩ := c13 z
    exact ⟨a1, a2, fun y => a3 (hf y)⟩
  · obtain ⟨a1, a2, a3, a4, a5⟩ := c14 z
    exact ⟨a1, a2, a3, a4, fun y => ⟨(a5 (hf y)).1, hv _ _ _ (a5 (hf y)).2⟩⟩
  · obtain ⟨a1, a2, a3⟩ := c15 z
    exact ⟨a1, a2, hv _ _ _ a3⟩
