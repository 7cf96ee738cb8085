/-! the reference: told twice, wanted, parents (written by a program) -/
/-! the reference: told twice, wanted, parents -/
def odN (h : ja_H) (j : Nat) : Int := (h 5) ((h 43) j).toNat
theorem le_eqI {a b c : Int} (q : a ≤ b) (e : b = c) : a ≤ c := e ▸ q
theorem mo_jj {h : ja_H} {f p f2 p2 : Int} : ja_up (ja_up (ja_up (ja_up h 0 11 f) 0 12 p) 0 11 f2) 0 12 p2 = ja_up (ja_up h 0 11 f2) 0 12 p2 := by
  funext k j
  by_cases e1 : k = 0 ∧ j = 12
  · obtain ⟨rfl, rfl⟩ := e1; rw [mo_upS, mo_upS]
  · rw [mo_upN e1, mo_upN e1]
    by_cases e2 : k = 0 ∧ j = 11
    · obtain ⟨rfl, rfl⟩ := e2; rw [mo_upS, mo_upS]
    · rw [mo_upN e2, mo_upN e1, mo_upN e2, mo_upN e2]
theorem mo_j0 {h : ja_H} : h = ja_up (ja_up h 0 11 (h 0 11)) 0 12 (h 0 12) := by
  funext k j
  by_cases e1 : k = 0 ∧ j = 12
  · obtain ⟨rfl, rfl⟩ := e1; rw [mo_upS]
  · rw [mo_upN e1]
    by_cases e2 : k = 0 ∧ j = 11
    · obtain ⟨rfl, rfl⟩ := e2; rw [mo_upS]
    · rw [mo_upN e2]
/-- the names of an order differ -/
def odD (h : ja_H) (n : Int) : Prop := ∀ i j : Nat, i < j → (j : Int) < n → odN h i ≠ odN h j
def odE (h : ja_H) (n m : Int) : Prop := ∀ i : Nat, (i : Int) < m → odN h i ≠ odN h n.toNat
theorem odD_0 {h : ja_H} : odD h 0 := fun i j _ b => by omega
theorem odE_0 {h : ja_H} {n : Int} : odE h n 0 := fun i b => by omega
theorem odE_s {h : ja_H} {n m : Int} (h0 : 0 ≤ m) (q : odE h n m) (c : ¬ odN h m.toNat = odN h n.toNat) : odE h n (m + 1) := fun i b => by
  by_cases e : i = m.toNat
  · rw [e]; exact c
  · exact q i (by omega)
theorem odD_s {h : ja_H} {n m : Int} (h0 : 0 ≤ n) (q : odD h n) (e : odE h n m) (hm : n ≤ m) : odD h (n + 1) := fun i j a b => by
  by_cases z : j = n.toNat
  · rw [z]; exact e i (by omega)
  · exact q i j a (by omega)
/-- what is wanted is there -/
def waS (h : ja_H) (n : Int) : Prop := ∀ k : Nat, (k : Int) < n → ((h 45) k = 0 → 0 ≤ clF h ((h 5) ((h 44) k).toNat)) ∧ ((h 45) k ≠ 0 → 0 ≤ afF h ((h 46) k) ((h 5) ((h 44) k).toNat))
theorem waS_0 {h : ja_H} : waS h 0 := fun k b => by omega
theorem waS_s {h : ja_H} {n : Int} (h0 : 0 ≤ n) (q : waS h n) (c : ((h 45) n.toNat = 0 → 0 ≤ clF h ((h 5) ((h 44) n.toNat).toNat)) ∧ ((h 45) n.toNat ≠ 0 → 0 ≤ afF h ((h 46) n.toNat) ((h 5) ((h 44) n.toNat).toNat))) : waS h (n + 1) := fun k b => by
  by_cases e : k = n.toNat
  · rw [e]; exact c
  · exact q k (by omega)
def FWA : Nat → Nat → Bool := mo_X [11, 12] [59]
/-- the picks that are used -/
def waU (h u : ja_H) (n : Int) : Prop := mo_ag FWA h u ∧ (∀ j : Nat, (∀ k : Nat, (k : Int) < (h 0 72) → (h 47) k ≠ j) → (u 59) j = (h 59) j) ∧ ((u 0 11) = 0 → (h 0 11) = 0 ∧ ∀ k : Nat, (k : Int) < n → 0 ≤ (u 59) ((h 47) k).toNat ∧ (u 59) ((h 47) k).toNat < (h 0 52))
theorem waU_s {h u u2 : ja_H} {n x m : Int} (g : mo_G mo_zr h) (h0 : 0 ≤ n) (h1 : n < (h 0 72)) (em : m = (h 47) n.toNat) (q : waU h u n) (ag : mo_ag (mo_X [11, 12] []) (ja_up u 59 m.toNat x) u2) (hf : (u2 0 11) = 0 → (u 0 11) = 0 ∧ 0 ≤ x ∧ x < (h 0 52)) : waU h u2 (n + 1) := by
  subst em
  obtain ⟨q1, q2, q3⟩ := q
  have f : (u2 59) = (ja_up u 59 ((h 47) n.toNat).toNat x) 59 := funext fun j => ag _ _ rfl
  have gu := (gC_useNode g n.toNat).1
  refine ⟨ag_trans (h' := ja_up u 59 ((h 47) n.toNat).toNat x) (ag_up rfl q1) (ag_sub (X_X (by decide) (by decide)) ag), fun j hj => ?_, fun z => ?_⟩
  · rw [f, mo_upJ (fun e => hj n.toNat (by omega) (by rw [e]; omega))]
    exact q2 j hj
  · obtain ⟨a1, a2, a3⟩ := hf z
    obtain ⟨b1, b2⟩ := q3 a1
    refine ⟨b1, fun k hk => ?_⟩
    rw [f]
    by_cases e : ((h 47) k).toNat = ((h 47) n.toNat).toNat
    · rw [e, mo_upS]; exact ⟨a2, a3⟩
    · rw [mo_upJ e]
      exact b2 k (by
        rcases Int.lt_or_le (k : Int) n with y | y
        · exact y
        · exact absurd (by have ek : k = n.toNat := by omega
                           rw [ek]) e)
/-- parents: ranks -/
def rk_P (f : Nat → Int) (n : Int) (rk : Nat → Nat) : Prop := ∀ c : Nat, (c : Int) < n → f c < n ∧ (0 ≤ f c → rk (f c).toNat < rk c)
def upn (f : Nat → Int) : Nat → Int → Int
  | 0, x => x
  | k + 1, x => upn f k (f x.toNat)
/-- c stands above x, or is x -/
def abv (f : Nat → Int) (c x : Int) : Prop := ∃ k : Nat, upn f k x = c ∧ ∀ j : Nat, j < k → 0 ≤ upn f j x
theorem upn_s {f : Nat → Int} : ∀ (k : Nat) (x : Int), upn f (k + 1) x = f (upn f k x).toNat
  | 0, x => rfl
  | k + 1, x => upn_s k (f x.toNat)
theorem abv_self {f : Nat → Int} {c : Int} : abv f c c := ⟨0, rfl, fun j hj => absurd hj (by omega)⟩
theorem abv_up {f : Nat → Int} {c x : Int} (h0 : 0 ≤ x) (q : abv f c (f x.toNat)) : abv f c x := by
  obtain ⟨k, q1, q2⟩ := q
  refine ⟨k + 1, q1, fun j hj => ?_⟩
  cases j with
  | zero => exact h0
  | succ j => exact q2 j (by omega)
theorem abv_down {f : Nat → Int} {c x : Int} (hx : x ≠ c) (q : abv f c x) : abv f c (f x.toNat) := by
  obtain ⟨k, q1, q2⟩ := q
  cases k with
  | zero => exact absurd q1 hx
  | succ k => exact ⟨k, q1, fun j hj => q2 (j + 1) (by omega)⟩
/-- a walk up that has not met c -/
def wkU (f : Nat → Int) (c of x : Int) : Prop := ∃ k : Nat, upn f k of = x ∧ ∀ j : Nat, j < k → 0 ≤ upn f j of ∧ upn f j of ≠ c
theorem wkU_0 {f : Nat → Int} {c of : Int} : wkU f c of of := ⟨0, rfl, fun j hj => absurd hj (by omega)⟩
theorem wkU_s {f : Nat → Int} {c of x : Int} (h0 : ¬ x < 0) (h1 : ¬ x = c) (q : wkU f c of x) : wkU f c of (f x.toNat) := by
  obtain ⟨k, q1, q2⟩ := q
  refine ⟨k + 1, by rw [upn_s, q1], fun j hj => ?_⟩
  by_cases e : j = k
  · rw [e, q1]; exact ⟨by omega, h1⟩
  · exact q2 j (by omega)
theorem wkU_no {f : Nat → Int} {c of x : Int} (hc : 0 ≤ c) (h1 : x < 0) (q : wkU f c of x) : ¬ abv f c of := by
  rintro ⟨k', a1, a2⟩
  obtain ⟨k, q1, q2⟩ := q
  rcases Nat.lt_trichotomy k' k with z | z | z
  · exact (q2 k' z).2 a1
  · rw [z, q1] at a1; omega
  · have := a2 k z; rw [q1] at this; omega
theorem rk_new {f f' : Nat → Int} {n c up : Int} {rk : Nat → Nat} (q : rk_P f n rk) (hc : 0 ≤ c ∧ c < n) (hu : 0 ≤ up ∧ up < n) (na : ¬ abv f c up) (e1 : f' c.toNat = up) (e2 : ∀ j : Nat, j ≠ c.toNat → f' j = f j) : ∃ rk', rk_P f' n rk' := by
  classical
  refine ⟨fun x => if abv f c (x : Int) then rk x + (rk up.toNat + 1) else rk x, fun x hx => ?_⟩
  by_cases e : x = c.toNat
  · subst e
    rw [e1]
    have ec : ((c.toNat : Nat) : Int) = c := by omega
    have eu : ((up.toNat : Nat) : Int) = up := by omega
    refine ⟨hu.2, fun _ => ?_⟩
    dsimp only
    rw [ec, eu, if_pos abv_self, if_neg na]
    omega
  · rw [e2 x e]
    obtain ⟨q1, q2⟩ := q x hx
    refine ⟨q1, fun z => ?_⟩
    have ef : (((f x).toNat : Nat) : Int) = f x := by omega
    have lt := q2 z
    dsimp only
    rw [ef]
    have ex : f x = f ((x : Int)).toNat := by rw [Int.toNat_natCast]
    by_cases a : abv f c (x : Int)
    · have b := abv_down (show (x : Int) ≠ c by omega) a
      rw [← ex] at b
      rw [if_pos a, if_pos b]; omega
    · have b : ¬ abv f c (f x) := fun b => a (abv_up (by omega) (by rw [← ex]; exact b))
      rw [if_neg a, if_neg b]; exact lt
def FPA : Nat → Nat → Bool := mo_X [11, 12] [12]
theorem rk_cast {f : Nat → Int} {a b : Int} {rk : Nat → Nat} (e : a = b) (q : rk_P f b rk) : rk_P f a rk := e ▸ q
/-- classes behind the last stay as they were -/
def clK (h u : ja_H) (n : Int) : Prop := ∀ c : Nat, n ≤ (c : Int) → (u 12) c = (h 12) c
def paI (h u : ja_H) : Prop := mo_ag FPA h u ∧ (((u 0 11) = 0 → (h 0 11) = 0) ∧ clK h u (h 0 22)) ∧ ∃ rk, rk_P (u 12) (h 0 22) rk
theorem paI_0 {h u : ja_H} (ag : mo_ag FPA h u) (e : (u 0 11) = (h 0 11)) (q : ∀ c : Nat, (c : Int) < (h 0 22) → (u 12) c = -1) (h0 : 0 ≤ (h 0 22)) (k : clK h u (h 0 22)) : paI h u :=
  ⟨ag, ⟨fun z => by omega, k⟩, fun _ => 0, fun c hc => by rw [q c hc]; exact ⟨by omega, fun z => absurd z (by decide)⟩⟩
theorem pa_up {h u : ja_H} {c up : Int} {rk : Nat → Nat} (e : (u 0 22) = (h 0 22)) (q : rk_P (u 12) (h 0 22) rk) (hc : 0 ≤ c ∧ c < (h 0 22)) (hu : 0 ≤ up ∧ up < (h 0 22)) (na : ¬ abv (u 12) c up) : ∃ rk', rk_P ((ja_up u 12 c.toNat up) 12) (h 0 22) rk' :=
  rk_new q hc hu na mo_upS (fun j hj => mo_upJ hj)
theorem dtwiceTold_0 : decode cX12_twiceTold 0 = .ok (.iconst 0, 1) := by decide +kernel
theorem dtwiceTold_1 : decode cX12_twiceTold 1 = .ok (.istore_n 1, 1) := by decide +kernel
theorem dtwiceTold_2 : decode cX12_twiceTold 2 = .ok (.iload_n 1, 1) := by decide +kernel
theorem dtwiceTold_3 : decode cX12_twiceTold 3 = .ok (.aload_n 0, 1) := by decide +kernel
theorem dtwiceTold_4 : decode cX12_twiceTold 4 = .ok (.getfield 647, 3) := by decide +kernel
theorem dtwiceTold_7 : decode cX12_twiceTold 7 = .ok (.if_icmp .ge 74, 3) := by decide +kernel
theorem dtwiceTold_10 : decode cX12_twiceTold 10 = .ok (.aload_n 0, 1) := by decide +kernel
theorem dtwiceTold_11 : decode cX12_twiceTold 11 = .ok (.getfield 37, 3) := by decide +kernel
theorem dtwiceTold_14 : decode cX12_twiceTold 14 = .ok (.iload_n 1, 1) := by decide +kernel
theorem dtwiceTold_15 : decode cX12_twiceTold 15 = .ok (.iaload, 1) := by decide +kernel
theorem dtwiceTold_16 : decode cX12_twiceTold 16 = .ok (.istore_n 2, 1) := by decide +kernel
theorem dtwiceTold_17 : decode cX12_twiceTold 17 = .ok (.aload_n 0, 1) := by decide +kernel
theorem dtwiceTold_18 : decode cX12_twiceTold 18 = .ok (.aload_n 0, 1) := by decide +kernel
theorem dtwiceTold_19 : decode cX12_twiceTold 19 = .ok (.iload_n 2, 1) := by decide +kernel
theorem dtwiceTold_20 : decode cX12_twiceTold 20 = .ok (.invokevirtual 716, 3) := by decide +kernel
theorem dtwiceTold_23 : decode cX12_twiceTold 23 = .ok (.invokevirtual 903, 3) := by decide +kernel
theorem dtwiceTold_26 : decode cX12_twiceTold 26 = .ok (.iload_n 1, 1) := by decide +kernel
theorem dtwiceTold_27 : decode cX12_twiceTold 27 = .ok (.if_icmp .ge 9, 3) := by decide +kernel
theorem dtwiceTold_30 : decode cX12_twiceTold 30 = .ok (.aload_n 0, 1) := by decide +kernel
theorem dtwiceTold_31 : decode cX12_twiceTold 31 = .ok (.iconst 4, 1) := by decide +kernel
theorem dtwiceTold_32 : decode cX12_twiceTold 32 = .ok (.iload_n 2, 1) := by decide +kernel
theorem dtwiceTold_33 : decode cX12_twiceTold 33 = .ok (.invokevirtual 719, 3) := by decide +kernel
theorem dtwiceTold_36 : decode cX12_twiceTold 36 = .ok (.aload_n 0, 1) := by decide +kernel
theorem dtwiceTold_37 : decode cX12_twiceTold 37 = .ok (.aload_n 0, 1) := by decide +kernel
theorem dtwiceTold_38 : decode cX12_twiceTold 38 = .ok (.iload_n 2, 1) := by decide +kernel
theorem dtwiceTold_39 : decode cX12_twiceTold 39 = .ok (.invokevirtual 716, 3) := by decide +kernel
theorem dtwiceTold_42 : decode cX12_twiceTold 42 = .ok (.invokevirtual 906, 3) := by decide +kernel
theorem dtwiceTold_45 : decode cX12_twiceTold 45 = .ok (.istore_n 3, 1) := by decide +kernel
theorem dtwiceTold_46 : decode cX12_twiceTold 46 = .ok (.iload_n 3, 1) := by decide +kernel
theorem dtwiceTold_47 : decode cX12_twiceTold 47 = .ok (.ifCond .lt 28, 3) := by decide +kernel
theorem dtwiceTold_50 : decode cX12_twiceTold 50 = .ok (.aload_n 0, 1) := by decide +kernel
theorem dtwiceTold_51 : decode cX12_twiceTold 51 = .ok (.iconst 4, 1) := by decide +kernel
theorem dtwiceTold_52 : decode cX12_twiceTold 52 = .ok (.aload_n 0, 1) := by decide +kernel
theorem dtwiceTold_53 : decode cX12_twiceTold 53 = .ok (.getfield 46, 3) := by decide +kernel
theorem dtwiceTold_56 : decode cX12_twiceTold 56 = .ok (.iload_n 3, 1) := by decide +kernel
theorem dtwiceTold_57 : decode cX12_twiceTold 57 = .ok (.iaload, 1) := by decide +kernel
theorem dtwiceTold_58 : decode cX12_twiceTold 58 = .ok (.iload_n 2, 1) := by decide +kernel
theorem dtwiceTold_59 : decode cX12_twiceTold 59 = .ok (.if_icmp .le 12, 3) := by decide +kernel
theorem dtwiceTold_62 : decode cX12_twiceTold 62 = .ok (.aload_n 0, 1) := by decide +kernel
theorem dtwiceTold_63 : decode cX12_twiceTold 63 = .ok (.getfield 46, 3) := by decide +kernel
theorem dtwiceTold_66 : decode cX12_twiceTold 66 = .ok (.iload_n 3, 1) := by decide +kernel
theorem dtwiceTold_67 : decode cX12_twiceTold 67 = .ok (.iaload, 1) := by decide +kernel
theorem dtwiceTold_68 : decode cX12_twiceTold 68 = .ok (.goto 4, 3) := by decide +kernel
theorem dtwiceTold_71 : decode cX12_twiceTold 71 = .ok (.iload_n 2, 1) := by decide +kernel
theorem dtwiceTold_72 : decode cX12_twiceTold 72 = .ok (.invokevirtual 719, 3) := by decide +kernel
theorem dtwiceTold_75 : decode cX12_twiceTold 75 = .ok (.iinc 1 1, 3) := by decide +kernel
theorem dtwiceTold_78 : decode cX12_twiceTold 78 = .ok (.goto (-76), 3) := by decide +kernel
theorem dtwiceTold_81 : decode cX12_twiceTold 81 = .ok (.iconst 0, 1) := by decide +kernel
theorem dtwiceTold_82 : decode cX12_twiceTold 82 = .ok (.istore_n 1, 1) := by decide +kernel
theorem dtwiceTold_83 : decode cX12_twiceTold 83 = .ok (.iload_n 1, 1) := by decide +kernel
theorem dtwiceTold_84 : decode cX12_twiceTold 84 = .ok (.aload_n 0, 1) := by decide +kernel
theorem dtwiceTold_85 : decode cX12_twiceTold 85 = .ok (.getfield 650, 3) := by decide +kernel
theorem dtwiceTold_88 : decode cX12_twiceTold 88 = .ok (.if_icmp .ge 38, 3) := by decide +kernel
theorem dtwiceTold_91 : decode cX12_twiceTold 91 = .ok (.aload_n 0, 1) := by decide +kernel
theorem dtwiceTold_92 : decode cX12_twiceTold 92 = .ok (.aload_n 0, 1) := by decide +kernel
theorem dtwiceTold_93 : decode cX12_twiceTold 93 = .ok (.aload_n 0, 1) := by decide +kernel
theorem dtwiceTold_94 : decode cX12_twiceTold 94 = .ok (.getfield 46, 3) := by decide +kernel
theorem dtwiceTold_97 : decode cX12_twiceTold 97 = .ok (.iload_n 1, 1) := by decide +kernel
theorem dtwiceTold_98 : decode cX12_twiceTold 98 = .ok (.iaload, 1) := by decide +kernel
theorem dtwiceTold_99 : decode cX12_twiceTold 99 = .ok (.invokevirtual 716, 3) := by decide +kernel
theorem dtwiceTold_102 : decode cX12_twiceTold 102 = .ok (.invokevirtual 906, 3) := by decide +kernel
theorem dtwiceTold_105 : decode cX12_twiceTold 105 = .ok (.iload_n 1, 1) := by decide +kernel
theorem dtwiceTold_106 : decode cX12_twiceTold 106 = .ok (.if_icmp .ge 14, 3) := by decide +kernel
theorem dtwiceTold_109 : decode cX12_twiceTold 109 = .ok (.aload_n 0, 1) := by decide +kernel
theorem dtwiceTold_110 : decode cX12_twiceTold 110 = .ok (.iconst 4, 1) := by decide +kernel
theorem dtwiceTold_111 : decode cX12_twiceTold 111 = .ok (.aload_n 0, 1) := by decide +kernel
theorem dtwiceTold_112 : decode cX12_twiceTold 112 = .ok (.getfield 46, 3) := by decide +kernel
theorem dtwiceTold_115 : decode cX12_twiceTold 115 = .ok (.iload_n 1, 1) := by decide +kernel
theorem dtwiceTold_116 : decode cX12_twiceTold 116 = .ok (.iaload, 1) := by decide +kernel
theorem dtwiceTold_117 : decode cX12_twiceTold 117 = .ok (.invokevirtual 719, 3) := by decide +kernel
theorem dtwiceTold_120 : decode cX12_twiceTold 120 = .ok (.iinc 1 1, 3) := by decide +kernel
theorem dtwiceTold_123 : decode cX12_twiceTold 123 = .ok (.goto (-40), 3) := by decide +kernel
theorem dtwiceTold_126 : decode cX12_twiceTold 126 = .ok (.iconst 0, 1) := by decide +kernel
theorem dtwiceTold_127 : decode cX12_twiceTold 127 = .ok (.istore_n 1, 1) := by decide +kernel
theorem dtwiceTold_128 : decode cX12_twiceTold 128 = .ok (.iload_n 1, 1) := by decide +kernel
theorem dtwiceTold_129 : decode cX12_twiceTold 129 = .ok (.aload_n 0, 1) := by decide +kernel
theorem dtwiceTold_130 : decode cX12_twiceTold 130 = .ok (.getfield 659, 3) := by decide +kernel
theorem dtwiceTold_133 : decode cX12_twiceTold 133 = .ok (.if_icmp .ge 71, 3) := by decide +kernel
theorem dtwiceTold_136 : decode cX12_twiceTold 136 = .ok (.iconst 0, 1) := by decide +kernel
theorem dtwiceTold_137 : decode cX12_twiceTold 137 = .ok (.istore_n 2, 1) := by decide +kernel
theorem dtwiceTold_138 : decode cX12_twiceTold 138 = .ok (.iload_n 2, 1) := by decide +kernel
theorem dtwiceTold_139 : decode cX12_twiceTold 139 = .ok (.iload_n 1, 1) := by decide +kernel
theorem dtwiceTold_140 : decode cX12_twiceTold 140 = .ok (.if_icmp .ge 58, 3) := by decide +kernel
theorem dtwiceTold_143 : decode cX12_twiceTold 143 = .ok (.aload_n 0, 1) := by decide +kernel
theorem dtwiceTold_144 : decode cX12_twiceTold 144 = .ok (.getfield 86, 3) := by decide +kernel
theorem dtwiceTold_147 : decode cX12_twiceTold 147 = .ok (.iload_n 2, 1) := by decide +kernel
theorem dtwiceTold_148 : decode cX12_twiceTold 148 = .ok (.iaload, 1) := by decide +kernel
theorem dtwiceTold_149 : decode cX12_twiceTold 149 = .ok (.aload_n 0, 1) := by decide +kernel
theorem dtwiceTold_150 : decode cX12_twiceTold 150 = .ok (.getfield 86, 3) := by decide +kernel
theorem dtwiceTold_153 : decode cX12_twiceTold 153 = .ok (.iload_n 1, 1) := by decide +kernel
theorem dtwiceTold_154 : decode cX12_twiceTold 154 = .ok (.iaload, 1) := by decide +kernel
theorem dtwiceTold_155 : decode cX12_twiceTold 155 = .ok (.if_icmp .ne 37, 3) := by decide +kernel
theorem dtwiceTold_158 : decode cX12_twiceTold 158 = .ok (.aload_n 0, 1) := by decide +kernel
theorem dtwiceTold_159 : decode cX12_twiceTold 159 = .ok (.aload_n 0, 1) := by decide +kernel
theorem dtwiceTold_160 : decode cX12_twiceTold 160 = .ok (.getfield 83, 3) := by decide +kernel
theorem dtwiceTold_163 : decode cX12_twiceTold 163 = .ok (.iload_n 2, 1) := by decide +kernel
theorem dtwiceTold_164 : decode cX12_twiceTold 164 = .ok (.iaload, 1) := by decide +kernel
theorem dtwiceTold_165 : decode cX12_twiceTold 165 = .ok (.invokevirtual 716, 3) := by decide +kernel
theorem dtwiceTold_168 : decode cX12_twiceTold 168 = .ok (.aload_n 0, 1) := by decide +kernel
theorem dtwiceTold_169 : decode cX12_twiceTold 169 = .ok (.aload_n 0, 1) := by decide +kernel
theorem dtwiceTold_170 : decode cX12_twiceTold 170 = .ok (.getfield 83, 3) := by decide +kernel
theorem dtwiceTold_173 : decode cX12_twiceTold 173 = .ok (.iload_n 1, 1) := by decide +kernel
theorem dtwiceTold_174 : decode cX12_twiceTold 174 = .ok (.iaload, 1) := by decide +kernel
theorem dtwiceTold_175 : decode cX12_twiceTold 175 = .ok (.invokevirtual 716, 3) := by decide +kernel
theorem dtwiceTold_178 : decode cX12_twiceTold 178 = .ok (.if_icmp .ne 14, 3) := by decide +kernel
theorem dtwiceTold_181 : decode cX12_twiceTold 181 = .ok (.aload_n 0, 1) := by decide +kernel
theorem dtwiceTold_182 : decode cX12_twiceTold 182 = .ok (.iconst 4, 1) := by decide +kernel
theorem dtwiceTold_183 : decode cX12_twiceTold 183 = .ok (.aload_n 0, 1) := by decide +kernel
theorem dtwiceTold_184 : decode cX12_twiceTold 184 = .ok (.getfield 83, 3) := by decide +kernel
theorem dtwiceTold_187 : decode cX12_twiceTold 187 = .ok (.iload_n 1, 1) := by decide +kernel
theorem dtwiceTold_188 : decode cX12_twiceTold 188 = .ok (.iaload, 1) := by decide +kernel
theorem dtwiceTold_189 : decode cX12_twiceTold 189 = .ok (.invokevirtual 719, 3) := by decide +kernel
theorem dtwiceTold_192 : decode cX12_twiceTold 192 = .ok (.iinc 2 1, 3) := by decide +kernel
theorem dtwiceTold_195 : decode cX12_twiceTold 195 = .ok (.goto (-57), 3) := by decide +kernel
theorem dtwiceTold_198 : decode cX12_twiceTold 198 = .ok (.iinc 1 1, 3) := by decide +kernel
theorem dtwiceTold_201 : decode cX12_twiceTold 201 = .ok (.goto (-73), 3) := by decide +kernel
theorem dtwiceTold_204 : decode cX12_twiceTold 204 = .ok (.iconst 0, 1) := by decide +kernel
theorem dtwiceTold_205 : decode cX12_twiceTold 205 = .ok (.istore_n 1, 1) := by decide +kernel
theorem dtwiceTold_206 : decode cX12_twiceTold 206 = .ok (.iload_n 1, 1) := by decide +kernel
theorem dtwiceTold_207 : decode cX12_twiceTold 207 = .ok (.aload_n 0, 1) := by decide +kernel
theorem dtwiceTold_208 : decode cX12_twiceTold 208 = .ok (.getfield 674, 3) := by decide +kernel
theorem dtwiceTold_211 : decode cX12_twiceTold 211 = .ok (.if_icmp .ge 84, 3) := by decide +kernel
theorem dtwiceTold_214 : decode cX12_twiceTold 214 = .ok (.aload_n 0, 1) := by decide +kernel
theorem dtwiceTold_215 : decode cX12_twiceTold 215 = .ok (.aload_n 0, 1) := by decide +kernel
theorem dtwiceTold_216 : decode cX12_twiceTold 216 = .ok (.aload_n 0, 1) := by decide +kernel
theorem dtwiceTold_217 : decode cX12_twiceTold 217 = .ok (.getfield 137, 3) := by decide +kernel
theorem dtwiceTold_220 : decode cX12_twiceTold 220 = .ok (.iload_n 1, 1) := by decide +kernel
theorem dtwiceTold_221 : decode cX12_twiceTold 221 = .ok (.iaload, 1) := by decide +kernel
theorem dtwiceTold_222 : decode cX12_twiceTold 222 = .ok (.invokevirtual 716, 3) := by decide +kernel
theorem dtwiceTold_225 : decode cX12_twiceTold 225 = .ok (.invokevirtual 906, 3) := by decide +kernel
theorem dtwiceTold_228 : decode cX12_twiceTold 228 = .ok (.ifCond .ge 14, 3) := by decide +kernel
theorem dtwiceTold_231 : decode cX12_twiceTold 231 = .ok (.aload_n 0, 1) := by decide +kernel
theorem dtwiceTold_232 : decode cX12_twiceTold 232 = .ok (.iconst 5, 1) := by decide +kernel
theorem dtwiceTold_233 : decode cX12_twiceTold 233 = .ok (.aload_n 0, 1) := by decide +kernel
theorem dtwiceTold_234 : decode cX12_twiceTold 234 = .ok (.getfield 137, 3) := by decide +kernel
theorem dtwiceTold_237 : decode cX12_twiceTold 237 = .ok (.iload_n 1, 1) := by decide +kernel
theorem dtwiceTold_238 : decode cX12_twiceTold 238 = .ok (.iaload, 1) := by decide +kernel
theorem dtwiceTold_239 : decode cX12_twiceTold 239 = .ok (.invokevirtual 719, 3) := by decide +kernel
theorem dtwiceTold_242 : decode cX12_twiceTold 242 = .ok (.iconst 0, 1) := by decide +kernel
theorem dtwiceTold_243 : decode cX12_twiceTold 243 = .ok (.istore_n 2, 1) := by decide +kernel
theorem dtwiceTold_244 : decode cX12_twiceTold 244 = .ok (.iload_n 2, 1) := by decide +kernel
theorem dtwiceTold_245 : decode cX12_twiceTold 245 = .ok (.iload_n 1, 1) := by decide +kernel
theorem dtwiceTold_246 : decode cX12_twiceTold 246 = .ok (.if_icmp .ge 43, 3) := by decide +kernel
theorem dtwiceTold_249 : decode cX12_twiceTold 249 = .ok (.aload_n 0, 1) := by decide +kernel
theorem dtwiceTold_250 : decode cX12_twiceTold 250 = .ok (.aload_n 0, 1) := by decide +kernel
theorem dtwiceTold_251 : decode cX12_twiceTold 251 = .ok (.getfield 137, 3) := by decide +kernel
theorem dtwiceTold_254 : decode cX12_twiceTold 254 = .ok (.iload_n 2, 1) := by decide +kernel
theorem dtwiceTold_255 : decode cX12_twiceTold 255 = .ok (.iaload, 1) := by decide +kernel
theorem dtwiceTold_256 : decode cX12_twiceTold 256 = .ok (.invokevirtual 716, 3) := by decide +kernel
theorem dtwiceTold_259 : decode cX12_twiceTold 259 = .ok (.aload_n 0, 1) := by decide +kernel
theorem dtwiceTold_260 : decode cX12_twiceTold 260 = .ok (.aload_n 0, 1) := by decide +kernel
theorem dtwiceTold_261 : decode cX12_twiceTold 261 = .ok (.getfield 137, 3) := by decide +kernel
theorem dtwiceTold_264 : decode cX12_twiceTold 264 = .ok (.iload_n 1, 1) := by decide +kernel
theorem dtwiceTold_265 : decode cX12_twiceTold 265 = .ok (.iaload, 1) := by decide +kernel
theorem dtwiceTold_266 : decode cX12_twiceTold 266 = .ok (.invokevirtual 716, 3) := by decide +kernel
theorem dtwiceTold_269 : decode cX12_twiceTold 269 = .ok (.if_icmp .ne 14, 3) := by decide +kernel
theorem dtwiceTold_272 : decode cX12_twiceTold 272 = .ok (.aload_n 0, 1) := by decide +kernel
theorem dtwiceTold_273 : decode cX12_twiceTold 273 = .ok (.iconst 4, 1) := by decide +kernel
theorem dtwiceTold_274 : decode cX12_twiceTold 274 = .ok (.aload_n 0, 1) := by decide +kernel
theorem dtwiceTold_275 : decode cX12_twiceTold 275 = .ok (.getfield 137, 3) := by decide +kernel
theorem dtwiceTold_278 : decode cX12_twiceTold 278 = .ok (.iload_n 1, 1) := by decide +kernel
theorem dtwiceTold_279 : decode cX12_twiceTold 279 = .ok (.iaload, 1) := by decide +kernel
theorem dtwiceTold_280 : decode cX12_twiceTold 280 = .ok (.invokevirtual 719, 3) := by decide +kernel
theorem dtwiceTold_283 : decode cX12_twiceTold 283 = .ok (.iinc 2 1, 3) := by decide +kernel
theorem dtwiceTold_286 : decode cX12_twiceTold 286 = .ok (.goto (-42), 3) := by decide +kernel
theorem dtwiceTold_289 : decode cX12_twiceTold 289 = .ok (.iinc 1 1, 3) := by decide +kernel
theorem dtwiceTold_292 : decode cX12_twiceTold 292 = .ok (.goto (-86), 3) := by decide +kernel
theorem dtwiceTold_295 : decode cX12_twiceTold 295 = .ok (.return_, 1) := by decide +kernel
section
variable {l : Launch} {D : va_G} {cA : Nat → ClassId} {ad : Nat → Nat}
theorem s_twiceTold {h : ja_H} {Q : Option ja_V → ja_H → Prop} (g : mo_G mo_zr h) (k1 : ∀ (f p : Int), (0 ≤ f ∧ f ≤ 8 ∧ (1 ≤ f ∨ f = (h 0 11)) ∧ -2147483648 ≤ p ∧ p ≤ 2147483647 ∧ (f = 0 → (h 0 11) = 0 ∧ odD h (h 0 64))) → mo_G mo_zr (ja_up (ja_up h 0 11 f) 0 12 p) → Q none (ja_up (ja_up h 0 11 f) 0 12 p)) : mM_twiceTold l D cA ad  h Q := by
  show mJ l D cA ad 3 cX12_twiceTold 4 none 0 [(0, (2, ((0 : Nat) : Int)))] [] h Q
  have kn_false1 := gF_false1 g
  have kn_falseAt := gF_falseAt g
  have kn_classes := gF_classes g
  have kn_aspects := gF_aspects g
  have kn_members := gF_members g
  have kn_orders := gF_orders g
  have CUT : ∀ n : Nat, (∀ (f p x1 : Int), mo_G mo_zr (ja_up (ja_up h 0 11 f) 0 12 p) → (-2147483648 ≤ f ∧ f ≤ 2147483647) → (-2147483648 ≤ p ∧ p ≤ 2147483647) → (-2147483648 ≤ x1 ∧ x1 ≤ 2147483647) → (0 ≤ x1 ∧ x1 ≤ (h 0 22) ∧ 0 ≤ f ∧ f ≤ 8 ∧ (1 ≤ f ∨ f = (h 0 11))) → (((40000000 : Int) + ((20 : Int) - x1)).toNat) = n → mJ l D cA ad 3 cX12_twiceTold 4 none 2 [(0, (2, ((0 : Nat) : Int))), (1, (0, x1))] [] (ja_up (ja_up h 0 11 f) 0 12 p) Q) ∧ (∀ (f p x1 : Int), mo_G mo_zr (ja_up (ja_up h 0 11 f) 0 12 p) → (-2147483648 ≤ f ∧ f ≤ 2147483647) → (-2147483648 ≤ p ∧ p ≤ 2147483647) → (-2147483648 ≤ x1 ∧ x1 ≤ 2147483647) → (0 ≤ x1 ∧ x1 ≤ (h 0 26) ∧ 0 ≤ f ∧ f ≤ 8 ∧ (1 ≤ f ∨ f = (h 0 11))) → (((30000000 : Int) + ((20 : Int) - x1)).toNat) = n → mJ l D cA ad 3 cX12_twiceTold 4 none 83 [(0, (2, ((0 : Nat) : Int))), (1, (0, x1))] [] (ja_up (ja_up h 0 11 f) 0 12 p) Q) ∧ (∀ (f p x1 : Int), mo_G mo_zr (ja_up (ja_up h 0 11 f) 0 12 p) → (-2147483648 ≤ f ∧ f ≤ 2147483647) → (-2147483648 ≤ p ∧ p ≤ 2147483647) → (-2147483648 ≤ x1 ∧ x1 ≤ 2147483647) → (0 ≤ x1 ∧ x1 ≤ (h 0 41) ∧ 0 ≤ f ∧ f ≤ 8 ∧ (1 ≤ f ∨ f = (h 0 11))) → (((20000000 : Int) + 2000 * ((1000 : Int) - x1)).toNat) = n → mJ l D cA ad 3 cX12_twiceTold 4 none 128 [(0, (2, ((0 : Nat) : Int))), (1, (0, x1))] [] (ja_up (ja_up h 0 11 f) 0 12 p) Q) ∧ (∀ (f p x1 x2 : Int), mo_G mo_zr (ja_up (ja_up h 0 11 f) 0 12 p) → (-2147483648 ≤ f ∧ f ≤ 2147483647) → (-2147483648 ≤ p ∧ p ≤ 2147483647) → (-2147483648 ≤ x1 ∧ x1 ≤ 2147483647) → (-2147483648 ≤ x2 ∧ x2 ≤ 2147483647) → (0 ≤ x1 ∧ x1 < (h 0 41) ∧ 0 ≤ x2 ∧ x2 ≤ x1 ∧ 0 ≤ f ∧ f ≤ 8 ∧ (1 ≤ f ∨ f = (h 0 11))) → (((20000000 : Int) + 2000 * ((1000 : Int) - x1) - 1 - x2).toNat) = n → mJ l D cA ad 3 cX12_twiceTold 4 none 138 [(0, (2, ((0 : Nat) : Int))), (1, (0, x1)), (2, (0, x2))] [] (ja_up (ja_up h 0 11 f) 0 12 p) Q) ∧ (∀ (f p x1 : Int), mo_G mo_zr (ja_up (ja_up h 0 11 f) 0 12 p) → (-2147483648 ≤ f ∧ f ≤ 2147483647) → (-2147483648 ≤ p ∧ p ≤ 2147483647) → (-2147483648 ≤ x1 ∧ x1 ≤ 2147483647) → ((0 ≤ x1 ∧ x1 ≤ (h 0 64) ∧ 0 ≤ f ∧ f ≤ 8 ∧ (1 ≤ f ∨ f = (h 0 11))) ∧ (f = 0 → (h 0 11) = 0 ∧ odD h x1)) → (((2000 : Int) * ((1000 : Int) - x1)).toNat) = n → mJ l D cA ad 3 cX12_twiceTold 4 none 206 [(0, (2, ((0 : Nat) : Int))), (1, (0, x1))] [] (ja_up (ja_up h 0 11 f) 0 12 p) Q) ∧ (∀ (f p x1 x2 : Int), mo_G mo_zr (ja_up (ja_up h 0 11 f) 0 12 p) → (-2147483648 ≤ f ∧ f ≤ 2147483647) → (-2147483648 ≤ p ∧ p ≤ 2147483647) → (-2147483648 ≤ x1 ∧ x1 ≤ 2147483647) → (-2147483648 ≤ x2 ∧ x2 ≤ 2147483647) → ((0 ≤ x1 ∧ x1 < (h 0 64) ∧ 0 ≤ x2 ∧ x2 ≤ x1 ∧ 0 ≤ f ∧ f ≤ 8 ∧ (1 ≤ f ∨ f = (h 0 11))) ∧ (f = 0 → (h 0 11) = 0 ∧ odD h x1 ∧ odE h x1 x2)) → (((2000 : Int) * ((1000 : Int) - x1) - 1 - x2).toNat) = n → mJ l D cA ad 3 cX12_twiceTold 4 none 244 [(0, (2, ((0 : Nat) : Int))), (1, (0, x1)), (2, (0, x2))] [] (ja_up (ja_up h 0 11 f) 0 12 p) Q) := by
    intro n
    induction n using Nat.strongRecOn with
    | _ n ih =>
      refine ⟨?_, ?_, ?_, ?_, ?_, ?_⟩
      · intro f p x1 gu qf qp qx1 iv hm
        subst hm
        refine ja_iload_n dtwiceTold_2 rfl rfl ?_
        refine ja_aload_n dtwiceTold_3 rfl rfl ?_
        refine fg_classes (v := h 0 22) rfl dtwiceTold_4 ?_
        have f1 := gF_classes g
        refine ja_icmp_ge 81 dtwiceTold_7 rfl ⟨by omega, by omega⟩ ⟨by omega, by omega⟩ (fun c7 => ?_) (fun c7 => ?_)
        · refine ja_iconst dtwiceTold_81 ?_
          refine ja_istore_n dtwiceTold_82 rfl (by decide) (L2 := [(1, (0, 0)), (0, (2, ((0 : Nat) : Int)))]) rfl ?_
          exact ja_wk (fun q hq => by simp only [List.mem_cons, List.not_mem_nil, or_false] at hq; rcases hq with rfl | rfl <;> rfl) ((ih (((30000000 : Int) + ((20 : Int) - 0)).toNat) (by omega)).2.1 f p 0 gu ⟨by omega, by omega⟩ ⟨by omega, by omega⟩ ⟨by decide, by decide⟩ (show 0 ≤ 0 ∧ 0 ≤ (h 0 26) ∧ 0 ≤ f ∧ f ≤ 8 ∧ (1 ≤ f ∨ f = (h 0 11)) by omega) rfl)
        · refine ja_aload_n dtwiceTold_10 rfl rfl ?_
          refine fa_className dtwiceTold_11 ?_
          refine ja_iload_n dtwiceTold_14 rfl rfl ?_
          refine il_className (v := h 10 (x1).toNat) rfl ⟨by omega, by omega⟩ dtwiceTold_15 ?_
          have f2 := gC_className g (x1).toNat
          refine ja_istore_n dtwiceTold_16 rfl (by decide) (L2 := [(2, (0, (h 10 (x1).toNat))), (0, (2, ((0 : Nat) : Int))), (1, (0, x1))]) rfl ?_
          refine ja_aload_n dtwiceTold_17 rfl rfl ?_
          refine ja_aload_n dtwiceTold_18 rfl rfl ?_
          refine ja_iload_n dtwiceTold_19 rfl rfl ?_
          refine t_id (by decide) (show (1 : Nat) ≤ 8 by decide) dtwiceTold_20 gu ⟨by omega, by omega⟩ (show 0 ≤ (h 10 (x1).toNat) ∧ (h 10 (x1).toNat) ≤ 900 by omega) ?_
          intro k20_0
          replace k20_0 : -2147483648 ≤ (h 5 (h 10 (x1).toNat).toNat) ∧ (h 5 (h 10 (x1).toNat).toNat) ≤ 2147483647 := k20_0
          show mJ l D cA ad 3 cX12_twiceTold 4 none 23 [(2, (0, (h 10 (x1).toNat))), (0, (2, ((0 : Nat) : Int))), (1, (0, x1))] [(0, (h 5 (h 10 (x1).toNat).toNat)), (2, ((0 : Nat) : Int))] (ja_up (ja_up h 0 11 f) 0 12 p) Q
          refine t_classOf2 (by decide) (show (0 : Nat) ≤ 8 by decide) dtwiceTold_23 gu ⟨by omega, by omega⟩ ?_ ?_
          · intro w3 k23_0
            replace k23_0 : 0 ≤ w3 ∧ w3 < (h 0 22) ∧ w3 = clF (ja_up (ja_up h 0 11 f) 0 12 p) (h 5 (h 10 (x1).toNat).toNat) := k23_0
            refine ja_iload_n dtwiceTold_26 rfl rfl ?_
            refine ja_icmp_ge 36 dtwiceTold_27 rfl ⟨by omega, by omega⟩ ⟨by omega, by omega⟩ (fun c27 => ?_) (fun c27 => ?_)
            · refine ja_aload_n dtwiceTold_36 rfl rfl ?_
              refine ja_aload_n dtwiceTold_37 rfl rfl ?_
              refine ja_iload_n dtwiceTold_38 rfl rfl ?_
              refine t_id (by decide) (show (1 : Nat) ≤ 8 by decide) dtwiceTold_39 gu ⟨by omega, by omega⟩ (show 0 ≤ (h 10 (x1).toNat) ∧ (h 10 (x1).toNat) ≤ 900 by omega) ?_
              intro k39_0
              replace k39_0 : -2147483648 ≤ (h 5 (h 10 (x1).toNat).toNat) ∧ (h 5 (h 10 (x1).toNat).toNat) ≤ 2147483647 := k39_0
              show mJ l D cA ad 3 cX12_twiceTold 4 none 42 [(2, (0, (h 10 (x1).toNat))), (0, (2, ((0 : Nat) : Int))), (1, (0, x1))] [(0, (h 5 (h 10 (x1).toNat).toNat)), (2, ((0 : Nat) : Int))] (ja_up (ja_up h 0 11 f) 0 12 p) Q
              refine t_aspectOf2 (by decide) (show (0 : Nat) ≤ 8 by decide) dtwiceTold_42 gu ⟨by omega, by omega⟩ ?_ ?_
              · intro w4 k42_0
                replace k42_0 : 0 ≤ w4 ∧ w4 < (h 0 26) ∧ w4 = asF (ja_up (ja_up h 0 11 f) 0 12 p) (h 5 (h 10 (x1).toNat).toNat) := k42_0
                refine ja_istore_n dtwiceTold_45 rfl (by decide) (L2 := [(3, (0, w4)), (2, (0, (h 10 (x1).toNat))), (0, (2, ((0 : Nat) : Int))), (1, (0, x1))]) rfl ?_
                refine ja_iload_n dtwiceTold_46 rfl rfl ?_
                refine ja_if_lt 75 dtwiceTold_47 rfl ⟨by omega, by omega⟩ (fun c47 => ?_) (fun c47 => ?_)
                · refine ja_iinc dtwiceTold_75 rfl (by decide) (L2 := [(1, (0, (x1 + 1))), (3, (0, w4)), (2, (0, (h 10 (x1).toNat))), (0, (2, ((0 : Nat) : Int)))]) rfl ?_
                  refine ja_goto 2 dtwiceTold_78 rfl ?_
                  exact ja_wk (fun q hq => by simp only [List.mem_cons, List.not_mem_nil, or_false] at hq; rcases hq with rfl | rfl <;> rfl) ((ih (((40000000 : Int) + ((20 : Int) - (x1 + 1))).toNat) (by omega)).1 f p (x1 + 1) gu ⟨by omega, by omega⟩ ⟨by omega, by omega⟩ ⟨by omega, by omega⟩ (show 0 ≤ (x1 + 1) ∧ (x1 + 1) ≤ (h 0 22) ∧ 0 ≤ f ∧ f ≤ 8 ∧ (1 ≤ f ∨ f = (h 0 11)) by omega) rfl)
                · refine ja_aload_n dtwiceTold_50 rfl rfl ?_
                  refine ja_iconst dtwiceTold_51 ?_
                  refine ja_aload_n dtwiceTold_52 rfl rfl ?_
                  refine fa_aspectName dtwiceTold_53 ?_
                  refine ja_iload_n dtwiceTold_56 rfl rfl ?_
                  refine il_aspectName (v := h 13 (w4).toNat) rfl ⟨by omega, by omega⟩ dtwiceTold_57 ?_
                  have f5 := gC_aspectName g (w4).toNat
                  refine ja_iload_n dtwiceTold_58 rfl rfl ?_
                  refine ja_icmp_le 71 dtwiceTold_59 rfl ⟨by omega, by omega⟩ ⟨by omega, by omega⟩ (fun c59 => ?_) (fun c59 => ?_)
                  · refine ja_iload_n dtwiceTold_71 rfl rfl ?_
                    refine t_judge (by decide) (show (0 : Nat) ≤ 8 by decide) dtwiceTold_72 gu ⟨by decide, by decide⟩ ⟨by omega, by omega⟩ (show 1 ≤ 4 ∧ 4 ≤ 8 by omega) (show 0 ≤ (h 10 (x1).toNat) ∧ (h 10 (x1).toNat) ≤ 900 by omega) ?_
                    intro w6 w7 k72_0 g8
                    replace k72_0 : 1 ≤ w6 ∧ w6 ≤ 8 ∧ -2147483648 ≤ w7 ∧ w7 ≤ 2147483647 := k72_0
                    replace g8 : mo_G mo_zr (ja_up (ja_up (ja_up (ja_up h 0 11 f) 0 12 p) 0 11 w6) 0 12 w7) := g8
                    show mJ l D cA ad 3 cX12_twiceTold 4 none 75 [(3, (0, w4)), (2, (0, (h 10 (x1).toNat))), (0, (2, ((0 : Nat) : Int))), (1, (0, x1))] [] (ja_up (ja_up (ja_up (ja_up h 0 11 f) 0 12 p) 0 11 w6) 0 12 w7) Q
                    refine ja_iinc dtwiceTold_75 rfl (by decide) (L2 := [(1, (0, (x1 + 1))), (3, (0, w4)), (2, (0, (h 10 (x1).toNat))), (0, (2, ((0 : Nat) : Int)))]) rfl ?_
                    refine ja_goto 2 dtwiceTold_78 rfl ?_
                    have hE2 : ja_up (ja_up (ja_up (ja_up h 0 11 f) 0 12 p) 0 11 w6) 0 12 w7 = ja_up (ja_up h 0 11 w6) 0 12 w7 := by first | exact mo_j0 | simp only [mo_jj]
                    rw [hE2]
                    exact ja_wk (fun q hq => by simp only [List.mem_cons, List.not_mem_nil, or_false] at hq; rcases hq with rfl | rfl <;> rfl) ((ih (((40000000 : Int) + ((20 : Int) - (x1 + 1))).toNat) (by omega)).1 w6 w7 (x1 + 1) (by rw [← hE2]; exact g8) ⟨by omega, by omega⟩ ⟨by omega, by omega⟩ ⟨by omega, by omega⟩ (show 0 ≤ (x1 + 1) ∧ (x1 + 1) ≤ (h 0 22) ∧ 0 ≤ w6 ∧ w6 ≤ 8 ∧ (1 ≤ w6 ∨ w6 = (h 0 11)) by omega) rfl)
                  · refine ja_aload_n dtwiceTold_62 rfl rfl ?_
                    refine fa_aspectName dtwiceTold_63 ?_
                    refine ja_iload_n dtwiceTold_66 rfl rfl ?_
                    refine il_aspectName (v := h 13 (w4).toNat) rfl ⟨by omega, by omega⟩ dtwiceTold_67 ?_
                    refine ja_goto 72 dtwiceTold_68 rfl ?_
                    refine t_judge (by decide) (show (0 : Nat) ≤ 8 by decide) dtwiceTold_72 gu ⟨by decide, by decide⟩ ⟨by omega, by omega⟩ (show 1 ≤ 4 ∧ 4 ≤ 8 by omega) (show 0 ≤ (h 13 (w4).toNat) ∧ (h 13 (w4).toNat) ≤ 900 by omega) ?_
                    intro w9 w10 k72_0 g11
                    replace k72_0 : 1 ≤ w9 ∧ w9 ≤ 8 ∧ -2147483648 ≤ w10 ∧ w10 ≤ 2147483647 := k72_0
                    replace g11 : mo_G mo_zr (ja_up (ja_up (ja_up (ja_up h 0 11 f) 0 12 p) 0 11 w9) 0 12 w10) := g11
                    show mJ l D cA ad 3 cX12_twiceTold 4 none 75 [(3, (0, w4)), (2, (0, (h 10 (x1).toNat))), (0, (2, ((0 : Nat) : Int))), (1, (0, x1))] [] (ja_up (ja_up (ja_up (ja_up h 0 11 f) 0 12 p) 0 11 w9) 0 12 w10) Q
                    refine ja_iinc dtwiceTold_75 rfl (by decide) (L2 := [(1, (0, (x1 + 1))), (3, (0, w4)), (2, (0, (h 10 (x1).toNat))), (0, (2, ((0 : Nat) : Int)))]) rfl ?_
                    refine ja_goto 2 dtwiceTold_78 rfl ?_
                    have hE2 : ja_up (ja_up (ja_up (ja_up h 0 11 f) 0 12 p) 0 11 w9) 0 12 w10 = ja_up (ja_up h 0 11 w9) 0 12 w10 := by first | exact mo_j0 | simp only [mo_jj]
                    rw [hE2]
                    exact ja_wk (fun q hq => by simp only [List.mem_cons, List.not_mem_nil, or_false] at hq; rcases hq with rfl | rfl <;> rfl) ((ih (((40000000 : Int) + ((20 : Int) - (x1 + 1))).toNat) (by omega)).1 w9 w10 (x1 + 1) (by rw [← hE2]; exact g11) ⟨by omega, by omega⟩ ⟨by omega, by omega⟩ ⟨by omega, by omega⟩ (show 0 ≤ (x1 + 1) ∧ (x1 + 1) ≤ (h 0 22) ∧ 0 ≤ w9 ∧ w9 ≤ 8 ∧ (1 ≤ w9 ∨ w9 = (h 0 11)) by omega) rfl)
              · intro k42_1
                replace k42_1 : asF (ja_up (ja_up h 0 11 f) 0 12 p) (h 5 (h 10 (x1).toNat).toNat) = -1 := k42_1
                refine ja_istore_n dtwiceTold_45 rfl (by decide) (L2 := [(3, (0, (-1))), (2, (0, (h 10 (x1).toNat))), (0, (2, ((0 : Nat) : Int))), (1, (0, x1))]) rfl ?_
                refine ja_iload_n dtwiceTold_46 rfl rfl ?_
                refine ja_if_lt 75 dtwiceTold_47 rfl ⟨by decide, by decide⟩ (fun c47 => ?_) (fun c47 => absurd c47 (by omega))
                refine ja_iinc dtwiceTold_75 rfl (by decide) (L2 := [(1, (0, (x1 + 1))), (3, (0, (-1))), (2, (0, (h 10 (x1).toNat))), (0, (2, ((0 : Nat) : Int)))]) rfl ?_
                refine ja_goto 2 dtwiceTold_78 rfl ?_
                exact ja_wk (fun q hq => by simp only [List.mem_cons, List.not_mem_nil, or_false] at hq; rcases hq with rfl | rfl <;> rfl) ((ih (((40000000 : Int) + ((20 : Int) - (x1 + 1))).toNat) (by omega)).1 f p (x1 + 1) gu ⟨by omega, by omega⟩ ⟨by omega, by omega⟩ ⟨by omega, by omega⟩ (show 0 ≤ (x1 + 1) ∧ (x1 + 1) ≤ (h 0 22) ∧ 0 ≤ f ∧ f ≤ 8 ∧ (1 ≤ f ∨ f = (h 0 11)) by omega) rfl)
            · refine ja_aload_n dtwiceTold_30 rfl rfl ?_
              refine ja_iconst dtwiceTold_31 ?_
              refine ja_iload_n dtwiceTold_32 rfl rfl ?_
              refine t_judge (by decide) (show (0 : Nat) ≤ 8 by decide) dtwiceTold_33 gu ⟨by decide, by decide⟩ ⟨by omega, by omega⟩ (show 1 ≤ 4 ∧ 4 ≤ 8 by omega) (show 0 ≤ (h 10 (x1).toNat) ∧ (h 10 (x1).toNat) ≤ 900 by omega) ?_
              intro w12 w13 k33_0 g14
              replace k33_0 : 1 ≤ w12 ∧ w12 ≤ 8 ∧ -2147483648 ≤ w13 ∧ w13 ≤ 2147483647 := k33_0
              replace g14 : mo_G mo_zr (ja_up (ja_up (ja_up (ja_up h 0 11 f) 0 12 p) 0 11 w12) 0 12 w13) := g14
              show mJ l D cA ad 3 cX12_twiceTold 4 none 36 [(2, (0, (h 10 (x1).toNat))), (0, (2, ((0 : Nat) : Int))), (1, (0, x1))] [] (ja_up (ja_up (ja_up (ja_up h 0 11 f) 0 12 p) 0 11 w12) 0 12 w13) Q
              refine ja_aload_n dtwiceTold_36 rfl rfl ?_
              refine ja_aload_n dtwiceTold_37 rfl rfl ?_
              refine ja_iload_n dtwiceTold_38 rfl rfl ?_
              refine t_id (by decide) (show (1 : Nat) ≤ 8 by decide) dtwiceTold_39 g14 ⟨by omega, by omega⟩ (show 0 ≤ (h 10 (x1).toNat) ∧ (h 10 (x1).toNat) ≤ 900 by omega) ?_
              intro k39_0
              replace k39_0 : -2147483648 ≤ (h 5 (h 10 (x1).toNat).toNat) ∧ (h 5 (h 10 (x1).toNat).toNat) ≤ 2147483647 := k39_0
              show mJ l D cA ad 3 cX12_twiceTold 4 none 42 [(2, (0, (h 10 (x1).toNat))), (0, (2, ((0 : Nat) : Int))), (1, (0, x1))] [(0, (h 5 (h 10 (x1).toNat).toNat)), (2, ((0 : Nat) : Int))] (ja_up (ja_up (ja_up (ja_up h 0 11 f) 0 12 p) 0 11 w12) 0 12 w13) Q
              refine t_aspectOf2 (by decide) (show (0 : Nat) ≤ 8 by decide) dtwiceTold_42 g14 ⟨by omega, by omega⟩ ?_ ?_
              · intro w15 k42_0
                replace k42_0 : 0 ≤ w15 ∧ w15 < (h 0 26) ∧ w15 = asF (ja_up (ja_up (ja_up (ja_up h 0 11 f) 0 12 p) 0 11 w12) 0 12 w13) (h 5 (h 10 (x1).toNat).toNat) := k42_0
                refine ja_istore_n dtwiceTold_45 rfl (by decide) (L2 := [(3, (0, w15)), (2, (0, (h 10 (x1).toNat))), (0, (2, ((0 : Nat) : Int))), (1, (0, x1))]) rfl ?_
                refine ja_iload_n dtwiceTold_46 rfl rfl ?_
                refine ja_if_lt 75 dtwiceTold_47 rfl ⟨by omega, by omega⟩ (fun c47 => ?_) (fun c47 => ?_)
                · refine ja_iinc dtwiceTold_75 rfl (by decide) (L2 := [(1, (0, (x1 + 1))), (3, (0, w15)), (2, (0, (h 10 (x1).toNat))), (0, (2, ((0 : Nat) : Int)))]) rfl ?_
                  refine ja_goto 2 dtwiceTold_78 rfl ?_
                  have hE2 : ja_up (ja_up (ja_up (ja_up h 0 11 f) 0 12 p) 0 11 w12) 0 12 w13 = ja_up (ja_up h 0 11 w12) 0 12 w13 := by first | exact mo_j0 | simp only [mo_jj]
                  rw [hE2]
                  exact ja_wk (fun q hq => by simp only [List.mem_cons, List.not_mem_nil, or_false] at hq; rcases hq with rfl | rfl <;> rfl) ((ih (((40000000 : Int) + ((20 : Int) - (x1 + 1))).toNat) (by omega)).1 w12 w13 (x1 + 1) (by rw [← hE2]; exact g14) ⟨by omega, by omega⟩ ⟨by omega, by omega⟩ ⟨by omega, by omega⟩ (show 0 ≤ (x1 + 1) ∧ (x1 + 1) ≤ (h 0 22) ∧ 0 ≤ w12 ∧ w12 ≤ 8 ∧ (1 ≤ w12 ∨ w12 = (h 0 11)) by omega) rfl)
                · refine ja_aload_n dtwiceTold_50 rfl rfl ?_
                  refine ja_iconst dtwiceTold_51 ?_
                  refine ja_aload_n dtwiceTold_52 rfl rfl ?_
                  refine fa_aspectName dtwiceTold_53 ?_
                  refine ja_iload_n dtwiceTold_56 rfl rfl ?_
                  refine il_aspectName (v := h 13 (w15).toNat) rfl ⟨by omega, by omega⟩ dtwiceTold_57 ?_
                  have f16 := gC_aspectName g (w15).toNat
                  refine ja_iload_n dtwiceTold_58 rfl rfl ?_
                  refine ja_icmp_le 71 dtwiceTold_59 rfl ⟨by omega, by omega⟩ ⟨by omega, by omega⟩ (fun c59 => ?_) (fun c59 => ?_)
                  · refine ja_iload_n dtwiceTold_71 rfl rfl ?_
                    refine t_judge (by decide) (show (0 : Nat) ≤ 8 by decide) dtwiceTold_72 g14 ⟨by decide, by decide⟩ ⟨by omega, by omega⟩ (show 1 ≤ 4 ∧ 4 ≤ 8 by omega) (show 0 ≤ (h 10 (x1).toNat) ∧ (h 10 (x1).toNat) ≤ 900 by omega) ?_
                    intro w17 w18 k72_0 g19
                    replace k72_0 : 1 ≤ w17 ∧ w17 ≤ 8 ∧ -2147483648 ≤ w18 ∧ w18 ≤ 2147483647 := k72_0
                    replace g19 : mo_G mo_zr (ja_up (ja_up (ja_up (ja_up (ja_up (ja_up h 0 11 f) 0 12 p) 0 11 w12) 0 12 w13) 0 11 w17) 0 12 w18) := g19
                    show mJ l D cA ad 3 cX12_twiceTold 4 none 75 [(3, (0, w15)), (2, (0, (h 10 (x1).toNat))), (0, (2, ((0 : Nat) : Int))), (1, (0, x1))] [] (ja_up (ja_up (ja_up (ja_up (ja_up (ja_up h 0 11 f) 0 12 p) 0 11 w12) 0 12 w13) 0 11 w17) 0 12 w18) Q
                    refine ja_iinc dtwiceTold_75 rfl (by decide) (L2 := [(1, (0, (x1 + 1))), (3, (0, w15)), (2, (0, (h 10 (x1).toNat))), (0, (2, ((0 : Nat) : Int)))]) rfl ?_
                    refine ja_goto 2 dtwiceTold_78 rfl ?_
                    have hE2 : ja_up (ja_up (ja_up (ja_up (ja_up (ja_up h 0 11 f) 0 12 p) 0 11 w12) 0 12 w13) 0 11 w17) 0 12 w18 = ja_up (ja_up h 0 11 w17) 0 12 w18 := by first | exact mo_j0 | simp only [mo_jj]
                    rw [hE2]
                    exact ja_wk (fun q hq => by simp only [List.mem_cons, List.not_mem_nil, or_false] at hq; rcases hq with rfl | rfl <;> rfl) ((ih (((40000000 : Int) + ((20 : Int) - (x1 + 1))).toNat) (by omega)).1 w17 w18 (x1 + 1) (by rw [← hE2]; exact g19) ⟨by omega, by omega⟩ ⟨by omega, by omega⟩ ⟨by omega, by omega⟩ (show 0 ≤ (x1 + 1) ∧ (x1 + 1) ≤ (h 0 22) ∧ 0 ≤ w17 ∧ w17 ≤ 8 ∧ (1 ≤ w17 ∨ w17 = (h 0 11)) by omega) rfl)
                  · refine ja_aload_n dtwiceTold_62 rfl rfl ?_
                    refine fa_aspectName dtwiceTold_63 ?_
                    refine ja_iload_n dtwiceTold_66 rfl rfl ?_
                    refine il_aspectName (v := h 13 (w15).toNat) rfl ⟨by omega, by omega⟩ dtwiceTold_67 ?_
                    refine ja_goto 72 dtwiceTold_68 rfl ?_
                    refine t_judge (by decide) (show (0 : Nat) ≤ 8 by decide) dtwiceTold_72 g14 ⟨by decide, by decide⟩ ⟨by omega, by omega⟩ (show 1 ≤ 4 ∧ 4 ≤ 8 by omega) (show 0 ≤ (h 13 (w15).toNat) ∧ (h 13 (w15).toNat) ≤ 900 by omega) ?_
                    intro w20 w21 k72_0 g22
                    replace k72_0 : 1 ≤ w20 ∧ w20 ≤ 8 ∧ -2147483648 ≤ w21 ∧ w21 ≤ 2147483647 := k72_0
                    replace g22 : mo_G mo_zr (ja_up (ja_up (ja_up (ja_up (ja_up (ja_up h 0 11 f) 0 12 p) 0 11 w12) 0 12 w13) 0 11 w20) 0 12 w21) := g22
                    show mJ l D cA ad 3 cX12_twiceTold 4 none 75 [(3, (0, w15)), (2, (0, (h 10 (x1).toNat))), (0, (2, ((0 : Nat) : Int))), (1, (0, x1))] [] (ja_up (ja_up (ja_up (ja_up (ja_up (ja_up h 0 11 f) 0 12 p) 0 11 w12) 0 12 w13) 0 11 w20) 0 12 w21) Q
                    refine ja_iinc dtwiceTold_75 rfl (by decide) (L2 := [(1, (0, (x1 + 1))), (3, (0, w15)), (2, (0, (h 10 (x1).toNat))), (0, (2, ((0 : Nat) : Int)))]) rfl ?_
                    refine ja_goto 2 dtwiceTold_78 rfl ?_
                    have hE2 : ja_up (ja_up (ja_up (ja_up (ja_up (ja_up h 0 11 f) 0 12 p) 0 11 w12) 0 12 w13) 0 11 w20) 0 12 w21 = ja_up (ja_up h 0 11 w20) 0 12 w21 := by first | exact mo_j0 | simp only [mo_jj]
                    rw [hE2]
                    exact ja_wk (fun q hq => by simp only [List.mem_cons, List.not_mem_nil, or_false] at hq; rcases hq with rfl | rfl <;> rfl) ((ih (((40000000 : Int) + ((20 : Int) - (x1 + 1))).toNat) (by omega)).1 w20 w21 (x1 + 1) (by rw [← hE2]; exact g22) ⟨by omega, by omega⟩ ⟨by omega, by omega⟩ ⟨by omega, by omega⟩ (show 0 ≤ (x1 + 1) ∧ (x1 + 1) ≤ (h 0 22) ∧ 0 ≤ w20 ∧ w20 ≤ 8 ∧ (1 ≤ w20 ∨ w20 = (h 0 11)) by omega) rfl)
              · intro k42_1
                replace k42_1 : asF (ja_up (ja_up (ja_up (ja_up h 0 11 f) 0 12 p) 0 11 w12) 0 12 w13) (h 5 (h 10 (x1).toNat).toNat) = -1 := k42_1
                refine ja_istore_n dtwiceTold_45 rfl (by decide) (L2 := [(3, (0, (-1))), (2, (0, (h 10 (x1).toNat))), (0, (2, ((0 : Nat) : Int))), (1, (0, x1))]) rfl ?_
                refine ja_iload_n dtwiceTold_46 rfl rfl ?_
                refine ja_if_lt 75 dtwiceTold_47 rfl ⟨by decide, by decide⟩ (fun c47 => ?_) (fun c47 => absurd c47 (by omega))
                refine ja_iinc dtwiceTold_75 rfl (by decide) (L2 := [(1, (0, (x1 + 1))), (3, (0, (-1))), (2, (0, (h 10 (x1).toNat))), (0, (2, ((0 : Nat) : Int)))]) rfl ?_
                refine ja_goto 2 dtwiceTold_78 rfl ?_
                have hE2 : ja_up (ja_up (ja_up (ja_up h 0 11 f) 0 12 p) 0 11 w12) 0 12 w13 = ja_up (ja_up h 0 11 w12) 0 12 w13 := by first | exact mo_j0 | simp only [mo_jj]
                rw [hE2]
                exact ja_wk (fun q hq => by simp only [List.mem_cons, List.not_mem_nil, or_false] at hq; rcases hq with rfl | rfl <;> rfl) ((ih (((40000000 : Int) + ((20 : Int) - (x1 + 1))).toNat) (by omega)).1 w12 w13 (x1 + 1) (by rw [← hE2]; exact g14) ⟨by omega, by omega⟩ ⟨by omega, by omega⟩ ⟨by omega, by omega⟩ (show 0 ≤ (x1 + 1) ∧ (x1 + 1) ≤ (h 0 22) ∧ 0 ≤ w12 ∧ w12 ≤ 8 ∧ (1 ≤ w12 ∨ w12 = (h 0 11)) by omega) rfl)
          · intro k23_1
            replace k23_1 : clF (ja_up (ja_up h 0 11 f) 0 12 p) (h 5 (h 10 (x1).toNat).toNat) = -1 := k23_1
            refine ja_iload_n dtwiceTold_26 rfl rfl ?_
            refine ja_icmp_ge 36 dtwiceTold_27 rfl ⟨by decide, by decide⟩ ⟨by omega, by omega⟩ (fun c27 => ?_) (fun c27 => ?_)
            · refine ja_aload_n dtwiceTold_36 rfl rfl ?_
              refine ja_aload_n dtwiceTold_37 rfl rfl ?_
              refine ja_iload_n dtwiceTold_38 rfl rfl ?_
              refine t_id (by decide) (show (1 : Nat) ≤ 8 by decide) dtwiceTold_39 gu ⟨by omega, by omega⟩ (show 0 ≤ (h 10 (x1).toNat) ∧ (h 10 (x1).toNat) ≤ 900 by omega) ?_
              intro k39_0
              replace k39_0 : -2147483648 ≤ (h 5 (h 10 (x1).toNat).toNat) ∧ (h 5 (h 10 (x1).toNat).toNat) ≤ 2147483647 := k39_0
              show mJ l D cA ad 3 cX12_twiceTold 4 none 42 [(2, (0, (h 10 (x1).toNat))), (0, (2, ((0 : Nat) : Int))), (1, (0, x1))] [(0, (h 5 (h 10 (x1).toNat).toNat)), (2, ((0 : Nat) : Int))] (ja_up (ja_up h 0 11 f) 0 12 p) Q
              refine t_aspectOf2 (by decide) (show (0 : Nat) ≤ 8 by decide) dtwiceTold_42 gu ⟨by omega, by omega⟩ ?_ ?_
              · intro w23 k42_0
                replace k42_0 : 0 ≤ w23 ∧ w23 < (h 0 26) ∧ w23 = asF (ja_up (ja_up h 0 11 f) 0 12 p) (h 5 (h 10 (x1).toNat).toNat) := k42_0
                refine ja_istore_n dtwiceTold_45 rfl (by decide) (L2 := [(3, (0, w23)), (2, (0, (h 10 (x1).toNat))), (0, (2, ((0 : Nat) : Int))), (1, (0, x1))]) rfl ?_
                refine ja_iload_n dtwiceTold_46 rfl rfl ?_
                refine ja_if_lt 75 dtwiceTold_47 rfl ⟨by omega, by omega⟩ (fun c47 => ?_) (fun c47 => ?_)
                · refine ja_iinc dtwiceTold_75 rfl (by decide) (L2 := [(1, (0, (x1 + 1))), (3, (0, w23)), (2, (0, (h 10 (x1).toNat))), (0, (2, ((0 : Nat) : Int)))]) rfl ?_
                  refine ja_goto 2 dtwiceTold_78 rfl ?_
                  exact ja_wk (fun q hq => by simp only [List.mem_cons, List.not_mem_nil, or_false] at hq; rcases hq with rfl | rfl <;> rfl) ((ih (((40000000 : Int) + ((20 : Int) - (x1 + 1))).toNat) (by omega)).1 f p (x1 + 1) gu ⟨by omega, by omega⟩ ⟨by omega, by omega⟩ ⟨by omega, by omega⟩ (show 0 ≤ (x1 + 1) ∧ (x1 + 1) ≤ (h 0 22) ∧ 0 ≤ f ∧ f ≤ 8 ∧ (1 ≤ f ∨ f = (h 0 11)) by omega) rfl)
                · refine ja_aload_n dtwiceTold_50 rfl rfl ?_
                  refine ja_iconst dtwiceTold_51 ?_
                  refine ja_aload_n dtwiceTold_52 rfl rfl ?_
                  refine fa_aspectName dtwiceTold_53 ?_
                  refine ja_iload_n dtwiceTold_56 rfl rfl ?_
                  refine il_aspectName (v := h 13 (w23).toNat) rfl ⟨by omega, by omega⟩ dtwiceTold_57 ?_
                  have f24 := gC_aspectName g (w23).toNat
                  refine ja_iload_n dtwiceTold_58 rfl rfl ?_
                  refine ja_icmp_le 71 dtwiceTold_59 rfl ⟨by omega, by omega⟩ ⟨by omega, by omega⟩ (fun c59 => ?_) (fun c59 => ?_)
                  · refine ja_iload_n dtwiceTold_71 rfl rfl ?_
                    refine t_judge (by decide) (show (0 : Nat) ≤ 8 by decide) dtwiceTold_72 gu ⟨by decide, by decide⟩ ⟨by omega, by omega⟩ (show 1 ≤ 4 ∧ 4 ≤ 8 by omega) (show 0 ≤ (h 10 (x1).toNat) ∧ (h 10 (x1).toNat) ≤ 900 by omega) ?_
                    intro w25 w26 k72_0 g27
                    replace k72_0 : 1 ≤ w25 ∧ w25 ≤ 8 ∧ -2147483648 ≤ w26 ∧ w26 ≤ 2147483647 := k72_0
                    replace g27 : mo_G mo_zr (ja_up (ja_up (ja_up (ja_up h 0 11 f) 0 12 p) 0 11 w25) 0 12 w26) := g27
                    show mJ l D cA ad 3 cX12_twiceTold 4 none 75 [(3, (0, w23)), (2, (0, (h 10 (x1).toNat))), (0, (2, ((0 : Nat) : Int))), (1, (0, x1))] [] (ja_up (ja_up (ja_up (ja_up h 0 11 f) 0 12 p) 0 11 w25) 0 12 w26) Q
                    refine ja_iinc dtwiceTold_75 rfl (by decide) (L2 := [(1, (0, (x1 + 1))), (3, (0, w23)), (2, (0, (h 10 (x1).toNat))), (0, (2, ((0 : Nat) : Int)))]) rfl ?_
                    refine ja_goto 2 dtwiceTold_78 rfl ?_
                    have hE2 : ja_up (ja_up (ja_up (ja_up h 0 11 f) 0 12 p) 0 11 w25) 0 12 w26 = ja_up (ja_up h 0 11 w25) 0 12 w26 := by first | exact mo_j0 | simp only [mo_jj]
                    rw [hE2]
                    exact ja_wk (fun q hq => by simp only [List.mem_cons, List.not_mem_nil, or_false] at hq; rcases hq with rfl | rfl <;> rfl) ((ih (((40000000 : Int) + ((20 : Int) - (x1 + 1))).toNat) (by omega)).1 w25 w26 (x1 + 1) (by rw [← hE2]; exact g27) ⟨by omega, by omega⟩ ⟨by omega, by omega⟩ ⟨by omega, by omega⟩ (show 0 ≤ (x1 + 1) ∧ (x1 + 1) ≤ (h 0 22) ∧ 0 ≤ w25 ∧ w25 ≤ 8 ∧ (1 ≤ w25 ∨ w25 = (h 0 11)) by omega) rfl)
                  · refine ja_aload_n dtwiceTold_62 rfl rfl ?_
                    refine fa_aspectName dtwiceTold_63 ?_
                    refine ja_iload_n dtwiceTold_66 rfl rfl ?_
                    refine il_aspectName (v := h 13 (w23).toNat) rfl ⟨by omega, by omega⟩ dtwiceTold_67 ?_
                    refine ja_goto 72 dtwiceTold_68 rfl ?_
                    refine t_judge (by decide) (show (0 : Nat) ≤ 8 by decide) dtwiceTold_72 gu ⟨by decide, by decide⟩ ⟨by omega, by omega⟩ (show 1 ≤ 4 ∧ 4 ≤ 8 by omega) (show 0 ≤ (h 13 (w23).toNat) ∧ (h 13 (w23).toNat) ≤ 900 by omega) ?_
                    intro w28 w29 k72_0 g30
                    replace k72_0 : 1 ≤ w28 ∧ w28 ≤ 8 ∧ -2147483648 ≤ w29 ∧ w29 ≤ 2147483647 := k72_0
                    replace g30 : mo_G mo_zr (ja_up (ja_up (ja_up (ja_up h 0 11 f) 0 12 p) 0 11 w28) 0 12 w29) := g30
                    show mJ l D cA ad 3 cX12_twiceTold 4 none 75 [(3, (0, w23)), (2, (0, (h 10 (x1).toNat))), (0, (2, ((0 : Nat) : Int))), (1, (0, x1))] [] (ja_up (ja_up (ja_up (ja_up h 0 11 f) 0 12 p) 0 11 w28) 0 12 w29) Q
                    refine ja_iinc dtwiceTold_75 rfl (by decide) (L2 := [(1, (0, (x1 + 1))), (3, (0, w23)), (2, (0, (h 10 (x1).toNat))), (0, (2, ((0 : Nat) : Int)))]) rfl ?_
                    refine ja_goto 2 dtwiceTold_78 rfl ?_
                    have hE2 : ja_up (ja_up (ja_up (ja_up h 0 11 f) 0 12 p) 0 11 w28) 0 12 w29 = ja_up (ja_up h 0 11 w28) 0 12 w29 := by first | exact mo_j0 | simp only [mo_jj]
                    rw [hE2]
                    exact ja_wk (fun q hq => by simp only [List.mem_cons, List.not_mem_nil, or_false] at hq; rcases hq with rfl | rfl <;> rfl) ((ih (((40000000 : Int) + ((20 : Int) - (x1 + 1))).toNat) (by omega)).1 w28 w29 (x1 + 1) (by rw [← hE2]; exact g30) ⟨by omega, by omega⟩ ⟨by omega, by omega⟩ ⟨by omega, by omega⟩ (show 0 ≤ (x1 + 1) ∧ (x1 + 1) ≤ (h 0 22) ∧ 0 ≤ w28 ∧ w28 ≤ 8 ∧ (1 ≤ w28 ∨ w28 = (h 0 11)) by omega) rfl)
              · intro k42_1
                replace k42_1 : asF (ja_up (ja_up h 0 11 f) 0 12 p) (h 5 (h 10 (x1).toNat).toNat) = -1 := k42_1
                refine ja_istore_n dtwiceTold_45 rfl (by decide) (L2 := [(3, (0, (-1))), (2, (0, (h 10 (x1).toNat))), (0, (2, ((0 : Nat) : Int))), (1, (0, x1))]) rfl ?_
                refine ja_iload_n dtwiceTold_46 rfl rfl ?_
                refine ja_if_lt 75 dtwiceTold_47 rfl ⟨by decide, by decide⟩ (fun c47 => ?_) (fun c47 => absurd c47 (by omega))
                refine ja_iinc dtwiceTold_75 rfl (by decide) (L2 := [(1, (0, (x1 + 1))), (3, (0, (-1))), (2, (0, (h 10 (x1).toNat))), (0, (2, ((0 : Nat) : Int)))]) rfl ?_
                refine ja_goto 2 dtwiceTold_78 rfl ?_
                exact ja_wk (fun q hq => by simp only [List.mem_cons, List.not_mem_nil, or_false] at hq; rcases hq with rfl | rfl <;> rfl) ((ih (((40000000 : Int) + ((20 : Int) - (x1 + 1))).toNat) (by omega)).1 f p (x1 + 1) gu ⟨by omega, by omega⟩ ⟨by omega, by omega⟩ ⟨by omega, by omega⟩ (show 0 ≤ (x1 + 1) ∧ (x1 + 1) ≤ (h 0 22) ∧ 0 ≤ f ∧ f ≤ 8 ∧ (1 ≤ f ∨ f = (h 0 11)) by omega) rfl)
            · refine ja_aload_n dtwiceTold_30 rfl rfl ?_
              refine ja_iconst dtwiceTold_31 ?_
              refine ja_iload_n dtwiceTold_32 rfl rfl ?_
              refine t_judge (by decide) (show (0 : Nat) ≤ 8 by decide) dtwiceTold_33 gu ⟨by decide, by decide⟩ ⟨by omega, by omega⟩ (show 1 ≤ 4 ∧ 4 ≤ 8 by omega) (show 0 ≤ (h 10 (x1).toNat) ∧ (h 10 (x1).toNat) ≤ 900 by omega) ?_
              intro w31 w32 k33_0 g33
              replace k33_0 : 1 ≤ w31 ∧ w31 ≤ 8 ∧ -2147483648 ≤ w32 ∧ w32 ≤ 2147483647 := k33_0
              replace g33 : mo_G mo_zr (ja_up (ja_up (ja_up (ja_up h 0 11 f) 0 12 p) 0 11 w31) 0 12 w32) := g33
              show mJ l D cA ad 3 cX12_twiceTold 4 none 36 [(2, (0, (h 10 (x1).toNat))), (0, (2, ((0 : Nat) : Int))), (1, (0, x1))] [] (ja_up (ja_up (ja_up (ja_up h 0 11 f) 0 12 p) 0 11 w31) 0 12 w32) Q
              refine ja_aload_n dtwiceTold_36 rfl rfl ?_
              refine ja_aload_n dtwiceTold_37 rfl rfl ?_
              refine ja_iload_n dtwiceTold_38 rfl rfl ?_
              refine t_id (by decide) (show (1 : Nat) ≤ 8 by decide) dtwiceTold_39 g33 ⟨by omega, by omega⟩ (show 0 ≤ (h 10 (x1).toNat) ∧ (h 10 (x1).toNat) ≤ 900 by omega) ?_
              intro k39_0
              replace k39_0 : -2147483648 ≤ (h 5 (h 10 (x1).toNat).toNat) ∧ (h 5 (h 10 (x1).toNat).toNat) ≤ 2147483647 := k39_0
              show mJ l D cA ad 3 cX12_twiceTold 4 none 42 [(2, (0, (h 10 (x1).toNat))), (0, (2, ((0 : Nat) : Int))), (1, (0, x1))] [(0, (h 5 (h 10 (x1).toNat).toNat)), (2, ((0 : Nat) : Int))] (ja_up (ja_up (ja_up (ja_up h 0 11 f) 0 12 p) 0 11 w31) 0 12 w32) Q
              refine t_aspectOf2 (by decide) (show (0 : Nat) ≤ 8 by decide) dtwiceTold_42 g33 ⟨by omega, by omega⟩ ?_ ?_
              · intro w34 k42_0
                replace k42_0 : 0 ≤ w34 ∧ w34 < (h 0 26) ∧ w34 = asF (ja_up (ja_up (ja_up (ja_up h 0 11 f) 0 12 p) 0 11 w31) 0 12 w32) (h 5 (h 10 (x1).toNat).toNat) := k42_0
                refine ja_istore_n dtwiceTold_45 rfl (by decide) (L2 := [(3, (0, w34)), (2, (0, (h 10 (x1).toNat))), (0, (2, ((0 : Nat) : Int))), (1, (0, x1))]) rfl ?_
                refine ja_iload_n dtwiceTold_46 rfl rfl ?_
                refine ja_if_lt 75 dtwiceTold_47 rfl ⟨by omega, by omega⟩ (fun c47 => ?_) (fun c47 => ?_)
                · refine ja_iinc dtwiceTold_75 rfl (by decide) (L2 := [(1, (0, (x1 + 1))), (3, (0, w34)), (2, (0, (h 10 (x1).toNat))), (0, (2, ((0 : Nat) : Int)))]) rfl ?_
                  refine ja_goto 2 dtwiceTold_78 rfl ?_
                  have hE2 : ja_up (ja_up (ja_up (ja_up h 0 11 f) 0 12 p) 0 11 w31) 0 12 w32 = ja_up (ja_up h 0 11 w31) 0 12 w32 := by first | exact mo_j0 | simp only [mo_jj]
                  rw [hE2]
                  exact ja_wk (fun q hq => by simp only [List.mem_cons, List.not_mem_nil, or_false] at hq; rcases hq with rfl | rfl <;> rfl) ((ih (((40000000 : Int) + ((20 : Int) - (x1 + 1))).toNat) (by omega)).1 w31 w32 (x1 + 1) (by rw [← hE2]; exact g33) ⟨by omega, by omega⟩ ⟨by omega, by omega⟩ ⟨by omega, by omega⟩ (show 0 ≤ (x1 + 1) ∧ (x1 + 1) ≤ (h 0 22) ∧ 0 ≤ w31 ∧ w31 ≤ 8 ∧ (1 ≤ w31 ∨ w31 = (h 0 11)) by omega) rfl)
                · refine ja_aload_n dtwiceTold_50 rfl rfl ?_
                  refine ja_iconst dtwiceTold_51 ?_
                  refine ja_aload_n dtwiceTold_52 rfl rfl ?_
                  refine fa_aspectName dtwiceTold_53 ?_
                  refine ja_iload_n dtwiceTold_56 rfl rfl ?_
                  refine il_aspectName (v := h 13 (w34).toNat) rfl ⟨by omega, by omega⟩ dtwiceTold_57 ?_
                  have f35 := gC_aspectName g (w34).toNat
                  refine ja_iload_n dtwiceTold_58 rfl rfl ?_
                  refine ja_icmp_le 71 dtwiceTold_59 rfl ⟨by omega, by omega⟩ ⟨by omega, by omega⟩ (fun c59 => ?_) (fun c59 => ?_)
                  · refine ja_iload_n dtwiceTold_71 rfl rfl ?_
                    refine t_judge (by decide) (show (0 : Nat) ≤ 8 by decide) dtwiceTold_72 g33 ⟨by decide, by decide⟩ ⟨by omega, by omega⟩ (show 1 ≤ 4 ∧ 4 ≤ 8 by omega) (show 0 ≤ (h 10 (x1).toNat) ∧ (h 10 (x1).toNat) ≤ 900 by omega) ?_
                    intro w36 w37 k72_0 g38
                    replace k72_0 : 1 ≤ w36 ∧ w36 ≤ 8 ∧ -2147483648 ≤ w37 ∧ w37 ≤ 2147483647 := k72_0
                    replace g38 : mo_G mo_zr (ja_up (ja_up (ja_up (ja_up (ja_up (ja_up h 0 11 f) 0 12 p) 0 11 w31) 0 12 w32) 0 11 w36) 0 12 w37) := g38
                    show mJ l D cA ad 3 cX12_twiceTold 4 none 75 [(3, (0, w34)), (2, (0, (h 10 (x1).toNat))), (0, (2, ((0 : Nat) : Int))), (1, (0, x1))] [] (ja_up (ja_up (ja_up (ja_up (ja_up (ja_up h 0 11 f) 0 12 p) 0 11 w31) 0 12 w32) 0 11 w36) 0 12 w37) Q
                    refine ja_iinc dtwiceTold_75 rfl (by decide) (L2 := [(1, (0, (x1 + 1))), (3, (0, w34)), (2, (0, (h 10 (x1).toNat))), (0, (2, ((0 : Nat) : Int)))]) rfl ?_
                    refine ja_goto 2 dtwiceTold_78 rfl ?_
                    have hE2 : ja_up (ja_up (ja_up (ja_up (ja_up (ja_up h 0 11 f) 0 12 p) 0 11 w31) 0 12 w32) 0 11 w36) 0 12 w37 = ja_up (ja_up h 0 11 w36) 0 12 w37 := by first | exact mo_j0 | simp only [mo_jj]
                    rw [hE2]
                    exact ja_wk (fun q hq => by simp only [List.mem_cons, List.not_mem_nil, or_false] at hq; rcases hq with rfl | rfl <;> rfl) ((ih (((40000000 : Int) + ((20 : Int) - (x1 + 1))).toNat) (by omega)).1 w36 w37 (x1 + 1) (by rw [← hE2]; exact g38) ⟨by omega, by omega⟩ ⟨by omega, by omega⟩ ⟨by omega, by omega⟩ (show 0 ≤ (x1 + 1) ∧ (x1 + 1) ≤ (h 0 22) ∧ 0 ≤ w36 ∧ w36 ≤ 8 ∧ (1 ≤ w36 ∨ w36 = (h 0 11)) by omega) rfl)
                  · refine ja_aload_n dtwiceTold_62 rfl rfl ?_
                    refine fa_aspectName dtwiceTold_63 ?_
                    refine ja_iload_n dtwiceTold_66 rfl rfl ?_
                    refine il_aspectName (v := h 13 (w34).toNat) rfl ⟨by omega, by omega⟩ dtwiceTold_67 ?_
                    refine ja_goto 72 dtwiceTold_68 rfl ?_
                    refine t_judge (by decide) (show (0 : Nat) ≤ 8 by decide) dtwiceTold_72 g33 ⟨by decide, by decide⟩ ⟨by omega, by omega⟩ (show 1 ≤ 4 ∧ 4 ≤ 8 by omega) (show 0 ≤ (h 13 (w34).toNat) ∧ (h 13 (w34).toNat) ≤ 900 by omega) ?_
                    intro w39 w40 k72_0 g41
                    replace k72_0 : 1 ≤ w39 ∧ w39 ≤ 8 ∧ -2147483648 ≤ w40 ∧ w40 ≤ 2147483647 := k72_0
                    replace g41 : mo_G mo_zr (ja_up (ja_up (ja_up (ja_up (ja_up (ja_up h 0 11 f) 0 12 p) 0 11 w31) 0 12 w32) 0 11 w39) 0 12 w40) := g41
                    show mJ l D cA ad 3 cX12_twiceTold 4 none 75 [(3, (0, w34)), (2, (0, (h 10 (x1).toNat))), (0, (2, ((0 : Nat) : Int))), (1, (0, x1))] [] (ja_up (ja_up (ja_up (ja_up (ja_up (ja_up h 0 11 f) 0 12 p) 0 11 w31) 0 12 w32) 0 11 w39) 0 12 w40) Q
                    refine ja_iinc dtwiceTold_75 rfl (by decide) (L2 := [(1, (0, (x1 + 1))), (3, (0, w34)), (2, (0, (h 10 (x1).toNat))), (0, (2, ((0 : Nat) : Int)))]) rfl ?_
                    refine ja_goto 2 dtwiceTold_78 rfl ?_
                    have hE2 : ja_up (ja_up (ja_up (ja_up (ja_up (ja_up h 0 11 f) 0 12 p) 0 11 w31) 0 12 w32) 0 11 w39) 0 12 w40 = ja_up (ja_up h 0 11 w39) 0 12 w40 := by first | exact mo_j0 | simp only [mo_jj]
                    rw [hE2]
                    exact ja_wk (fun q hq => by simp only [List.mem_cons, List.not_mem_nil, or_false] at hq; rcases hq with rfl | rfl <;> rfl) ((ih (((40000000 : Int) + ((20 : Int) - (x1 + 1))).toNat) (by omega)).1 w39 w40 (x1 + 1) (by rw [← hE2]; exact g41) ⟨by omega, by omega⟩ ⟨by omega, by omega⟩ ⟨by omega, by omega⟩ (show 0 ≤ (x1 + 1) ∧ (x1 + 1) ≤ (h 0 22) ∧ 0 ≤ w39 ∧ w39 ≤ 8 ∧ (1 ≤ w39 ∨ w39 = (h 0 11)) by omega) rfl)
              · intro k42_1
                replace k42_1 : asF (ja_up (ja_up (ja_up (ja_up h 0 11 f) 0 12 p) 0 11 w31) 0 12 w32) (h 5 (h 10 (x1).toNat).toNat) = -1 := k42_1
                refine ja_istore_n dtwiceTold_45 rfl (by decide) (L2 := [(3, (0, (-1))), (2, (0, (h 10 (x1).toNat))), (0, (2, ((0 : Nat) : Int))), (1, (0, x1))]) rfl ?_
                refine ja_iload_n dtwiceTold_46 rfl rfl ?_
                refine ja_if_lt 75 dtwiceTold_47 rfl ⟨by decide, by decide⟩ (fun c47 => ?_) (fun c47 => absurd c47 (by omega))
                refine ja_iinc dtwiceTold_75 rfl (by decide) (L2 := [(1, (0, (x1 + 1))), (3, (0, (-1))), (2, (0, (h 10 (x1).toNat))), (0, (2, ((0 : Nat) : Int)))]) rfl ?_
                refine ja_goto 2 dtwiceTold_78 rfl ?_
                have hE2 : ja_up (ja_up (ja_up (ja_up h 0 11 f) 0 12 p) 0 11 w31) 0 12 w32 = ja_up (ja_up h 0 11 w31) 0 12 w32 := by first | exact mo_j0 | simp only [mo_jj]
                rw [hE2]
                exact ja_wk (fun q hq => by simp only [List.mem_cons, List.not_mem_nil, or_false] at hq; rcases hq with rfl | rfl <;> rfl) ((ih (((40000000 : Int) + ((20 : Int) - (x1 + 1))).toNat) (by omega)).1 w31 w32 (x1 + 1) (by rw [← hE2]; exact g33) ⟨by omega, by omega⟩ ⟨by omega, by omega⟩ ⟨by omega, by omega⟩ (show 0 ≤ (x1 + 1) ∧ (x1 + 1) ≤ (h 0 22) ∧ 0 ≤ w31 ∧ w31 ≤ 8 ∧ (1 ≤ w31 ∨ w31 = (h 0 11)) by omega) rfl)
      · intro f p x1 gu qf qp qx1 iv hm
        subst hm
        refine ja_iload_n dtwiceTold_83 rfl rfl ?_
        refine ja_aload_n dtwiceTold_84 rfl rfl ?_
        refine fg_aspects (v := h 0 26) rfl dtwiceTold_85 ?_
        have f42 := gF_aspects g
        refine ja_icmp_ge 126 dtwiceTold_88 rfl ⟨by omega, by omega⟩ ⟨by omega, by omega⟩ (fun c88 => ?_) (fun c88 => ?_)
        · refine ja_iconst dtwiceTold_126 ?_
          refine ja_istore_n dtwiceTold_127 rfl (by decide) (L2 := [(1, (0, 0)), (0, (2, ((0 : Nat) : Int)))]) rfl ?_
          exact ja_wk (fun q hq => by simp only [List.mem_cons, List.not_mem_nil, or_false] at hq; rcases hq with rfl | rfl <;> rfl) ((ih (((20000000 : Int) + 2000 * ((1000 : Int) - 0)).toNat) (by omega)).2.2.1 f p 0 gu ⟨by omega, by omega⟩ ⟨by omega, by omega⟩ ⟨by decide, by decide⟩ (show 0 ≤ 0 ∧ 0 ≤ (h 0 41) ∧ 0 ≤ f ∧ f ≤ 8 ∧ (1 ≤ f ∨ f = (h 0 11)) by omega) rfl)
        · refine ja_aload_n dtwiceTold_91 rfl rfl ?_
          refine ja_aload_n dtwiceTold_92 rfl rfl ?_
          refine ja_aload_n dtwiceTold_93 rfl rfl ?_
          refine fa_aspectName dtwiceTold_94 ?_
          refine ja_iload_n dtwiceTold_97 rfl rfl ?_
          refine il_aspectName (v := h 13 (x1).toNat) rfl ⟨by omega, by omega⟩ dtwiceTold_98 ?_
          have f43 := gC_aspectName g (x1).toNat
          refine t_id (by decide) (show (1 : Nat) ≤ 8 by decide) dtwiceTold_99 gu ⟨by omega, by omega⟩ (show 0 ≤ (h 13 (x1).toNat) ∧ (h 13 (x1).toNat) ≤ 900 by omega) ?_
          intro k99_0
          replace k99_0 : -2147483648 ≤ (h 5 (h 13 (x1).toNat).toNat) ∧ (h 5 (h 13 (x1).toNat).toNat) ≤ 2147483647 := k99_0
          show mJ l D cA ad 3 cX12_twiceTold 4 none 102 [(0, (2, ((0 : Nat) : Int))), (1, (0, x1))] [(0, (h 5 (h 13 (x1).toNat).toNat)), (2, ((0 : Nat) : Int))] (ja_up (ja_up h 0 11 f) 0 12 p) Q
          refine t_aspectOf2 (by decide) (show (0 : Nat) ≤ 8 by decide) dtwiceTold_102 gu ⟨by omega, by omega⟩ ?_ ?_
          · intro w44 k102_0
            replace k102_0 : 0 ≤ w44 ∧ w44 < (h 0 26) ∧ w44 = asF (ja_up (ja_up h 0 11 f) 0 12 p) (h 5 (h 13 (x1).toNat).toNat) := k102_0
            refine ja_iload_n dtwiceTold_105 rfl rfl ?_
            refine ja_icmp_ge 120 dtwiceTold_106 rfl ⟨by omega, by omega⟩ ⟨by omega, by omega⟩ (fun c106 => ?_) (fun c106 => ?_)
            · refine ja_iinc dtwiceTold_120 rfl (by decide) (L2 := [(1, (0, (x1 + 1))), (0, (2, ((0 : Nat) : Int)))]) rfl ?_
              refine ja_goto 83 dtwiceTold_123 rfl ?_
              exact ja_wk (fun q hq => by simp only [List.mem_cons, List.not_mem_nil, or_false] at hq; rcases hq with rfl | rfl <;> rfl) ((ih (((30000000 : Int) + ((20 : Int) - (x1 + 1))).toNat) (by omega)).2.1 f p (x1 + 1) gu ⟨by omega, by omega⟩ ⟨by omega, by omega⟩ ⟨by omega, by omega⟩ (show 0 ≤ (x1 + 1) ∧ (x1 + 1) ≤ (h 0 26) ∧ 0 ≤ f ∧ f ≤ 8 ∧ (1 ≤ f ∨ f = (h 0 11)) by omega) rfl)
            · refine ja_aload_n dtwiceTold_109 rfl rfl ?_
              refine ja_iconst dtwiceTold_110 ?_
              refine ja_aload_n dtwiceTold_111 rfl rfl ?_
              refine fa_aspectName dtwiceTold_112 ?_
              refine ja_iload_n dtwiceTold_115 rfl rfl ?_
              refine il_aspectName (v := h 13 (x1).toNat) rfl ⟨by omega, by omega⟩ dtwiceTold_116 ?_
              refine t_judge (by decide) (show (0 : Nat) ≤ 8 by decide) dtwiceTold_117 gu ⟨by decide, by decide⟩ ⟨by omega, by omega⟩ (show 1 ≤ 4 ∧ 4 ≤ 8 by omega) (show 0 ≤ (h 13 (x1).toNat) ∧ (h 13 (x1).toNat) ≤ 900 by omega) ?_
              intro w45 w46 k117_0 g47
              replace k117_0 : 1 ≤ w45 ∧ w45 ≤ 8 ∧ -2147483648 ≤ w46 ∧ w46 ≤ 2147483647 := k117_0
              replace g47 : mo_G mo_zr (ja_up (ja_up (ja_up (ja_up h 0 11 f) 0 12 p) 0 11 w45) 0 12 w46) := g47
              show mJ l D cA ad 3 cX12_twiceTold 4 none 120 [(0, (2, ((0 : Nat) : Int))), (1, (0, x1))] [] (ja_up (ja_up (ja_up (ja_up h 0 11 f) 0 12 p) 0 11 w45) 0 12 w46) Q
              refine ja_iinc dtwiceTold_120 rfl (by decide) (L2 := [(1, (0, (x1 + 1))), (0, (2, ((0 : Nat) : Int)))]) rfl ?_
              refine ja_goto 83 dtwiceTold_123 rfl ?_
              have hE83 : ja_up (ja_up (ja_up (ja_up h 0 11 f) 0 12 p) 0 11 w45) 0 12 w46 = ja_up (ja_up h 0 11 w45) 0 12 w46 := by first | exact mo_j0 | simp only [mo_jj]
              rw [hE83]
              exact ja_wk (fun q hq => by simp only [List.mem_cons, List.not_mem_nil, or_false] at hq; rcases hq with rfl | rfl <;> rfl) ((ih (((30000000 : Int) + ((20 : Int) - (x1 + 1))).toNat) (by omega)).2.1 w45 w46 (x1 + 1) (by rw [← hE83]; exact g47) ⟨by omega, by omega⟩ ⟨by omega, by omega⟩ ⟨by omega, by omega⟩ (show 0 ≤ (x1 + 1) ∧ (x1 + 1) ≤ (h 0 26) ∧ 0 ≤ w45 ∧ w45 ≤ 8 ∧ (1 ≤ w45 ∨ w45 = (h 0 11)) by omega) rfl)
          · intro k102_1
            replace k102_1 : asF (ja_up (ja_up h 0 11 f) 0 12 p) (h 5 (h 13 (x1).toNat).toNat) = -1 := k102_1
            refine ja_iload_n dtwiceTold_105 rfl rfl ?_
            refine ja_icmp_ge 120 dtwiceTold_106 rfl ⟨by decide, by decide⟩ ⟨by omega, by omega⟩ (fun c106 => ?_) (fun c106 => ?_)
            · refine ja_iinc dtwiceTold_120 rfl (by decide) (L2 := [(1, (0, (x1 + 1))), (0, (2, ((0 : Nat) : Int)))]) rfl ?_
              refine ja_goto 83 dtwiceTold_123 rfl ?_
              exact ja_wk (fun q hq => by simp only [List.mem_cons, List.not_mem_nil, or_false] at hq; rcases hq with rfl | rfl <;> rfl) ((ih (((30000000 : Int) + ((20 : Int) - (x1 + 1))).toNat) (by omega)).2.1 f p (x1 + 1) gu ⟨by omega, by omega⟩ ⟨by omega, by omega⟩ ⟨by omega, by omega⟩ (show 0 ≤ (x1 + 1) ∧ (x1 + 1) ≤ (h 0 26) ∧ 0 ≤ f ∧ f ≤ 8 ∧ (1 ≤ f ∨ f = (h 0 11)) by omega) rfl)
            · refine ja_aload_n dtwiceTold_109 rfl rfl ?_
              refine ja_iconst dtwiceTold_110 ?_
              refine ja_aload_n dtwiceTold_111 rfl rfl ?_
              refine fa_aspectName dtwiceTold_112 ?_
              refine ja_iload_n dtwiceTold_115 rfl rfl ?_
              refine il_aspectName (v := h 13 (x1).toNat) rfl ⟨by omega, by omega⟩ dtwiceTold_116 ?_
              refine t_judge (by decide) (show (0 : Nat) ≤ 8 by decide) dtwiceTold_117 gu ⟨by decide, by decide⟩ ⟨by omega, by omega⟩ (show 1 ≤ 4 ∧ 4 ≤ 8 by omega) (show 0 ≤ (h 13 (x1).toNat) ∧ (h 13 (x1).toNat) ≤ 900 by omega) ?_
              intro w48 w49 k117_0 g50
              replace k117_0 : 1 ≤ w48 ∧ w48 ≤ 8 ∧ -2147483648 ≤ w49 ∧ w49 ≤ 2147483647 := k117_0
              replace g50 : mo_G mo_zr (ja_up (ja_up (ja_up (ja_up h 0 11 f) 0 12 p) 0 11 w48) 0 12 w49) := g50
              show mJ l D cA ad 3 cX12_twiceTold 4 none 120 [(0, (2, ((0 : Nat) : Int))), (1, (0, x1))] [] (ja_up (ja_up (ja_up (ja_up h 0 11 f) 0 12 p) 0 11 w48) 0 12 w49) Q
              refine ja_iinc dtwiceTold_120 rfl (by decide) (L2 := [(1, (0, (x1 + 1))), (0, (2, ((0 : Nat) : Int)))]) rfl ?_
              refine ja_goto 83 dtwiceTold_123 rfl ?_
              have hE83 : ja_up (ja_up (ja_up (ja_up h 0 11 f) 0 12 p) 0 11 w48) 0 12 w49 = ja_up (ja_up h 0 11 w48) 0 12 w49 := by first | exact mo_j0 | simp only [mo_jj]
              rw [hE83]
              exact ja_wk (fun q hq => by simp only [List.mem_cons, List.not_mem_nil, or_false] at hq; rcases hq with rfl | rfl <;> rfl) ((ih (((30000000 : Int) + ((20 : Int) - (x1 + 1))).toNat) (by omega)).2.1 w48 w49 (x1 + 1) (by rw [← hE83]; exact g50) ⟨by omega, by omega⟩ ⟨by omega, by omega⟩ ⟨by omega, by omega⟩ (show 0 ≤ (x1 + 1) ∧ (x1 + 1) ≤ (h 0 26) ∧ 0 ≤ w48 ∧ w48 ≤ 8 ∧ (1 ≤ w48 ∨ w48 = (h 0 11)) by omega) rfl)
      · intro f p x1 gu qf qp qx1 iv hm
        subst hm
        refine ja_iload_n dtwiceTold_128 rfl rfl ?_
        refine ja_aload_n dtwiceTold_129 rfl rfl ?_
        refine fg_members (v := h 0 41) rfl dtwiceTold_130 ?_
        have f51 := gF_members g
        refine ja_icmp_ge 204 dtwiceTold_133 rfl ⟨by omega, by omega⟩ ⟨by omega, by omega⟩ (fun c133 => ?_) (fun c133 => ?_)
        · refine ja_iconst dtwiceTold_204 ?_
          refine ja_istore_n dtwiceTold_205 rfl (by decide) (L2 := [(1, (0, 0)), (0, (2, ((0 : Nat) : Int)))]) rfl ?_
          exact ja_wk (fun q hq => by simp only [List.mem_cons, List.not_mem_nil, or_false] at hq; rcases hq with rfl | rfl <;> rfl) ((ih (((2000 : Int) * ((1000 : Int) - 0)).toNat) (by omega)).2.2.2.2.1 f p 0 gu ⟨by omega, by omega⟩ ⟨by omega, by omega⟩ ⟨by decide, by decide⟩ (⟨by omega, fun z => ⟨by omega, odD_0⟩⟩) rfl)
        · refine ja_iconst dtwiceTold_136 ?_
          refine ja_istore_n dtwiceTold_137 rfl (by decide) (L2 := [(2, (0, 0)), (0, (2, ((0 : Nat) : Int))), (1, (0, x1))]) rfl ?_
          exact ja_wk (fun q hq => by simp only [List.mem_cons, List.not_mem_nil, or_false] at hq; rcases hq with rfl | rfl | rfl <;> rfl) ((ih (((20000000 : Int) + 2000 * ((1000 : Int) - x1) - 1 - 0).toNat) (by omega)).2.2.2.1 f p x1 0 gu ⟨by omega, by omega⟩ ⟨by omega, by omega⟩ ⟨by omega, by omega⟩ ⟨by decide, by decide⟩ (show 0 ≤ x1 ∧ x1 < (h 0 41) ∧ 0 ≤ 0 ∧ 0 ≤ x1 ∧ 0 ≤ f ∧ f ≤ 8 ∧ (1 ≤ f ∨ f = (h 0 11)) by omega) rfl)
      · intro f p x1 x2 gu qf qp qx1 qx2 iv hm
        subst hm
        refine ja_iload_n dtwiceTold_138 rfl rfl ?_
        refine ja_iload_n dtwiceTold_139 rfl rfl ?_
        refine ja_icmp_ge 198 dtwiceTold_140 rfl ⟨by omega, by omega⟩ ⟨by omega, by omega⟩ (fun c140 => ?_) (fun c140 => ?_)
        · refine ja_iinc dtwiceTold_198 rfl (by decide) (L2 := [(1, (0, (x1 + 1))), (0, (2, ((0 : Nat) : Int))), (2, (0, x2))]) rfl ?_
          refine ja_goto 128 dtwiceTold_201 rfl ?_
          exact ja_wk (fun q hq => by simp only [List.mem_cons, List.not_mem_nil, or_false] at hq; rcases hq with rfl | rfl <;> rfl) ((ih (((20000000 : Int) + 2000 * ((1000 : Int) - (x1 + 1))).toNat) (by omega)).2.2.1 f p (x1 + 1) gu ⟨by omega, by omega⟩ ⟨by omega, by omega⟩ ⟨by omega, by omega⟩ (show 0 ≤ (x1 + 1) ∧ (x1 + 1) ≤ (h 0 41) ∧ 0 ≤ f ∧ f ≤ 8 ∧ (1 ≤ f ∨ f = (h 0 11)) by omega) rfl)
        · refine ja_aload_n dtwiceTold_143 rfl rfl ?_
          refine fa_memberOf dtwiceTold_144 ?_
          refine ja_iload_n dtwiceTold_147 rfl rfl ?_
          refine il_memberOf (v := h 26 (x2).toNat) rfl ⟨by omega, by omega⟩ dtwiceTold_148 ?_
          have f52 := gC_memberOf g (x2).toNat
          refine ja_aload_n dtwiceTold_149 rfl rfl ?_
          refine fa_memberOf dtwiceTold_150 ?_
          refine ja_iload_n dtwiceTold_153 rfl rfl ?_
          refine il_memberOf (v := h 26 (x1).toNat) rfl ⟨by omega, by omega⟩ dtwiceTold_154 ?_
          have f53 := gC_memberOf g (x1).toNat
          refine ja_icmp_ne 192 dtwiceTold_155 rfl ⟨by omega, by omega⟩ ⟨by omega, by omega⟩ (fun c155 => ?_) (fun c155 => ?_)
          · refine ja_iinc dtwiceTold_192 rfl (by decide) (L2 := [(2, (0, (x2 + 1))), (0, (2, ((0 : Nat) : Int))), (1, (0, x1))]) rfl ?_
            refine ja_goto 138 dtwiceTold_195 rfl ?_
            exact ja_wk (fun q hq => by simp only [List.mem_cons, List.not_mem_nil, or_false] at hq; rcases hq with rfl | rfl | rfl <;> rfl) ((ih (((20000000 : Int) + 2000 * ((1000 : Int) - x1) - 1 - (x2 + 1)).toNat) (by omega)).2.2.2.1 f p x1 (x2 + 1) gu ⟨by omega, by omega⟩ ⟨by omega, by omega⟩ ⟨by omega, by omega⟩ ⟨by omega, by omega⟩ (show 0 ≤ x1 ∧ x1 < (h 0 41) ∧ 0 ≤ (x2 + 1) ∧ (x2 + 1) ≤ x1 ∧ 0 ≤ f ∧ f ≤ 8 ∧ (1 ≤ f ∨ f = (h 0 11)) by omega) rfl)
          · refine ja_aload_n dtwiceTold_158 rfl rfl ?_
            refine ja_aload_n dtwiceTold_159 rfl rfl ?_
            refine fa_memberName dtwiceTold_160 ?_
            refine ja_iload_n dtwiceTold_163 rfl rfl ?_
            refine il_memberName (v := h 25 (x2).toNat) rfl ⟨by omega, by omega⟩ dtwiceTold_164 ?_
            have f54 := gC_memberName g (x2).toNat
            refine t_id (by decide) (show (0 : Nat) ≤ 8 by decide) dtwiceTold_165 gu ⟨by omega, by omega⟩ (show 0 ≤ (h 25 (x2).toNat) ∧ (h 25 (x2).toNat) ≤ 900 by omega) ?_
            intro k165_0
            replace k165_0 : -2147483648 ≤ (h 5 (h 25 (x2).toNat).toNat) ∧ (h 5 (h 25 (x2).toNat).toNat) ≤ 2147483647 := k165_0
            show mJ l D cA ad 3 cX12_twiceTold 4 none 168 [(0, (2, ((0 : Nat) : Int))), (1, (0, x1)), (2, (0, x2))] [(0, (h 5 (h 25 (x2).toNat).toNat))] (ja_up (ja_up h 0 11 f) 0 12 p) Q
            refine ja_aload_n dtwiceTold_168 rfl rfl ?_
            refine ja_aload_n dtwiceTold_169 rfl rfl ?_
            refine fa_memberName dtwiceTold_170 ?_
            refine ja_iload_n dtwiceTold_173 rfl rfl ?_
            refine il_memberName (v := h 25 (x1).toNat) rfl ⟨by omega, by omega⟩ dtwiceTold_174 ?_
            have f55 := gC_memberName g (x1).toNat
            refine t_id (by decide) (show (1 : Nat) ≤ 8 by decide) dtwiceTold_175 gu ⟨by omega, by omega⟩ (show 0 ≤ (h 25 (x1).toNat) ∧ (h 25 (x1).toNat) ≤ 900 by omega) ?_
            intro k175_0
            replace k175_0 : -2147483648 ≤ (h 5 (h 25 (x1).toNat).toNat) ∧ (h 5 (h 25 (x1).toNat).toNat) ≤ 2147483647 := k175_0
            show mJ l D cA ad 3 cX12_twiceTold 4 none 178 [(0, (2, ((0 : Nat) : Int))), (1, (0, x1)), (2, (0, x2))] [(0, (h 5 (h 25 (x1).toNat).toNat)), (0, (h 5 (h 25 (x2).toNat).toNat))] (ja_up (ja_up h 0 11 f) 0 12 p) Q
            refine ja_icmp_ne 192 dtwiceTold_178 rfl ⟨by omega, by omega⟩ ⟨by omega, by omega⟩ (fun c178 => ?_) (fun c178 => ?_)
            · refine ja_iinc dtwiceTold_192 rfl (by decide) (L2 := [(2, (0, (x2 + 1))), (0, (2, ((0 : Nat) : Int))), (1, (0, x1))]) rfl ?_
              refine ja_goto 138 dtwiceTold_195 rfl ?_
              exact ja_wk (fun q hq => by simp only [List.mem_cons, List.not_mem_nil, or_false] at hq; rcases hq with rfl | rfl | rfl <;> rfl) ((ih (((20000000 : Int) + 2000 * ((1000 : Int) - x1) - 1 - (x2 + 1)).toNat) (by omega)).2.2.2.1 f p x1 (x2 + 1) gu ⟨by omega, by omega⟩ ⟨by omega, by omega⟩ ⟨by omega, by omega⟩ ⟨by omega, by omega⟩ (show 0 ≤ x1 ∧ x1 < (h 0 41) ∧ 0 ≤ (x2 + 1) ∧ (x2 + 1) ≤ x1 ∧ 0 ≤ f ∧ f ≤ 8 ∧ (1 ≤ f ∨ f = (h 0 11)) by omega) rfl)
            · refine ja_aload_n dtwiceTold_181 rfl rfl ?_
              refine ja_iconst dtwiceTold_182 ?_
              refine ja_aload_n dtwiceTold_183 rfl rfl ?_
              refine fa_memberName dtwiceTold_184 ?_
              refine ja_iload_n dtwiceTold_187 rfl rfl ?_
              refine il_memberName (v := h 25 (x1).toNat) rfl ⟨by omega, by omega⟩ dtwiceTold_188 ?_
              refine t_judge (by decide) (show (0 : Nat) ≤ 8 by decide) dtwiceTold_189 gu ⟨by decide, by decide⟩ ⟨by omega, by omega⟩ (show 1 ≤ 4 ∧ 4 ≤ 8 by omega) (show 0 ≤ (h 25 (x1).toNat) ∧ (h 25 (x1).toNat) ≤ 900 by omega) ?_
              intro w56 w57 k189_0 g58
              replace k189_0 : 1 ≤ w56 ∧ w56 ≤ 8 ∧ -2147483648 ≤ w57 ∧ w57 ≤ 2147483647 := k189_0
              replace g58 : mo_G mo_zr (ja_up (ja_up (ja_up (ja_up h 0 11 f) 0 12 p) 0 11 w56) 0 12 w57) := g58
              show mJ l D cA ad 3 cX12_twiceTold 4 none 192 [(0, (2, ((0 : Nat) : Int))), (1, (0, x1)), (2, (0, x2))] [] (ja_up (ja_up (ja_up (ja_up h 0 11 f) 0 12 p) 0 11 w56) 0 12 w57) Q
              refine ja_iinc dtwiceTold_192 rfl (by decide) (L2 := [(2, (0, (x2 + 1))), (0, (2, ((0 : Nat) : Int))), (1, (0, x1))]) rfl ?_
              refine ja_goto 138 dtwiceTold_195 rfl ?_
              have hE138 : ja_up (ja_up (ja_up (ja_up h 0 11 f) 0 12 p) 0 11 w56) 0 12 w57 = ja_up (ja_up h 0 11 w56) 0 12 w57 := by first | exact mo_j0 | simp only [mo_jj]
              rw [hE138]
              exact ja_wk (fun q hq => by simp only [List.mem_cons, List.not_mem_nil, or_false] at hq; rcases hq with rfl | rfl | rfl <;> rfl) ((ih (((20000000 : Int) + 2000 * ((1000 : Int) - x1) - 1 - (x2 + 1)).toNat) (by omega)).2.2.2.1 w56 w57 x1 (x2 + 1) (by rw [← hE138]; exact g58) ⟨by omega, by omega⟩ ⟨by omega, by omega⟩ ⟨by omega, by omega⟩ ⟨by omega, by omega⟩ (show 0 ≤ x1 ∧ x1 < (h 0 41) ∧ 0 ≤ (x2 + 1) ∧ (x2 + 1) ≤ x1 ∧ 0 ≤ w56 ∧ w56 ≤ 8 ∧ (1 ≤ w56 ∨ w56 = (h 0 11)) by omega) rfl)
      · intro f p x1 gu qf qp qx1 iv hm
        subst hm
        obtain ⟨iv, iw⟩ := iv
        refine ja_iload_n dtwiceTold_206 rfl rfl ?_
        refine ja_aload_n dtwiceTold_207 rfl rfl ?_
        refine fg_orders (v := h 0 64) rfl dtwiceTold_208 ?_
        have f59 := gF_orders g
        refine ja_icmp_ge 295 dtwiceTold_211 rfl ⟨by omega, by omega⟩ ⟨by omega, by omega⟩ (fun c211 => ?_) (fun c211 => ?_)
        · refine ja_return dtwiceTold_295 rfl ?_
          exact k1 f p (⟨by omega, by omega, by omega, by omega, by omega, fun z => by have e : x1 = (h 0 64) := (by omega); subst e; exact iw z⟩) gu
        · refine ja_aload_n dtwiceTold_214 rfl rfl ?_
          refine ja_aload_n dtwiceTold_215 rfl rfl ?_
          refine ja_aload_n dtwiceTold_216 rfl rfl ?_
          refine fa_orderName dtwiceTold_217 ?_
          refine ja_iload_n dtwiceTold_220 rfl rfl ?_
          refine il_orderName (v := h 43 (x1).toNat) rfl ⟨by omega, by omega⟩ dtwiceTold_221 ?_
          have f60 := gC_orderName g (x1).toNat
          refine t_id (by decide) (show (1 : Nat) ≤ 8 by decide) dtwiceTold_222 gu ⟨by omega, by omega⟩ (show 0 ≤ (h 43 (x1).toNat) ∧ (h 43 (x1).toNat) ≤ 900 by omega) ?_
          intro k222_0
          replace k222_0 : -2147483648 ≤ (h 5 (h 43 (x1).toNat).toNat) ∧ (h 5 (h 43 (x1).toNat).toNat) ≤ 2147483647 := k222_0
          show mJ l D cA ad 3 cX12_twiceTold 4 none 225 [(0, (2, ((0 : Nat) : Int))), (1, (0, x1))] [(0, (h 5 (h 43 (x1).toNat).toNat)), (2, ((0 : Nat) : Int))] (ja_up (ja_up h 0 11 f) 0 12 p) Q
          refine t_aspectOf2 (by decide) (show (0 : Nat) ≤ 8 by decide) dtwiceTold_225 gu ⟨by omega, by omega⟩ ?_ ?_
          · intro w61 k225_0
            replace k225_0 : 0 ≤ w61 ∧ w61 < (h 0 26) ∧ w61 = asF (ja_up (ja_up h 0 11 f) 0 12 p) (h 5 (h 43 (x1).toNat).toNat) := k225_0
            refine ja_if_ge 242 dtwiceTold_228 rfl ⟨by omega, by omega⟩ (fun c228 => ?_) (fun c228 => ?_)
            · refine ja_iconst dtwiceTold_242 ?_
              refine ja_istore_n dtwiceTold_243 rfl (by decide) (L2 := [(2, (0, 0)), (0, (2, ((0 : Nat) : Int))), (1, (0, x1))]) rfl ?_
              exact ja_wk (fun q hq => by simp only [List.mem_cons, List.not_mem_nil, or_false] at hq; rcases hq with rfl | rfl | rfl <;> rfl) ((ih (((2000 : Int) * ((1000 : Int) - x1) - 1 - 0).toNat) (by omega)).2.2.2.2.2 f p x1 0 gu ⟨by omega, by omega⟩ ⟨by omega, by omega⟩ ⟨by omega, by omega⟩ ⟨by decide, by decide⟩ (⟨by omega, fun z => by first | (exfalso; omega) | exact ⟨(iw z).1, (iw z).2, odE_0⟩⟩) rfl)
            · refine ja_aload_n dtwiceTold_231 rfl rfl ?_
              refine ja_iconst dtwiceTold_232 ?_
              refine ja_aload_n dtwiceTold_233 rfl rfl ?_
              refine fa_orderName dtwiceTold_234 ?_
              refine ja_iload_n dtwiceTold_237 rfl rfl ?_
              refine il_orderName (v := h 43 (x1).toNat) rfl ⟨by omega, by omega⟩ dtwiceTold_238 ?_
              refine t_judge (by decide) (show (0 : Nat) ≤ 8 by decide) dtwiceTold_239 gu ⟨by decide, by decide⟩ ⟨by omega, by omega⟩ (show 1 ≤ 5 ∧ 5 ≤ 8 by omega) (show 0 ≤ (h 43 (x1).toNat) ∧ (h 43 (x1).toNat) ≤ 900 by omega) ?_
              intro w62 w63 k239_0 g64
              replace k239_0 : 1 ≤ w62 ∧ w62 ≤ 8 ∧ -2147483648 ≤ w63 ∧ w63 ≤ 2147483647 := k239_0
              replace g64 : mo_G mo_zr (ja_up (ja_up (ja_up (ja_up h 0 11 f) 0 12 p) 0 11 w62) 0 12 w63) := g64
              show mJ l D cA ad 3 cX12_twiceTold 4 none 242 [(0, (2, ((0 : Nat) : Int))), (1, (0, x1))] [] (ja_up (ja_up (ja_up (ja_up h 0 11 f) 0 12 p) 0 11 w62) 0 12 w63) Q
              refine ja_iconst dtwiceTold_242 ?_
              refine ja_istore_n dtwiceTold_243 rfl (by decide) (L2 := [(2, (0, 0)), (0, (2, ((0 : Nat) : Int))), (1, (0, x1))]) rfl ?_
              have hE244 : ja_up (ja_up (ja_up (ja_up h 0 11 f) 0 12 p) 0 11 w62) 0 12 w63 = ja_up (ja_up h 0 11 w62) 0 12 w63 := by first | exact mo_j0 | simp only [mo_jj]
              rw [hE244]
              exact ja_wk (fun q hq => by simp only [List.mem_cons, List.not_mem_nil, or_false] at hq; rcases hq with rfl | rfl | rfl <;> rfl) ((ih (((2000 : Int) * ((1000 : Int) - x1) - 1 - 0).toNat) (by omega)).2.2.2.2.2 w62 w63 x1 0 (by rw [← hE244]; exact g64) ⟨by omega, by omega⟩ ⟨by omega, by omega⟩ ⟨by omega, by omega⟩ ⟨by decide, by decide⟩ (⟨by omega, fun z => by first | (exfalso; omega) | exact ⟨(iw z).1, (iw z).2, odE_0⟩⟩) rfl)
          · intro k225_1
            replace k225_1 : asF (ja_up (ja_up h 0 11 f) 0 12 p) (h 5 (h 43 (x1).toNat).toNat) = -1 := k225_1
            refine ja_if_ge 242 dtwiceTold_228 rfl ⟨by decide, by decide⟩ (fun c228 => absurd c228 (by omega)) (fun c228 => ?_)
            refine ja_aload_n dtwiceTold_231 rfl rfl ?_
            refine ja_iconst dtwiceTold_232 ?_
            refine ja_aload_n dtwiceTold_233 rfl rfl ?_
            refine fa_orderName dtwiceTold_234 ?_
            refine ja_iload_n dtwiceTold_237 rfl rfl ?_
            refine il_orderName (v := h 43 (x1).toNat) rfl ⟨by omega, by omega⟩ dtwiceTold_238 ?_
            refine t_judge (by decide) (show (0 : Nat) ≤ 8 by decide) dtwiceTold_239 gu ⟨by decide, by decide⟩ ⟨by omega, by omega⟩ (show 1 ≤ 5 ∧ 5 ≤ 8 by omega) (show 0 ≤ (h 43 (x1).toNat) ∧ (h 43 (x1).toNat) ≤ 900 by omega) ?_
            intro w65 w66 k239_0 g67
            replace k239_0 : 1 ≤ w65 ∧ w65 ≤ 8 ∧ -2147483648 ≤ w66 ∧ w66 ≤ 2147483647 := k239_0
            replace g67 : mo_G mo_zr (ja_up (ja_up (ja_up (ja_up h 0 11 f) 0 12 p) 0 11 w65) 0 12 w66) := g67
            show mJ l D cA ad 3 cX12_twiceTold 4 none 242 [(0, (2, ((0 : Nat) : Int))), (1, (0, x1))] [] (ja_up (ja_up (ja_up (ja_up h 0 11 f) 0 12 p) 0 11 w65) 0 12 w66) Q
            refine ja_iconst dtwiceTold_242 ?_
            refine ja_istore_n dtwiceTold_243 rfl (by decide) (L2 := [(2, (0, 0)), (0, (2, ((0 : Nat) : Int))), (1, (0, x1))]) rfl ?_
            have hE244 : ja_up (ja_up (ja_up (ja_up h 0 11 f) 0 12 p) 0 11 w65) 0 12 w66 = ja_up (ja_up h 0 11 w65) 0 12 w66 := by first | exact mo_j0 | simp only [mo_jj]
            rw [hE244]
            exact ja_wk (fun q hq => by simp only [List.mem_cons, List.not_mem_nil, or_false] at hq; rcases hq with rfl | rfl | rfl <;> rfl) ((ih (((2000 : Int) * ((1000 : Int) - x1) - 1 - 0).toNat) (by omega)).2.2.2.2.2 w65 w66 x1 0 (by rw [← hE244]; exact g67) ⟨by omega, by omega⟩ ⟨by omega, by omega⟩ ⟨by omega, by omega⟩ ⟨by decide, by decide⟩ (⟨by omega, fun z => by first | (exfalso; omega) | exact ⟨(iw z).1, (iw z).2, odE_0⟩⟩) rfl)
      · intro f p x1 x2 gu qf qp qx1 qx2 iv hm
        subst hm
        obtain ⟨iv, iw⟩ := iv
        refine ja_iload_n dtwiceTold_244 rfl rfl ?_
        refine ja_iload_n dtwiceTold_245 rfl rfl ?_
        refine ja_icmp_ge 289 dtwiceTold_246 rfl ⟨by omega, by omega⟩ ⟨by omega, by omega⟩ (fun c246 => ?_) (fun c246 => ?_)
        · refine ja_iinc dtwiceTold_289 rfl (by decide) (L2 := [(1, (0, (x1 + 1))), (0, (2, ((0 : Nat) : Int))), (2, (0, x2))]) rfl ?_
          refine ja_goto 206 dtwiceTold_292 rfl ?_
          exact ja_wk (fun q hq => by simp only [List.mem_cons, List.not_mem_nil, or_false] at hq; rcases hq with rfl | rfl <;> rfl) ((ih (((2000 : Int) * ((1000 : Int) - (x1 + 1))).toNat) (by omega)).2.2.2.2.1 f p (x1 + 1) gu ⟨by omega, by omega⟩ ⟨by omega, by omega⟩ ⟨by omega, by omega⟩ (⟨by omega, fun z => ⟨(iw z).1, odD_s (by omega) (iw z).2.1 (iw z).2.2 (by omega)⟩⟩) rfl)
        · refine ja_aload_n dtwiceTold_249 rfl rfl ?_
          refine ja_aload_n dtwiceTold_250 rfl rfl ?_
          refine fa_orderName dtwiceTold_251 ?_
          refine ja_iload_n dtwiceTold_254 rfl rfl ?_
          refine il_orderName (v := h 43 (x2).toNat) rfl ⟨by omega, by omega⟩ dtwiceTold_255 ?_
          have f68 := gC_orderName g (x2).toNat
          refine t_id (by decide) (show (0 : Nat) ≤ 8 by decide) dtwiceTold_256 gu ⟨by omega, by omega⟩ (show 0 ≤ (h 43 (x2).toNat) ∧ (h 43 (x2).toNat) ≤ 900 by omega) ?_
          intro k256_0
          replace k256_0 : -2147483648 ≤ (h 5 (h 43 (x2).toNat).toNat) ∧ (h 5 (h 43 (x2).toNat).toNat) ≤ 2147483647 := k256_0
          show mJ l D cA ad 3 cX12_twiceTold 4 none 259 [(0, (2, ((0 : Nat) : Int))), (1, (0, x1)), (2, (0, x2))] [(0, (h 5 (h 43 (x2).toNat).toNat))] (ja_up (ja_up h 0 11 f) 0 12 p) Q
          refine ja_aload_n dtwiceTold_259 rfl rfl ?_
          refine ja_aload_n dtwiceTold_260 rfl rfl ?_
          refine fa_orderName dtwiceTold_261 ?_
          refine ja_iload_n dtwiceTold_264 rfl rfl ?_
          refine il_orderName (v := h 43 (x1).toNat) rfl ⟨by omega, by omega⟩ dtwiceTold_265 ?_
          have f69 := gC_orderName g (x1).toNat
          refine t_id (by decide) (show (1 : Nat) ≤ 8 by decide) dtwiceTold_266 gu ⟨by omega, by omega⟩ (show 0 ≤ (h 43 (x1).toNat) ∧ (h 43 (x1).toNat) ≤ 900 by omega) ?_
          intro k266_0
          replace k266_0 : -2147483648 ≤ (h 5 (h 43 (x1).toNat).toNat) ∧ (h 5 (h 43 (x1).toNat).toNat) ≤ 2147483647 := k266_0
          show mJ l D cA ad 3 cX12_twiceTold 4 none 269 [(0, (2, ((0 : Nat) : Int))), (1, (0, x1)), (2, (0, x2))] [(0, (h 5 (h 43 (x1).toNat).toNat)), (0, (h 5 (h 43 (x2).toNat).toNat))] (ja_up (ja_up h 0 11 f) 0 12 p) Q
          refine ja_icmp_ne 283 dtwiceTold_269 rfl ⟨by omega, by omega⟩ ⟨by omega, by omega⟩ (fun c269 => ?_) (fun c269 => ?_)
          · refine ja_iinc dtwiceTold_283 rfl (by decide) (L2 := [(2, (0, (x2 + 1))), (0, (2, ((0 : Nat) : Int))), (1, (0, x1))]) rfl ?_
            refine ja_goto 244 dtwiceTold_286 rfl ?_
            exact ja_wk (fun q hq => by simp only [List.mem_cons, List.not_mem_nil, or_false] at hq; rcases hq with rfl | rfl | rfl <;> rfl) ((ih (((2000 : Int) * ((1000 : Int) - x1) - 1 - (x2 + 1)).toNat) (by omega)).2.2.2.2.2 f p x1 (x2 + 1) gu ⟨by omega, by omega⟩ ⟨by omega, by omega⟩ ⟨by omega, by omega⟩ ⟨by omega, by omega⟩ (⟨by omega, fun z => by first | (exfalso; omega) | exact ⟨(iw z).1, (iw z).2.1, odE_s (by omega) (iw z).2.2 c269⟩⟩) rfl)
          · refine ja_aload_n dtwiceTold_272 rfl rfl ?_
            refine ja_iconst dtwiceTold_273 ?_
            refine ja_aload_n dtwiceTold_274 rfl rfl ?_
            refine fa_orderName dtwiceTold_275 ?_
            refine ja_iload_n dtwiceTold_278 rfl rfl ?_
            refine il_orderName (v := h 43 (x1).toNat) rfl ⟨by omega, by omega⟩ dtwiceTold_279 ?_
            refine t_judge (by decide) (show (0 : Nat) ≤ 8 by decide) dtwiceTold_280 gu ⟨by decide, by decide⟩ ⟨by omega, by omega⟩ (show 1 ≤ 4 ∧ 4 ≤ 8 by omega) (show 0 ≤ (h 43 (x1).toNat) ∧ (h 43 (x1).toNat) ≤ 900 by omega) ?_
            intro w70 w71 k280_0 g72
            replace k280_0 : 1 ≤ w70 ∧ w70 ≤ 8 ∧ -2147483648 ≤ w71 ∧ w71 ≤ 2147483647 := k280_0
            replace g72 : mo_G mo_zr (ja_up (ja_up (ja_up (ja_up h 0 11 f) 0 12 p) 0 11 w70) 0 12 w71) := g72
            show mJ l D cA ad 3 cX12_twiceTold 4 none 283 [(0, (2, ((0 : Nat) : Int))), (1, (0, x1)), (2, (0, x2))] [] (ja_up (ja_up (ja_up (ja_up h 0 11 f) 0 12 p) 0 11 w70) 0 12 w71) Q
            refine ja_iinc dtwiceTold_283 rfl (by decide) (L2 := [(2, (0, (x2 + 1))), (0, (2, ((0 : Nat) : Int))), (1, (0, x1))]) rfl ?_
            refine ja_goto 244 dtwiceTold_286 rfl ?_
            have hE244 : ja_up (ja_up (ja_up (ja_up h 0 11 f) 0 12 p) 0 11 w70) 0 12 w71 = ja_up (ja_up h 0 11 w70) 0 12 w71 := by first | exact mo_j0 | simp only [mo_jj]
            rw [hE244]
            exact ja_wk (fun q hq => by simp only [List.mem_cons, List.not_mem_nil, or_false] at hq; rcases hq with rfl | rfl | rfl <;> rfl) ((ih (((2000 : Int) * ((1000 : Int) - x1) - 1 - (x2 + 1)).toNat) (by omega)).2.2.2.2.2 w70 w71 x1 (x2 + 1) (by rw [← hE244]; exact g72) ⟨by omega, by omega⟩ ⟨by omega, by omega⟩ ⟨by omega, by omega⟩ ⟨by omega, by omega⟩ (⟨by omega, fun z => by first | (exfalso; omega) | exact ⟨(iw z).1, (iw z).2.1, odE_s (by omega) (iw z).2.2 c269⟩⟩) rfl)
  refine ja_iconst dtwiceTold_0 ?_
  refine ja_istore_n dtwiceTold_1 rfl (by decide) (L2 := [(1, (0, 0)), (0, (2, ((0 : Nat) : Int)))]) rfl ?_
  have hE2 : h = ja_up (ja_up h 0 11 (h 0 11)) 0 12 (h 0 12) := by first | exact mo_j0 | simp only [mo_jj]
  rw [hE2]
  exact ja_wk (fun q hq => by simp only [List.mem_cons, List.not_mem_nil, or_false] at hq; rcases hq with rfl | rfl <;> rfl) ((CUT _).1 (h 0 11) (h 0 12) 0 (by rw [← hE2]; exact g) ⟨by omega, by omega⟩ ⟨by omega, by omega⟩ ⟨by decide, by decide⟩ (show 0 ≤ 0 ∧ 0 ≤ (h 0 22) ∧ 0 ≤ (h 0 11) ∧ (h 0 11) ≤ 8 ∧ (1 ≤ (h 0 11) ∨ (h 0 11) = (h 0 11)) by omega) rfl)
theorem t_twiceTold {d nL pc : Nat} {cc : ByteArray} {rt : Option FieldType} {L : List (Nat × ja_V)} {S : List ja_V} {h : ja_H} {Q : Option ja_V → ja_H → Prop} (hdd : 3 < d) (hwd : ja_wd S ≤ 8) (hd : decode cc pc = .ok (.invokevirtual 918, 3)) (g : mo_G mo_zr h) (k1 : ∀ (f p : Int), (0 ≤ f ∧ f ≤ 8 ∧ (1 ≤ f ∨ f = (h 0 11)) ∧ -2147483648 ≤ p ∧ p ≤ 2147483647 ∧ (f = 0 → (h 0 11) = 0 ∧ odD h (h 0 64))) → mo_G mo_zr (ja_up (ja_up h 0 11 f) 0 12 p) → mJ l D cA ad d cc nL rt (pc + 3) L S (ja_up (ja_up h 0 11 f) 0 12 p) Q) : mJ l D cA ad d cc nL rt pc L ((2, ((0 : Nat) : Int)) :: S) h Q :=
  mc_twiceTold hdd hwd hd (s_twiceTold g k1)
end
theorem disAbove_0 : decode cX12_isAbove 0 = .ok (.iload_n 2, 1) := by decide +kernel
theorem disAbove_1 : decode cX12_isAbove 1 = .ok (.istore_n 3, 1) := by decide +kernel
theorem disAbove_2 : decode cX12_isAbove 2 = .ok (.iload_n 3, 1) := by decide +kernel
theorem disAbove_3 : decode cX12_isAbove 3 = .ok (.ifCond .lt 18, 3) := by decide +kernel
theorem disAbove_6 : decode cX12_isAbove 6 = .ok (.iload_n 3, 1) := by decide +kernel
theorem disAbove_7 : decode cX12_isAbove 7 = .ok (.iload_n 1, 1) := by decide +kernel
theorem disAbove_8 : decode cX12_isAbove 8 = .ok (.if_icmp .eq 13, 3) := by decide +kernel
theorem disAbove_11 : decode cX12_isAbove 11 = .ok (.aload_n 0, 1) := by decide +kernel
theorem disAbove_12 : decode cX12_isAbove 12 = .ok (.getfield 43, 3) := by decide +kernel
theorem disAbove_15 : decode cX12_isAbove 15 = .ok (.iload_n 3, 1) := by decide +kernel
theorem disAbove_16 : decode cX12_isAbove 16 = .ok (.iaload, 1) := by decide +kernel
theorem disAbove_17 : decode cX12_isAbove 17 = .ok (.istore_n 3, 1) := by decide +kernel
theorem disAbove_18 : decode cX12_isAbove 18 = .ok (.goto (-16), 3) := by decide +kernel
theorem disAbove_21 : decode cX12_isAbove 21 = .ok (.iload_n 3, 1) := by decide +kernel
theorem disAbove_22 : decode cX12_isAbove 22 = .ok (.iload_n 1, 1) := by decide +kernel
theorem disAbove_23 : decode cX12_isAbove 23 = .ok (.if_icmp .ne 7, 3) := by decide +kernel
theorem disAbove_26 : decode cX12_isAbove 26 = .ok (.iconst 1, 1) := by decide +kernel
theorem disAbove_27 : decode cX12_isAbove 27 = .ok (.goto 4, 3) := by decide +kernel
theorem disAbove_30 : decode cX12_isAbove 30 = .ok (.iconst 0, 1) := by decide +kernel
theorem disAbove_31 : decode cX12_isAbove 31 = .ok (.ireturn, 1) := by decide +kernel
section
variable {l : Launch} {D : va_G} {cA : Nat → ClassId} {ad : Nat → Nat}
theorem s_isAbove {a1 a2 : Int} {rk : Nat → Nat} {h : ja_H} {Q : Option ja_V → ja_H → Prop} (g : mo_G mo_zr h) (r1 : -2147483648 ≤ a1 ∧ a1 ≤ 2147483647) (r2 : -2147483648 ≤ a2 ∧ a2 ≤ 2147483647) (p1 : 0 ≤ a1 ∧ a1 < (h 0 22)) (p2 : -1 ≤ a2 ∧ a2 < (h 0 22)) (p3 : rk_P (h 12) (h 0 22) rk) (k1 : Q (some (0, 1)) h) (k2 : (¬ abv (h 12) a1 a2) → Q (some (0, 0)) h) : mM_isAbove l D cA ad a1 a2 h Q := by
  show mJ l D cA ad 1 cX12_isAbove 4 (some .boolean) 0 [(0, (2, ((0 : Nat) : Int))), (1, (0, a1)), (2, (0, a2))] [] h Q
  have kn_classes := gF_classes g
  have CUT : ∀ n : Nat, (∀ (x3 : Int), (-2147483648 ≤ x3 ∧ x3 ≤ 2147483647) → (-1 ≤ x3 ∧ x3 < (h 0 22) ∧ wkU (h 12) a1 a2 x3) → ((if x3 < 0 then 0 else rk (x3).toNat + 1)) = n → mJ l D cA ad 1 cX12_isAbove 4 (some .boolean) 2 [(0, (2, ((0 : Nat) : Int))), (1, (0, a1)), (3, (0, x3))] [] h Q) := by
    intro n
    induction n using Nat.strongRecOn with
    | _ n ih =>
      skip
      · intro x3 qx3 iv hm
        subst hm
        have kab := gC_classAbove g (x3).toNat
        refine ja_iload_n disAbove_2 rfl rfl ?_
        refine ja_if_lt 21 disAbove_3 rfl ⟨by omega, by omega⟩ (fun c3 => ?_) (fun c3 => ?_)
        · refine ja_iload_n disAbove_21 rfl rfl ?_
          refine ja_iload_n disAbove_22 rfl rfl ?_
          refine ja_icmp_ne 30 disAbove_23 rfl ⟨by omega, by omega⟩ ⟨by omega, by omega⟩ (fun c23 => ?_) (fun c23 => ?_)
          · refine ja_iconst disAbove_30 ?_
            refine ja_zreturn disAbove_31 rfl (by omega) ?_
            exact mo_fin (by omega) rfl (k2 ((by exact wkU_no (by omega) (by omega) iv.2.2)))
          · refine ja_iconst disAbove_26 ?_
            refine ja_goto 31 disAbove_27 rfl ?_
            refine ja_zreturn disAbove_31 rfl (by omega) ?_
            exact mo_fin (by omega) rfl (k1 )
        · refine ja_iload_n disAbove_6 rfl rfl ?_
          refine ja_iload_n disAbove_7 rfl rfl ?_
          refine ja_icmp_eq 21 disAbove_8 rfl ⟨by omega, by omega⟩ ⟨by omega, by omega⟩ (fun c8 => ?_) (fun c8 => ?_)
          · refine ja_iload_n disAbove_21 rfl rfl ?_
            refine ja_iload_n disAbove_22 rfl rfl ?_
            refine ja_icmp_ne 30 disAbove_23 rfl ⟨by omega, by omega⟩ ⟨by omega, by omega⟩ (fun c23 => ?_) (fun c23 => ?_)
            · refine ja_iconst disAbove_30 ?_
              refine ja_zreturn disAbove_31 rfl (by omega) ?_
              exact mo_fin (by omega) rfl (k2 ((by exact wkU_no (by omega) (by omega) iv.2.2)))
            · refine ja_iconst disAbove_26 ?_
              refine ja_goto 31 disAbove_27 rfl ?_
              refine ja_zreturn disAbove_31 rfl (by omega) ?_
              exact mo_fin (by omega) rfl (k1 )
          · refine ja_aload_n disAbove_11 rfl rfl ?_
            refine fa_classAbove disAbove_12 ?_
            refine ja_iload_n disAbove_15 rfl rfl ?_
            refine il_classAbove (v := h 12 (x3).toNat) rfl ⟨by omega, by omega⟩ disAbove_16 ?_
            have f1 := gC_classAbove g (x3).toNat
            refine ja_istore_n disAbove_17 rfl (by decide) (L2 := [(3, (0, (h 12 (x3).toNat))), (0, (2, ((0 : Nat) : Int))), (1, (0, a1))]) rfl ?_
            refine ja_goto 2 disAbove_18 rfl ?_
            exact ja_wk (fun q hq => by simp only [List.mem_cons, List.not_mem_nil, or_false] at hq; rcases hq with rfl | rfl | rfl <;> rfl) ((ih ((if (h 12 (x3).toNat) < 0 then 0 else rk ((h 12 (x3).toNat)).toNat + 1)) ((by have := (p3 (x3).toNat (by omega)).2; (repeat' split) <;> omega))) (h 12 (x3).toNat)  ⟨by omega, by omega⟩ (⟨by omega, (by have := (p3 (x3).toNat (by omega)).1; omega), wkU_s (by omega) c8 iv.2.2⟩) rfl)
  refine ja_iload_n disAbove_0 rfl rfl ?_
  refine ja_istore_n disAbove_1 rfl (by decide) (L2 := [(3, (0, a2)), (0, (2, ((0 : Nat) : Int))), (1, (0, a1)), (2, (0, a2))]) rfl ?_
  exact ja_wk (fun q hq => by simp only [List.mem_cons, List.not_mem_nil, or_false] at hq; rcases hq with rfl | rfl | rfl <;> rfl) ((CUT _) a2  ⟨by omega, by omega⟩ (⟨by omega, by omega, wkU_0⟩) rfl)
theorem t_isAbove {a1 a2 : Int} {rk : Nat → Nat} {d nL pc : Nat} {cc : ByteArray} {rt : Option FieldType} {L : List (Nat × ja_V)} {S : List ja_V} {h : ja_H} {Q : Option ja_V → ja_H → Prop} (hdd : 1 < d) (hwd : ja_wd S ≤ 8) (hd : decode cc pc = .ok (.invokevirtual 915, 3)) (g : mo_G mo_zr h) (r1 : -2147483648 ≤ a1 ∧ a1 ≤ 2147483647) (r2 : -2147483648 ≤ a2 ∧ a2 ≤ 2147483647) (p1 : 0 ≤ a1 ∧ a1 < (h 0 22)) (p2 : -1 ≤ a2 ∧ a2 < (h 0 22)) (p3 : rk_P (h 12) (h 0 22) rk) (k1 : mJ l D cA ad d cc nL rt (pc + 3) L ((0, 1) :: S) h Q) (k2 : (¬ abv (h 12) a1 a2) → mJ l D cA ad d cc nL rt (pc + 3) L ((0, 0) :: S) h Q) : mJ l D cA ad d cc nL rt pc L ((0, a2) :: (0, a1) :: (2, ((0 : Nat) : Int)) :: S) h Q :=
  mc_isAbove hdd hwd hd (s_isAbove g r1 r2 p1 p2 p3 k1 k2)
end
theorem dunder_0 : decode cX12_under 0 = .ok (.aload_n 0, 1) := by decide +kernel
theorem dunder_1 : decode cX12_under 1 = .ok (.aload_n 0, 1) := by decide +kernel
theorem dunder_2 : decode cX12_under 2 = .ok (.iload_n 2, 1) := by decide +kernel
theorem dunder_3 : decode cX12_under 3 = .ok (.invokevirtual 716, 3) := by decide +kernel
theorem dunder_6 : decode cX12_under 6 = .ok (.invokevirtual 903, 3) := by decide +kernel
theorem dunder_9 : decode cX12_under 9 = .ok (.istore_n 3, 1) := by decide +kernel
theorem dunder_10 : decode cX12_under 10 = .ok (.iload_n 3, 1) := by decide +kernel
theorem dunder_11 : decode cX12_under 11 = .ok (.ifCond .lt 12, 3) := by decide +kernel
theorem dunder_14 : decode cX12_under 14 = .ok (.aload_n 0, 1) := by decide +kernel
theorem dunder_15 : decode cX12_under 15 = .ok (.iload_n 1, 1) := by decide +kernel
theorem dunder_16 : decode cX12_under 16 = .ok (.iload_n 3, 1) := by decide +kernel
theorem dunder_17 : decode cX12_under 17 = .ok (.invokevirtual 915, 3) := by decide +kernel
theorem dunder_20 : decode cX12_under 20 = .ok (.ifCond .eq 12, 3) := by decide +kernel
theorem dunder_23 : decode cX12_under 23 = .ok (.aload_n 0, 1) := by decide +kernel
theorem dunder_24 : decode cX12_under 24 = .ok (.iconst 5, 1) := by decide +kernel
theorem dunder_25 : decode cX12_under 25 = .ok (.iload_n 2, 1) := by decide +kernel
theorem dunder_26 : decode cX12_under 26 = .ok (.invokevirtual 719, 3) := by decide +kernel
theorem dunder_29 : decode cX12_under 29 = .ok (.goto 10, 3) := by decide +kernel
theorem dunder_32 : decode cX12_under 32 = .ok (.aload_n 0, 1) := by decide +kernel
theorem dunder_33 : decode cX12_under 33 = .ok (.getfield 43, 3) := by decide +kernel
theorem dunder_36 : decode cX12_under 36 = .ok (.iload_n 1, 1) := by decide +kernel
theorem dunder_37 : decode cX12_under 37 = .ok (.iload_n 3, 1) := by decide +kernel
theorem dunder_38 : decode cX12_under 38 = .ok (.iastore, 1) := by decide +kernel
theorem dunder_39 : decode cX12_under 39 = .ok (.return_, 1) := by decide +kernel
section
variable {l : Launch} {D : va_G} {cA : Nat → ClassId} {ad : Nat → Nat}
theorem s_under {a1 a2 : Int} {rk : Nat → Nat} {h : ja_H} {Q : Option ja_V → ja_H → Prop} (g : mo_G mo_zr h) (r1 : -2147483648 ≤ a1 ∧ a1 ≤ 2147483647) (r2 : -2147483648 ≤ a2 ∧ a2 ≤ 2147483647) (p1 : 0 ≤ a1 ∧ a1 < (h 0 22)) (p2 : 0 ≤ a2 ∧ a2 ≤ 900) (p3 : rk_P (h 12) (h 0 22) rk) (k1 : ∀ (f p : Int), (1 ≤ f ∧ f ≤ 8 ∧ -2147483648 ≤ p ∧ p ≤ 2147483647) → mo_G mo_zr (ja_up (ja_up h 0 11 f) 0 12 p) → Q none (ja_up (ja_up h 0 11 f) 0 12 p)) (k2 : ∀ (v : Int), (0 ≤ v ∧ v < (h 0 22) ∧ ¬ abv (h 12) a1 v) → mo_G mo_zr (ja_up h 12 ((a1).toNat) v) → Q none (ja_up h 12 ((a1).toNat) v)) : mM_under l D cA ad a1 a2 h Q := by
  show mJ l D cA ad 3 cX12_under 4 none 0 [(0, (2, ((0 : Nat) : Int))), (1, (0, a1)), (2, (0, a2))] [] h Q
  have kn_classes := gF_classes g
  have kn_false1 := gF_false1 g
  have kn_falseAt := gF_falseAt g
  refine ja_aload_n dunder_0 rfl rfl ?_
  refine ja_aload_n dunder_1 rfl rfl ?_
  refine ja_iload_n dunder_2 rfl rfl ?_
  refine t_id (by decide) (show (1 : Nat) ≤ 8 by decide) dunder_3 g ⟨by omega, by omega⟩ (show 0 ≤ a2 ∧ a2 ≤ 900 by omega) ?_
  intro k3_0
  refine t_classOf2 (by decide) (show (0 : Nat) ≤ 8 by decide) dunder_6 g ⟨by omega, by omega⟩ ?_ ?_
  · intro w1 k6_0
    refine ja_istore_n dunder_9 rfl (by decide) (L2 := [(3, (0, w1)), (0, (2, ((0 : Nat) : Int))), (1, (0, a1)), (2, (0, a2))]) rfl ?_
    refine ja_iload_n dunder_10 rfl rfl ?_
    refine ja_if_lt 23 dunder_11 rfl ⟨by omega, by omega⟩ (fun c11 => ?_) (fun c11 => ?_)
    · refine ja_aload_n dunder_23 rfl rfl ?_
      refine ja_iconst dunder_24 ?_
      refine ja_iload_n dunder_25 rfl rfl ?_
      refine t_judge (by decide) (show (0 : Nat) ≤ 8 by decide) dunder_26 g ⟨by decide, by decide⟩ ⟨by omega, by omega⟩ (show 1 ≤ 5 ∧ 5 ≤ 8 by omega) (show 0 ≤ a2 ∧ a2 ≤ 900 by omega) ?_
      intro w2 w3 k26_0 g4
      replace k26_0 : 1 ≤ w2 ∧ w2 ≤ 8 ∧ -2147483648 ≤ w3 ∧ w3 ≤ 2147483647 := k26_0
      replace g4 : mo_G mo_zr (ja_up (ja_up h 0 11 w2) 0 12 w3) := g4
      show mJ l D cA ad 3 cX12_under 4 none 29 [(3, (0, w1)), (0, (2, ((0 : Nat) : Int))), (1, (0, a1)), (2, (0, a2))] [] (ja_up (ja_up h 0 11 w2) 0 12 w3) Q
      refine ja_goto 39 dunder_29 rfl ?_
      refine ja_return dunder_39 rfl ?_
      first | (exact k1 w2 w3 (by omega) g4) | (have hE : ja_up (ja_up h 0 11 w2) 0 12 w3 = ja_up h 12 ((a1).toNat) w1 := (by funext k j; simp only [ja_up]; repeat' split <;> simp_all); rw [hE]; exact k2 w1 (⟨by omega, by omega, k17_1⟩) (by rw [← hE]; exact g4))
    · refine ja_aload_n dunder_14 rfl rfl ?_
      refine ja_iload_n dunder_15 rfl rfl ?_
      refine ja_iload_n dunder_16 rfl rfl ?_
      refine t_isAbove (by decide) (show (0 : Nat) ≤ 8 by decide) dunder_17 g ⟨by omega, by omega⟩ ⟨by omega, by omega⟩ (show 0 ≤ a1 ∧ a1 < (h 0 22) by omega) (show -1 ≤ w1 ∧ w1 < (h 0 22) by omega) (p3) ?_ ?_
      · refine ja_if_eq 32 dunder_20 rfl ⟨by decide, by decide⟩ (fun c20 => absurd c20 (by omega)) (fun c20 => ?_)
        refine ja_aload_n dunder_23 rfl rfl ?_
        refine ja_iconst dunder_24 ?_
        refine ja_iload_n dunder_25 rfl rfl ?_
        refine t_judge (by decide) (show (0 : Nat) ≤ 8 by decide) dunder_26 g ⟨by decide, by decide⟩ ⟨by omega, by omega⟩ (show 1 ≤ 5 ∧ 5 ≤ 8 by omega) (show 0 ≤ a2 ∧ a2 ≤ 900 by omega) ?_
        intro w5 w6 k26_0 g7
        replace k26_0 : 1 ≤ w5 ∧ w5 ≤ 8 ∧ -2147483648 ≤ w6 ∧ w6 ≤ 2147483647 := k26_0
        replace g7 : mo_G mo_zr (ja_up (ja_up h 0 11 w5) 0 12 w6) := g7
        show mJ l D cA ad 3 cX12_under 4 none 29 [(3, (0, w1)), (0, (2, ((0 : Nat) : Int))), (1, (0, a1)), (2, (0, a2))] [] (ja_up (ja_up h 0 11 w5) 0 12 w6) Q
        refine ja_goto 39 dunder_29 rfl ?_
        refine ja_return dunder_39 rfl ?_
        first | (exact k1 w5 w6 (by omega) g7) | (have hE : ja_up (ja_up h 0 11 w5) 0 12 w6 = ja_up h 12 ((a1).toNat) w1 := (by funext k j; simp only [ja_up]; repeat' split <;> simp_all); rw [hE]; exact k2 w1 (⟨by omega, by omega, k17_1⟩) (by rw [← hE]; exact g7))
      · intro k17_1
        refine ja_if_eq 32 dunder_20 rfl ⟨by decide, by decide⟩ (fun c20 => ?_) (fun c20 => absurd c20 (by omega))
        refine ja_aload_n dunder_32 rfl rfl ?_
        refine fa_classAbove dunder_33 ?_
        refine ja_iload_n dunder_36 rfl rfl ?_
        refine ja_iload_n dunder_37 rfl rfl ?_
        have g8 := gW_classAbove g (a1).toNat (x := w1) ⟨by omega, by omega⟩
        refine is_classAbove ⟨by omega, by omega⟩ dunder_38 ?_
        refine ja_return dunder_39 rfl ?_
        first | (have hE : ja_up h 12 ((a1).toNat) w1 = ja_up (ja_up h 0 11 (h 0 11)) 0 12 (h 0 12) := (by funext k j; simp only [ja_up]; repeat' split <;> simp_all); rw [hE]; exact k1 (h 0 11) (h 0 12) (by omega) (by rw [← hE]; exact g8)) | (exact k2 w1 (⟨by omega, by omega, k17_1⟩) g8)
  · intro k6_1
    refine ja_istore_n dunder_9 rfl (by decide) (L2 := [(3, (0, (-1))), (0, (2, ((0 : Nat) : Int))), (1, (0, a1)), (2, (0, a2))]) rfl ?_
    refine ja_iload_n dunder_10 rfl rfl ?_
    refine ja_if_lt 23 dunder_11 rfl ⟨by decide, by decide⟩ (fun c11 => ?_) (fun c11 => absurd c11 (by omega))
    refine ja_aload_n dunder_23 rfl rfl ?_
    refine ja_iconst dunder_24 ?_
    refine ja_iload_n dunder_25 rfl rfl ?_
    refine t_judge (by decide) (show (0 : Nat) ≤ 8 by decide) dunder_26 g ⟨by decide, by decide⟩ ⟨by omega, by omega⟩ (show 1 ≤ 5 ∧ 5 ≤ 8 by omega) (show 0 ≤ a2 ∧ a2 ≤ 900 by omega) ?_
    intro w9 w10 k26_0 g11
    replace k26_0 : 1 ≤ w9 ∧ w9 ≤ 8 ∧ -2147483648 ≤ w10 ∧ w10 ≤ 2147483647 := k26_0
    replace g11 : mo_G mo_zr (ja_up (ja_up h 0 11 w9) 0 12 w10) := g11
    show mJ l D cA ad 3 cX12_under 4 none 29 [(3, (0, (-1))), (0, (2, ((0 : Nat) : Int))), (1, (0, a1)), (2, (0, a2))] [] (ja_up (ja_up h 0 11 w9) 0 12 w10) Q
    refine ja_goto 39 dunder_29 rfl ?_
    refine ja_return dunder_39 rfl ?_
    first | (exact k1 w9 w10 (by omega) g11) | (have hE : ja_up (ja_up h 0 11 w9) 0 12 w10 = ja_up h 12 ((a1).toNat) (-1) := (by funext k j; simp only [ja_up]; repeat' split <;> simp_all); rw [hE]; exact k2 (-1) (⟨by omega, by omega, k17_1⟩) (by rw [← hE]; exact g11))
theorem t_under {a1 a2 : Int} {rk : Nat → Nat} {d nL pc : Nat} {cc : ByteArray} {rt : Option FieldType} {L : List (Nat × ja_V)} {S : List ja_V} {h : ja_H} {Q : Option ja_V → ja_H → Prop} (hdd : 3 < d) (hwd : ja_wd S ≤ 8) (hd : decode cc pc = .ok (.invokevirtual 912, 3)) (g : mo_G mo_zr h) (r1 : -2147483648 ≤ a1 ∧ a1 ≤ 2147483647) (r2 : -2147483648 ≤ a2 ∧ a2 ≤ 2147483647) (p1 : 0 ≤ a1 ∧ a1 < (h 0 22)) (p2 : 0 ≤ a2 ∧ a2 ≤ 900) (p3 : rk_P (h 12) (h 0 22) rk) (k1 : ∀ (f p : Int), (1 ≤ f ∧ f ≤ 8 ∧ -2147483648 ≤ p ∧ p ≤ 2147483647) → mo_G mo_zr (ja_up (ja_up h 0 11 f) 0 12 p) → mJ l D cA ad d cc nL rt (pc + 3) L S (ja_up (ja_up h 0 11 f) 0 12 p) Q) (k2 : ∀ (v : Int), (0 ≤ v ∧ v < (h 0 22) ∧ ¬ abv (h 12) a1 v) → mo_G mo_zr (ja_up h 12 ((a1).toNat) v) → mJ l D cA ad d cc nL rt (pc + 3) L S (ja_up h 12 ((a1).toNat) v) Q) : mJ l D cA ad d cc nL rt pc L ((0, a2) :: (0, a1) :: (2, ((0 : Nat) : Int)) :: S) h Q :=
  mc_under hdd hwd hd (s_under g r1 r2 p1 p2 p3 k1 k2)
end
theorem dparents_0 : decode cX12_parents 0 = .ok (.iconst 0, 1) := by decide +kernel
theorem dparents_1 : decode cX12_parents 1 = .ok (.istore_n 1, 1) := by decide +kernel
theorem dparents_2 : decode cX12_parents 2 = .ok (.iload_n 1, 1) := by decide +kernel
theorem dparents_3 : decode cX12_parents 3 = .ok (.aload_n 0, 1) := by decide +kernel
theorem dparents_4 : decode cX12_parents 4 = .ok (.getfield 647, 3) := by decide +kernel
theorem dparents_7 : decode cX12_parents 7 = .ok (.if_icmp .ge 16, 3) := by decide +kernel
theorem dparents_10 : decode cX12_parents 10 = .ok (.aload_n 0, 1) := by decide +kernel
theorem dparents_11 : decode cX12_parents 11 = .ok (.getfield 43, 3) := by decide +kernel
theorem dparents_14 : decode cX12_parents 14 = .ok (.iload_n 1, 1) := by decide +kernel
theorem dparents_15 : decode cX12_parents 15 = .ok (.iconst (-1), 1) := by decide +kernel
theorem dparents_16 : decode cX12_parents 16 = .ok (.iastore, 1) := by decide +kernel
theorem dparents_17 : decode cX12_parents 17 = .ok (.iinc 1 1, 3) := by decide +kernel
theorem dparents_20 : decode cX12_parents 20 = .ok (.goto (-18), 3) := by decide +kernel
theorem dparents_23 : decode cX12_parents 23 = .ok (.iconst 0, 1) := by decide +kernel
theorem dparents_24 : decode cX12_parents 24 = .ok (.istore_n 1, 1) := by decide +kernel
theorem dparents_25 : decode cX12_parents 25 = .ok (.iload_n 1, 1) := by decide +kernel
theorem dparents_26 : decode cX12_parents 26 = .ok (.aload_n 0, 1) := by decide +kernel
theorem dparents_27 : decode cX12_parents 27 = .ok (.getfield 647, 3) := by decide +kernel
theorem dparents_30 : decode cX12_parents 30 = .ok (.if_icmp .ge 97, 3) := by decide +kernel
theorem dparents_33 : decode cX12_parents 33 = .ok (.aload_n 0, 1) := by decide +kernel
theorem dparents_34 : decode cX12_parents 34 = .ok (.aload_n 0, 1) := by decide +kernel
theorem dparents_35 : decode cX12_parents 35 = .ok (.aload_n 0, 1) := by decide +kernel
theorem dparents_36 : decode cX12_parents 36 = .ok (.getfield 37, 3) := by decide +kernel
theorem dparents_39 : decode cX12_parents 39 = .ok (.iload_n 1, 1) := by decide +kernel
theorem dparents_40 : decode cX12_parents 40 = .ok (.iaload, 1) := by decide +kernel
theorem dparents_41 : decode cX12_parents 41 = .ok (.invokevirtual 716, 3) := by decide +kernel
theorem dparents_44 : decode cX12_parents 44 = .ok (.invokevirtual 903, 3) := by decide +kernel
theorem dparents_47 : decode cX12_parents 47 = .ok (.iload_n 1, 1) := by decide +kernel
theorem dparents_48 : decode cX12_parents 48 = .ok (.if_icmp .ne 7, 3) := by decide +kernel
theorem dparents_51 : decode cX12_parents 51 = .ok (.iconst 1, 1) := by decide +kernel
theorem dparents_52 : decode cX12_parents 52 = .ok (.goto 4, 3) := by decide +kernel
theorem dparents_55 : decode cX12_parents 55 = .ok (.iconst 0, 1) := by decide +kernel
theorem dparents_56 : decode cX12_parents 56 = .ok (.istore_n 2, 1) := by decide +kernel
theorem dparents_57 : decode cX12_parents 57 = .ok (.aload_n 0, 1) := by decide +kernel
theorem dparents_58 : decode cX12_parents 58 = .ok (.getfield 40, 3) := by decide +kernel
theorem dparents_61 : decode cX12_parents 61 = .ok (.iload_n 1, 1) := by decide +kernel
theorem dparents_62 : decode cX12_parents 62 = .ok (.iaload, 1) := by decide +kernel
theorem dparents_63 : decode cX12_parents 63 = .ok (.ifCond .lt 21, 3) := by decide +kernel
theorem dparents_66 : decode cX12_parents 66 = .ok (.iload_n 2, 1) := by decide +kernel
theorem dparents_67 : decode cX12_parents 67 = .ok (.ifCond .eq 17, 3) := by decide +kernel
theorem dparents_70 : decode cX12_parents 70 = .ok (.aload_n 0, 1) := by decide +kernel
theorem dparents_71 : decode cX12_parents 71 = .ok (.iload_n 1, 1) := by decide +kernel
theorem dparents_72 : decode cX12_parents 72 = .ok (.aload_n 0, 1) := by decide +kernel
theorem dparents_73 : decode cX12_parents 73 = .ok (.getfield 40, 3) := by decide +kernel
theorem dparents_76 : decode cX12_parents 76 = .ok (.iload_n 1, 1) := by decide +kernel
theorem dparents_77 : decode cX12_parents 77 = .ok (.iaload, 1) := by decide +kernel
theorem dparents_78 : decode cX12_parents 78 = .ok (.invokevirtual 912, 3) := by decide +kernel
theorem dparents_81 : decode cX12_parents 81 = .ok (.goto 40, 3) := by decide +kernel
theorem dparents_84 : decode cX12_parents 84 = .ok (.aload_n 0, 1) := by decide +kernel
theorem dparents_85 : decode cX12_parents 85 = .ok (.getfield 40, 3) := by decide +kernel
theorem dparents_88 : decode cX12_parents 88 = .ok (.iload_n 1, 1) := by decide +kernel
theorem dparents_89 : decode cX12_parents 89 = .ok (.iaload, 1) := by decide +kernel
theorem dparents_90 : decode cX12_parents 90 = .ok (.ifCond .lt 31, 3) := by decide +kernel
theorem dparents_93 : decode cX12_parents 93 = .ok (.aload_n 0, 1) := by decide +kernel
theorem dparents_94 : decode cX12_parents 94 = .ok (.aload_n 0, 1) := by decide +kernel
theorem dparents_95 : decode cX12_parents 95 = .ok (.aload_n 0, 1) := by decide +kernel
theorem dparents_96 : decode cX12_parents 96 = .ok (.getfield 40, 3) := by decide +kernel
theorem dparents_99 : decode cX12_parents 99 = .ok (.iload_n 1, 1) := by decide +kernel
theorem dparents_100 : decode cX12_parents 100 = .ok (.iaload, 1) := by decide +kernel
theorem dparents_101 : decode cX12_parents 101 = .ok (.invokevirtual 716, 3) := by decide +kernel
theorem dparents_104 : decode cX12_parents 104 = .ok (.invokevirtual 903, 3) := by decide +kernel
theorem dparents_107 : decode cX12_parents 107 = .ok (.ifCond .ge 14, 3) := by decide +kernel
theorem dparents_110 : decode cX12_parents 110 = .ok (.aload_n 0, 1) := by decide +kernel
theorem dparents_111 : decode cX12_parents 111 = .ok (.iconst 5, 1) := by decide +kernel
theorem dparents_112 : decode cX12_parents 112 = .ok (.aload_n 0, 1) := by decide +kernel
theorem dparents_113 : decode cX12_parents 113 = .ok (.getfield 40, 3) := by decide +kernel
theorem dparents_116 : decode cX12_parents 116 = .ok (.iload_n 1, 1) := by decide +kernel
theorem dparents_117 : decode cX12_parents 117 = .ok (.iaload, 1) := by decide +kernel
theorem dparents_118 : decode cX12_parents 118 = .ok (.invokevirtual 719, 3) := by decide +kernel
theorem dparents_121 : decode cX12_parents 121 = .ok (.iinc 1 1, 3) := by decide +kernel
theorem dparents_124 : decode cX12_parents 124 = .ok (.goto (-99), 3) := by decide +kernel
theorem dparents_127 : decode cX12_parents 127 = .ok (.iconst 0, 1) := by decide +kernel
theorem dparents_128 : decode cX12_parents 128 = .ok (.istore_n 1, 1) := by decide +kernel
theorem dparents_129 : decode cX12_parents 129 = .ok (.iload_n 1, 1) := by decide +kernel
theorem dparents_130 : decode cX12_parents 130 = .ok (.aload_n 0, 1) := by decide +kernel
theorem dparents_131 : decode cX12_parents 131 = .ok (.getfield 671, 3) := by decide +kernel
theorem dparents_134 : decode cX12_parents 134 = .ok (.if_icmp .ge 66, 3) := by decide +kernel
theorem dparents_137 : decode cX12_parents 137 = .ok (.aload_n 0, 1) := by decide +kernel
theorem dparents_138 : decode cX12_parents 138 = .ok (.aload_n 0, 1) := by decide +kernel
theorem dparents_139 : decode cX12_parents 139 = .ok (.aload_n 0, 1) := by decide +kernel
theorem dparents_140 : decode cX12_parents 140 = .ok (.getfield 131, 3) := by decide +kernel
theorem dparents_143 : decode cX12_parents 143 = .ok (.iload_n 1, 1) := by decide +kernel
theorem dparents_144 : decode cX12_parents 144 = .ok (.iaload, 1) := by decide +kernel
theorem dparents_145 : decode cX12_parents 145 = .ok (.invokevirtual 716, 3) := by decide +kernel
theorem dparents_148 : decode cX12_parents 148 = .ok (.invokevirtual 903, 3) := by decide +kernel
theorem dparents_151 : decode cX12_parents 151 = .ok (.istore_n 2, 1) := by decide +kernel
theorem dparents_152 : decode cX12_parents 152 = .ok (.iload_n 2, 1) := by decide +kernel
theorem dparents_153 : decode cX12_parents 153 = .ok (.ifCond .lt 26, 3) := by decide +kernel
theorem dparents_156 : decode cX12_parents 156 = .ok (.aload_n 0, 1) := by decide +kernel
theorem dparents_157 : decode cX12_parents 157 = .ok (.getfield 43, 3) := by decide +kernel
theorem dparents_160 : decode cX12_parents 160 = .ok (.iload_n 2, 1) := by decide +kernel
theorem dparents_161 : decode cX12_parents 161 = .ok (.iaload, 1) := by decide +kernel
theorem dparents_162 : decode cX12_parents 162 = .ok (.ifCond .lt 17, 3) := by decide +kernel
theorem dparents_165 : decode cX12_parents 165 = .ok (.aload_n 0, 1) := by decide +kernel
theorem dparents_166 : decode cX12_parents 166 = .ok (.iconst 4, 1) := by decide +kernel
theorem dparents_167 : decode cX12_parents 167 = .ok (.aload_n 0, 1) := by decide +kernel
theorem dparents_168 : decode cX12_parents 168 = .ok (.getfield 134, 3) := by decide +kernel
theorem dparents_171 : decode cX12_parents 171 = .ok (.iload_n 1, 1) := by decide +kernel
theorem dparents_172 : decode cX12_parents 172 = .ok (.iaload, 1) := by decide +kernel
theorem dparents_173 : decode cX12_parents 173 = .ok (.invokevirtual 719, 3) := by decide +kernel
theorem dparents_176 : decode cX12_parents 176 = .ok (.goto 18, 3) := by decide +kernel
theorem dparents_179 : decode cX12_parents 179 = .ok (.iload_n 2, 1) := by decide +kernel
theorem dparents_180 : decode cX12_parents 180 = .ok (.ifCond .lt 14, 3) := by decide +kernel
theorem dparents_183 : decode cX12_parents 183 = .ok (.aload_n 0, 1) := by decide +kernel
theorem dparents_184 : decode cX12_parents 184 = .ok (.iload_n 2, 1) := by decide +kernel
theorem dparents_185 : decode cX12_parents 185 = .ok (.aload_n 0, 1) := by decide +kernel
theorem dparents_186 : decode cX12_parents 186 = .ok (.getfield 134, 3) := by decide +kernel
theorem dparents_189 : decode cX12_parents 189 = .ok (.iload_n 1, 1) := by decide +kernel
theorem dparents_190 : decode cX12_parents 190 = .ok (.iaload, 1) := by decide +kernel
theorem dparents_191 : decode cX12_parents 191 = .ok (.invokevirtual 912, 3) := by decide +kernel
theorem dparents_194 : decode cX12_parents 194 = .ok (.iinc 1 1, 3) := by decide +kernel
theorem dparents_197 : decode cX12_parents 197 = .ok (.goto (-68), 3) := by decide +kernel
theorem dparents_200 : decode cX12_parents 200 = .ok (.return_, 1) := by decide +kernel
section
variable {l : Launch} {D : va_G} {cA : Nat → ClassId} {ad : Nat → Nat}
theorem s_parents {h : ja_H} {Q : Option ja_V → ja_H → Prop} (g : mo_G mo_zr h) (k1 : ∀ (h' : ja_H), (paI h h') → mo_G mo_zr h' → Q none h') : mM_parents l D cA ad  h Q := by
  show mJ l D cA ad 4 cX12_parents 3 none 0 [(0, (2, ((0 : Nat) : Int)))] [] h Q
  have kn_classes := gF_classes g
  have kn_unders := gF_unders g
  have CUT : ∀ n : Nat, (∀ (x1 : Int) (u : ja_H), mo_G mo_zr u → (-2147483648 ≤ x1 ∧ x1 ≤ 2147483647) → ((0 ≤ x1 ∧ x1 ≤ (h 0 22)) ∧ mo_ag FPA h u ∧ (u 0 11) = (h 0 11) ∧ (∀ c : Nat, (c : Int) < x1 → (u 12 (c : Int).toNat) = -1) ∧ clK h u (h 0 22)) → (((50000 : Int) + ((20 : Int) - x1)).toNat) = n → mJ l D cA ad 4 cX12_parents 3 none 2 [(0, (2, ((0 : Nat) : Int))), (1, (0, x1))] [] u Q) ∧ (∀ (x1 : Int) (u : ja_H), mo_G mo_zr u → (-2147483648 ≤ x1 ∧ x1 ≤ 2147483647) → ((0 ≤ x1 ∧ x1 ≤ (h 0 22)) ∧ paI h u) → (((20000 : Int) + ((20 : Int) - x1)).toNat) = n → mJ l D cA ad 4 cX12_parents 3 none 25 [(0, (2, ((0 : Nat) : Int))), (1, (0, x1))] [] u Q) ∧ (∀ (x1 : Int) (u : ja_H), mo_G mo_zr u → (-2147483648 ≤ x1 ∧ x1 ≤ 2147483647) → ((0 ≤ x1 ∧ x1 ≤ (h 0 61)) ∧ paI h u) → (((1000 : Int) - x1).toNat) = n → mJ l D cA ad 4 cX12_parents 3 none 129 [(0, (2, ((0 : Nat) : Int))), (1, (0, x1))] [] u Q) := by
    intro n
    induction n using Nat.strongRecOn with
    | _ n ih =>
      refine ⟨?_, ?_, ?_⟩
      · intro x1 u gu qx1 iv hm
        subst hm
        have ku_classes := gF_classes gu
        have ku_unders := gF_unders gu
        obtain ⟨iv, i1, i2, i3, i4⟩ := iv
        have e_classes : (u 0 22) = (h 0 22) := i1 0 22 rfl
        refine ja_iload_n dparents_2 rfl rfl ?_
        refine ja_aload_n dparents_3 rfl rfl ?_
        refine fg_classes (v := u 0 22) rfl dparents_4 ?_
        have f1 := gF_classes gu
        refine ja_icmp_ge 23 dparents_7 rfl ⟨by omega, by omega⟩ ⟨by omega, by omega⟩ (fun c7 => ?_) (fun c7 => ?_)
        · refine ja_iconst dparents_23 ?_
          refine ja_istore_n dparents_24 rfl (by decide) (L2 := [(1, (0, 0)), (0, (2, ((0 : Nat) : Int)))]) rfl ?_
          exact ja_wk (fun q hq => by simp only [List.mem_cons, List.not_mem_nil, or_false] at hq; rcases hq with rfl | rfl <;> rfl) ((ih (((20000 : Int) + ((20 : Int) - 0)).toNat) (by omega)).2.1 0 u gu ⟨by decide, by decide⟩ (⟨by omega, paI_0 i1 i2 (fun c hc => i3 c (by omega)) (by omega) i4⟩) rfl)
        · refine ja_aload_n dparents_10 rfl rfl ?_
          refine fa_classAbove dparents_11 ?_
          refine ja_iload_n dparents_14 rfl rfl ?_
          refine ja_iconst dparents_15 ?_
          have g2 := gW_classAbove gu (x1).toNat (x := (-1)) ⟨by decide, by decide⟩
          refine is_classAbove ⟨by omega, by omega⟩ dparents_16 ?_
          refine ja_iinc dparents_17 rfl (by decide) (L2 := [(1, (0, (x1 + 1))), (0, (2, ((0 : Nat) : Int)))]) rfl ?_
          refine ja_goto 2 dparents_20 rfl ?_
          exact ja_wk (fun q hq => by simp only [List.mem_cons, List.not_mem_nil, or_false] at hq; rcases hq with rfl | rfl <;> rfl) ((ih (((50000 : Int) + ((20 : Int) - (x1 + 1))).toNat) (by omega)).1 (x1 + 1) (ja_up u 12 ((x1).toNat) (-1)) g2 ⟨by omega, by omega⟩ (⟨by omega, ag_trans i1 (by (repeat (first | exact ag_refl | refine ag_up rfl ?_))), (show ((u 0 11) : Int) = (h 0 11) by omega), fun c hc => by by_cases e : c = (x1).toNat; (subst e; exact mo_upS); exact (mo_upJ e).trans (i3 c (by omega)), fun c hc => (mo_upJ (by omega)).trans (i4 c hc)⟩) rfl)
      · intro x1 u gu qx1 iv hm
        subst hm
        have ku_classes := gF_classes gu
        have ku_unders := gF_unders gu
        obtain ⟨iv, ag, ⟨i2, i9⟩, rk, hrk⟩ := iv
        have e_classes : (u 0 22) = (h 0 22) := ag 0 22 rfl
        have e_unders : (u 0 61) = (h 0 61) := ag 0 61 rfl
        refine ja_iload_n dparents_25 rfl rfl ?_
        refine ja_aload_n dparents_26 rfl rfl ?_
        refine fg_classes (v := u 0 22) rfl dparents_27 ?_
        have f3 := gF_classes gu
        refine ja_icmp_ge 127 dparents_30 rfl ⟨by omega, by omega⟩ ⟨by omega, by omega⟩ (fun c30 => ?_) (fun c30 => ?_)
        · refine ja_iconst dparents_127 ?_
          refine ja_istore_n dparents_128 rfl (by decide) (L2 := [(1, (0, 0)), (0, (2, ((0 : Nat) : Int)))]) rfl ?_
          exact ja_wk (fun q hq => by simp only [List.mem_cons, List.not_mem_nil, or_false] at hq; rcases hq with rfl | rfl <;> rfl) ((ih (((1000 : Int) - 0).toNat) (by omega)).2.2 0 u gu ⟨by decide, by decide⟩ (⟨by omega, ag_trans ag (by (repeat (first | exact ag_refl | refine ag_up rfl ?_))), ⟨(fun z => by have z2 : (u 0 11) = 0 := z; omega), i9⟩, ⟨rk, hrk⟩⟩) rfl)
        · refine ja_aload_n dparents_33 rfl rfl ?_
          refine ja_aload_n dparents_34 rfl rfl ?_
          refine ja_aload_n dparents_35 rfl rfl ?_
          refine fa_className dparents_36 ?_
          refine ja_iload_n dparents_39 rfl rfl ?_
          refine il_className (v := u 10 (x1).toNat) rfl ⟨by omega, by omega⟩ dparents_40 ?_
          have f4 := gC_className gu (x1).toNat
          refine t_id (by decide) (show (1 : Nat) ≤ 8 by decide) dparents_41 gu ⟨by omega, by omega⟩ (show 0 ≤ (u 10 (x1).toNat) ∧ (u 10 (x1).toNat) ≤ 900 by omega) ?_
          intro k41_0
          refine t_classOf2 (by decide) (show (0 : Nat) ≤ 8 by decide) dparents_44 gu ⟨by omega, by omega⟩ ?_ ?_
          · intro w5 k44_0
            refine ja_iload_n dparents_47 rfl rfl ?_
            refine ja_icmp_ne 55 dparents_48 rfl ⟨by omega, by omega⟩ ⟨by omega, by omega⟩ (fun c48 => ?_) (fun c48 => ?_)
            · refine ja_iconst dparents_55 ?_
              refine ja_istore_n dparents_56 rfl (by decide) (L2 := [(2, (0, 0)), (0, (2, ((0 : Nat) : Int))), (1, (0, x1))]) rfl ?_
              refine ja_aload_n dparents_57 rfl rfl ?_
              refine fa_classUnder dparents_58 ?_
              refine ja_iload_n dparents_61 rfl rfl ?_
              refine il_classUnder (v := u 11 (x1).toNat) rfl ⟨by omega, by omega⟩ dparents_62 ?_
              have f6 := gC_classUnder gu (x1).toNat
              refine ja_if_lt 84 dparents_63 rfl ⟨by omega, by omega⟩ (fun c63 => ?_) (fun c63 => ?_)
              · refine ja_aload_n dparents_84 rfl rfl ?_
                refine fa_classUnder dparents_85 ?_
                refine ja_iload_n dparents_88 rfl rfl ?_
                refine il_classUnder (v := u 11 (x1).toNat) rfl ⟨by omega, by omega⟩ dparents_89 ?_
                refine ja_if_lt 121 dparents_90 rfl ⟨by omega, by omega⟩ (fun c90 => ?_) (fun c90 => ?_)
                · refine ja_iinc dparents_121 rfl (by decide) (L2 := [(1, (0, (x1 + 1))), (2, (0, 0)), (0, (2, ((0 : Nat) : Int)))]) rfl ?_
                  refine ja_goto 25 dparents_124 rfl ?_
                  exact ja_wk (fun q hq => by simp only [List.mem_cons, List.not_mem_nil, or_false] at hq; rcases hq with rfl | rfl <;> rfl) ((ih (((20000 : Int) + ((20 : Int) - (x1 + 1))).toNat) (by omega)).2.1 (x1 + 1) u gu ⟨by omega, by omega⟩ (⟨by omega, ag_trans ag (by (repeat (first | exact ag_refl | refine ag_up rfl ?_))), ⟨(fun z => by have z2 : (u 0 11) = 0 := z; omega), i9⟩, ⟨rk, hrk⟩⟩) rfl)
                · refine ja_aload_n dparents_93 rfl rfl ?_
                  refine ja_aload_n dparents_94 rfl rfl ?_
                  refine ja_aload_n dparents_95 rfl rfl ?_
                  refine fa_classUnder dparents_96 ?_
                  refine ja_iload_n dparents_99 rfl rfl ?_
                  refine il_classUnder (v := u 11 (x1).toNat) rfl ⟨by omega, by omega⟩ dparents_100 ?_
                  refine t_id (by decide) (show (1 : Nat) ≤ 8 by decide) dparents_101 gu ⟨by omega, by omega⟩ (show 0 ≤ (u 11 (x1).toNat) ∧ (u 11 (x1).toNat) ≤ 900 by omega) ?_
                  intro k101_0
                  refine t_classOf2 (by decide) (show (0 : Nat) ≤ 8 by decide) dparents_104 gu ⟨by omega, by omega⟩ ?_ ?_
                  · intro w7 k104_0
                    refine ja_if_ge 121 dparents_107 rfl ⟨by omega, by omega⟩ (fun c107 => ?_) (fun c107 => ?_)
                    · refine ja_iinc dparents_121 rfl (by decide) (L2 := [(1, (0, (x1 + 1))), (2, (0, 0)), (0, (2, ((0 : Nat) : Int)))]) rfl ?_
                      refine ja_goto 25 dparents_124 rfl ?_
                      exact ja_wk (fun q hq => by simp only [List.mem_cons, List.not_mem_nil, or_false] at hq; rcases hq with rfl | rfl <;> rfl) ((ih (((20000 : Int) + ((20 : Int) - (x1 + 1))).toNat) (by omega)).2.1 (x1 + 1) u gu ⟨by omega, by omega⟩ (⟨by omega, ag_trans ag (by (repeat (first | exact ag_refl | refine ag_up rfl ?_))), ⟨(fun z => by have z2 : (u 0 11) = 0 := z; omega), i9⟩, ⟨rk, hrk⟩⟩) rfl)
                    · refine ja_aload_n dparents_110 rfl rfl ?_
                      refine ja_iconst dparents_111 ?_
                      refine ja_aload_n dparents_112 rfl rfl ?_
                      refine fa_classUnder dparents_113 ?_
                      refine ja_iload_n dparents_116 rfl rfl ?_
                      refine il_classUnder (v := u 11 (x1).toNat) rfl ⟨by omega, by omega⟩ dparents_117 ?_
                      refine t_judge (by decide) (show (0 : Nat) ≤ 8 by decide) dparents_118 gu ⟨by decide, by decide⟩ ⟨by omega, by omega⟩ (show 1 ≤ 5 ∧ 5 ≤ 8 by omega) (show 0 ≤ (u 11 (x1).toNat) ∧ (u 11 (x1).toNat) ≤ 900 by omega) ?_
                      intro w8 w9 k118_0 g10
                      replace k118_0 : 1 ≤ w8 ∧ w8 ≤ 8 ∧ -2147483648 ≤ w9 ∧ w9 ≤ 2147483647 := k118_0
                      replace g10 : mo_G mo_zr (ja_up (ja_up u 0 11 w8) 0 12 w9) := g10
                      show mJ l D cA ad 4 cX12_parents 3 none 121 [(2, (0, 0)), (0, (2, ((0 : Nat) : Int))), (1, (0, x1))] [] (ja_up (ja_up u 0 11 w8) 0 12 w9) Q
                      refine ja_iinc dparents_121 rfl (by decide) (L2 := [(1, (0, (x1 + 1))), (2, (0, 0)), (0, (2, ((0 : Nat) : Int)))]) rfl ?_
                      refine ja_goto 25 dparents_124 rfl ?_
                      exact ja_wk (fun q hq => by simp only [List.mem_cons, List.not_mem_nil, or_false] at hq; rcases hq with rfl | rfl <;> rfl) ((ih (((20000 : Int) + ((20 : Int) - (x1 + 1))).toNat) (by omega)).2.1 (x1 + 1) (ja_up (ja_up u 0 11 w8) 0 12 w9) g10 ⟨by omega, by omega⟩ (⟨by omega, ag_trans ag (by (repeat (first | exact ag_refl | refine ag_up rfl ?_))), ⟨(fun z => by have z2 : w8 = 0 := z; omega), i9⟩, ⟨rk, hrk⟩⟩) rfl)
                  · intro k104_1
                    refine ja_if_ge 121 dparents_107 rfl ⟨by decide, by decide⟩ (fun c107 => absurd c107 (by omega)) (fun c107 => ?_)
                    refine ja_aload_n dparents_110 rfl rfl ?_
                    refine ja_iconst dparents_111 ?_
                    refine ja_aload_n dparents_112 rfl rfl ?_
                    refine fa_classUnder dparents_113 ?_
                    refine ja_iload_n dparents_116 rfl rfl ?_
                    refine il_classUnder (v := u 11 (x1).toNat) rfl ⟨by omega, by omega⟩ dparents_117 ?_
                    refine t_judge (by decide) (show (0 : Nat) ≤ 8 by decide) dparents_118 gu ⟨by decide, by decide⟩ ⟨by omega, by omega⟩ (show 1 ≤ 5 ∧ 5 ≤ 8 by omega) (show 0 ≤ (u 11 (x1).toNat) ∧ (u 11 (x1).toNat) ≤ 900 by omega) ?_
                    intro w11 w12 k118_0 g13
                    replace k118_0 : 1 ≤ w11 ∧ w11 ≤ 8 ∧ -2147483648 ≤ w12 ∧ w12 ≤ 2147483647 := k118_0
                    replace g13 : mo_G mo_zr (ja_up (ja_up u 0 11 w11) 0 12 w12) := g13
                    show mJ l D cA ad 4 cX12_parents 3 none 121 [(2, (0, 0)), (0, (2, ((0 : Nat) : Int))), (1, (0, x1))] [] (ja_up (ja_up u 0 11 w11) 0 12 w12) Q
                    refine ja_iinc dparents_121 rfl (by decide) (L2 := [(1, (0, (x1 + 1))), (2, (0, 0)), (0, (2, ((0 : Nat) : Int)))]) rfl ?_
                    refine ja_goto 25 dparents_124 rfl ?_
                    exact ja_wk (fun q hq => by simp only [List.mem_cons, List.not_mem_nil, or_false] at hq; rcases hq with rfl | rfl <;> rfl) ((ih (((20000 : Int) + ((20 : Int) - (x1 + 1))).toNat) (by omega)).2.1 (x1 + 1) (ja_up (ja_up u 0 11 w11) 0 12 w12) g13 ⟨by omega, by omega⟩ (⟨by omega, ag_trans ag (by (repeat (first | exact ag_refl | refine ag_up rfl ?_))), ⟨(fun z => by have z2 : w11 = 0 := z; omega), i9⟩, ⟨rk, hrk⟩⟩) rfl)
              · refine ja_iload_n dparents_66 rfl rfl ?_
                refine ja_if_eq 84 dparents_67 rfl ⟨by decide, by decide⟩ (fun c67 => ?_) (fun c67 => absurd c67 (by omega))
                refine ja_aload_n dparents_84 rfl rfl ?_
                refine fa_classUnder dparents_85 ?_
                refine ja_iload_n dparents_88 rfl rfl ?_
                refine il_classUnder (v := u 11 (x1).toNat) rfl ⟨by omega, by omega⟩ dparents_89 ?_
                refine ja_if_lt 121 dparents_90 rfl ⟨by omega, by omega⟩ (fun c90 => ?_) (fun c90 => ?_)
                · refine ja_iinc dparents_121 rfl (by decide) (L2 := [(1, (0, (x1 + 1))), (2, (0, 0)), (0, (2, ((0 : Nat) : Int)))]) rfl ?_
                  refine ja_goto 25 dparents_124 rfl ?_
                  exact ja_wk (fun q hq => by simp only [List.mem_cons, List.not_mem_nil, or_false] at hq; rcases hq with rfl | rfl <;> rfl) ((ih (((20000 : Int) + ((20 : Int) - (x1 + 1))).toNat) (by omega)).2.1 (x1 + 1) u gu ⟨by omega, by omega⟩ (⟨by omega, ag_trans ag (by (repeat (first | exact ag_refl | refine ag_up rfl ?_))), ⟨(fun z => by have z2 : (u 0 11) = 0 := z; omega), i9⟩, ⟨rk, hrk⟩⟩) rfl)
                · refine ja_aload_n dparents_93 rfl rfl ?_
                  refine ja_aload_n dparents_94 rfl rfl ?_
                  refine ja_aload_n dparents_95 rfl rfl ?_
                  refine fa_classUnder dparents_96 ?_
                  refine ja_iload_n dparents_99 rfl rfl ?_
                  refine il_classUnder (v := u 11 (x1).toNat) rfl ⟨by omega, by omega⟩ dparents_100 ?_
                  refine t_id (by decide) (show (1 : Nat) ≤ 8 by decide) dparents_101 gu ⟨by omega, by omega⟩ (show 0 ≤ (u 11 (x1).toNat) ∧ (u 11 (x1).toNat) ≤ 900 by omega) ?_
                  intro k101_0
                  refine t_classOf2 (by decide) (show (0 : Nat) ≤ 8 by decide) dparents_104 gu ⟨by omega, by omega⟩ ?_ ?_
                  · intro w14 k104_0
                    refine ja_if_ge 121 dparents_107 rfl ⟨by omega, by omega⟩ (fun c107 => ?_) (fun c107 => ?_)
                    · refine ja_iinc dparents_121 rfl (by decide) (L2 := [(1, (0, (x1 + 1))), (2, (0, 0)), (0, (2, ((0 : Nat) : Int)))]) rfl ?_
                      refine ja_goto 25 dparents_124 rfl ?_
                      exact ja_wk (fun q hq => by simp only [List.mem_cons, List.not_mem_nil, or_false] at hq; rcases hq with rfl | rfl <;> rfl) ((ih (((20000 : Int) + ((20 : Int) - (x1 + 1))).toNat) (by omega)).2.1 (x1 + 1) u gu ⟨by omega, by omega⟩ (⟨by omega, ag_trans ag (by (repeat (first | exact ag_refl | refine ag_up rfl ?_))), ⟨(fun z => by have z2 : (u 0 11) = 0 := z; omega), i9⟩, ⟨rk, hrk⟩⟩) rfl)
                    · refine ja_aload_n dparents_110 rfl rfl ?_
                      refine ja_iconst dparents_111 ?_
                      refine ja_aload_n dparents_112 rfl rfl ?_
                      refine fa_classUnder dparents_113 ?_
                      refine ja_iload_n dparents_116 rfl rfl ?_
                      refine il_classUnder (v := u 11 (x1).toNat) rfl ⟨by omega, by omega⟩ dparents_117 ?_
                      refine t_judge (by decide) (show (0 : Nat) ≤ 8 by decide) dparents_118 gu ⟨by decide, by decide⟩ ⟨by omega, by omega⟩ (show 1 ≤ 5 ∧ 5 ≤ 8 by omega) (show 0 ≤ (u 11 (x1).toNat) ∧ (u 11 (x1).toNat) ≤ 900 by omega) ?_
                      intro w15 w16 k118_0 g17
                      replace k118_0 : 1 ≤ w15 ∧ w15 ≤ 8 ∧ -2147483648 ≤ w16 ∧ w16 ≤ 2147483647 := k118_0
                      replace g17 : mo_G mo_zr (ja_up (ja_up u 0 11 w15) 0 12 w16) := g17
                      show mJ l D cA ad 4 cX12_parents 3 none 121 [(2, (0, 0)), (0, (2, ((0 : Nat) : Int))), (1, (0, x1))] [] (ja_up (ja_up u 0 11 w15) 0 12 w16) Q
                      refine ja_iinc dparents_121 rfl (by decide) (L2 := [(1, (0, (x1 + 1))), (2, (0, 0)), (0, (2, ((0 : Nat) : Int)))]) rfl ?_
                      refine ja_goto 25 dparents_124 rfl ?_
                      exact ja_wk (fun q hq => by simp only [List.mem_cons, List.not_mem_nil, or_false] at hq; rcases hq with rfl | rfl <;> rfl) ((ih (((20000 : Int) + ((20 : Int) - (x1 + 1))).toNat) (by omega)).2.1 (x1 + 1) (ja_up (ja_up u 0 11 w15) 0 12 w16) g17 ⟨by omega, by omega⟩ (⟨by omega, ag_trans ag (by (repeat (first | exact ag_refl | refine ag_up rfl ?_))), ⟨(fun z => by have z2 : w15 = 0 := z; omega), i9⟩, ⟨rk, hrk⟩⟩) rfl)
                  · intro k104_1
                    refine ja_if_ge 121 dparents_107 rfl ⟨by decide, by decide⟩ (fun c107 => absurd c107 (by omega)) (fun c107 => ?_)
                    refine ja_aload_n dparents_110 rfl rfl ?_
                    refine ja_iconst dparents_111 ?_
                    refine ja_aload_n dparents_112 rfl rfl ?_
                    refine fa_classUnder dparents_113 ?_
                    refine ja_iload_n dparents_116 rfl rfl ?_
                    refine il_classUnder (v := u 11 (x1).toNat) rfl ⟨by omega, by omega⟩ dparents_117 ?_
                    refine t_judge (by decide) (show (0 : Nat) ≤ 8 by decide) dparents_118 gu ⟨by decide, by decide⟩ ⟨by omega, by omega⟩ (show 1 ≤ 5 ∧ 5 ≤ 8 by omega) (show 0 ≤ (u 11 (x1).toNat) ∧ (u 11 (x1).toNat) ≤ 900 by omega) ?_
                    intro w18 w19 k118_0 g20
                    replace k118_0 : 1 ≤ w18 ∧ w18 ≤ 8 ∧ -2147483648 ≤ w19 ∧ w19 ≤ 2147483647 := k118_0
                    replace g20 : mo_G mo_zr (ja_up (ja_up u 0 11 w18) 0 12 w19) := g20
                    show mJ l D cA ad 4 cX12_parents 3 none 121 [(2, (0, 0)), (0, (2, ((0 : Nat) : Int))), (1, (0, x1))] [] (ja_up (ja_up u 0 11 w18) 0 12 w19) Q
                    refine ja_iinc dparents_121 rfl (by decide) (L2 := [(1, (0, (x1 + 1))), (2, (0, 0)), (0, (2, ((0 : Nat) : Int)))]) rfl ?_
                    refine ja_goto 25 dparents_124 rfl ?_
                    exact ja_wk (fun q hq => by simp only [List.mem_cons, List.not_mem_nil, or_false] at hq; rcases hq with rfl | rfl <;> rfl) ((ih (((20000 : Int) + ((20 : Int) - (x1 + 1))).toNat) (by omega)).2.1 (x1 + 1) (ja_up (ja_up u 0 11 w18) 0 12 w19) g20 ⟨by omega, by omega⟩ (⟨by omega, ag_trans ag (by (repeat (first | exact ag_refl | refine ag_up rfl ?_))), ⟨(fun z => by have z2 : w18 = 0 := z; omega), i9⟩, ⟨rk, hrk⟩⟩) rfl)
            · refine ja_iconst dparents_51 ?_
              refine ja_goto 56 dparents_52 rfl ?_
              refine ja_istore_n dparents_56 rfl (by decide) (L2 := [(2, (0, 1)), (0, (2, ((0 : Nat) : Int))), (1, (0, x1))]) rfl ?_
              refine ja_aload_n dparents_57 rfl rfl ?_
              refine fa_classUnder dparents_58 ?_
              refine ja_iload_n dparents_61 rfl rfl ?_
              refine il_classUnder (v := u 11 (x1).toNat) rfl ⟨by omega, by omega⟩ dparents_62 ?_
              have f21 := gC_classUnder gu (x1).toNat
              refine ja_if_lt 84 dparents_63 rfl ⟨by omega, by omega⟩ (fun c63 => ?_) (fun c63 => ?_)
              · refine ja_aload_n dparents_84 rfl rfl ?_
                refine fa_classUnder dparents_85 ?_
                refine ja_iload_n dparents_88 rfl rfl ?_
                refine il_classUnder (v := u 11 (x1).toNat) rfl ⟨by omega, by omega⟩ dparents_89 ?_
                refine ja_if_lt 121 dparents_90 rfl ⟨by omega, by omega⟩ (fun c90 => ?_) (fun c90 => ?_)
                · refine ja_iinc dparents_121 rfl (by decide) (L2 := [(1, (0, (x1 + 1))), (2, (0, 1)), (0, (2, ((0 : Nat) : Int)))]) rfl ?_
                  refine ja_goto 25 dparents_124 rfl ?_
                  exact ja_wk (fun q hq => by simp only [List.mem_cons, List.not_mem_nil, or_false] at hq; rcases hq with rfl | rfl <;> rfl) ((ih (((20000 : Int) + ((20 : Int) - (x1 + 1))).toNat) (by omega)).2.1 (x1 + 1) u gu ⟨by omega, by omega⟩ (⟨by omega, ag_trans ag (by (repeat (first | exact ag_refl | refine ag_up rfl ?_))), ⟨(fun z => by have z2 : (u 0 11) = 0 := z; omega), i9⟩, ⟨rk, hrk⟩⟩) rfl)
                · refine ja_aload_n dparents_93 rfl rfl ?_
                  refine ja_aload_n dparents_94 rfl rfl ?_
                  refine ja_aload_n dparents_95 rfl rfl ?_
                  refine fa_classUnder dparents_96 ?_
                  refine ja_iload_n dparents_99 rfl rfl ?_
                  refine il_classUnder (v := u 11 (x1).toNat) rfl ⟨by omega, by omega⟩ dparents_100 ?_
                  refine t_id (by decide) (show (1 : Nat) ≤ 8 by decide) dparents_101 gu ⟨by omega, by omega⟩ (show 0 ≤ (u 11 (x1).toNat) ∧ (u 11 (x1).toNat) ≤ 900 by omega) ?_
                  intro k101_0
                  refine t_classOf2 (by decide) (show (0 : Nat) ≤ 8 by decide) dparents_104 gu ⟨by omega, by omega⟩ ?_ ?_
                  · intro w22 k104_0
                    refine ja_if_ge 121 dparents_107 rfl ⟨by omega, by omega⟩ (fun c107 => ?_) (fun c107 => ?_)
                    · refine ja_iinc dparents_121 rfl (by decide) (L2 := [(1, (0, (x1 + 1))), (2, (0, 1)), (0, (2, ((0 : Nat) : Int)))]) rfl ?_
                      refine ja_goto 25 dparents_124 rfl ?_
                      exact ja_wk (fun q hq => by simp only [List.mem_cons, List.not_mem_nil, or_false] at hq; rcases hq with rfl | rfl <;> rfl) ((ih (((20000 : Int) + ((20 : Int) - (x1 + 1))).toNat) (by omega)).2.1 (x1 + 1) u gu ⟨by omega, by omega⟩ (⟨by omega, ag_trans ag (by (repeat (first | exact ag_refl | refine ag_up rfl ?_))), ⟨(fun z => by have z2 : (u 0 11) = 0 := z; omega), i9⟩, ⟨rk, hrk⟩⟩) rfl)
                    · refine ja_aload_n dparents_110 rfl rfl ?_
                      refine ja_iconst dparents_111 ?_
                      refine ja_aload_n dparents_112 rfl rfl ?_
                      refine fa_classUnder dparents_113 ?_
                      refine ja_iload_n dparents_116 rfl rfl ?_
                      refine il_classUnder (v := u 11 (x1).toNat) rfl ⟨by omega, by omega⟩ dparents_117 ?_
                      refine t_judge (by decide) (show (0 : Nat) ≤ 8 by decide) dparents_118 gu ⟨by decide, by decide⟩ ⟨by omega, by omega⟩ (show 1 ≤ 5 ∧ 5 ≤ 8 by omega) (show 0 ≤ (u 11 (x1).toNat) ∧ (u 11 (x1).toNat) ≤ 900 by omega) ?_
                      intro w23 w24 k118_0 g25
                      replace k118_0 : 1 ≤ w23 ∧ w23 ≤ 8 ∧ -2147483648 ≤ w24 ∧ w24 ≤ 2147483647 := k118_0
                      replace g25 : mo_G mo_zr (ja_up (ja_up u 0 11 w23) 0 12 w24) := g25
                      show mJ l D cA ad 4 cX12_parents 3 none 121 [(2, (0, 1)), (0, (2, ((0 : Nat) : Int))), (1, (0, x1))] [] (ja_up (ja_up u 0 11 w23) 0 12 w24) Q
                      refine ja_iinc dparents_121 rfl (by decide) (L2 := [(1, (0, (x1 + 1))), (2, (0, 1)), (0, (2, ((0 : Nat) : Int)))]) rfl ?_
                      refine ja_goto 25 dparents_124 rfl ?_
                      exact ja_wk (fun q hq => by simp only [List.mem_cons, List.not_mem_nil, or_false] at hq; rcases hq with rfl | rfl <;> rfl) ((ih (((20000 : Int) + ((20 : Int) - (x1 + 1))).toNat) (by omega)).2.1 (x1 + 1) (ja_up (ja_up u 0 11 w23) 0 12 w24) g25 ⟨by omega, by omega⟩ (⟨by omega, ag_trans ag (by (repeat (first | exact ag_refl | refine ag_up rfl ?_))), ⟨(fun z => by have z2 : w23 = 0 := z; omega), i9⟩, ⟨rk, hrk⟩⟩) rfl)
                  · intro k104_1
                    refine ja_if_ge 121 dparents_107 rfl ⟨by decide, by decide⟩ (fun c107 => absurd c107 (by omega)) (fun c107 => ?_)
                    refine ja_aload_n dparents_110 rfl rfl ?_
                    refine ja_iconst dparents_111 ?_
                    refine ja_aload_n dparents_112 rfl rfl ?_
                    refine fa_classUnder dparents_113 ?_
                    refine ja_iload_n dparents_116 rfl rfl ?_
                    refine il_classUnder (v := u 11 (x1).toNat) rfl ⟨by omega, by omega⟩ dparents_117 ?_
                    refine t_judge (by decide) (show (0 : Nat) ≤ 8 by decide) dparents_118 gu ⟨by decide, by decide⟩ ⟨by omega, by omega⟩ (show 1 ≤ 5 ∧ 5 ≤ 8 by omega) (show 0 ≤ (u 11 (x1).toNat) ∧ (u 11 (x1).toNat) ≤ 900 by omega) ?_
                    intro w26 w27 k118_0 g28
                    replace k118_0 : 1 ≤ w26 ∧ w26 ≤ 8 ∧ -2147483648 ≤ w27 ∧ w27 ≤ 2147483647 := k118_0
                    replace g28 : mo_G mo_zr (ja_up (ja_up u 0 11 w26) 0 12 w27) := g28
                    show mJ l D cA ad 4 cX12_parents 3 none 121 [(2, (0, 1)), (0, (2, ((0 : Nat) : Int))), (1, (0, x1))] [] (ja_up (ja_up u 0 11 w26) 0 12 w27) Q
                    refine ja_iinc dparents_121 rfl (by decide) (L2 := [(1, (0, (x1 + 1))), (2, (0, 1)), (0, (2, ((0 : Nat) : Int)))]) rfl ?_
                    refine ja_goto 25 dparents_124 rfl ?_
                    exact ja_wk (fun q hq => by simp only [List.mem_cons, List.not_mem_nil, or_false] at hq; rcases hq with rfl | rfl <;> rfl) ((ih (((20000 : Int) + ((20 : Int) - (x1 + 1))).toNat) (by omega)).2.1 (x1 + 1) (ja_up (ja_up u 0 11 w26) 0 12 w27) g28 ⟨by omega, by omega⟩ (⟨by omega, ag_trans ag (by (repeat (first | exact ag_refl | refine ag_up rfl ?_))), ⟨(fun z => by have z2 : w26 = 0 := z; omega), i9⟩, ⟨rk, hrk⟩⟩) rfl)
              · refine ja_iload_n dparents_66 rfl rfl ?_
                refine ja_if_eq 84 dparents_67 rfl ⟨by decide, by decide⟩ (fun c67 => absurd c67 (by omega)) (fun c67 => ?_)
                refine ja_aload_n dparents_70 rfl rfl ?_
                refine ja_iload_n dparents_71 rfl rfl ?_
                refine ja_aload_n dparents_72 rfl rfl ?_
                refine fa_classUnder dparents_73 ?_
                refine ja_iload_n dparents_76 rfl rfl ?_
                refine il_classUnder (v := u 11 (x1).toNat) rfl ⟨by omega, by omega⟩ dparents_77 ?_
                refine t_under (by decide) (show (0 : Nat) ≤ 8 by decide) dparents_78 gu ⟨by omega, by omega⟩ ⟨by omega, by omega⟩ (show 0 ≤ x1 ∧ x1 < (u 0 22) by omega) (show 0 ≤ (u 11 (x1).toNat) ∧ (u 11 (x1).toNat) ≤ 900 by omega) ((rk_cast e_classes hrk)) ?_ ?_
                · intro w29 w30 k78_0 g31
                  replace k78_0 : 1 ≤ w29 ∧ w29 ≤ 8 ∧ -2147483648 ≤ w30 ∧ w30 ≤ 2147483647 := k78_0
                  replace g31 : mo_G mo_zr (ja_up (ja_up u 0 11 w29) 0 12 w30) := g31
                  show mJ l D cA ad 4 cX12_parents 3 none 81 [(2, (0, 1)), (0, (2, ((0 : Nat) : Int))), (1, (0, x1))] [] (ja_up (ja_up u 0 11 w29) 0 12 w30) Q
                  refine ja_goto 121 dparents_81 rfl ?_
                  refine ja_iinc dparents_121 rfl (by decide) (L2 := [(1, (0, (x1 + 1))), (2, (0, 1)), (0, (2, ((0 : Nat) : Int)))]) rfl ?_
                  refine ja_goto 25 dparents_124 rfl ?_
                  exact ja_wk (fun q hq => by simp only [List.mem_cons, List.not_mem_nil, or_false] at hq; rcases hq with rfl | rfl <;> rfl) ((ih (((20000 : Int) + ((20 : Int) - (x1 + 1))).toNat) (by omega)).2.1 (x1 + 1) (ja_up (ja_up u 0 11 w29) 0 12 w30) g31 ⟨by omega, by omega⟩ (⟨by omega, ag_trans ag (by (repeat (first | exact ag_refl | refine ag_up rfl ?_))), ⟨(fun z => by have z2 : w29 = 0 := z; omega), i9⟩, ⟨rk, hrk⟩⟩) rfl)
                · intro w32 k78_1 g33
                  replace k78_1 : 0 ≤ w32 ∧ w32 < (u 0 22) ∧ ¬ abv (u 12) x1 w32 := k78_1
                  replace g33 : mo_G mo_zr (ja_up u 12 ((x1).toNat) w32) := g33
                  show mJ l D cA ad 4 cX12_parents 3 none 81 [(2, (0, 1)), (0, (2, ((0 : Nat) : Int))), (1, (0, x1))] [] (ja_up u 12 ((x1).toNat) w32) Q
                  refine ja_goto 121 dparents_81 rfl ?_
                  refine ja_iinc dparents_121 rfl (by decide) (L2 := [(1, (0, (x1 + 1))), (2, (0, 1)), (0, (2, ((0 : Nat) : Int)))]) rfl ?_
                  refine ja_goto 25 dparents_124 rfl ?_
                  exact ja_wk (fun q hq => by simp only [List.mem_cons, List.not_mem_nil, or_false] at hq; rcases hq with rfl | rfl <;> rfl) ((ih (((20000 : Int) + ((20 : Int) - (x1 + 1))).toNat) (by omega)).2.1 (x1 + 1) (ja_up u 12 ((x1).toNat) w32) g33 ⟨by omega, by omega⟩ (⟨by omega, ag_trans ag (by (repeat (first | exact ag_refl | refine ag_up rfl ?_))), ⟨(fun z => by have z2 : (u 0 11) = 0 := z; omega), fun c hc => (mo_upJ (by omega)).trans (i9 c hc)⟩, pa_up e_classes hrk ⟨by omega, by omega⟩ ⟨by omega, by omega⟩ k78_1.2.2⟩) rfl)
          · intro k44_1
            refine ja_iload_n dparents_47 rfl rfl ?_
            refine ja_icmp_ne 55 dparents_48 rfl ⟨by decide, by decide⟩ ⟨by omega, by omega⟩ (fun c48 => ?_) (fun c48 => ?_)
            · refine ja_iconst dparents_55 ?_
              refine ja_istore_n dparents_56 rfl (by decide) (L2 := [(2, (0, 0)), (0, (2, ((0 : Nat) : Int))), (1, (0, x1))]) rfl ?_
              refine ja_aload_n dparents_57 rfl rfl ?_
              refine fa_classUnder dparents_58 ?_
              refine ja_iload_n dparents_61 rfl rfl ?_
              refine il_classUnder (v := u 11 (x1).toNat) rfl ⟨by omega, by omega⟩ dparents_62 ?_
              have f34 := gC_classUnder gu (x1).toNat
              refine ja_if_lt 84 dparents_63 rfl ⟨by omega, by omega⟩ (fun c63 => ?_) (fun c63 => ?_)
              · refine ja_aload_n dparents_84 rfl rfl ?_
                refine fa_classUnder dparents_85 ?_
                refine ja_iload_n dparents_88 rfl rfl ?_
                refine il_classUnder (v := u 11 (x1).toNat) rfl ⟨by omega, by omega⟩ dparents_89 ?_
                refine ja_if_lt 121 dparents_90 rfl ⟨by omega, by omega⟩ (fun c90 => ?_) (fun c90 => ?_)
                · refine ja_iinc dparents_121 rfl (by decide) (L2 := [(1, (0, (x1 + 1))), (2, (0, 0)), (0, (2, ((0 : Nat) : Int)))]) rfl ?_
                  refine ja_goto 25 dparents_124 rfl ?_
                  exact ja_wk (fun q hq => by simp only [List.mem_cons, List.not_mem_nil, or_false] at hq; rcases hq with rfl | rfl <;> rfl) ((ih (((20000 : Int) + ((20 : Int) - (x1 + 1))).toNat) (by omega)).2.1 (x1 + 1) u gu ⟨by omega, by omega⟩ (⟨by omega, ag_trans ag (by (repeat (first | exact ag_refl | refine ag_up rfl ?_))), ⟨(fun z => by have z2 : (u 0 11) = 0 := z; omega), i9⟩, ⟨rk, hrk⟩⟩) rfl)
                · refine ja_aload_n dparents_93 rfl rfl ?_
                  refine ja_aload_n dparents_94 rfl rfl ?_
                  refine ja_aload_n dparents_95 rfl rfl ?_
                  refine fa_classUnder dparents_96 ?_
                  refine ja_iload_n dparents_99 rfl rfl ?_
                  refine il_classUnder (v := u 11 (x1).toNat) rfl ⟨by omega, by omega⟩ dparents_100 ?_
                  refine t_id (by decide) (show (1 : Nat) ≤ 8 by decide) dparents_101 gu ⟨by omega, by omega⟩ (show 0 ≤ (u 11 (x1).toNat) ∧ (u 11 (x1).toNat) ≤ 900 by omega) ?_
                  intro k101_0
                  refine t_classOf2 (by decide) (show (0 : Nat) ≤ 8 by decide) dparents_104 gu ⟨by omega, by omega⟩ ?_ ?_
                  · intro w35 k104_0
                    refine ja_if_ge 121 dparents_107 rfl ⟨by omega, by omega⟩ (fun c107 => ?_) (fun c107 => ?_)
                    · refine ja_iinc dparents_121 rfl (by decide) (L2 := [(1, (0, (x1 + 1))), (2, (0, 0)), (0, (2, ((0 : Nat) : Int)))]) rfl ?_
                      refine ja_goto 25 dparents_124 rfl ?_
                      exact ja_wk (fun q hq => by simp only [List.mem_cons, List.not_mem_nil, or_false] at hq; rcases hq with rfl | rfl <;> rfl) ((ih (((20000 : Int) + ((20 : Int) - (x1 + 1))).toNat) (by omega)).2.1 (x1 + 1) u gu ⟨by omega, by omega⟩ (⟨by omega, ag_trans ag (by (repeat (first | exact ag_refl | refine ag_up rfl ?_))), ⟨(fun z => by have z2 : (u 0 11) = 0 := z; omega), i9⟩, ⟨rk, hrk⟩⟩) rfl)
                    · refine ja_aload_n dparents_110 rfl rfl ?_
                      refine ja_iconst dparents_111 ?_
                      refine ja_aload_n dparents_112 rfl rfl ?_
                      refine fa_classUnder dparents_113 ?_
                      refine ja_iload_n dparents_116 rfl rfl ?_
                      refine il_classUnder (v := u 11 (x1).toNat) rfl ⟨by omega, by omega⟩ dparents_117 ?_
                      refine t_judge (by decide) (show (0 : Nat) ≤ 8 by decide) dparents_118 gu ⟨by decide, by decide⟩ ⟨by omega, by omega⟩ (show 1 ≤ 5 ∧ 5 ≤ 8 by omega) (show 0 ≤ (u 11 (x1).toNat) ∧ (u 11 (x1).toNat) ≤ 900 by omega) ?_
                      intro w36 w37 k118_0 g38
                      replace k118_0 : 1 ≤ w36 ∧ w36 ≤ 8 ∧ -2147483648 ≤ w37 ∧ w37 ≤ 2147483647 := k118_0
                      replace g38 : mo_G mo_zr (ja_up (ja_up u 0 11 w36) 0 12 w37) := g38
                      show mJ l D cA ad 4 cX12_parents 3 none 121 [(2, (0, 0)), (0, (2, ((0 : Nat) : Int))), (1, (0, x1))] [] (ja_up (ja_up u 0 11 w36) 0 12 w37) Q
                      refine ja_iinc dparents_121 rfl (by decide) (L2 := [(1, (0, (x1 + 1))), (2, (0, 0)), (0, (2, ((0 : Nat) : Int)))]) rfl ?_
                      refine ja_goto 25 dparents_124 rfl ?_
                      exact ja_wk (fun q hq => by simp only [List.mem_cons, List.not_mem_nil, or_false] at hq; rcases hq with rfl | rfl <;> rfl) ((ih (((20000 : Int) + ((20 : Int) - (x1 + 1))).toNat) (by omega)).2.1 (x1 + 1) (ja_up (ja_up u 0 11 w36) 0 12 w37) g38 ⟨by omega, by omega⟩ (⟨by omega, ag_trans ag (by (repeat (first | exact ag_refl | refine ag_up rfl ?_))), ⟨(fun z => by have z2 : w36 = 0 := z; omega), i9⟩, ⟨rk, hrk⟩⟩) rfl)
                  · intro k104_1
                    refine ja_if_ge 121 dparents_107 rfl ⟨by decide, by decide⟩ (fun c107 => absurd c107 (by omega)) (fun c107 => ?_)
                    refine ja_aload_n dparents_110 rfl rfl ?_
                    refine ja_iconst dparents_111 ?_
                    refine ja_aload_n dparents_112 rfl rfl ?_
                    refine fa_classUnder dparents_113 ?_
                    refine ja_iload_n dparents_116 rfl rfl ?_
                    refine il_classUnder (v := u 11 (x1).toNat) rfl ⟨by omega, by omega⟩ dparents_117 ?_
                    refine t_judge (by decide) (show (0 : Nat) ≤ 8 by decide) dparents_118 gu ⟨by decide, by decide⟩ ⟨by omega, by omega⟩ (show 1 ≤ 5 ∧ 5 ≤ 8 by omega) (show 0 ≤ (u 11 (x1).toNat) ∧ (u 11 (x1).toNat) ≤ 900 by omega) ?_
                    intro w39 w40 k118_0 g41
                    replace k118_0 : 1 ≤ w39 ∧ w39 ≤ 8 ∧ -2147483648 ≤ w40 ∧ w40 ≤ 2147483647 := k118_0
                    replace g41 : mo_G mo_zr (ja_up (ja_up u 0 11 w39) 0 12 w40) := g41
                    show mJ l D cA ad 4 cX12_parents 3 none 121 [(2, (0, 0)), (0, (2, ((0 : Nat) : Int))), (1, (0, x1))] [] (ja_up (ja_up u 0 11 w39) 0 12 w40) Q
                    refine ja_iinc dparents_121 rfl (by decide) (L2 := [(1, (0, (x1 + 1))), (2, (0, 0)), (0, (2, ((0 : Nat) : Int)))]) rfl ?_
                    refine ja_goto 25 dparents_124 rfl ?_
                    exact ja_wk (fun q hq => by simp only [List.mem_cons, List.not_mem_nil, or_false] at hq; rcases hq with rfl | rfl <;> rfl) ((ih (((20000 : Int) + ((20 : Int) - (x1 + 1))).toNat) (by omega)).2.1 (x1 + 1) (ja_up (ja_up u 0 11 w39) 0 12 w40) g41 ⟨by omega, by omega⟩ (⟨by omega, ag_trans ag (by (repeat (first | exact ag_refl | refine ag_up rfl ?_))), ⟨(fun z => by have z2 : w39 = 0 := z; omega), i9⟩, ⟨rk, hrk⟩⟩) rfl)
              · refine ja_iload_n dparents_66 rfl rfl ?_
                refine ja_if_eq 84 dparents_67 rfl ⟨by decide, by decide⟩ (fun c67 => ?_) (fun c67 => absurd c67 (by omega))
                refine ja_aload_n dparents_84 rfl rfl ?_
                refine fa_classUnder dparents_85 ?_
                refine ja_iload_n dparents_88 rfl rfl ?_
                refine il_classUnder (v := u 11 (x1).toNat) rfl ⟨by omega, by omega⟩ dparents_89 ?_
                refine ja_if_lt 121 dparents_90 rfl ⟨by omega, by omega⟩ (fun c90 => ?_) (fun c90 => ?_)
                · refine ja_iinc dparents_121 rfl (by decide) (L2 := [(1, (0, (x1 + 1))), (2, (0, 0)), (0, (2, ((0 : Nat) : Int)))]) rfl ?_
                  refine ja_goto 25 dparents_124 rfl ?_
                  exact ja_wk (fun q hq => by simp only [List.mem_cons, List.not_mem_nil, or_false] at hq; rcases hq with rfl | rfl <;> rfl) ((ih (((20000 : Int) + ((20 : Int) - (x1 + 1))).toNat) (by omega)).2.1 (x1 + 1) u gu ⟨by omega, by omega⟩ (⟨by omega, ag_trans ag (by (repeat (first | exact ag_refl | refine ag_up rfl ?_))), ⟨(fun z => by have z2 : (u 0 11) = 0 := z; omega), i9⟩, ⟨rk, hrk⟩⟩) rfl)
                · refine ja_aload_n dparents_93 rfl rfl ?_
                  refine ja_aload_n dparents_94 rfl rfl ?_
                  refine ja_aload_n dparents_95 rfl rfl ?_
                  refine fa_classUnder dparents_96 ?_
                  refine ja_iload_n dparents_99 rfl rfl ?_
                  refine il_classUnder (v := u 11 (x1).toNat) rfl ⟨by omega, by omega⟩ dparents_100 ?_
                  refine t_id (by decide) (show (1 : Nat) ≤ 8 by decide) dparents_101 gu ⟨by omega, by omega⟩ (show 0 ≤ (u 11 (x1).toNat) ∧ (u 11 (x1).toNat) ≤ 900 by omega) ?_
                  intro k101_0
                  refine t_classOf2 (by decide) (show (0 : Nat) ≤ 8 by decide) dparents_104 gu ⟨by omega, by omega⟩ ?_ ?_
                  · intro w42 k104_0
                    refine ja_if_ge 121 dparents_107 rfl ⟨by omega, by omega⟩ (fun c107 => ?_) (fun c107 => ?_)
                    · refine ja_iinc dparents_121 rfl (by decide) (L2 := [(1, (0, (x1 + 1))), (2, (0, 0)), (0, (2, ((0 : Nat) : Int)))]) rfl ?_
                      refine ja_goto 25 dparents_124 rfl ?_
                      exact ja_wk (fun q hq => by simp only [List.mem_cons, List.not_mem_nil, or_false] at hq; rcases hq with rfl | rfl <;> rfl) ((ih (((20000 : Int) + ((20 : Int) - (x1 + 1))).toNat) (by omega)).2.1 (x1 + 1) u gu ⟨by omega, by omega⟩ (⟨by omega, ag_trans ag (by (repeat (first | exact ag_refl | refine ag_up rfl ?_))), ⟨(fun z => by have z2 : (u 0 11) = 0 := z; omega), i9⟩, ⟨rk, hrk⟩⟩) rfl)
                    · refine ja_aload_n dparents_110 rfl rfl ?_
                      refine ja_iconst dparents_111 ?_
                      refine ja_aload_n dparents_112 rfl rfl ?_
                      refine fa_classUnder dparents_113 ?_
                      refine ja_iload_n dparents_116 rfl rfl ?_
                      refine il_classUnder (v := u 11 (x1).toNat) rfl ⟨by omega, by omega⟩ dparents_117 ?_
                      refine t_judge (by decide) (show (0 : Nat) ≤ 8 by decide) dparents_118 gu ⟨by decide, by decide⟩ ⟨by omega, by omega⟩ (show 1 ≤ 5 ∧ 5 ≤ 8 by omega) (show 0 ≤ (u 11 (x1).toNat) ∧ (u 11 (x1).toNat) ≤ 900 by omega) ?_
                      intro w43 w44 k118_0 g45
                      replace k118_0 : 1 ≤ w43 ∧ w43 ≤ 8 ∧ -2147483648 ≤ w44 ∧ w44 ≤ 2147483647 := k118_0
                      replace g45 : mo_G mo_zr (ja_up (ja_up u 0 11 w43) 0 12 w44) := g45
                      show mJ l D cA ad 4 cX12_parents 3 none 121 [(2, (0, 0)), (0, (2, ((0 : Nat) : Int))), (1, (0, x1))] [] (ja_up (ja_up u 0 11 w43) 0 12 w44) Q
                      refine ja_iinc dparents_121 rfl (by decide) (L2 := [(1, (0, (x1 + 1))), (2, (0, 0)), (0, (2, ((0 : Nat) : Int)))]) rfl ?_
                      refine ja_goto 25 dparents_124 rfl ?_
                      exact ja_wk (fun q hq => by simp only [List.mem_cons, List.not_mem_nil, or_false] at hq; rcases hq with rfl | rfl <;> rfl) ((ih (((20000 : Int) + ((20 : Int) - (x1 + 1))).toNat) (by omega)).2.1 (x1 + 1) (ja_up (ja_up u 0 11 w43) 0 12 w44) g45 ⟨by omega, by omega⟩ (⟨by omega, ag_trans ag (by (repeat (first | exact ag_refl | refine ag_up rfl ?_))), ⟨(fun z => by have z2 : w43 = 0 := z; omega), i9⟩, ⟨rk, hrk⟩⟩) rfl)
                  · intro k104_1
                    refine ja_if_ge 121 dparents_107 rfl ⟨by decide, by decide⟩ (fun c107 => absurd c107 (by omega)) (fun c107 => ?_)
                    refine ja_aload_n dparents_110 rfl rfl ?_
                    refine ja_iconst dparents_111 ?_
                    refine ja_aload_n dparents_112 rfl rfl ?_
                    refine fa_classUnder dparents_113 ?_
                    refine ja_iload_n dparents_116 rfl rfl ?_
                    refine il_classUnder (v := u 11 (x1).toNat) rfl ⟨by omega, by omega⟩ dparents_117 ?_
                    refine t_judge (by decide) (show (0 : Nat) ≤ 8 by decide) dparents_118 gu ⟨by decide, by decide⟩ ⟨by omega, by omega⟩ (show 1 ≤ 5 ∧ 5 ≤ 8 by omega) (show 0 ≤ (u 11 (x1).toNat) ∧ (u 11 (x1).toNat) ≤ 900 by omega) ?_
                    intro w46 w47 k118_0 g48
                    replace k118_0 : 1 ≤ w46 ∧ w46 ≤ 8 ∧ -2147483648 ≤ w47 ∧ w47 ≤ 2147483647 := k118_0
                    replace g48 : mo_G mo_zr (ja_up (ja_up u 0 11 w46) 0 12 w47) := g48
                    show mJ l D cA ad 4 cX12_parents 3 none 121 [(2, (0, 0)), (0, (2, ((0 : Nat) : Int))), (1, (0, x1))] [] (ja_up (ja_up u 0 11 w46) 0 12 w47) Q
                    refine ja_iinc dparents_121 rfl (by decide) (L2 := [(1, (0, (x1 + 1))), (2, (0, 0)), (0, (2, ((0 : Nat) : Int)))]) rfl ?_
                    refine ja_goto 25 dparents_124 rfl ?_
                    exact ja_wk (fun q hq => by simp only [List.mem_cons, List.not_mem_nil, or_false] at hq; rcases hq with rfl | rfl <;> rfl) ((ih (((20000 : Int) + ((20 : Int) - (x1 + 1))).toNat) (by omega)).2.1 (x1 + 1) (ja_up (ja_up u 0 11 w46) 0 12 w47) g48 ⟨by omega, by omega⟩ (⟨by omega, ag_trans ag (by (repeat (first | exact ag_refl | refine ag_up rfl ?_))), ⟨(fun z => by have z2 : w46 = 0 := z; omega), i9⟩, ⟨rk, hrk⟩⟩) rfl)
            · refine ja_iconst dparents_51 ?_
              refine ja_goto 56 dparents_52 rfl ?_
              refine ja_istore_n dparents_56 rfl (by decide) (L2 := [(2, (0, 1)), (0, (2, ((0 : Nat) : Int))), (1, (0, x1))]) rfl ?_
              refine ja_aload_n dparents_57 rfl rfl ?_
              refine fa_classUnder dparents_58 ?_
              refine ja_iload_n dparents_61 rfl rfl ?_
              refine il_classUnder (v := u 11 (x1).toNat) rfl ⟨by omega, by omega⟩ dparents_62 ?_
              have f49 := gC_classUnder gu (x1).toNat
              refine ja_if_lt 84 dparents_63 rfl ⟨by omega, by omega⟩ (fun c63 => ?_) (fun c63 => ?_)
              · refine ja_aload_n dparents_84 rfl rfl ?_
                refine fa_classUnder dparents_85 ?_
                refine ja_iload_n dparents_88 rfl rfl ?_
                refine il_classUnder (v := u 11 (x1).toNat) rfl ⟨by omega, by omega⟩ dparents_89 ?_
                refine ja_if_lt 121 dparents_90 rfl ⟨by omega, by omega⟩ (fun c90 => ?_) (fun c90 => ?_)
                · refine ja_iinc dparents_121 rfl (by decide) (L2 := [(1, (0, (x1 + 1))), (2, (0, 1)), (0, (2, ((0 : Nat) : Int)))]) rfl ?_
                  refine ja_goto 25 dparents_124 rfl ?_
                  exact ja_wk (fun q hq => by simp only [List.mem_cons, List.not_mem_nil, or_false] at hq; rcases hq with rfl | rfl <;> rfl) ((ih (((20000 : Int) + ((20 : Int) - (x1 + 1))).toNat) (by omega)).2.1 (x1 + 1) u gu ⟨by omega, by omega⟩ (⟨by omega, ag_trans ag (by (repeat (first | exact ag_refl | refine ag_up rfl ?_))), ⟨(fun z => by have z2 : (u 0 11) = 0 := z; omega), i9⟩, ⟨rk, hrk⟩⟩) rfl)
                · refine ja_aload_n dparents_93 rfl rfl ?_
                  refine ja_aload_n dparents_94 rfl rfl ?_
                  refine ja_aload_n dparents_95 rfl rfl ?_
                  refine fa_classUnder dparents_96 ?_
                  refine ja_iload_n dparents_99 rfl rfl ?_
                  refine il_classUnder (v := u 11 (x1).toNat) rfl ⟨by omega, by omega⟩ dparents_100 ?_
                  refine t_id (by decide) (show (1 : Nat) ≤ 8 by decide) dparents_101 gu ⟨by omega, by omega⟩ (show 0 ≤ (u 11 (x1).toNat) ∧ (u 11 (x1).toNat) ≤ 900 by omega) ?_
                  intro k101_0
                  refine t_classOf2 (by decide) (show (0 : Nat) ≤ 8 by decide) dparents_104 gu ⟨by omega, by omega⟩ ?_ ?_
                  · intro w50 k104_0
                    refine ja_if_ge 121 dparents_107 rfl ⟨by omega, by omega⟩ (fun c107 => ?_) (fun c107 => ?_)
                    · refine ja_iinc dparents_121 rfl (by decide) (L2 := [(1, (0, (x1 + 1))), (2, (0, 1)), (0, (2, ((0 : Nat) : Int)))]) rfl ?_
                      refine ja_goto 25 dparents_124 rfl ?_
                      exact ja_wk (fun q hq => by simp only [List.mem_cons, List.not_mem_nil, or_false] at hq; rcases hq with rfl | rfl <;> rfl) ((ih (((20000 : Int) + ((20 : Int) - (x1 + 1))).toNat) (by omega)).2.1 (x1 + 1) u gu ⟨by omega, by omega⟩ (⟨by omega, ag_trans ag (by (repeat (first | exact ag_refl | refine ag_up rfl ?_))), ⟨(fun z => by have z2 : (u 0 11) = 0 := z; omega), i9⟩, ⟨rk, hrk⟩⟩) rfl)
                    · refine ja_aload_n dparents_110 rfl rfl ?_
                      refine ja_iconst dparents_111 ?_
                      refine ja_aload_n dparents_112 rfl rfl ?_
                      refine fa_classUnder dparents_113 ?_
                      refine ja_iload_n dparents_116 rfl rfl ?_
                      refine il_classUnder (v := u 11 (x1).toNat) rfl ⟨by omega, by omega⟩ dparents_117 ?_
                      refine t_judge (by decide) (show (0 : Nat) ≤ 8 by decide) dparents_118 gu ⟨by decide, by decide⟩ ⟨by omega, by omega⟩ (show 1 ≤ 5 ∧ 5 ≤ 8 by omega) (show 0 ≤ (u 11 (x1).toNat) ∧ (u 11 (x1).toNat) ≤ 900 by omega) ?_
                      intro w51 w52 k118_0 g53
                      replace k118_0 : 1 ≤ w51 ∧ w51 ≤ 8 ∧ -2147483648 ≤ w52 ∧ w52 ≤ 2147483647 := k118_0
                      replace g53 : mo_G mo_zr (ja_up (ja_up u 0 11 w51) 0 12 w52) := g53
                      show mJ l D cA ad 4 cX12_parents 3 none 121 [(2, (0, 1)), (0, (2, ((0 : Nat) : Int))), (1, (0, x1))] [] (ja_up (ja_up u 0 11 w51) 0 12 w52) Q
                      refine ja_iinc dparents_121 rfl (by decide) (L2 := [(1, (0, (x1 + 1))), (2, (0, 1)), (0, (2, ((0 : Nat) : Int)))]) rfl ?_
                      refine ja_goto 25 dparents_124 rfl ?_
                      exact ja_wk (fun q hq => by simp only [List.mem_cons, List.not_mem_nil, or_false] at hq; rcases hq with rfl | rfl <;> rfl) ((ih (((20000 : Int) + ((20 : Int) - (x1 + 1))).toNat) (by omega)).2.1 (x1 + 1) (ja_up (ja_up u 0 11 w51) 0 12 w52) g53 ⟨by omega, by omega⟩ (⟨by omega, ag_trans ag (by (repeat (first | exact ag_refl | refine ag_up rfl ?_))), ⟨(fun z => by have z2 : w51 = 0 := z; omega), i9⟩, ⟨rk, hrk⟩⟩) rfl)
                  · intro k104_1
                    refine ja_if_ge 121 dparents_107 rfl ⟨by decide, by decide⟩ (fun c107 => absurd c107 (by omega)) (fun c107 => ?_)
                    refine ja_aload_n dparents_110 rfl rfl ?_
                    refine ja_iconst dparents_111 ?_
                    refine ja_aload_n dparents_112 rfl rfl ?_
                    refine fa_classUnder dparents_113 ?_
                    refine ja_iload_n dparents_116 rfl rfl ?_
                    refine il_classUnder (v := u 11 (x1).toNat) rfl ⟨by omega, by omega⟩ dparents_117 ?_
                    refine t_judge (by decide) (show (0 : Nat) ≤ 8 by decide) dparents_118 gu ⟨by decide, by decide⟩ ⟨by omega, by omega⟩ (show 1 ≤ 5 ∧ 5 ≤ 8 by omega) (show 0 ≤ (u 11 (x1).toNat) ∧ (u 11 (x1).toNat) ≤ 900 by omega) ?_
                    intro w54 w55 k118_0 g56
                    replace k118_0 : 1 ≤ w54 ∧ w54 ≤ 8 ∧ -2147483648 ≤ w55 ∧ w55 ≤ 2147483647 := k118_0
                    replace g56 : mo_G mo_zr (ja_up (ja_up u 0 11 w54) 0 12 w55) := g56
                    show mJ l D cA ad 4 cX12_parents 3 none 121 [(2, (0, 1)), (0, (2, ((0 : Nat) : Int))), (1, (0, x1))] [] (ja_up (ja_up u 0 11 w54) 0 12 w55) Q
                    refine ja_iinc dparents_121 rfl (by decide) (L2 := [(1, (0, (x1 + 1))), (2, (0, 1)), (0, (2, ((0 : Nat) : Int)))]) rfl ?_
                    refine ja_goto 25 dparents_124 rfl ?_
                    exact ja_wk (fun q hq => by simp only [List.mem_cons, List.not_mem_nil, or_false] at hq; rcases hq with rfl | rfl <;> rfl) ((ih (((20000 : Int) + ((20 : Int) - (x1 + 1))).toNat) (by omega)).2.1 (x1 + 1) (ja_up (ja_up u 0 11 w54) 0 12 w55) g56 ⟨by omega, by omega⟩ (⟨by omega, ag_trans ag (by (repeat (first | exact ag_refl | refine ag_up rfl ?_))), ⟨(fun z => by have z2 : w54 = 0 := z; omega), i9⟩, ⟨rk, hrk⟩⟩) rfl)
              · refine ja_iload_n dparents_66 rfl rfl ?_
                refine ja_if_eq 84 dparents_67 rfl ⟨by decide, by decide⟩ (fun c67 => absurd c67 (by omega)) (fun c67 => ?_)
                refine ja_aload_n dparents_70 rfl rfl ?_
                refine ja_iload_n dparents_71 rfl rfl ?_
                refine ja_aload_n dparents_72 rfl rfl ?_
                refine fa_classUnder dparents_73 ?_
                refine ja_iload_n dparents_76 rfl rfl ?_
                refine il_classUnder (v := u 11 (x1).toNat) rfl ⟨by omega, by omega⟩ dparents_77 ?_
                refine t_under (by decide) (show (0 : Nat) ≤ 8 by decide) dparents_78 gu ⟨by omega, by omega⟩ ⟨by omega, by omega⟩ (show 0 ≤ x1 ∧ x1 < (u 0 22) by omega) (show 0 ≤ (u 11 (x1).toNat) ∧ (u 11 (x1).toNat) ≤ 900 by omega) ((rk_cast e_classes hrk)) ?_ ?_
                · intro w57 w58 k78_0 g59
                  replace k78_0 : 1 ≤ w57 ∧ w57 ≤ 8 ∧ -2147483648 ≤ w58 ∧ w58 ≤ 2147483647 := k78_0
                  replace g59 : mo_G mo_zr (ja_up (ja_up u 0 11 w57) 0 12 w58) := g59
                  show mJ l D cA ad 4 cX12_parents 3 none 81 [(2, (0, 1)), (0, (2, ((0 : Nat) : Int))), (1, (0, x1))] [] (ja_up (ja_up u 0 11 w57) 0 12 w58) Q
                  refine ja_goto 121 dparents_81 rfl ?_
                  refine ja_iinc dparents_121 rfl (by decide) (L2 := [(1, (0, (x1 + 1))), (2, (0, 1)), (0, (2, ((0 : Nat) : Int)))]) rfl ?_
                  refine ja_goto 25 dparents_124 rfl ?_
                  exact ja_wk (fun q hq => by simp only [List.mem_cons, List.not_mem_nil, or_false] at hq; rcases hq with rfl | rfl <;> rfl) ((ih (((20000 : Int) + ((20 : Int) - (x1 + 1))).toNat) (by omega)).2.1 (x1 + 1) (ja_up (ja_up u 0 11 w57) 0 12 w58) g59 ⟨by omega, by omega⟩ (⟨by omega, ag_trans ag (by (repeat (first | exact ag_refl | refine ag_up rfl ?_))), ⟨(fun z => by have z2 : w57 = 0 := z; omega), i9⟩, ⟨rk, hrk⟩⟩) rfl)
                · intro w60 k78_1 g61
                  replace k78_1 : 0 ≤ w60 ∧ w60 < (u 0 22) ∧ ¬ abv (u 12) x1 w60 := k78_1
                  replace g61 : mo_G mo_zr (ja_up u 12 ((x1).toNat) w60) := g61
                  show mJ l D cA ad 4 cX12_parents 3 none 81 [(2, (0, 1)), (0, (2, ((0 : Nat) : Int))), (1, (0, x1))] [] (ja_up u 12 ((x1).toNat) w60) Q
                  refine ja_goto 121 dparents_81 rfl ?_
                  refine ja_iinc dparents_121 rfl (by decide) (L2 := [(1, (0, (x1 + 1))), (2, (0, 1)), (0, (2, ((0 : Nat) : Int)))]) rfl ?_
                  refine ja_goto 25 dparents_124 rfl ?_
                  exact ja_wk (fun q hq => by simp only [List.mem_cons, List.not_mem_nil, or_false] at hq; rcases hq with rfl | rfl <;> rfl) ((ih (((20000 : Int) + ((20 : Int) - (x1 + 1))).toNat) (by omega)).2.1 (x1 + 1) (ja_up u 12 ((x1).toNat) w60) g61 ⟨by omega, by omega⟩ (⟨by omega, ag_trans ag (by (repeat (first | exact ag_refl | refine ag_up rfl ?_))), ⟨(fun z => by have z2 : (u 0 11) = 0 := z; omega), fun c hc => (mo_upJ (by omega)).trans (i9 c hc)⟩, pa_up e_classes hrk ⟨by omega, by omega⟩ ⟨by omega, by omega⟩ k78_1.2.2⟩) rfl)
      · intro x1 u gu qx1 iv hm
        subst hm
        have ku_classes := gF_classes gu
        have ku_unders := gF_unders gu
        obtain ⟨iv, ag, ⟨i2, i9⟩, rk, hrk⟩ := iv
        have e_classes : (u 0 22) = (h 0 22) := ag 0 22 rfl
        have e_unders : (u 0 61) = (h 0 61) := ag 0 61 rfl
        refine ja_iload_n dparents_129 rfl rfl ?_
        refine ja_aload_n dparents_130 rfl rfl ?_
        refine fg_unders (v := u 0 61) rfl dparents_131 ?_
        have f62 := gF_unders gu
        refine ja_icmp_ge 200 dparents_134 rfl ⟨by omega, by omega⟩ ⟨by omega, by omega⟩ (fun c134 => ?_) (fun c134 => ?_)
        · refine ja_return dparents_200 rfl ?_
          exact k1 u (⟨ag, ⟨i2, i9⟩, rk, hrk⟩) gu
        · refine ja_aload_n dparents_137 rfl rfl ?_
          refine ja_aload_n dparents_138 rfl rfl ?_
          refine ja_aload_n dparents_139 rfl rfl ?_
          refine fa_underOf dparents_140 ?_
          refine ja_iload_n dparents_143 rfl rfl ?_
          refine il_underOf (v := u 41 (x1).toNat) rfl ⟨by omega, by omega⟩ dparents_144 ?_
          have f63 := gC_underOf gu (x1).toNat
          refine t_id (by decide) (show (1 : Nat) ≤ 8 by decide) dparents_145 gu ⟨by omega, by omega⟩ (show 0 ≤ (u 41 (x1).toNat) ∧ (u 41 (x1).toNat) ≤ 900 by omega) ?_
          intro k145_0
          refine t_classOf2 (by decide) (show (0 : Nat) ≤ 8 by decide) dparents_148 gu ⟨by omega, by omega⟩ ?_ ?_
          · intro w64 k148_0
            refine ja_istore_n dparents_151 rfl (by decide) (L2 := [(2, (0, w64)), (0, (2, ((0 : Nat) : Int))), (1, (0, x1))]) rfl ?_
            refine ja_iload_n dparents_152 rfl rfl ?_
            refine ja_if_lt 179 dparents_153 rfl ⟨by omega, by omega⟩ (fun c153 => ?_) (fun c153 => ?_)
            · refine ja_iload_n dparents_179 rfl rfl ?_
              refine ja_if_lt 194 dparents_180 rfl ⟨by omega, by omega⟩ (fun c180 => ?_) (fun c180 => ?_)
              · refine ja_iinc dparents_194 rfl (by decide) (L2 := [(1, (0, (x1 + 1))), (2, (0, w64)), (0, (2, ((0 : Nat) : Int)))]) rfl ?_
                refine ja_goto 129 dparents_197 rfl ?_
                exact ja_wk (fun q hq => by simp only [List.mem_cons, List.not_mem_nil, or_false] at hq; rcases hq with rfl | rfl <;> rfl) ((ih (((1000 : Int) - (x1 + 1)).toNat) (by omega)).2.2 (x1 + 1) u gu ⟨by omega, by omega⟩ (⟨by omega, ag_trans ag (by (repeat (first | exact ag_refl | refine ag_up rfl ?_))), ⟨(fun z => by have z2 : (u 0 11) = 0 := z; omega), i9⟩, ⟨rk, hrk⟩⟩) rfl)
              · refine ja_aload_n dparents_183 rfl rfl ?_
                refine ja_iload_n dparents_184 rfl rfl ?_
                refine ja_aload_n dparents_185 rfl rfl ?_
                refine fa_underName dparents_186 ?_
                refine ja_iload_n dparents_189 rfl rfl ?_
                refine il_underName (v := u 42 (x1).toNat) rfl ⟨by omega, by omega⟩ dparents_190 ?_
                have f65 := gC_underName gu (x1).toNat
                refine t_under (by decide) (show (0 : Nat) ≤ 8 by decide) dparents_191 gu ⟨by omega, by omega⟩ ⟨by omega, by omega⟩ (show 0 ≤ w64 ∧ w64 < (u 0 22) by omega) (show 0 ≤ (u 42 (x1).toNat) ∧ (u 42 (x1).toNat) ≤ 900 by omega) ((rk_cast e_classes hrk)) ?_ ?_
                · intro w66 w67 k191_0 g68
                  replace k191_0 : 1 ≤ w66 ∧ w66 ≤ 8 ∧ -2147483648 ≤ w67 ∧ w67 ≤ 2147483647 := k191_0
                  replace g68 : mo_G mo_zr (ja_up (ja_up u 0 11 w66) 0 12 w67) := g68
                  show mJ l D cA ad 4 cX12_parents 3 none 194 [(2, (0, w64)), (0, (2, ((0 : Nat) : Int))), (1, (0, x1))] [] (ja_up (ja_up u 0 11 w66) 0 12 w67) Q
                  refine ja_iinc dparents_194 rfl (by decide) (L2 := [(1, (0, (x1 + 1))), (2, (0, w64)), (0, (2, ((0 : Nat) : Int)))]) rfl ?_
                  refine ja_goto 129 dparents_197 rfl ?_
                  exact ja_wk (fun q hq => by simp only [List.mem_cons, List.not_mem_nil, or_false] at hq; rcases hq with rfl | rfl <;> rfl) ((ih (((1000 : Int) - (x1 + 1)).toNat) (by omega)).2.2 (x1 + 1) (ja_up (ja_up u 0 11 w66) 0 12 w67) g68 ⟨by omega, by omega⟩ (⟨by omega, ag_trans ag (by (repeat (first | exact ag_refl | refine ag_up rfl ?_))), ⟨(fun z => by have z2 : w66 = 0 := z; omega), i9⟩, ⟨rk, hrk⟩⟩) rfl)
                · intro w69 k191_1 g70
                  replace k191_1 : 0 ≤ w69 ∧ w69 < (u 0 22) ∧ ¬ abv (u 12) w64 w69 := k191_1
                  replace g70 : mo_G mo_zr (ja_up u 12 ((w64).toNat) w69) := g70
                  show mJ l D cA ad 4 cX12_parents 3 none 194 [(2, (0, w64)), (0, (2, ((0 : Nat) : Int))), (1, (0, x1))] [] (ja_up u 12 ((w64).toNat) w69) Q
                  refine ja_iinc dparents_194 rfl (by decide) (L2 := [(1, (0, (x1 + 1))), (2, (0, w64)), (0, (2, ((0 : Nat) : Int)))]) rfl ?_
                  refine ja_goto 129 dparents_197 rfl ?_
                  exact ja_wk (fun q hq => by simp only [List.mem_cons, List.not_mem_nil, or_false] at hq; rcases hq with rfl | rfl <;> rfl) ((ih (((1000 : Int) - (x1 + 1)).toNat) (by omega)).2.2 (x1 + 1) (ja_up u 12 ((w64).toNat) w69) g70 ⟨by omega, by omega⟩ (⟨by omega, ag_trans ag (by (repeat (first | exact ag_refl | refine ag_up rfl ?_))), ⟨(fun z => by have z2 : (u 0 11) = 0 := z; omega), fun c hc => (mo_upJ (by omega)).trans (i9 c hc)⟩, pa_up e_classes hrk ⟨by omega, by omega⟩ ⟨by omega, by omega⟩ k191_1.2.2⟩) rfl)
            · refine ja_aload_n dparents_156 rfl rfl ?_
              refine fa_classAbove dparents_157 ?_
              refine ja_iload_n dparents_160 rfl rfl ?_
              refine il_classAbove (v := u 12 (w64).toNat) rfl ⟨by omega, by omega⟩ dparents_161 ?_
              have f71 := gC_classAbove gu (w64).toNat
              refine ja_if_lt 179 dparents_162 rfl ⟨by omega, by omega⟩ (fun c162 => ?_) (fun c162 => ?_)
              · refine ja_iload_n dparents_179 rfl rfl ?_
                refine ja_if_lt 194 dparents_180 rfl ⟨by omega, by omega⟩ (fun c180 => ?_) (fun c180 => ?_)
                · refine ja_iinc dparents_194 rfl (by decide) (L2 := [(1, (0, (x1 + 1))), (2, (0, w64)), (0, (2, ((0 : Nat) : Int)))]) rfl ?_
                  refine ja_goto 129 dparents_197 rfl ?_
                  exact ja_wk (fun q hq => by simp only [List.mem_cons, List.not_mem_nil, or_false] at hq; rcases hq with rfl | rfl <;> rfl) ((ih (((1000 : Int) - (x1 + 1)).toNat) (by omega)).2.2 (x1 + 1) u gu ⟨by omega, by omega⟩ (⟨by omega, ag_trans ag (by (repeat (first | exact ag_refl | refine ag_up rfl ?_))), ⟨(fun z => by have z2 : (u 0 11) = 0 := z; omega), i9⟩, ⟨rk, hrk⟩⟩) rfl)
                · refine ja_aload_n dparents_183 rfl rfl ?_
                  refine ja_iload_n dparents_184 rfl rfl ?_
                  refine ja_aload_n dparents_185 rfl rfl ?_
                  refine fa_underName dparents_186 ?_
                  refine ja_iload_n dparents_189 rfl rfl ?_
                  refine il_underName (v := u 42 (x1).toNat) rfl ⟨by omega, by omega⟩ dparents_190 ?_
                  have f72 := gC_underName gu (x1).toNat
                  refine t_under (by decide) (show (0 : Nat) ≤ 8 by decide) dparents_191 gu ⟨by omega, by omega⟩ ⟨by omega, by omega⟩ (show 0 ≤ w64 ∧ w64 < (u 0 22) by omega) (show 0 ≤ (u 42 (x1).toNat) ∧ (u 42 (x1).toNat) ≤ 900 by omega) ((rk_cast e_classes hrk)) ?_ ?_
                  · intro w73 w74 k191_0 g75
                    replace k191_0 : 1 ≤ w73 ∧ w73 ≤ 8 ∧ -2147483648 ≤ w74 ∧ w74 ≤ 2147483647 := k191_0
                    replace g75 : mo_G mo_zr (ja_up (ja_up u 0 11 w73) 0 12 w74) := g75
                    show mJ l D cA ad 4 cX12_parents 3 none 194 [(2, (0, w64)), (0, (2, ((0 : Nat) : Int))), (1, (0, x1))] [] (ja_up (ja_up u 0 11 w73) 0 12 w74) Q
                    refine ja_iinc dparents_194 rfl (by decide) (L2 := [(1, (0, (x1 + 1))), (2, (0, w64)), (0, (2, ((0 : Nat) : Int)))]) rfl ?_
                    refine ja_goto 129 dparents_197 rfl ?_
                    exact ja_wk (fun q hq => by simp only [List.mem_cons, List.not_mem_nil, or_false] at hq; rcases hq with rfl | rfl <;> rfl) ((ih (((1000 : Int) - (x1 + 1)).toNat) (by omega)).2.2 (x1 + 1) (ja_up (ja_up u 0 11 w73) 0 12 w74) g75 ⟨by omega, by omega⟩ (⟨by omega, ag_trans ag (by (repeat (first | exact ag_refl | refine ag_up rfl ?_))), ⟨(fun z => by have z2 : w73 = 0 := z; omega), i9⟩, ⟨rk, hrk⟩⟩) rfl)
                  · intro w76 k191_1 g77
                    replace k191_1 : 0 ≤ w76 ∧ w76 < (u 0 22) ∧ ¬ abv (u 12) w64 w76 := k191_1
                    replace g77 : mo_G mo_zr (ja_up u 12 ((w64).toNat) w76) := g77
                    show mJ l D cA ad 4 cX12_parents 3 none 194 [(2, (0, w64)), (0, (2, ((0 : Nat) : Int))), (1, (0, x1))] [] (ja_up u 12 ((w64).toNat) w76) Q
                    refine ja_iinc dparents_194 rfl (by decide) (L2 := [(1, (0, (x1 + 1))), (2, (0, w64)), (0, (2, ((0 : Nat) : Int)))]) rfl ?_
                    refine ja_goto 129 dparents_197 rfl ?_
                    exact ja_wk (fun q hq => by simp only [List.mem_cons, List.not_mem_nil, or_false] at hq; rcases hq with rfl | rfl <;> rfl) ((ih (((1000 : Int) - (x1 + 1)).toNat) (by omega)).2.2 (x1 + 1) (ja_up u 12 ((w64).toNat) w76) g77 ⟨by omega, by omega⟩ (⟨by omega, ag_trans ag (by (repeat (first | exact ag_refl | refine ag_up rfl ?_))), ⟨(fun z => by have z2 : (u 0 11) = 0 := z; omega), fun c hc => (mo_upJ (by omega)).trans (i9 c hc)⟩, pa_up e_classes hrk ⟨by omega, by omega⟩ ⟨by omega, by omega⟩ k191_1.2.2⟩) rfl)
              · refine ja_aload_n dparents_165 rfl rfl ?_
                refine ja_iconst dparents_166 ?_
                refine ja_aload_n dparents_167 rfl rfl ?_
                refine fa_underName dparents_168 ?_
                refine ja_iload_n dparents_171 rfl rfl ?_
                refine il_underName (v := u 42 (x1).toNat) rfl ⟨by omega, by omega⟩ dparents_172 ?_
                have f78 := gC_underName gu (x1).toNat
                refine t_judge (by decide) (show (0 : Nat) ≤ 8 by decide) dparents_173 gu ⟨by decide, by decide⟩ ⟨by omega, by omega⟩ (show 1 ≤ 4 ∧ 4 ≤ 8 by omega) (show 0 ≤ (u 42 (x1).toNat) ∧ (u 42 (x1).toNat) ≤ 900 by omega) ?_
                intro w79 w80 k173_0 g81
                replace k173_0 : 1 ≤ w79 ∧ w79 ≤ 8 ∧ -2147483648 ≤ w80 ∧ w80 ≤ 2147483647 := k173_0
                replace g81 : mo_G mo_zr (ja_up (ja_up u 0 11 w79) 0 12 w80) := g81
                show mJ l D cA ad 4 cX12_parents 3 none 176 [(2, (0, w64)), (0, (2, ((0 : Nat) : Int))), (1, (0, x1))] [] (ja_up (ja_up u 0 11 w79) 0 12 w80) Q
                refine ja_goto 194 dparents_176 rfl ?_
                refine ja_iinc dparents_194 rfl (by decide) (L2 := [(1, (0, (x1 + 1))), (2, (0, w64)), (0, (2, ((0 : Nat) : Int)))]) rfl ?_
                refine ja_goto 129 dparents_197 rfl ?_
                exact ja_wk (fun q hq => by simp only [List.mem_cons, List.not_mem_nil, or_false] at hq; rcases hq with rfl | rfl <;> rfl) ((ih (((1000 : Int) - (x1 + 1)).toNat) (by omega)).2.2 (x1 + 1) (ja_up (ja_up u 0 11 w79) 0 12 w80) g81 ⟨by omega, by omega⟩ (⟨by omega, ag_trans ag (by (repeat (first | exact ag_refl | refine ag_up rfl ?_))), ⟨(fun z => by have z2 : w79 = 0 := z; omega), i9⟩, ⟨rk, hrk⟩⟩) rfl)
          · intro k148_1
            refine ja_istore_n dparents_151 rfl (by decide) (L2 := [(2, (0, (-1))), (0, (2, ((0 : Nat) : Int))), (1, (0, x1))]) rfl ?_
            refine ja_iload_n dparents_152 rfl rfl ?_
            refine ja_if_lt 179 dparents_153 rfl ⟨by decide, by decide⟩ (fun c153 => ?_) (fun c153 => absurd c153 (by omega))
            refine ja_iload_n dparents_179 rfl rfl ?_
            refine ja_if_lt 194 dparents_180 rfl ⟨by decide, by decide⟩ (fun c180 => ?_) (fun c180 => absurd c180 (by omega))
            refine ja_iinc dparents_194 rfl (by decide) (L2 := [(1, (0, (x1 + 1))), (2, (0, (-1))), (0, (2, ((0 : Nat) : Int)))]) rfl ?_
            refine ja_goto 129 dparents_197 rfl ?_
            exact ja_wk (fun q hq => by simp only [List.mem_cons, List.not_mem_nil, or_false] at hq; rcases hq with rfl | rfl <;> rfl) ((ih (((1000 : Int) - (x1 + 1)).toNat) (by omega)).2.2 (x1 + 1) u gu ⟨by omega, by omega⟩ (⟨by omega, ag_trans ag (by (repeat (first | exact ag_refl | refine ag_up rfl ?_))), ⟨(fun z => by have z2 : (u 0 11) = 0 := z; omega), i9⟩, ⟨rk, hrk⟩⟩) rfl)
  refine ja_iconst dparents_0 ?_
  refine ja_istore_n dparents_1 rfl (by decide) (L2 := [(1, (0, 0)), (0, (2, ((0 : Nat) : Int)))]) rfl ?_
  exact ja_wk (fun q hq => by simp only [List.mem_cons, List.not_mem_nil, or_false] at hq; rcases hq with rfl | rfl <;> rfl) ((CUT _).1 0 h g ⟨by decide, by decide⟩ (⟨by omega, ag_refl, rfl, fun c hc => by omega, fun c hc => rfl⟩) rfl)
theorem t_parents {d nL pc : Nat} {cc : ByteArray} {rt : Option FieldType} {L : List (Nat × ja_V)} {S : List ja_V} {h : ja_H} {Q : Option ja_V → ja_H → Prop} (hdd : 4 < d) (hwd : ja_wd S ≤ 8) (hd : decode cc pc = .ok (.invokevirtual 924, 3)) (g : mo_G mo_zr h) (k1 : ∀ (h' : ja_H), (paI h h') → mo_G mo_zr h' → mJ l D cA ad d cc nL rt (pc + 3) L S h' Q) : mJ l D cA ad d cc nL rt pc L ((2, ((0 : Nat) : Int)) :: S) h Q :=
  mc_parents hdd hwd hd (s_parents g k1)
end
theorem dwanted_0 : decode cX12_wanted 0 = .ok (.iconst 0, 1) := by decide +kernel
theorem dwanted_1 : decode cX12_wanted 1 = .ok (.istore_n 1, 1) := by decide +kernel
theorem dwanted_2 : decode cX12_wanted 2 = .ok (.iload_n 1, 1) := by decide +kernel
theorem dwanted_3 : decode cX12_wanted 3 = .ok (.aload_n 0, 1) := by decide +kernel
theorem dwanted_4 : decode cX12_wanted 4 = .ok (.getfield 626, 3) := by decide +kernel
theorem dwanted_7 : decode cX12_wanted 7 = .ok (.if_icmp .ge 87, 3) := by decide +kernel
theorem dwanted_10 : decode cX12_wanted 10 = .ok (.aload_n 0, 1) := by decide +kernel
theorem dwanted_11 : decode cX12_wanted 11 = .ok (.getfield 143, 3) := by decide +kernel
theorem dwanted_14 : decode cX12_wanted 14 = .ok (.iload_n 1, 1) := by decide +kernel
theorem dwanted_15 : decode cX12_wanted 15 = .ok (.iaload, 1) := by decide +kernel
theorem dwanted_16 : decode cX12_wanted 16 = .ok (.ifCond .ne 28, 3) := by decide +kernel
theorem dwanted_19 : decode cX12_wanted 19 = .ok (.aload_n 0, 1) := by decide +kernel
theorem dwanted_20 : decode cX12_wanted 20 = .ok (.aload_n 0, 1) := by decide +kernel
theorem dwanted_21 : decode cX12_wanted 21 = .ok (.aload_n 0, 1) := by decide +kernel
theorem dwanted_22 : decode cX12_wanted 22 = .ok (.getfield 140, 3) := by decide +kernel
theorem dwanted_25 : decode cX12_wanted 25 = .ok (.iload_n 1, 1) := by decide +kernel
theorem dwanted_26 : decode cX12_wanted 26 = .ok (.iaload, 1) := by decide +kernel
theorem dwanted_27 : decode cX12_wanted 27 = .ok (.invokevirtual 716, 3) := by decide +kernel
theorem dwanted_30 : decode cX12_wanted 30 = .ok (.invokevirtual 903, 3) := by decide +kernel
theorem dwanted_33 : decode cX12_wanted 33 = .ok (.ifCond .lt 7, 3) := by decide +kernel
theorem dwanted_36 : decode cX12_wanted 36 = .ok (.iconst 1, 1) := by decide +kernel
theorem dwanted_37 : decode cX12_wanted 37 = .ok (.goto 35, 3) := by decide +kernel
theorem dwanted_40 : decode cX12_wanted 40 = .ok (.iconst 0, 1) := by decide +kernel
theorem dwanted_41 : decode cX12_wanted 41 = .ok (.goto 31, 3) := by decide +kernel
theorem dwanted_44 : decode cX12_wanted 44 = .ok (.aload_n 0, 1) := by decide +kernel
theorem dwanted_45 : decode cX12_wanted 45 = .ok (.aload_n 0, 1) := by decide +kernel
theorem dwanted_46 : decode cX12_wanted 46 = .ok (.getfield 146, 3) := by decide +kernel
theorem dwanted_49 : decode cX12_wanted 49 = .ok (.iload_n 1, 1) := by decide +kernel
theorem dwanted_50 : decode cX12_wanted 50 = .ok (.iaload, 1) := by decide +kernel
theorem dwanted_51 : decode cX12_wanted 51 = .ok (.aload_n 0, 1) := by decide +kernel
theorem dwanted_52 : decode cX12_wanted 52 = .ok (.aload_n 0, 1) := by decide +kernel
theorem dwanted_53 : decode cX12_wanted 53 = .ok (.getfield 140, 3) := by decide +kernel
theorem dwanted_56 : decode cX12_wanted 56 = .ok (.iload_n 1, 1) := by decide +kernel
theorem dwanted_57 : decode cX12_wanted 57 = .ok (.iaload, 1) := by decide +kernel
theorem dwanted_58 : decode cX12_wanted 58 = .ok (.invokevirtual 716, 3) := by decide +kernel
theorem dwanted_61 : decode cX12_wanted 61 = .ok (.invokevirtual 909, 3) := by decide +kernel
theorem dwanted_64 : decode cX12_wanted 64 = .ok (.ifCond .lt 7, 3) := by decide +kernel
theorem dwanted_67 : decode cX12_wanted 67 = .ok (.iconst 1, 1) := by decide +kernel
theorem dwanted_68 : decode cX12_wanted 68 = .ok (.goto 4, 3) := by decide +kernel
theorem dwanted_71 : decode cX12_wanted 71 = .ok (.iconst 0, 1) := by decide +kernel
theorem dwanted_72 : decode cX12_wanted 72 = .ok (.istore_n 2, 1) := by decide +kernel
theorem dwanted_73 : decode cX12_wanted 73 = .ok (.iload_n 2, 1) := by decide +kernel
theorem dwanted_74 : decode cX12_wanted 74 = .ok (.ifCond .ne 14, 3) := by decide +kernel
theorem dwanted_77 : decode cX12_wanted 77 = .ok (.aload_n 0, 1) := by decide +kernel
theorem dwanted_78 : decode cX12_wanted 78 = .ok (.iconst 5, 1) := by decide +kernel
theorem dwanted_79 : decode cX12_wanted 79 = .ok (.aload_n 0, 1) := by decide +kernel
theorem dwanted_80 : decode cX12_wanted 80 = .ok (.getfield 140, 3) := by decide +kernel
theorem dwanted_83 : decode cX12_wanted 83 = .ok (.iload_n 1, 1) := by decide +kernel
theorem dwanted_84 : decode cX12_wanted 84 = .ok (.iaload, 1) := by decide +kernel
theorem dwanted_85 : decode cX12_wanted 85 = .ok (.invokevirtual 719, 3) := by decide +kernel
theorem dwanted_88 : decode cX12_wanted 88 = .ok (.iinc 1 1, 3) := by decide +kernel
theorem dwanted_91 : decode cX12_wanted 91 = .ok (.goto (-89), 3) := by decide +kernel
theorem dwanted_94 : decode cX12_wanted 94 = .ok (.iconst 0, 1) := by decide +kernel
theorem dwanted_95 : decode cX12_wanted 95 = .ok (.istore_n 1, 1) := by decide +kernel
theorem dwanted_96 : decode cX12_wanted 96 = .ok (.iload_n 1, 1) := by decide +kernel
theorem dwanted_97 : decode cX12_wanted 97 = .ok (.aload_n 0, 1) := by decide +kernel
theorem dwanted_98 : decode cX12_wanted 98 = .ok (.getfield 683, 3) := by decide +kernel
theorem dwanted_101 : decode cX12_wanted 101 = .ok (.if_icmp .ge 121, 3) := by decide +kernel
theorem dwanted_104 : decode cX12_wanted 104 = .ok (.aload_n 0, 1) := by decide +kernel
theorem dwanted_105 : decode cX12_wanted 105 = .ok (.getfield 149, 3) := by decide +kernel
theorem dwanted_108 : decode cX12_wanted 108 = .ok (.iload_n 1, 1) := by decide +kernel
theorem dwanted_109 : decode cX12_wanted 109 = .ok (.iaload, 1) := by decide +kernel
theorem dwanted_110 : decode cX12_wanted 110 = .ok (.istore_n 2, 1) := by decide +kernel
theorem dwanted_111 : decode cX12_wanted 111 = .ok (.iconst (-1), 1) := by decide +kernel
theorem dwanted_112 : decode cX12_wanted 112 = .ok (.istore_n 3, 1) := by decide +kernel
theorem dwanted_113 : decode cX12_wanted 113 = .ok (.aload_n 0, 1) := by decide +kernel
theorem dwanted_114 : decode cX12_wanted 114 = .ok (.getfield 665, 3) := by decide +kernel
theorem dwanted_117 : decode cX12_wanted 117 = .ok (.iconst 1, 1) := by decide +kernel
theorem dwanted_118 : decode cX12_wanted 118 = .ok (.isub, 1) := by decide +kernel
theorem dwanted_119 : decode cX12_wanted 119 = .ok (.istore 4, 2) := by decide +kernel
theorem dwanted_121 : decode cX12_wanted 121 = .ok (.iload 4, 2) := by decide +kernel
theorem dwanted_123 : decode cX12_wanted 123 = .ok (.ifCond .lt 56, 3) := by decide +kernel
theorem dwanted_126 : decode cX12_wanted 126 = .ok (.aload_n 0, 1) := by decide +kernel
theorem dwanted_127 : decode cX12_wanted 127 = .ok (.getfield 113, 3) := by decide +kernel
theorem dwanted_130 : decode cX12_wanted 130 = .ok (.iload 4, 2) := by decide +kernel
theorem dwanted_132 : decode cX12_wanted 132 = .ok (.iaload, 1) := by decide +kernel
theorem dwanted_133 : decode cX12_wanted 133 = .ok (.aload_n 0, 1) := by decide +kernel
theorem dwanted_134 : decode cX12_wanted 134 = .ok (.getfield 200, 3) := by decide +kernel
theorem dwanted_137 : decode cX12_wanted 137 = .ok (.iload_n 2, 1) := by decide +kernel
theorem dwanted_138 : decode cX12_wanted 138 = .ok (.iaload, 1) := by decide +kernel
theorem dwanted_139 : decode cX12_wanted 139 = .ok (.if_icmp .ne 32, 3) := by decide +kernel
theorem dwanted_142 : decode cX12_wanted 142 = .ok (.aload_n 0, 1) := by decide +kernel
theorem dwanted_143 : decode cX12_wanted 143 = .ok (.aload_n 0, 1) := by decide +kernel
theorem dwanted_144 : decode cX12_wanted 144 = .ok (.getfield 110, 3) := by decide +kernel
theorem dwanted_147 : decode cX12_wanted 147 = .ok (.iload 4, 2) := by decide +kernel
theorem dwanted_149 : decode cX12_wanted 149 = .ok (.iaload, 1) := by decide +kernel
theorem dwanted_150 : decode cX12_wanted 150 = .ok (.invokevirtual 716, 3) := by decide +kernel
theorem dwanted_153 : decode cX12_wanted 153 = .ok (.aload_n 0, 1) := by decide +kernel
theorem dwanted_154 : decode cX12_wanted 154 = .ok (.aload_n 0, 1) := by decide +kernel
theorem dwanted_155 : decode cX12_wanted 155 = .ok (.getfield 191, 3) := by decide +kernel
theorem dwanted_158 : decode cX12_wanted 158 = .ok (.iload_n 2, 1) := by decide +kernel
theorem dwanted_159 : decode cX12_wanted 159 = .ok (.iaload, 1) := by decide +kernel
theorem dwanted_160 : decode cX12_wanted 160 = .ok (.invokevirtual 716, 3) := by decide +kernel
theorem dwanted_163 : decode cX12_wanted 163 = .ok (.if_icmp .ne 8, 3) := by decide +kernel
theorem dwanted_166 : decode cX12_wanted 166 = .ok (.iload 4, 2) := by decide +kernel
theorem dwanted_168 : decode cX12_wanted 168 = .ok (.goto 4, 3) := by decide +kernel
theorem dwanted_171 : decode cX12_wanted 171 = .ok (.iload_n 3, 1) := by decide +kernel
theorem dwanted_172 : decode cX12_wanted 172 = .ok (.istore_n 3, 1) := by decide +kernel
theorem dwanted_173 : decode cX12_wanted 173 = .ok (.iinc 4 (-1), 3) := by decide +kernel
theorem dwanted_176 : decode cX12_wanted 176 = .ok (.goto (-55), 3) := by decide +kernel
theorem dwanted_179 : decode cX12_wanted 179 = .ok (.aload_n 0, 1) := by decide +kernel
theorem dwanted_180 : decode cX12_wanted 180 = .ok (.getfield 185, 3) := by decide +kernel
theorem dwanted_183 : decode cX12_wanted 183 = .ok (.iload_n 2, 1) := by decide +kernel
theorem dwanted_184 : decode cX12_wanted 184 = .ok (.iload_n 3, 1) := by decide +kernel
theorem dwanted_185 : decode cX12_wanted 185 = .ok (.iastore, 1) := by decide +kernel
theorem dwanted_186 : decode cX12_wanted 186 = .ok (.iload_n 3, 1) := by decide +kernel
theorem dwanted_187 : decode cX12_wanted 187 = .ok (.ifCond .lt 18, 3) := by decide +kernel
theorem dwanted_190 : decode cX12_wanted 190 = .ok (.aload_n 0, 1) := by decide +kernel
theorem dwanted_191 : decode cX12_wanted 191 = .ok (.getfield 116, 3) := by decide +kernel
theorem dwanted_194 : decode cX12_wanted 194 = .ok (.iload_n 3, 1) := by decide +kernel
theorem dwanted_195 : decode cX12_wanted 195 = .ok (.iaload, 1) := by decide +kernel
theorem dwanted_196 : decode cX12_wanted 196 = .ok (.aload_n 0, 1) := by decide +kernel
theorem dwanted_197 : decode cX12_wanted 197 = .ok (.getfield 194, 3) := by decide +kernel
theorem dwanted_200 : decode cX12_wanted 200 = .ok (.iload_n 2, 1) := by decide +kernel
theorem dwanted_201 : decode cX12_wanted 201 = .ok (.iaload, 1) := by decide +kernel
theorem dwanted_202 : decode cX12_wanted 202 = .ok (.if_icmp .eq 14, 3) := by decide +kernel
theorem dwanted_205 : decode cX12_wanted 205 = .ok (.aload_n 0, 1) := by decide +kernel
theorem dwanted_206 : decode cX12_wanted 206 = .ok (.iconst 5, 1) := by decide +kernel
theorem dwanted_207 : decode cX12_wanted 207 = .ok (.aload_n 0, 1) := by decide +kernel
theorem dwanted_208 : decode cX12_wanted 208 = .ok (.getfield 191, 3) := by decide +kernel
theorem dwanted_211 : decode cX12_wanted 211 = .ok (.iload_n 2, 1) := by decide +kernel
theorem dwanted_212 : decode cX12_wanted 212 = .ok (.iaload, 1) := by decide +kernel
theorem dwanted_213 : decode cX12_wanted 213 = .ok (.invokevirtual 719, 3) := by decide +kernel
theorem dwanted_216 : decode cX12_wanted 216 = .ok (.iinc 1 1, 3) := by decide +kernel
theorem dwanted_219 : decode cX12_wanted 219 = .ok (.goto (-123), 3) := by decide +kernel
theorem dwanted_222 : decode cX12_wanted 222 = .ok (.return_, 1) := by decide +kernel
section
variable {l : Launch} {D : va_G} {cA : Nat → ClassId} {ad : Nat → Nat}
theorem s_wanted {h : ja_H} {Q : Option ja_V → ja_H → Prop} (g : mo_G mo_zr h) (k1 : ∀ (h' : ja_H), (waU h h' (h 0 72) ∧ ((h' 0 11) = 0 → waS h (h 0 68))) → mo_G mo_zr h' → Q none h') : mM_wanted l D cA ad  h Q := by
  show mJ l D cA ad 3 cX12_wanted 5 none 0 [(0, (2, ((0 : Nat) : Int)))] [] h Q
  have kn_wants := gF_wants g
  have kn_uses := gF_uses g
  have kn_picks := gF_picks g
  have kn_classes := gF_classes g
  have kn_false1 := gF_false1 g
  have kn_falseAt := gF_falseAt g
  have CUT : ∀ n : Nat, (∀ (f p x1 : Int), mo_G mo_zr (ja_up (ja_up h 0 11 f) 0 12 p) → (-2147483648 ≤ f ∧ f ≤ 2147483647) → (-2147483648 ≤ p ∧ p ≤ 2147483647) → (-2147483648 ≤ x1 ∧ x1 ≤ 2147483647) → ((0 ≤ x1 ∧ x1 ≤ (h 0 68) ∧ 0 ≤ f ∧ f ≤ 8 ∧ (1 ≤ f ∨ f = (h 0 11))) ∧ (f = 0 → (h 0 11) = 0 ∧ waS h x1)) → (((50000 : Int) + ((1000 : Int) - x1)).toNat) = n → mJ l D cA ad 3 cX12_wanted 5 none 2 [(0, (2, ((0 : Nat) : Int))), (1, (0, x1))] [] (ja_up (ja_up h 0 11 f) 0 12 p) Q) ∧ (∀ (x1 : Int) (u : ja_H), mo_G mo_zr u → (-2147483648 ≤ x1 ∧ x1 ≤ 2147483647) → ((0 ≤ x1 ∧ x1 ≤ (h 0 72)) ∧ waU h u x1 ∧ ((u 0 11) = 0 → waS h (h 0 68))) → (((40 : Int) * ((1000 : Int) - x1)).toNat) = n → mJ l D cA ad 3 cX12_wanted 5 none 96 [(0, (2, ((0 : Nat) : Int))), (1, (0, x1))] [] u Q) ∧ (∀ (x1 x2 x3 x4 : Int) (u : ja_H), mo_G mo_zr u → (-2147483648 ≤ x1 ∧ x1 ≤ 2147483647) → (-2147483648 ≤ x2 ∧ x2 ≤ 2147483647) → (-2147483648 ≤ x3 ∧ x3 ≤ 2147483647) → (-2147483648 ≤ x4 ∧ x4 ≤ 2147483647) → ((0 ≤ x1 ∧ x1 < (h 0 72) ∧ x2 = (h 47 (x1).toNat) ∧ -1 ≤ x3 ∧ x3 < 24 ∧ x3 < (h 0 52) ∧ -1 ≤ x4 ∧ x4 < (h 0 52)) ∧ waU h u x1 ∧ ((u 0 11) = 0 → waS h (h 0 68))) → (((40 : Int) * ((1000 : Int) - x1) - 30 + x4).toNat) = n → mJ l D cA ad 3 cX12_wanted 5 none 121 [(0, (2, ((0 : Nat) : Int))), (1, (0, x1)), (2, (0, x2)), (3, (0, x3)), (4, (0, x4))] [] u Q) := by
    intro n
    induction n using Nat.strongRecOn with
    | _ n ih =>
      refine ⟨?_, ?_, ?_⟩
      · intro f p x1 gu qf qp qx1 iv hm
        subst hm
        obtain ⟨iv, iw⟩ := iv
        refine ja_iload_n dwanted_2 rfl rfl ?_
        refine ja_aload_n dwanted_3 rfl rfl ?_
        refine fg_wants (v := h 0 68) rfl dwanted_4 ?_
        have f1 := gF_wants g
        refine ja_icmp_ge 94 dwanted_7 rfl ⟨by omega, by omega⟩ ⟨by omega, by omega⟩ (fun c7 => ?_) (fun c7 => ?_)
        · refine ja_iconst dwanted_94 ?_
          refine ja_istore_n dwanted_95 rfl (by decide) (L2 := [(1, (0, 0)), (0, (2, ((0 : Nat) : Int)))]) rfl ?_
          exact ja_wk (fun q hq => by simp only [List.mem_cons, List.not_mem_nil, or_false] at hq; rcases hq with rfl | rfl <;> rfl) ((ih (((40 : Int) * ((1000 : Int) - 0)).toNat) (by omega)).2.1 0 (ja_up (ja_up h 0 11 f) 0 12 p) gu ⟨by decide, by decide⟩ (⟨by omega, ⟨(by (repeat (first | exact ag_refl | refine ag_up rfl ?_))), fun j _ => rfl, fun z => ⟨(iw z).1, fun k hk => by omega⟩⟩, fun z => by have e : x1 = (h 0 68) := (by omega); subst e; exact (iw z).2⟩) rfl)
        · refine ja_aload_n dwanted_10 rfl rfl ?_
          refine fa_wantSort dwanted_11 ?_
          refine ja_iload_n dwanted_14 rfl rfl ?_
          refine il_wantSort (v := h 45 (x1).toNat) rfl ⟨by omega, by omega⟩ dwanted_15 ?_
          have f2 := gC_wantSort g (x1).toNat
          refine ja_if_ne 44 dwanted_16 rfl ⟨by omega, by omega⟩ (fun c16 => ?_) (fun c16 => ?_)
          · refine ja_aload_n dwanted_44 rfl rfl ?_
            refine ja_aload_n dwanted_45 rfl rfl ?_
            refine fa_wantOf dwanted_46 ?_
            refine ja_iload_n dwanted_49 rfl rfl ?_
            refine il_wantOf (v := h 46 (x1).toNat) rfl ⟨by omega, by omega⟩ dwanted_50 ?_
            have f3 := gC_wantOf g (x1).toNat
            refine ja_aload_n dwanted_51 rfl rfl ?_
            refine ja_aload_n dwanted_52 rfl rfl ?_
            refine fa_wantToken dwanted_53 ?_
            refine ja_iload_n dwanted_56 rfl rfl ?_
            refine il_wantToken (v := h 44 (x1).toNat) rfl ⟨by omega, by omega⟩ dwanted_57 ?_
            have f4 := gC_wantToken g (x1).toNat
            refine t_id (by decide) (show (2 : Nat) ≤ 8 by decide) dwanted_58 gu ⟨by omega, by omega⟩ (show 0 ≤ (h 44 (x1).toNat) ∧ (h 44 (x1).toNat) ≤ 900 by omega) ?_
            intro k58_0
            replace k58_0 : -2147483648 ≤ (h 5 (h 44 (x1).toNat).toNat) ∧ (h 5 (h 44 (x1).toNat).toNat) ≤ 2147483647 := k58_0
            show mJ l D cA ad 3 cX12_wanted 5 none 61 [(0, (2, ((0 : Nat) : Int))), (1, (0, x1))] [(0, (h 5 (h 44 (x1).toNat).toNat)), (0, (h 46 (x1).toNat)), (2, ((0 : Nat) : Int))] (ja_up (ja_up h 0 11 f) 0 12 p) Q
            refine t_aspectFieldOf2 (by decide) (show (0 : Nat) ≤ 8 by decide) dwanted_61 gu ⟨by omega, by omega⟩ ⟨by omega, by omega⟩ (show 0 ≤ (h 46 (x1).toNat) ∧ (h 46 (x1).toNat) ≤ 7 by omega) ?_ ?_
            · intro w5 k61_0
              replace k61_0 : 0 ≤ w5 ∧ w5 < (h 15 (h 46 (x1).toNat).toNat) ∧ w5 = afF (ja_up (ja_up h 0 11 f) 0 12 p) (h 46 (x1).toNat) (h 5 (h 44 (x1).toNat).toNat) := k61_0
              have kwf := gC_aspectFields g ((h 46 (x1).toNat)).toNat
              refine ja_if_lt 71 dwanted_64 rfl ⟨by omega, by omega⟩ (fun c64 => ?_) (fun c64 => ?_)
              · refine ja_iconst dwanted_71 ?_
                refine ja_istore_n dwanted_72 rfl (by decide) (L2 := [(2, (0, 0)), (0, (2, ((0 : Nat) : Int))), (1, (0, x1))]) rfl ?_
                refine ja_iload_n dwanted_73 rfl rfl ?_
                refine ja_if_ne 88 dwanted_74 rfl ⟨by decide, by decide⟩ (fun c74 => absurd c74 (by omega)) (fun c74 => ?_)
                refine ja_aload_n dwanted_77 rfl rfl ?_
                refine ja_iconst dwanted_78 ?_
                refine ja_aload_n dwanted_79 rfl rfl ?_
                refine fa_wantToken dwanted_80 ?_
                refine ja_iload_n dwanted_83 rfl rfl ?_
                refine il_wantToken (v := h 44 (x1).toNat) rfl ⟨by omega, by omega⟩ dwanted_84 ?_
                refine t_judge (by decide) (show (0 : Nat) ≤ 8 by decide) dwanted_85 gu ⟨by decide, by decide⟩ ⟨by omega, by omega⟩ (show 1 ≤ 5 ∧ 5 ≤ 8 by omega) (show 0 ≤ (h 44 (x1).toNat) ∧ (h 44 (x1).toNat) ≤ 900 by omega) ?_
                intro w6 w7 k85_0 g8
                replace k85_0 : 1 ≤ w6 ∧ w6 ≤ 8 ∧ -2147483648 ≤ w7 ∧ w7 ≤ 2147483647 := k85_0
                replace g8 : mo_G mo_zr (ja_up (ja_up (ja_up (ja_up h 0 11 f) 0 12 p) 0 11 w6) 0 12 w7) := g8
                show mJ l D cA ad 3 cX12_wanted 5 none 88 [(2, (0, 0)), (0, (2, ((0 : Nat) : Int))), (1, (0, x1))] [] (ja_up (ja_up (ja_up (ja_up h 0 11 f) 0 12 p) 0 11 w6) 0 12 w7) Q
                refine ja_iinc dwanted_88 rfl (by decide) (L2 := [(1, (0, (x1 + 1))), (2, (0, 0)), (0, (2, ((0 : Nat) : Int)))]) rfl ?_
                refine ja_goto 2 dwanted_91 rfl ?_
                have hE2 : ja_up (ja_up (ja_up (ja_up h 0 11 f) 0 12 p) 0 11 w6) 0 12 w7 = ja_up (ja_up h 0 11 w6) 0 12 w7 := by first | exact mo_j0 | simp only [mo_jj]
                rw [hE2]
                exact ja_wk (fun q hq => by simp only [List.mem_cons, List.not_mem_nil, or_false] at hq; rcases hq with rfl | rfl <;> rfl) ((ih (((50000 : Int) + ((1000 : Int) - (x1 + 1))).toNat) (by omega)).1 w6 w7 (x1 + 1) (by rw [← hE2]; exact g8) ⟨by omega, by omega⟩ ⟨by omega, by omega⟩ ⟨by omega, by omega⟩ (⟨by omega, fun z => by exfalso; omega⟩) rfl)
              · refine ja_iconst dwanted_67 ?_
                refine ja_goto 72 dwanted_68 rfl ?_
                refine ja_istore_n dwanted_72 rfl (by decide) (L2 := [(2, (0, 1)), (0, (2, ((0 : Nat) : Int))), (1, (0, x1))]) rfl ?_
                refine ja_iload_n dwanted_73 rfl rfl ?_
                refine ja_if_ne 88 dwanted_74 rfl ⟨by decide, by decide⟩ (fun c74 => ?_) (fun c74 => absurd c74 (by omega))
                refine ja_iinc dwanted_88 rfl (by decide) (L2 := [(1, (0, (x1 + 1))), (2, (0, 1)), (0, (2, ((0 : Nat) : Int)))]) rfl ?_
                refine ja_goto 2 dwanted_91 rfl ?_
                exact ja_wk (fun q hq => by simp only [List.mem_cons, List.not_mem_nil, or_false] at hq; rcases hq with rfl | rfl <;> rfl) ((ih (((50000 : Int) + ((1000 : Int) - (x1 + 1))).toNat) (by omega)).1 f p (x1 + 1) gu ⟨by omega, by omega⟩ ⟨by omega, by omega⟩ ⟨by omega, by omega⟩ (⟨by omega, fun z => ⟨(iw z).1, waS_s (by omega) (iw z).2 ⟨fun z => absurd z c16, fun _ => le_eqI k61_0.1 k61_0.2.2⟩⟩⟩) rfl)
            · intro k61_1
              replace k61_1 : afF (ja_up (ja_up h 0 11 f) 0 12 p) (h 46 (x1).toNat) (h 5 (h 44 (x1).toNat).toNat) = -1 := k61_1
              have kwf := gC_aspectFields g ((h 46 (x1).toNat)).toNat
              refine ja_if_lt 71 dwanted_64 rfl ⟨by decide, by decide⟩ (fun c64 => ?_) (fun c64 => absurd c64 (by omega))
              refine ja_iconst dwanted_71 ?_
              refine ja_istore_n dwanted_72 rfl (by decide) (L2 := [(2, (0, 0)), (0, (2, ((0 : Nat) : Int))), (1, (0, x1))]) rfl ?_
              refine ja_iload_n dwanted_73 rfl rfl ?_
              refine ja_if_ne 88 dwanted_74 rfl ⟨by decide, by decide⟩ (fun c74 => absurd c74 (by omega)) (fun c74 => ?_)
              refine ja_aload_n dwanted_77 rfl rfl ?_
              refine ja_iconst dwanted_78 ?_
              refine ja_aload_n dwanted_79 rfl rfl ?_
              refine fa_wantToken dwanted_80 ?_
              refine ja_iload_n dwanted_83 rfl rfl ?_
              refine il_wantToken (v := h 44 (x1).toNat) rfl ⟨by omega, by omega⟩ dwanted_84 ?_
              refine t_judge (by decide) (show (0 : Nat) ≤ 8 by decide) dwanted_85 gu ⟨by decide, by decide⟩ ⟨by omega, by omega⟩ (show 1 ≤ 5 ∧ 5 ≤ 8 by omega) (show 0 ≤ (h 44 (x1).toNat) ∧ (h 44 (x1).toNat) ≤ 900 by omega) ?_
              intro w9 w10 k85_0 g11
              replace k85_0 : 1 ≤ w9 ∧ w9 ≤ 8 ∧ -2147483648 ≤ w10 ∧ w10 ≤ 2147483647 := k85_0
              replace g11 : mo_G mo_zr (ja_up (ja_up (ja_up (ja_up h 0 11 f) 0 12 p) 0 11 w9) 0 12 w10) := g11
              show mJ l D cA ad 3 cX12_wanted 5 none 88 [(2, (0, 0)), (0, (2, ((0 : Nat) : Int))), (1, (0, x1))] [] (ja_up (ja_up (ja_up (ja_up h 0 11 f) 0 12 p) 0 11 w9) 0 12 w10) Q
              refine ja_iinc dwanted_88 rfl (by decide) (L2 := [(1, (0, (x1 + 1))), (2, (0, 0)), (0, (2, ((0 : Nat) : Int)))]) rfl ?_
              refine ja_goto 2 dwanted_91 rfl ?_
              have hE2 : ja_up (ja_up (ja_up (ja_up h 0 11 f) 0 12 p) 0 11 w9) 0 12 w10 = ja_up (ja_up h 0 11 w9) 0 12 w10 := by first | exact mo_j0 | simp only [mo_jj]
              rw [hE2]
              exact ja_wk (fun q hq => by simp only [List.mem_cons, List.not_mem_nil, or_false] at hq; rcases hq with rfl | rfl <;> rfl) ((ih (((50000 : Int) + ((1000 : Int) - (x1 + 1))).toNat) (by omega)).1 w9 w10 (x1 + 1) (by rw [← hE2]; exact g11) ⟨by omega, by omega⟩ ⟨by omega, by omega⟩ ⟨by omega, by omega⟩ (⟨by omega, fun z => by exfalso; omega⟩) rfl)
          · refine ja_aload_n dwanted_19 rfl rfl ?_
            refine ja_aload_n dwanted_20 rfl rfl ?_
            refine ja_aload_n dwanted_21 rfl rfl ?_
            refine fa_wantToken dwanted_22 ?_
            refine ja_iload_n dwanted_25 rfl rfl ?_
            refine il_wantToken (v := h 44 (x1).toNat) rfl ⟨by omega, by omega⟩ dwanted_26 ?_
            have f12 := gC_wantToken g (x1).toNat
            refine t_id (by decide) (show (1 : Nat) ≤ 8 by decide) dwanted_27 gu ⟨by omega, by omega⟩ (show 0 ≤ (h 44 (x1).toNat) ∧ (h 44 (x1).toNat) ≤ 900 by omega) ?_
            intro k27_0
            replace k27_0 : -2147483648 ≤ (h 5 (h 44 (x1).toNat).toNat) ∧ (h 5 (h 44 (x1).toNat).toNat) ≤ 2147483647 := k27_0
            show mJ l D cA ad 3 cX12_wanted 5 none 30 [(0, (2, ((0 : Nat) : Int))), (1, (0, x1))] [(0, (h 5 (h 44 (x1).toNat).toNat)), (2, ((0 : Nat) : Int))] (ja_up (ja_up h 0 11 f) 0 12 p) Q
            refine t_classOf2 (by decide) (show (0 : Nat) ≤ 8 by decide) dwanted_30 gu ⟨by omega, by omega⟩ ?_ ?_
            · intro w13 k30_0
              replace k30_0 : 0 ≤ w13 ∧ w13 < (h 0 22) ∧ w13 = clF (ja_up (ja_up h 0 11 f) 0 12 p) (h 5 (h 44 (x1).toNat).toNat) := k30_0
              refine ja_if_lt 40 dwanted_33 rfl ⟨by omega, by omega⟩ (fun c33 => ?_) (fun c33 => ?_)
              · refine ja_iconst dwanted_40 ?_
                refine ja_goto 72 dwanted_41 rfl ?_
                refine ja_istore_n dwanted_72 rfl (by decide) (L2 := [(2, (0, 0)), (0, (2, ((0 : Nat) : Int))), (1, (0, x1))]) rfl ?_
                refine ja_iload_n dwanted_73 rfl rfl ?_
                refine ja_if_ne 88 dwanted_74 rfl ⟨by decide, by decide⟩ (fun c74 => absurd c74 (by omega)) (fun c74 => ?_)
                refine ja_aload_n dwanted_77 rfl rfl ?_
                refine ja_iconst dwanted_78 ?_
                refine ja_aload_n dwanted_79 rfl rfl ?_
                refine fa_wantToken dwanted_80 ?_
                refine ja_iload_n dwanted_83 rfl rfl ?_
                refine il_wantToken (v := h 44 (x1).toNat) rfl ⟨by omega, by omega⟩ dwanted_84 ?_
                refine t_judge (by decide) (show (0 : Nat) ≤ 8 by decide) dwanted_85 gu ⟨by decide, by decide⟩ ⟨by omega, by omega⟩ (show 1 ≤ 5 ∧ 5 ≤ 8 by omega) (show 0 ≤ (h 44 (x1).toNat) ∧ (h 44 (x1).toNat) ≤ 900 by omega) ?_
                intro w14 w15 k85_0 g16
                replace k85_0 : 1 ≤ w14 ∧ w14 ≤ 8 ∧ -2147483648 ≤ w15 ∧ w15 ≤ 2147483647 := k85_0
                replace g16 : mo_G mo_zr (ja_up (ja_up (ja_up (ja_up h 0 11 f) 0 12 p) 0 11 w14) 0 12 w15) := g16
                show mJ l D cA ad 3 cX12_wanted 5 none 88 [(2, (0, 0)), (0, (2, ((0 : Nat) : Int))), (1, (0, x1))] [] (ja_up (ja_up (ja_up (ja_up h 0 11 f) 0 12 p) 0 11 w14) 0 12 w15) Q
                refine ja_iinc dwanted_88 rfl (by decide) (L2 := [(1, (0, (x1 + 1))), (2, (0, 0)), (0, (2, ((0 : Nat) : Int)))]) rfl ?_
                refine ja_goto 2 dwanted_91 rfl ?_
                have hE2 : ja_up (ja_up (ja_up (ja_up h 0 11 f) 0 12 p) 0 11 w14) 0 12 w15 = ja_up (ja_up h 0 11 w14) 0 12 w15 := by first | exact mo_j0 | simp only [mo_jj]
                rw [hE2]
                exact ja_wk (fun q hq => by simp only [List.mem_cons, List.not_mem_nil, or_false] at hq; rcases hq with rfl | rfl <;> rfl) ((ih (((50000 : Int) + ((1000 : Int) - (x1 + 1))).toNat) (by omega)).1 w14 w15 (x1 + 1) (by rw [← hE2]; exact g16) ⟨by omega, by omega⟩ ⟨by omega, by omega⟩ ⟨by omega, by omega⟩ (⟨by omega, fun z => by exfalso; omega⟩) rfl)
              · refine ja_iconst dwanted_36 ?_
                refine ja_goto 72 dwanted_37 rfl ?_
                refine ja_istore_n dwanted_72 rfl (by decide) (L2 := [(2, (0, 1)), (0, (2, ((0 : Nat) : Int))), (1, (0, x1))]) rfl ?_
                refine ja_iload_n dwanted_73 rfl rfl ?_
                refine ja_if_ne 88 dwanted_74 rfl ⟨by decide, by decide⟩ (fun c74 => ?_) (fun c74 => absurd c74 (by omega))
                refine ja_iinc dwanted_88 rfl (by decide) (L2 := [(1, (0, (x1 + 1))), (2, (0, 1)), (0, (2, ((0 : Nat) : Int)))]) rfl ?_
                refine ja_goto 2 dwanted_91 rfl ?_
                exact ja_wk (fun q hq => by simp only [List.mem_cons, List.not_mem_nil, or_false] at hq; rcases hq with rfl | rfl <;> rfl) ((ih (((50000 : Int) + ((1000 : Int) - (x1 + 1))).toNat) (by omega)).1 f p (x1 + 1) gu ⟨by omega, by omega⟩ ⟨by omega, by omega⟩ ⟨by omega, by omega⟩ (⟨by omega, fun z => ⟨(iw z).1, waS_s (by omega) (iw z).2 ⟨fun _ => le_eqI k30_0.1 k30_0.2.2, fun z => absurd c16 z⟩⟩⟩) rfl)
            · intro k30_1
              replace k30_1 : clF (ja_up (ja_up h 0 11 f) 0 12 p) (h 5 (h 44 (x1).toNat).toNat) = -1 := k30_1
              refine ja_if_lt 40 dwanted_33 rfl ⟨by decide, by decide⟩ (fun c33 => ?_) (fun c33 => absurd c33 (by omega))
              refine ja_iconst dwanted_40 ?_
              refine ja_goto 72 dwanted_41 rfl ?_
              refine ja_istore_n dwanted_72 rfl (by decide) (L2 := [(2, (0, 0)), (0, (2, ((0 : Nat) : Int))), (1, (0, x1))]) rfl ?_
              refine ja_iload_n dwanted_73 rfl rfl ?_
              refine ja_if_ne 88 dwanted_74 rfl ⟨by decide, by decide⟩ (fun c74 => absurd c74 (by omega)) (fun c74 => ?_)
              refine ja_aload_n dwanted_77 rfl rfl ?_
              refine ja_iconst dwanted_78 ?_
              refine ja_aload_n dwanted_79 rfl rfl ?_
              refine fa_wantToken dwanted_80 ?_
              refine ja_iload_n dwanted_83 rfl rfl ?_
              refine il_wantToken (v := h 44 (x1).toNat) rfl ⟨by omega, by omega⟩ dwanted_84 ?_
              refine t_judge (by decide) (show (0 : Nat) ≤ 8 by decide) dwanted_85 gu ⟨by decide, by decide⟩ ⟨by omega, by omega⟩ (show 1 ≤ 5 ∧ 5 ≤ 8 by omega) (show 0 ≤ (h 44 (x1).toNat) ∧ (h 44 (x1).toNat) ≤ 900 by omega) ?_
              intro w17 w18 k85_0 g19
              replace k85_0 : 1 ≤ w17 ∧ w17 ≤ 8 ∧ -2147483648 ≤ w18 ∧ w18 ≤ 2147483647 := k85_0
              replace g19 : mo_G mo_zr (ja_up (ja_up (ja_up (ja_up h 0 11 f) 0 12 p) 0 11 w17) 0 12 w18) := g19
              show mJ l D cA ad 3 cX12_wanted 5 none 88 [(2, (0, 0)), (0, (2, ((0 : Nat) : Int))), (1, (0, x1))] [] (ja_up (ja_up (ja_up (ja_up h 0 11 f) 0 12 p) 0 11 w17) 0 12 w18) Q
              refine ja_iinc dwanted_88 rfl (by decide) (L2 := [(1, (0, (x1 + 1))), (2, (0, 0)), (0, (2, ((0 : Nat) : Int)))]) rfl ?_
              refine ja_goto 2 dwanted_91 rfl ?_
              have hE2 : ja_up (ja_up (ja_up (ja_up h 0 11 f) 0 12 p) 0 11 w17) 0 12 w18 = ja_up (ja_up h 0 11 w17) 0 12 w18 := by first | exact mo_j0 | simp only [mo_jj]
              rw [hE2]
              exact ja_wk (fun q hq => by simp only [List.mem_cons, List.not_mem_nil, or_false] at hq; rcases hq with rfl | rfl <;> rfl) ((ih (((50000 : Int) + ((1000 : Int) - (x1 + 1))).toNat) (by omega)).1 w17 w18 (x1 + 1) (by rw [← hE2]; exact g19) ⟨by omega, by omega⟩ ⟨by omega, by omega⟩ ⟨by omega, by omega⟩ (⟨by omega, fun z => by exfalso; omega⟩) rfl)
      · intro x1 u gu qx1 iv hm
        subst hm
        have ku_wants := gF_wants gu
        have ku_uses := gF_uses gu
        have ku_picks := gF_picks gu
        have ku_classes := gF_classes gu
        have ku_false1 := gF_false1 gu
        have ku_falseAt := gF_falseAt gu
        obtain ⟨iv, iw, ix⟩ := iv
        have iw1 := iw.1
        have e_uses : (u 0 72) = (h 0 72) := iw1 0 72 rfl
        have e_picks : (u 0 52) = (h 0 52) := iw1 0 52 rfl
        have kun : u 47 = h 47 := funext fun j => iw1 47 j rfl
        refine ja_iload_n dwanted_96 rfl rfl ?_
        refine ja_aload_n dwanted_97 rfl rfl ?_
        refine fg_uses (v := u 0 72) rfl dwanted_98 ?_
        have f20 := gF_uses gu
        refine ja_icmp_ge 222 dwanted_101 rfl ⟨by omega, by omega⟩ ⟨by omega, by omega⟩ (fun c101 => ?_) (fun c101 => ?_)
        · refine ja_return dwanted_222 rfl ?_
          exact k1 u (⟨by have e : x1 = (h 0 72) := (by omega); subst e; exact iw, ix⟩) gu
        · refine ja_aload_n dwanted_104 rfl rfl ?_
          refine fa_useNode dwanted_105 ?_
          refine ja_iload_n dwanted_108 rfl rfl ?_
          refine il_useNode (v := u 47 (x1).toNat) rfl ⟨by omega, by omega⟩ dwanted_109 ?_
          have f21 := gC_useNode gu (x1).toNat
          refine ja_istore_n dwanted_110 rfl (by decide) (L2 := [(2, (0, (u 47 (x1).toNat))), (0, (2, ((0 : Nat) : Int))), (1, (0, x1))]) rfl ?_
          refine ja_iconst dwanted_111 ?_
          refine ja_istore_n dwanted_112 rfl (by decide) (L2 := [(3, (0, (-1))), (2, (0, (u 47 (x1).toNat))), (0, (2, ((0 : Nat) : Int))), (1, (0, x1))]) rfl ?_
          refine ja_aload_n dwanted_113 rfl rfl ?_
          refine fg_picks (v := u 0 52) rfl dwanted_114 ?_
          have f22 := gF_picks gu
          refine ja_iconst dwanted_117 ?_
          refine ja_isub dwanted_118 ?_
          refine ja_istore dwanted_119 (by decide) (L2 := [(4, (0, ((u 0 52) - 1))), (3, (0, (-1))), (2, (0, (u 47 (x1).toNat))), (0, (2, ((0 : Nat) : Int))), (1, (0, x1))]) rfl ?_
          exact ja_wk (fun q hq => by simp only [List.mem_cons, List.not_mem_nil, or_false] at hq; rcases hq with rfl | rfl | rfl | rfl | rfl <;> rfl) ((ih (((40 : Int) * ((1000 : Int) - x1) - 30 + ((u 0 52) - 1)).toNat) (by omega)).2.2 x1 (u 47 (x1).toNat) (-1) ((u 0 52) - 1) u gu ⟨by omega, by omega⟩ ⟨by omega, by omega⟩ ⟨by decide, by decide⟩ ⟨by omega, by omega⟩ (⟨⟨by omega, by omega, by rw [kun], by omega, by omega, by omega, by omega, by omega⟩, iw, ix⟩) rfl)
      · intro x1 x2 x3 x4 u gu qx1 qx2 qx3 qx4 iv hm
        subst hm
        have ku_wants := gF_wants gu
        have ku_uses := gF_uses gu
        have ku_picks := gF_picks gu
        have ku_classes := gF_classes gu
        have ku_false1 := gF_false1 gu
        have ku_falseAt := gF_falseAt gu
        obtain ⟨iv, iw, ix⟩ := iv
        have iw1 := iw.1
        have e_uses : (u 0 72) = (h 0 72) := iw1 0 72 rfl
        have e_picks : (u 0 52) = (h 0 52) := iw1 0 52 rfl
        have kun : u 47 = h 47 := funext fun j => iw1 47 j rfl
        have kgu := gC_useNode g (x1).toNat
        refine ja_iload dwanted_121 rfl ?_
        refine ja_if_lt 179 dwanted_123 rfl ⟨by omega, by omega⟩ (fun c123 => ?_) (fun c123 => ?_)
        · refine ja_aload_n dwanted_179 rfl rfl ?_
          refine fa_nodeA dwanted_180 ?_
          refine ja_iload_n dwanted_183 rfl rfl ?_
          refine ja_iload_n dwanted_184 rfl rfl ?_
          have g23 := gW_nodeA gu (x2).toNat (x := x3) ⟨by omega, by omega⟩
          refine is_nodeA ⟨by omega, by omega⟩ dwanted_185 ?_
          refine ja_iload_n dwanted_186 rfl rfl ?_
          refine ja_if_lt 205 dwanted_187 rfl ⟨by omega, by omega⟩ (fun c187 => ?_) (fun c187 => ?_)
          · refine ja_aload_n dwanted_205 rfl rfl ?_
            refine ja_iconst dwanted_206 ?_
            refine ja_aload_n dwanted_207 rfl rfl ?_
            refine fa_nodeToken dwanted_208 ?_
            refine ja_iload_n dwanted_211 rfl rfl ?_
            refine il_nodeToken (v := u 61 (x2).toNat) rfl ⟨by omega, by omega⟩ dwanted_212 ?_
            have f24 := gC_nodeToken gu (x2).toNat
            refine t_judge (by decide) (show (0 : Nat) ≤ 8 by decide) dwanted_213 g23 ⟨by decide, by decide⟩ ⟨by omega, by omega⟩ (show 1 ≤ 5 ∧ 5 ≤ 8 by omega) (show 0 ≤ (u 61 (x2).toNat) ∧ (u 61 (x2).toNat) ≤ 900 by omega) ?_
            intro w25 w26 k213_0 g27
            replace k213_0 : 1 ≤ w25 ∧ w25 ≤ 8 ∧ -2147483648 ≤ w26 ∧ w26 ≤ 2147483647 := k213_0
            replace g27 : mo_G mo_zr (ja_up (ja_up (ja_up u 59 ((x2).toNat) x3) 0 11 w25) 0 12 w26) := g27
            show mJ l D cA ad 3 cX12_wanted 5 none 216 [(0, (2, ((0 : Nat) : Int))), (1, (0, x1)), (2, (0, x2)), (3, (0, x3)), (4, (0, x4))] [] (ja_up (ja_up (ja_up u 59 ((x2).toNat) x3) 0 11 w25) 0 12 w26) Q
            refine ja_iinc dwanted_216 rfl (by decide) (L2 := [(1, (0, (x1 + 1))), (0, (2, ((0 : Nat) : Int))), (2, (0, x2)), (3, (0, x3)), (4, (0, x4))]) rfl ?_
            refine ja_goto 96 dwanted_219 rfl ?_
            exact ja_wk (fun q hq => by simp only [List.mem_cons, List.not_mem_nil, or_false] at hq; rcases hq with rfl | rfl <;> rfl) ((ih (((40 : Int) * ((1000 : Int) - (x1 + 1))).toNat) (by omega)).2.1 (x1 + 1) (ja_up (ja_up (ja_up u 59 ((x2).toNat) x3) 0 11 w25) 0 12 w26) g27 ⟨by omega, by omega⟩ (⟨by omega, waU_s (n := x1) (m := x2) (x := x3) g (by omega) (by omega) (by omega) iw (by (repeat (first | exact ag_refl | refine ag_up rfl ?_))) (fun z => by have z2 : w25 = 0 := z; omega), fun z => ix (by have z2 : w25 = 0 := z; omega)⟩) rfl)
          · refine ja_aload_n dwanted_190 rfl rfl ?_
            refine fa_pickParams dwanted_191 ?_
            refine ja_iload_n dwanted_194 rfl rfl ?_
            refine il_pickParams (v := u 36 (x3).toNat) rfl ⟨by omega, by omega⟩ dwanted_195 ?_
            have f28 := gC_pickParams gu (x3).toNat
            refine ja_aload_n dwanted_196 rfl rfl ?_
            refine fa_nodeMany dwanted_197 ?_
            refine ja_iload_n dwanted_200 rfl rfl ?_
            refine il_nodeMany (v := u 62 (x2).toNat) rfl ⟨by omega, by omega⟩ dwanted_201 ?_
            have f29 := gC_nodeMany gu (x2).toNat
            refine ja_icmp_eq 216 dwanted_202 rfl ⟨by omega, by omega⟩ ⟨by omega, by omega⟩ (fun c202 => ?_) (fun c202 => ?_)
            · refine ja_iinc dwanted_216 rfl (by decide) (L2 := [(1, (0, (x1 + 1))), (0, (2, ((0 : Nat) : Int))), (2, (0, x2)), (3, (0, x3)), (4, (0, x4))]) rfl ?_
              refine ja_goto 96 dwanted_219 rfl ?_
              exact ja_wk (fun q hq => by simp only [List.mem_cons, List.not_mem_nil, or_false] at hq; rcases hq with rfl | rfl <;> rfl) ((ih (((40 : Int) * ((1000 : Int) - (x1 + 1))).toNat) (by omega)).2.1 (x1 + 1) (ja_up u 59 ((x2).toNat) x3) g23 ⟨by omega, by omega⟩ (⟨by omega, waU_s (n := x1) (m := x2) (x := x3) g (by omega) (by omega) (by omega) iw (by (repeat (first | exact ag_refl | refine ag_up rfl ?_))) (fun z => by have z2 : (u 0 11) = 0 := z; omega), fun z => ix (by have z2 : (u 0 11) = 0 := z; omega)⟩) rfl)
            · refine ja_aload_n dwanted_205 rfl rfl ?_
              refine ja_iconst dwanted_206 ?_
              refine ja_aload_n dwanted_207 rfl rfl ?_
              refine fa_nodeToken dwanted_208 ?_
              refine ja_iload_n dwanted_211 rfl rfl ?_
              refine il_nodeToken (v := u 61 (x2).toNat) rfl ⟨by omega, by omega⟩ dwanted_212 ?_
              have f30 := gC_nodeToken gu (x2).toNat
              refine t_judge (by decide) (show (0 : Nat) ≤ 8 by decide) dwanted_213 g23 ⟨by decide, by decide⟩ ⟨by omega, by omega⟩ (show 1 ≤ 5 ∧ 5 ≤ 8 by omega) (show 0 ≤ (u 61 (x2).toNat) ∧ (u 61 (x2).toNat) ≤ 900 by omega) ?_
              intro w31 w32 k213_0 g33
              replace k213_0 : 1 ≤ w31 ∧ w31 ≤ 8 ∧ -2147483648 ≤ w32 ∧ w32 ≤ 2147483647 := k213_0
              replace g33 : mo_G mo_zr (ja_up (ja_up (ja_up u 59 ((x2).toNat) x3) 0 11 w31) 0 12 w32) := g33
              show mJ l D cA ad 3 cX12_wanted 5 none 216 [(0, (2, ((0 : Nat) : Int))), (1, (0, x1)), (2, (0, x2)), (3, (0, x3)), (4, (0, x4))] [] (ja_up (ja_up (ja_up u 59 ((x2).toNat) x3) 0 11 w31) 0 12 w32) Q
              refine ja_iinc dwanted_216 rfl (by decide) (L2 := [(1, (0, (x1 + 1))), (0, (2, ((0 : Nat) : Int))), (2, (0, x2)), (3, (0, x3)), (4, (0, x4))]) rfl ?_
              refine ja_goto 96 dwanted_219 rfl ?_
              exact ja_wk (fun q hq => by simp only [List.mem_cons, List.not_mem_nil, or_false] at hq; rcases hq with rfl | rfl <;> rfl) ((ih (((40 : Int) * ((1000 : Int) - (x1 + 1))).toNat) (by omega)).2.1 (x1 + 1) (ja_up (ja_up (ja_up u 59 ((x2).toNat) x3) 0 11 w31) 0 12 w32) g33 ⟨by omega, by omega⟩ (⟨by omega, waU_s (n := x1) (m := x2) (x := x3) g (by omega) (by omega) (by omega) iw (by (repeat (first | exact ag_refl | refine ag_up rfl ?_))) (fun z => by have z2 : w31 = 0 := z; omega), fun z => ix (by have z2 : w31 = 0 := z; omega)⟩) rfl)
        · refine ja_aload_n dwanted_126 rfl rfl ?_
          refine fa_pickAspect dwanted_127 ?_
          refine ja_iload dwanted_130 rfl ?_
          refine il_pickAspect (v := u 35 (x4).toNat) rfl ⟨by omega, by omega⟩ dwanted_132 ?_
          have f34 := gC_pickAspect gu (x4).toNat
          refine ja_aload_n dwanted_133 rfl rfl ?_
          refine fa_nodeAspect dwanted_134 ?_
          refine ja_iload_n dwanted_137 rfl rfl ?_
          refine il_nodeAspect (v := u 64 (x2).toNat) rfl ⟨by omega, by omega⟩ dwanted_138 ?_
          have f35 := gC_nodeAspect gu (x2).toNat
          refine ja_icmp_ne 171 dwanted_139 rfl ⟨by omega, by omega⟩ ⟨by omega, by omega⟩ (fun c139 => ?_) (fun c139 => ?_)
          · refine ja_iload_n dwanted_171 rfl rfl ?_
            refine ja_istore_n dwanted_172 rfl (by decide) (L2 := [(3, (0, x3)), (0, (2, ((0 : Nat) : Int))), (1, (0, x1)), (2, (0, x2)), (4, (0, x4))]) rfl ?_
            refine ja_iinc dwanted_173 rfl (by decide) (L2 := [(4, (0, (x4 + (-1)))), (3, (0, x3)), (0, (2, ((0 : Nat) : Int))), (1, (0, x1)), (2, (0, x2))]) rfl ?_
            refine ja_goto 121 dwanted_176 rfl ?_
            exact ja_wk (fun q hq => by simp only [List.mem_cons, List.not_mem_nil, or_false] at hq; rcases hq with rfl | rfl | rfl | rfl | rfl <;> rfl) ((ih (((40 : Int) * ((1000 : Int) - x1) - 30 + (x4 + (-1))).toNat) (by omega)).2.2 x1 x2 x3 (x4 + (-1)) u gu ⟨by omega, by omega⟩ ⟨by omega, by omega⟩ ⟨by omega, by omega⟩ ⟨by omega, by omega⟩ (⟨by omega, iw, ix⟩) rfl)
          · refine ja_aload_n dwanted_142 rfl rfl ?_
            refine ja_aload_n dwanted_143 rfl rfl ?_
            refine fa_pickName dwanted_144 ?_
            refine ja_iload dwanted_147 rfl ?_
            refine il_pickName (v := u 34 (x4).toNat) rfl ⟨by omega, by omega⟩ dwanted_149 ?_
            have f36 := gC_pickName gu (x4).toNat
            refine t_id (by decide) (show (0 : Nat) ≤ 8 by decide) dwanted_150 gu ⟨by omega, by omega⟩ (show 0 ≤ (u 34 (x4).toNat) ∧ (u 34 (x4).toNat) ≤ 900 by omega) ?_
            intro k150_0
            refine ja_aload_n dwanted_153 rfl rfl ?_
            refine ja_aload_n dwanted_154 rfl rfl ?_
            refine fa_nodeToken dwanted_155 ?_
            refine ja_iload_n dwanted_158 rfl rfl ?_
            refine il_nodeToken (v := u 61 (x2).toNat) rfl ⟨by omega, by omega⟩ dwanted_159 ?_
            have f37 := gC_nodeToken gu (x2).toNat
            refine t_id (by decide) (show (1 : Nat) ≤ 8 by decide) dwanted_160 gu ⟨by omega, by omega⟩ (show 0 ≤ (u 61 (x2).toNat) ∧ (u 61 (x2).toNat) ≤ 900 by omega) ?_
            intro k160_0
            refine ja_icmp_ne 171 dwanted_163 rfl ⟨by omega, by omega⟩ ⟨by omega, by omega⟩ (fun c163 => ?_) (fun c163 => ?_)
            · refine ja_iload_n dwanted_171 rfl rfl ?_
              refine ja_istore_n dwanted_172 rfl (by decide) (L2 := [(3, (0, x3)), (0, (2, ((0 : Nat) : Int))), (1, (0, x1)), (2, (0, x2)), (4, (0, x4))]) rfl ?_
              refine ja_iinc dwanted_173 rfl (by decide) (L2 := [(4, (0, (x4 + (-1)))), (3, (0, x3)), (0, (2, ((0 : Nat) : Int))), (1, (0, x1)), (2, (0, x2))]) rfl ?_
              refine ja_goto 121 dwanted_176 rfl ?_
              exact ja_wk (fun q hq => by simp only [List.mem_cons, List.not_mem_nil, or_false] at hq; rcases hq with rfl | rfl | rfl | rfl | rfl <;> rfl) ((ih (((40 : Int) * ((1000 : Int) - x1) - 30 + (x4 + (-1))).toNat) (by omega)).2.2 x1 x2 x3 (x4 + (-1)) u gu ⟨by omega, by omega⟩ ⟨by omega, by omega⟩ ⟨by omega, by omega⟩ ⟨by omega, by omega⟩ (⟨by omega, iw, ix⟩) rfl)
            · refine ja_iload dwanted_166 rfl ?_
              refine ja_goto 172 dwanted_168 rfl ?_
              refine ja_istore_n dwanted_172 rfl (by decide) (L2 := [(3, (0, x4)), (0, (2, ((0 : Nat) : Int))), (1, (0, x1)), (2, (0, x2)), (4, (0, x4))]) rfl ?_
              refine ja_iinc dwanted_173 rfl (by decide) (L2 := [(4, (0, (x4 + (-1)))), (3, (0, x4)), (0, (2, ((0 : Nat) : Int))), (1, (0, x1)), (2, (0, x2))]) rfl ?_
              refine ja_goto 121 dwanted_176 rfl ?_
              exact ja_wk (fun q hq => by simp only [List.mem_cons, List.not_mem_nil, or_false] at hq; rcases hq with rfl | rfl | rfl | rfl | rfl <;> rfl) ((ih (((40 : Int) * ((1000 : Int) - x1) - 30 + (x4 + (-1))).toNat) (by omega)).2.2 x1 x2 x4 (x4 + (-1)) u gu ⟨by omega, by omega⟩ ⟨by omega, by omega⟩ ⟨by omega, by omega⟩ ⟨by omega, by omega⟩ (⟨by omega, iw, ix⟩) rfl)
  refine ja_iconst dwanted_0 ?_
  refine ja_istore_n dwanted_1 rfl (by decide) (L2 := [(1, (0, 0)), (0, (2, ((0 : Nat) : Int)))]) rfl ?_
  have hE2 : h = ja_up (ja_up h 0 11 (h 0 11)) 0 12 (h 0 12) := by first | exact mo_j0 | simp only [mo_jj]
  rw [hE2]
  exact ja_wk (fun q hq => by simp only [List.mem_cons, List.not_mem_nil, or_false] at hq; rcases hq with rfl | rfl <;> rfl) ((CUT _).1 (h 0 11) (h 0 12) 0 (by rw [← hE2]; exact g) ⟨by omega, by omega⟩ ⟨by omega, by omega⟩ ⟨by decide, by decide⟩ (⟨by omega, fun z => ⟨by omega, waS_0⟩⟩) rfl)
theorem t_wanted {d nL pc : Nat} {cc : ByteArray} {rt : Option FieldType} {L : List (Nat × ja_V)} {S : List ja_V} {h : ja_H} {Q : Option ja_V → ja_H → Prop} (hdd : 3 < d) (hwd : ja_wd S ≤ 8) (hd : decode cc pc = .ok (.invokevirtual 921, 3)) (g : mo_G mo_zr h) (k1 : ∀ (h' : ja_H), (waU h h' (h 0 72) ∧ ((h' 0 11) = 0 → waS h (h 0 68))) → mo_G mo_zr h' → mJ l D cA ad d cc nL rt (pc + 3) L S h' Q) : mJ l D cA ad d cc nL rt pc L ((2, ((0 : Nat) : Int)) :: S) h Q :=
  mc_wanted hdd hwd hd (s_wanted g k1)
end
