/-! the reference: its lexer again, searches (written by a program) -/
/-! the reference: what its lexer leaves alone; rows that are searched -/
def FSX : Nat → Nat → Bool := mo_X [6] [2, 3, 4, 5]
/-- the first place of a value in a row -/
def fndI (f : Nat → Int) (v : Int) : Nat → Int
  | 0 => -1
  | n + 1 => if 0 ≤ fndI f v n then fndI f v n else if f n = v then (n : Int) else -1
theorem fnd_range {f : Nat → Int} {v : Int} : ∀ n : Nat, -1 ≤ fndI f v n ∧ fndI f v n < n ∧ (0 ≤ fndI f v n → f (fndI f v n).toNat = v)
  | 0 => ⟨Int.le_refl _, (show (-1 : Int) < 0 by decide), fun z => absurd (show (0 : Int) ≤ -1 from z) (by decide)⟩
  | n + 1 => by
    obtain ⟨a1, a2, a3⟩ := fnd_range (f := f) (v := v) n
    show -1 ≤ (if 0 ≤ fndI f v n then fndI f v n else if f n = v then (n : Int) else -1) ∧ (if 0 ≤ fndI f v n then fndI f v n else if f n = v then (n : Int) else -1) < _ ∧ (0 ≤ (if 0 ≤ fndI f v n then fndI f v n else if f n = v then (n : Int) else -1) → f (if 0 ≤ fndI f v n then fndI f v n else if f n = v then (n : Int) else -1).toNat = v)
    by_cases c1 : 0 ≤ fndI f v n
    · simp only [c1, if_true]; exact ⟨by omega, by omega, fun _ => a3 c1⟩
    · simp only [c1, if_false]
      by_cases c2 : f n = v
      · simp only [c2, if_true]; exact ⟨by omega, by omega, fun _ => c2⟩
      · simp only [c2, if_false]; exact ⟨by omega, by omega, fun z => absurd z (by decide)⟩
theorem fnd_step {f : Nat → Int} {v i : Int} (h0 : 0 ≤ i) (q : fndI f v i.toNat = -1) (c : ¬ f i.toNat = v) : fndI f v (i + 1).toNat = -1 := by
  have e : (i + 1).toNat = i.toNat + 1 := by omega
  rw [e]
  show (if 0 ≤ fndI f v i.toNat then fndI f v i.toNat else if f i.toNat = v then (i.toNat : Int) else -1) = -1
  rw [q, if_neg (by decide), if_neg c]
theorem fnd_at {f : Nat → Int} {v : Int} {i : Nat} (q : fndI f v i = -1) (c : f i = v) : ∀ n : Nat, i < n → fndI f v n = i
  | 0, h => absurd h (by omega)
  | n + 1, h => by
    show (if 0 ≤ fndI f v n then fndI f v n else if f n = v then (n : Int) else -1) = (i : Int)
    by_cases e : i = n
    · subst e; rw [q, if_neg (by decide), if_pos c]
    · rw [fnd_at q c n (by omega), if_pos (by omega)]
theorem fnd_hit {f : Nat → Int} {v i n : Int} (h0 : 0 ≤ i) (h1 : i < n) (q : fndI f v i.toNat = -1) (c : f i.toNat = v) : i = fndI f v n.toNat := by
  rw [fnd_at q c n.toNat (by omega)]; omega
theorem fnd_none {f : Nat → Int} {v : Int} : ∀ {n : Nat}, fndI f v n = -1 → ∀ j : Nat, j < n → f j ≠ v
  | 0, _, j, h => absurd h (by omega)
  | n + 1, q, j, h => by
    have q' : (if 0 ≤ fndI f v n then fndI f v n else if f n = v then (n : Int) else -1) = -1 := q
    by_cases c1 : 0 ≤ fndI f v n
    · rw [if_pos c1] at q'; omega
    · rw [if_neg c1] at q'
      have q1 : fndI f v n = -1 := by have := (fnd_range (f := f) (v := v) n).1; omega
      by_cases c2 : f n = v
      · rw [if_pos c2] at q'; omega
      · by_cases e : j = n
        · rw [e]; exact c2
        · exact fnd_none q1 j (by omega)
/-- the NAME of a TOKEN; rows of NAMES -/
def nmC (h : ja_H) (c : Nat) : Int := (h 5) ((h 10) c).toNat
def nmA (h : ja_H) (a : Nat) : Int := (h 5) ((h 13) a).toNat
def clF (h : ja_H) (v : Int) : Int := fndI (nmC h) v ((h 0 22)).toNat
def asF (h : ja_H) (v : Int) : Int := fndI (nmA h) v ((h 0 26)).toNat
def afF (h : ja_H) (a v : Int) : Int := fndI (fun k => (h 16) (10 * a + (k : Int)).toNat) v ((h 15) a.toNat).toNat
theorem dtokenNameB_0 : decode cX12_tokenName 0 = .ok (.iload_n 1, 1) := by decide +kernel
theorem dtokenNameB_1 : decode cX12_tokenName 1 = .ok (.istore_n 2, 1) := by decide +kernel
theorem dtokenNameB_2 : decode cX12_tokenName 2 = .ok (.lconst 0, 1) := by decide +kernel
theorem dtokenNameB_3 : decode cX12_tokenName 3 = .ok (.lstore_n 3, 1) := by decide +kernel
theorem dtokenNameB_4 : decode cX12_tokenName 4 = .ok (.aload_n 0, 1) := by decide +kernel
theorem dtokenNameB_5 : decode cX12_tokenName 5 = .ok (.iload_n 2, 1) := by decide +kernel
theorem dtokenNameB_6 : decode cX12_tokenName 6 = .ok (.invokevirtual 437, 3) := by decide +kernel
theorem dtokenNameB_9 : decode cX12_tokenName 9 = .ok (.invokestatic 539, 3) := by decide +kernel
theorem dtokenNameB_12 : decode cX12_tokenName 12 = .ok (.ifCond .ne 14, 3) := by decide +kernel
theorem dtokenNameB_15 : decode cX12_tokenName 15 = .ok (.aload_n 0, 1) := by decide +kernel
theorem dtokenNameB_16 : decode cX12_tokenName 16 = .ok (.iload_n 2, 1) := by decide +kernel
theorem dtokenNameB_17 : decode cX12_tokenName 17 = .ok (.invokevirtual 437, 3) := by decide +kernel
theorem dtokenNameB_20 : decode cX12_tokenName 20 = .ok (.invokestatic 543, 3) := by decide +kernel
theorem dtokenNameB_23 : decode cX12_tokenName 23 = .ok (.ifCond .eq 36, 3) := by decide +kernel
theorem dtokenNameB_26 : decode cX12_tokenName 26 = .ok (.iload_n 2, 1) := by decide +kernel
theorem dtokenNameB_27 : decode cX12_tokenName 27 = .ok (.iload_n 1, 1) := by decide +kernel
theorem dtokenNameB_28 : decode cX12_tokenName 28 = .ok (.isub, 1) := by decide +kernel
theorem dtokenNameB_29 : decode cX12_tokenName 29 = .ok (.bipush 7, 2) := by decide +kernel
theorem dtokenNameB_31 : decode cX12_tokenName 31 = .ok (.if_icmp .ge 18, 3) := by decide +kernel
theorem dtokenNameB_34 : decode cX12_tokenName 34 = .ok (.lload_n 3, 1) := by decide +kernel
theorem dtokenNameB_35 : decode cX12_tokenName 35 = .ok (.bipush 8, 2) := by decide +kernel
theorem dtokenNameB_37 : decode cX12_tokenName 37 = .ok (.lshl, 1) := by decide +kernel
theorem dtokenNameB_38 : decode cX12_tokenName 38 = .ok (.aload_n 0, 1) := by decide +kernel
theorem dtokenNameB_39 : decode cX12_tokenName 39 = .ok (.getfield 7, 3) := by decide +kernel
theorem dtokenNameB_42 : decode cX12_tokenName 42 = .ok (.iload_n 2, 1) := by decide +kernel
theorem dtokenNameB_43 : decode cX12_tokenName 43 = .ok (.iaload, 1) := by decide +kernel
theorem dtokenNameB_44 : decode cX12_tokenName 44 = .ok (.i2l, 1) := by decide +kernel
theorem dtokenNameB_45 : decode cX12_tokenName 45 = .ok (.lor, 1) := by decide +kernel
theorem dtokenNameB_46 : decode cX12_tokenName 46 = .ok (.goto 6, 3) := by decide +kernel
theorem dtokenNameB_49 : decode cX12_tokenName 49 = .ok (.ldc2_w 546, 3) := by decide +kernel
theorem dtokenNameB_52 : decode cX12_tokenName 52 = .ok (.lstore_n 3, 1) := by decide +kernel
theorem dtokenNameB_53 : decode cX12_tokenName 53 = .ok (.iinc 2 1, 3) := by decide +kernel
theorem dtokenNameB_56 : decode cX12_tokenName 56 = .ok (.goto (-52), 3) := by decide +kernel
theorem dtokenNameB_59 : decode cX12_tokenName 59 = .ok (.lload_n 3, 1) := by decide +kernel
theorem dtokenNameB_60 : decode cX12_tokenName 60 = .ok (.lconst 0, 1) := by decide +kernel
theorem dtokenNameB_61 : decode cX12_tokenName 61 = .ok (.lcmp, 1) := by decide +kernel
theorem dtokenNameB_62 : decode cX12_tokenName 62 = .ok (.ifCond .ge 7, 3) := by decide +kernel
theorem dtokenNameB_65 : decode cX12_tokenName 65 = .ok (.iconst 0, 1) := by decide +kernel
theorem dtokenNameB_66 : decode cX12_tokenName 66 = .ok (.goto 7, 3) := by decide +kernel
theorem dtokenNameB_69 : decode cX12_tokenName 69 = .ok (.lload_n 3, 1) := by decide +kernel
theorem dtokenNameB_70 : decode cX12_tokenName 70 = .ok (.invokestatic 548, 3) := by decide +kernel
theorem dtokenNameB_73 : decode cX12_tokenName 73 = .ok (.istore 5, 2) := by decide +kernel
theorem dtokenNameB_75 : decode cX12_tokenName 75 = .ok (.aload_n 0, 1) := by decide +kernel
theorem dtokenNameB_76 : decode cX12_tokenName 76 = .ok (.getfield 13, 3) := by decide +kernel
theorem dtokenNameB_79 : decode cX12_tokenName 79 = .ok (.aload_n 0, 1) := by decide +kernel
theorem dtokenNameB_80 : decode cX12_tokenName 80 = .ok (.getfield 536, 3) := by decide +kernel
theorem dtokenNameB_83 : decode cX12_tokenName 83 = .ok (.iload 5, 2) := by decide +kernel
theorem dtokenNameB_85 : decode cX12_tokenName 85 = .ok (.ifCond .le 7, 3) := by decide +kernel
theorem dtokenNameB_88 : decode cX12_tokenName 88 = .ok (.iconst 1, 1) := by decide +kernel
theorem dtokenNameB_89 : decode cX12_tokenName 89 = .ok (.goto 17, 3) := by decide +kernel
theorem dtokenNameB_92 : decode cX12_tokenName 92 = .ok (.iload_n 2, 1) := by decide +kernel
theorem dtokenNameB_93 : decode cX12_tokenName 93 = .ok (.iload_n 1, 1) := by decide +kernel
theorem dtokenNameB_94 : decode cX12_tokenName 94 = .ok (.isub, 1) := by decide +kernel
theorem dtokenNameB_95 : decode cX12_tokenName 95 = .ok (.bipush 12, 2) := by decide +kernel
theorem dtokenNameB_97 : decode cX12_tokenName 97 = .ok (.if_icmp .le 8, 3) := by decide +kernel
theorem dtokenNameB_100 : decode cX12_tokenName 100 = .ok (.bipush 7, 2) := by decide +kernel
theorem dtokenNameB_102 : decode cX12_tokenName 102 = .ok (.goto 4, 3) := by decide +kernel
theorem dtokenNameB_105 : decode cX12_tokenName 105 = .ok (.iconst 2, 1) := by decide +kernel
theorem dtokenNameB_106 : decode cX12_tokenName 106 = .ok (.iastore, 1) := by decide +kernel
theorem dtokenNameB_107 : decode cX12_tokenName 107 = .ok (.aload_n 0, 1) := by decide +kernel
theorem dtokenNameB_108 : decode cX12_tokenName 108 = .ok (.getfield 19, 3) := by decide +kernel
theorem dtokenNameB_111 : decode cX12_tokenName 111 = .ok (.aload_n 0, 1) := by decide +kernel
theorem dtokenNameB_112 : decode cX12_tokenName 112 = .ok (.getfield 536, 3) := by decide +kernel
theorem dtokenNameB_115 : decode cX12_tokenName 115 = .ok (.iload_n 2, 1) := by decide +kernel
theorem dtokenNameB_116 : decode cX12_tokenName 116 = .ok (.iastore, 1) := by decide +kernel
theorem dtokenNameB_117 : decode cX12_tokenName 117 = .ok (.aload_n 0, 1) := by decide +kernel
theorem dtokenNameB_118 : decode cX12_tokenName 118 = .ok (.getfield 22, 3) := by decide +kernel
theorem dtokenNameB_121 : decode cX12_tokenName 121 = .ok (.aload_n 0, 1) := by decide +kernel
theorem dtokenNameB_122 : decode cX12_tokenName 122 = .ok (.getfield 536, 3) := by decide +kernel
theorem dtokenNameB_125 : decode cX12_tokenName 125 = .ok (.iload 5, 2) := by decide +kernel
theorem dtokenNameB_127 : decode cX12_tokenName 127 = .ok (.ifCond .le 8, 3) := by decide +kernel
theorem dtokenNameB_130 : decode cX12_tokenName 130 = .ok (.iload 5, 2) := by decide +kernel
theorem dtokenNameB_132 : decode cX12_tokenName 132 = .ok (.goto 9, 3) := by decide +kernel
theorem dtokenNameB_135 : decode cX12_tokenName 135 = .ok (.aload_n 0, 1) := by decide +kernel
theorem dtokenNameB_136 : decode cX12_tokenName 136 = .ok (.iload_n 1, 1) := by decide +kernel
theorem dtokenNameB_137 : decode cX12_tokenName 137 = .ok (.iload_n 2, 1) := by decide +kernel
theorem dtokenNameB_138 : decode cX12_tokenName 138 = .ok (.invokevirtual 551, 3) := by decide +kernel
theorem dtokenNameB_141 : decode cX12_tokenName 141 = .ok (.iastore, 1) := by decide +kernel
theorem dtokenNameB_142 : decode cX12_tokenName 142 = .ok (.return_, 1) := by decide +kernel
section
variable {l : Launch} {D : va_G} {cA : Nat → ClassId} {ad : Nat → Nat}
theorem s_tokenName2 {a1 : Int} {h : ja_H} {Q : Option ja_V → ja_H → Prop} (g : mo_G mo_zr h) (r1 : -2147483648 ≤ a1 ∧ a1 ≤ 2147483647) (p1 : 0 ≤ a1 ∧ a1 < (h 0 1)) (p2 : (h 0 6) ≤ 900) (k1 : ∀ (h' : ja_H), (mo_ag FSX h h' ∧ (h' 0 6) = (h 0 6) ∧ (h' 0 1) = (h 0 1)) → mo_G mo_zr h' → Q none h') : mM_tokenName l D cA ad a1 h Q := by
  show mJ l D cA ad 3 cX12_tokenName 6 none 0 [(0, (2, ((0 : Nat) : Int))), (1, (0, a1))] [] h Q
  have kn_size := gF_size g
  have CUT : ∀ n : Nat, (∀ (x2 x3 : Int), (-2147483648 ≤ x2 ∧ x2 ≤ 2147483647) → (a1 ≤ x2 ∧ x2 ≤ (h 0 1)) → ((5002 - x2).toNat) = n → mJ l D cA ad 3 cX12_tokenName 6 none 4 [(0, (2, ((0 : Nat) : Int))), (1, (0, a1)), (2, (0, x2)), (3, (1, x3))] [] h Q) ∧ (∀ (x2 s0 : Int), (-2147483648 ≤ x2 ∧ x2 ≤ 2147483647) → (-2147483648 ≤ s0 ∧ s0 ≤ 2147483647) → (a1 ≤ x2 ∧ x2 ≤ (h 0 1) ∧ 0 ≤ s0 ∧ s0 ≤ 44) → (0) = n → mJ l D cA ad 3 cX12_tokenName 6 none 73 [(0, (2, ((0 : Nat) : Int))), (1, (0, a1)), (2, (0, x2))] [(0, s0)] h Q) := by
    intro n
    induction n using Nat.strongRecOn with
    | _ n ih =>
      refine ⟨?_, ?_⟩
      · intro x2 x3 qx2 iv hm
        subst hm
        refine ja_aload_n dtokenNameB_4 rfl rfl ?_
        refine ja_iload_n dtokenNameB_5 rfl rfl ?_
        refine t_byteAt (by decide) (show (0 : Nat) ≤ 8 by decide) dtokenNameB_6 g ⟨by omega, by omega⟩ (show 0 ≤ x2 by omega) ?_
        intro w1 k6_0
        refine t_isLetter (by decide) (show (0 : Nat) ≤ 8 by decide) dtokenNameB_9 g ⟨by omega, by omega⟩ ?_
        intro w2 k9_0
        refine ja_if_ne 26 dtokenNameB_12 rfl ⟨by omega, by omega⟩ (fun c12 => ?_) (fun c12 => ?_)
        · refine ja_iload_n dtokenNameB_26 rfl rfl ?_
          refine ja_iload_n dtokenNameB_27 rfl rfl ?_
          refine ja_isub dtokenNameB_28 ?_
          refine ja_bipush 7 dtokenNameB_29 rfl ?_
          refine ja_icmp_ge 49 dtokenNameB_31 rfl ⟨by omega, by omega⟩ ⟨by decide, by decide⟩ (fun c31 => ?_) (fun c31 => ?_)
          · refine mk_546 dtokenNameB_49 ?_
            refine ja_lstore_n dtokenNameB_52 rfl (by decide) (L2 := [(3, (1, (-1))), (0, (2, ((0 : Nat) : Int))), (1, (0, a1)), (2, (0, x2))]) rfl ?_
            refine ja_iinc dtokenNameB_53 rfl (by decide) (L2 := [(2, (0, (x2 + 1))), (3, (1, (-1))), (0, (2, ((0 : Nat) : Int))), (1, (0, a1))]) rfl ?_
            refine ja_goto 4 dtokenNameB_56 rfl ?_
            exact ja_wk (fun q hq => by simp only [List.mem_cons, List.not_mem_nil, or_false] at hq; rcases hq with rfl | rfl | rfl | rfl <;> rfl) ((ih ((5002 - (x2 + 1)).toNat) (by omega)).1 (x2 + 1) (-1)  ⟨by omega, by omega⟩ (show a1 ≤ (x2 + 1) ∧ (x2 + 1) ≤ (h 0 1) by omega) rfl)
          · refine ja_lload_n dtokenNameB_34 rfl rfl ?_
            refine ja_bipush 8 dtokenNameB_35 rfl ?_
            refine mo_lshl dtokenNameB_37 (fun v3 => ?_)
            refine ja_aload_n dtokenNameB_38 rfl rfl ?_
            refine fa_text dtokenNameB_39 ?_
            refine ja_iload_n dtokenNameB_42 rfl rfl ?_
            refine il_text (v := h 1 (x2).toNat) rfl ⟨by omega, by omega⟩ dtokenNameB_43 ?_
            have f4 := gC_text g (x2).toNat
            refine mo_i2l dtokenNameB_44 (fun v5 => ?_)
            refine mo_lor dtokenNameB_45 (fun v6 => ?_)
            refine ja_goto 52 dtokenNameB_46 rfl ?_
            refine ja_lstore_n dtokenNameB_52 rfl (by decide) (L2 := [(3, (1, v6)), (0, (2, ((0 : Nat) : Int))), (1, (0, a1)), (2, (0, x2))]) rfl ?_
            refine ja_iinc dtokenNameB_53 rfl (by decide) (L2 := [(2, (0, (x2 + 1))), (3, (1, v6)), (0, (2, ((0 : Nat) : Int))), (1, (0, a1))]) rfl ?_
            refine ja_goto 4 dtokenNameB_56 rfl ?_
            exact ja_wk (fun q hq => by simp only [List.mem_cons, List.not_mem_nil, or_false] at hq; rcases hq with rfl | rfl | rfl | rfl <;> rfl) ((ih ((5002 - (x2 + 1)).toNat) (by omega)).1 (x2 + 1) v6  ⟨by omega, by omega⟩ (show a1 ≤ (x2 + 1) ∧ (x2 + 1) ≤ (h 0 1) by omega) rfl)
        · refine ja_aload_n dtokenNameB_15 rfl rfl ?_
          refine ja_iload_n dtokenNameB_16 rfl rfl ?_
          refine t_byteAt (by decide) (show (0 : Nat) ≤ 8 by decide) dtokenNameB_17 g ⟨by omega, by omega⟩ (show 0 ≤ x2 by omega) ?_
          intro w7 k17_0
          refine t_isDigit (by decide) (show (0 : Nat) ≤ 8 by decide) dtokenNameB_20 g ⟨by omega, by omega⟩ ?_
          intro w8 k20_0
          refine ja_if_eq 59 dtokenNameB_23 rfl ⟨by omega, by omega⟩ (fun c23 => ?_) (fun c23 => ?_)
          · refine ja_lload_n dtokenNameB_59 rfl rfl ?_
            refine ja_lconst 0 dtokenNameB_60 rfl ?_
            refine mo_lcmp dtokenNameB_61 (fun v9 rv9 => ?_)
            refine ja_if_ge 69 dtokenNameB_62 rfl ⟨by omega, by omega⟩ (fun c62 => ?_) (fun c62 => ?_)
            · refine ja_lload_n dtokenNameB_69 rfl rfl ?_
              refine t_wordOf (by decide) (show (0 : Nat) ≤ 8 by decide) dtokenNameB_70 g  ?_
              intro w10 k70_0
              exact ja_wk (fun q hq => by simp only [List.mem_cons, List.not_mem_nil, or_false] at hq; rcases hq with rfl | rfl | rfl <;> rfl) ((ih (0) (by omega)).2 x2 w10  ⟨by omega, by omega⟩ ⟨by omega, by omega⟩ (show a1 ≤ x2 ∧ x2 ≤ (h 0 1) ∧ 0 ≤ w10 ∧ w10 ≤ 44 by omega) rfl)
            · refine ja_iconst dtokenNameB_65 ?_
              refine ja_goto 73 dtokenNameB_66 rfl ?_
              exact ja_wk (fun q hq => by simp only [List.mem_cons, List.not_mem_nil, or_false] at hq; rcases hq with rfl | rfl | rfl <;> rfl) ((ih (0) (by omega)).2 x2 0  ⟨by omega, by omega⟩ ⟨by decide, by decide⟩ (show a1 ≤ x2 ∧ x2 ≤ (h 0 1) ∧ 0 ≤ 0 ∧ 0 ≤ 44 by omega) rfl)
          · refine ja_iload_n dtokenNameB_26 rfl rfl ?_
            refine ja_iload_n dtokenNameB_27 rfl rfl ?_
            refine ja_isub dtokenNameB_28 ?_
            refine ja_bipush 7 dtokenNameB_29 rfl ?_
            refine ja_icmp_ge 49 dtokenNameB_31 rfl ⟨by omega, by omega⟩ ⟨by decide, by decide⟩ (fun c31 => ?_) (fun c31 => ?_)
            · refine mk_546 dtokenNameB_49 ?_
              refine ja_lstore_n dtokenNameB_52 rfl (by decide) (L2 := [(3, (1, (-1))), (0, (2, ((0 : Nat) : Int))), (1, (0, a1)), (2, (0, x2))]) rfl ?_
              refine ja_iinc dtokenNameB_53 rfl (by decide) (L2 := [(2, (0, (x2 + 1))), (3, (1, (-1))), (0, (2, ((0 : Nat) : Int))), (1, (0, a1))]) rfl ?_
              refine ja_goto 4 dtokenNameB_56 rfl ?_
              exact ja_wk (fun q hq => by simp only [List.mem_cons, List.not_mem_nil, or_false] at hq; rcases hq with rfl | rfl | rfl | rfl <;> rfl) ((ih ((5002 - (x2 + 1)).toNat) (by omega)).1 (x2 + 1) (-1)  ⟨by omega, by omega⟩ (show a1 ≤ (x2 + 1) ∧ (x2 + 1) ≤ (h 0 1) by omega) rfl)
            · refine ja_lload_n dtokenNameB_34 rfl rfl ?_
              refine ja_bipush 8 dtokenNameB_35 rfl ?_
              refine mo_lshl dtokenNameB_37 (fun v11 => ?_)
              refine ja_aload_n dtokenNameB_38 rfl rfl ?_
              refine fa_text dtokenNameB_39 ?_
              refine ja_iload_n dtokenNameB_42 rfl rfl ?_
              refine il_text (v := h 1 (x2).toNat) rfl ⟨by omega, by omega⟩ dtokenNameB_43 ?_
              have f12 := gC_text g (x2).toNat
              refine mo_i2l dtokenNameB_44 (fun v13 => ?_)
              refine mo_lor dtokenNameB_45 (fun v14 => ?_)
              refine ja_goto 52 dtokenNameB_46 rfl ?_
              refine ja_lstore_n dtokenNameB_52 rfl (by decide) (L2 := [(3, (1, v14)), (0, (2, ((0 : Nat) : Int))), (1, (0, a1)), (2, (0, x2))]) rfl ?_
              refine ja_iinc dtokenNameB_53 rfl (by decide) (L2 := [(2, (0, (x2 + 1))), (3, (1, v14)), (0, (2, ((0 : Nat) : Int))), (1, (0, a1))]) rfl ?_
              refine ja_goto 4 dtokenNameB_56 rfl ?_
              exact ja_wk (fun q hq => by simp only [List.mem_cons, List.not_mem_nil, or_false] at hq; rcases hq with rfl | rfl | rfl | rfl <;> rfl) ((ih ((5002 - (x2 + 1)).toNat) (by omega)).1 (x2 + 1) v14  ⟨by omega, by omega⟩ (show a1 ≤ (x2 + 1) ∧ (x2 + 1) ≤ (h 0 1) by omega) rfl)
      · intro x2 s0 qx2 qs0 iv hm
        subst hm
        refine ja_istore dtokenNameB_73 (by decide) (L2 := [(5, (0, s0)), (0, (2, ((0 : Nat) : Int))), (1, (0, a1)), (2, (0, x2))]) rfl ?_
        refine ja_aload_n dtokenNameB_75 rfl rfl ?_
        refine fa_kinds dtokenNameB_76 ?_
        refine ja_aload_n dtokenNameB_79 rfl rfl ?_
        refine fg_tokens (v := h 0 6) rfl dtokenNameB_80 ?_
        have f15 := gF_tokens g
        refine ja_iload dtokenNameB_83 rfl ?_
        refine ja_if_le 92 dtokenNameB_85 rfl ⟨by omega, by omega⟩ (fun c85 => ?_) (fun c85 => ?_)
        · refine ja_iload_n dtokenNameB_92 rfl rfl ?_
          refine ja_iload_n dtokenNameB_93 rfl rfl ?_
          refine ja_isub dtokenNameB_94 ?_
          refine ja_bipush 12 dtokenNameB_95 rfl ?_
          refine ja_icmp_le 105 dtokenNameB_97 rfl ⟨by omega, by omega⟩ ⟨by decide, by decide⟩ (fun c97 => ?_) (fun c97 => ?_)
          · refine ja_iconst dtokenNameB_105 ?_
            have g16 := gW_kinds g (h 0 6).toNat (x := 2) ⟨by decide, by decide⟩
            refine is_kinds ⟨by omega, by omega⟩ dtokenNameB_106 ?_
            refine ja_aload_n dtokenNameB_107 rfl rfl ?_
            refine fa_ends dtokenNameB_108 ?_
            refine ja_aload_n dtokenNameB_111 rfl rfl ?_
            refine fg_tokens (v := h 0 6) rfl dtokenNameB_112 ?_
            refine ja_iload_n dtokenNameB_115 rfl rfl ?_
            have g17 := gW_ends g16 (h 0 6).toNat (x := x2) ⟨by omega, by omega⟩
            refine is_ends ⟨by omega, by omega⟩ dtokenNameB_116 ?_
            refine ja_aload_n dtokenNameB_117 rfl rfl ?_
            refine fa_worths dtokenNameB_118 ?_
            refine ja_aload_n dtokenNameB_121 rfl rfl ?_
            refine fg_tokens (v := h 0 6) rfl dtokenNameB_122 ?_
            refine ja_iload dtokenNameB_125 rfl ?_
            refine ja_if_le 135 dtokenNameB_127 rfl ⟨by omega, by omega⟩ (fun c127 => ?_) (fun c127 => ?_)
            · refine ja_aload_n dtokenNameB_135 rfl rfl ?_
              refine ja_iload_n dtokenNameB_136 rfl rfl ?_
              refine ja_iload_n dtokenNameB_137 rfl rfl ?_
              refine t_nameOf (by decide) (show (2 : Nat) ≤ 8 by decide) dtokenNameB_138 g17 ⟨by omega, by omega⟩ ⟨by omega, by omega⟩ (show 0 ≤ a1 ∧ a1 ≤ x2 ∧ x2 ≤ 5001 by omega) ?_
              intro w18 k138_0
              replace k138_0 : 0 ≤ w18 ∧ w18 ≤ 901 := k138_0
              have g19 := gW_worths g17 (h 0 6).toNat (x := w18) ⟨by omega, by omega⟩
              refine is_worths ⟨by omega, by omega⟩ dtokenNameB_141 ?_
              refine ja_return dtokenNameB_142 rfl ?_
              exact k1 (ja_up (ja_up (ja_up h 2 ((h 0 6).toNat) 2) 4 ((h 0 6).toNat) x2) 5 ((h 0 6).toNat) w18) (⟨(by (repeat (first | exact ag_refl | refine ag_up rfl ?_))), (by simp [ja_up]), (by simp [ja_up])⟩) g19
            · refine ja_iload dtokenNameB_130 rfl ?_
              refine ja_goto 141 dtokenNameB_132 rfl ?_
              have g20 := gW_worths g17 (h 0 6).toNat (x := s0) ⟨by omega, by omega⟩
              refine is_worths ⟨by omega, by omega⟩ dtokenNameB_141 ?_
              refine ja_return dtokenNameB_142 rfl ?_
              exact k1 (ja_up (ja_up (ja_up h 2 ((h 0 6).toNat) 2) 4 ((h 0 6).toNat) x2) 5 ((h 0 6).toNat) s0) (⟨(by (repeat (first | exact ag_refl | refine ag_up rfl ?_))), (by simp [ja_up]), (by simp [ja_up])⟩) g20
          · refine ja_bipush 7 dtokenNameB_100 rfl ?_
            refine ja_goto 106 dtokenNameB_102 rfl ?_
            have g21 := gW_kinds g (h 0 6).toNat (x := 7) ⟨by decide, by decide⟩
            refine is_kinds ⟨by omega, by omega⟩ dtokenNameB_106 ?_
            refine ja_aload_n dtokenNameB_107 rfl rfl ?_
            refine fa_ends dtokenNameB_108 ?_
            refine ja_aload_n dtokenNameB_111 rfl rfl ?_
            refine fg_tokens (v := h 0 6) rfl dtokenNameB_112 ?_
            refine ja_iload_n dtokenNameB_115 rfl rfl ?_
            have g22 := gW_ends g21 (h 0 6).toNat (x := x2) ⟨by omega, by omega⟩
            refine is_ends ⟨by omega, by omega⟩ dtokenNameB_116 ?_
            refine ja_aload_n dtokenNameB_117 rfl rfl ?_
            refine fa_worths dtokenNameB_118 ?_
            refine ja_aload_n dtokenNameB_121 rfl rfl ?_
            refine fg_tokens (v := h 0 6) rfl dtokenNameB_122 ?_
            refine ja_iload dtokenNameB_125 rfl ?_
            refine ja_if_le 135 dtokenNameB_127 rfl ⟨by omega, by omega⟩ (fun c127 => ?_) (fun c127 => ?_)
            · refine ja_aload_n dtokenNameB_135 rfl rfl ?_
              refine ja_iload_n dtokenNameB_136 rfl rfl ?_
              refine ja_iload_n dtokenNameB_137 rfl rfl ?_
              refine t_nameOf (by decide) (show (2 : Nat) ≤ 8 by decide) dtokenNameB_138 g22 ⟨by omega, by omega⟩ ⟨by omega, by omega⟩ (show 0 ≤ a1 ∧ a1 ≤ x2 ∧ x2 ≤ 5001 by omega) ?_
              intro w23 k138_0
              replace k138_0 : 0 ≤ w23 ∧ w23 ≤ 901 := k138_0
              have g24 := gW_worths g22 (h 0 6).toNat (x := w23) ⟨by omega, by omega⟩
              refine is_worths ⟨by omega, by omega⟩ dtokenNameB_141 ?_
              refine ja_return dtokenNameB_142 rfl ?_
              exact k1 (ja_up (ja_up (ja_up h 2 ((h 0 6).toNat) 7) 4 ((h 0 6).toNat) x2) 5 ((h 0 6).toNat) w23) (⟨(by (repeat (first | exact ag_refl | refine ag_up rfl ?_))), (by simp [ja_up]), (by simp [ja_up])⟩) g24
            · refine ja_iload dtokenNameB_130 rfl ?_
              refine ja_goto 141 dtokenNameB_132 rfl ?_
              have g25 := gW_worths g22 (h 0 6).toNat (x := s0) ⟨by omega, by omega⟩
              refine is_worths ⟨by omega, by omega⟩ dtokenNameB_141 ?_
              refine ja_return dtokenNameB_142 rfl ?_
              exact k1 (ja_up (ja_up (ja_up h 2 ((h 0 6).toNat) 7) 4 ((h 0 6).toNat) x2) 5 ((h 0 6).toNat) s0) (⟨(by (repeat (first | exact ag_refl | refine ag_up rfl ?_))), (by simp [ja_up]), (by simp [ja_up])⟩) g25
        · refine ja_iconst dtokenNameB_88 ?_
          refine ja_goto 106 dtokenNameB_89 rfl ?_
          have g26 := gW_kinds g (h 0 6).toNat (x := 1) ⟨by decide, by decide⟩
          refine is_kinds ⟨by omega, by omega⟩ dtokenNameB_106 ?_
          refine ja_aload_n dtokenNameB_107 rfl rfl ?_
          refine fa_ends dtokenNameB_108 ?_
          refine ja_aload_n dtokenNameB_111 rfl rfl ?_
          refine fg_tokens (v := h 0 6) rfl dtokenNameB_112 ?_
          refine ja_iload_n dtokenNameB_115 rfl rfl ?_
          have g27 := gW_ends g26 (h 0 6).toNat (x := x2) ⟨by omega, by omega⟩
          refine is_ends ⟨by omega, by omega⟩ dtokenNameB_116 ?_
          refine ja_aload_n dtokenNameB_117 rfl rfl ?_
          refine fa_worths dtokenNameB_118 ?_
          refine ja_aload_n dtokenNameB_121 rfl rfl ?_
          refine fg_tokens (v := h 0 6) rfl dtokenNameB_122 ?_
          refine ja_iload dtokenNameB_125 rfl ?_
          refine ja_if_le 135 dtokenNameB_127 rfl ⟨by omega, by omega⟩ (fun c127 => ?_) (fun c127 => ?_)
          · refine ja_aload_n dtokenNameB_135 rfl rfl ?_
            refine ja_iload_n dtokenNameB_136 rfl rfl ?_
            refine ja_iload_n dtokenNameB_137 rfl rfl ?_
            refine t_nameOf (by decide) (show (2 : Nat) ≤ 8 by decide) dtokenNameB_138 g27 ⟨by omega, by omega⟩ ⟨by omega, by omega⟩ (show 0 ≤ a1 ∧ a1 ≤ x2 ∧ x2 ≤ 5001 by omega) ?_
            intro w28 k138_0
            replace k138_0 : 0 ≤ w28 ∧ w28 ≤ 901 := k138_0
            have g29 := gW_worths g27 (h 0 6).toNat (x := w28) ⟨by omega, by omega⟩
            refine is_worths ⟨by omega, by omega⟩ dtokenNameB_141 ?_
            refine ja_return dtokenNameB_142 rfl ?_
            exact k1 (ja_up (ja_up (ja_up h 2 ((h 0 6).toNat) 1) 4 ((h 0 6).toNat) x2) 5 ((h 0 6).toNat) w28) (⟨(by (repeat (first | exact ag_refl | refine ag_up rfl ?_))), (by simp [ja_up]), (by simp [ja_up])⟩) g29
          · refine ja_iload dtokenNameB_130 rfl ?_
            refine ja_goto 141 dtokenNameB_132 rfl ?_
            have g30 := gW_worths g27 (h 0 6).toNat (x := s0) ⟨by omega, by omega⟩
            refine is_worths ⟨by omega, by omega⟩ dtokenNameB_141 ?_
            refine ja_return dtokenNameB_142 rfl ?_
            exact k1 (ja_up (ja_up (ja_up h 2 ((h 0 6).toNat) 1) 4 ((h 0 6).toNat) x2) 5 ((h 0 6).toNat) s0) (⟨(by (repeat (first | exact ag_refl | refine ag_up rfl ?_))), (by simp [ja_up]), (by simp [ja_up])⟩) g30
  refine ja_iload_n dtokenNameB_0 rfl rfl ?_
  refine ja_istore_n dtokenNameB_1 rfl (by decide) (L2 := [(2, (0, a1)), (0, (2, ((0 : Nat) : Int))), (1, (0, a1))]) rfl ?_
  refine ja_lconst 0 dtokenNameB_2 rfl ?_
  refine ja_lstore_n dtokenNameB_3 rfl (by decide) (L2 := [(3, (1, 0)), (2, (0, a1)), (0, (2, ((0 : Nat) : Int))), (1, (0, a1))]) rfl ?_
  exact ja_wk (fun q hq => by simp only [List.mem_cons, List.not_mem_nil, or_false] at hq; rcases hq with rfl | rfl | rfl | rfl <;> rfl) ((CUT _).1 a1 0  ⟨by omega, by omega⟩ (show a1 ≤ a1 ∧ a1 ≤ (h 0 1) by omega) rfl)
theorem t_tokenName2 {a1 : Int} {d nL pc : Nat} {cc : ByteArray} {rt : Option FieldType} {L : List (Nat × ja_V)} {S : List ja_V} {h : ja_H} {Q : Option ja_V → ja_H → Prop} (hdd : 3 < d) (hwd : ja_wd S ≤ 8) (hd : decode cc pc = .ok (.invokevirtual 561, 3)) (g : mo_G mo_zr h) (r1 : -2147483648 ≤ a1 ∧ a1 ≤ 2147483647) (p1 : 0 ≤ a1 ∧ a1 < (h 0 1)) (p2 : (h 0 6) ≤ 900) (k1 : ∀ (h' : ja_H), (mo_ag FSX h h' ∧ (h' 0 6) = (h 0 6) ∧ (h' 0 1) = (h 0 1)) → mo_G mo_zr h' → mJ l D cA ad d cc nL rt (pc + 3) L S h' Q) : mJ l D cA ad d cc nL rt pc L ((0, a1) :: (2, ((0 : Nat) : Int)) :: S) h Q :=
  mc_tokenName hdd hwd hd (s_tokenName2 g r1 p1 p2 k1)
end
theorem dtokenWholeB_0 : decode cX12_tokenWhole 0 = .ok (.iload_n 1, 1) := by decide +kernel
theorem dtokenWholeB_1 : decode cX12_tokenWhole 1 = .ok (.istore_n 2, 1) := by decide +kernel
theorem dtokenWholeB_2 : decode cX12_tokenWhole 2 = .ok (.iconst 0, 1) := by decide +kernel
theorem dtokenWholeB_3 : decode cX12_tokenWhole 3 = .ok (.istore_n 3, 1) := by decide +kernel
theorem dtokenWholeB_4 : decode cX12_tokenWhole 4 = .ok (.aload_n 0, 1) := by decide +kernel
theorem dtokenWholeB_5 : decode cX12_tokenWhole 5 = .ok (.iload_n 2, 1) := by decide +kernel
theorem dtokenWholeB_6 : decode cX12_tokenWhole 6 = .ok (.invokevirtual 437, 3) := by decide +kernel
theorem dtokenWholeB_9 : decode cX12_tokenWhole 9 = .ok (.invokestatic 543, 3) := by decide +kernel
theorem dtokenWholeB_12 : decode cX12_tokenWhole 12 = .ok (.ifCond .eq 36, 3) := by decide +kernel
theorem dtokenWholeB_15 : decode cX12_tokenWhole 15 = .ok (.iload_n 2, 1) := by decide +kernel
theorem dtokenWholeB_16 : decode cX12_tokenWhole 16 = .ok (.iload_n 1, 1) := by decide +kernel
theorem dtokenWholeB_17 : decode cX12_tokenWhole 17 = .ok (.isub, 1) := by decide +kernel
theorem dtokenWholeB_18 : decode cX12_tokenWhole 18 = .ok (.bipush 9, 2) := by decide +kernel
theorem dtokenWholeB_20 : decode cX12_tokenWhole 20 = .ok (.if_icmp .ge 20, 3) := by decide +kernel
theorem dtokenWholeB_23 : decode cX12_tokenWhole 23 = .ok (.bipush 10, 2) := by decide +kernel
theorem dtokenWholeB_25 : decode cX12_tokenWhole 25 = .ok (.iload_n 3, 1) := by decide +kernel
theorem dtokenWholeB_26 : decode cX12_tokenWhole 26 = .ok (.imul, 1) := by decide +kernel
theorem dtokenWholeB_27 : decode cX12_tokenWhole 27 = .ok (.aload_n 0, 1) := by decide +kernel
theorem dtokenWholeB_28 : decode cX12_tokenWhole 28 = .ok (.getfield 7, 3) := by decide +kernel
theorem dtokenWholeB_31 : decode cX12_tokenWhole 31 = .ok (.iload_n 2, 1) := by decide +kernel
theorem dtokenWholeB_32 : decode cX12_tokenWhole 32 = .ok (.iaload, 1) := by decide +kernel
theorem dtokenWholeB_33 : decode cX12_tokenWhole 33 = .ok (.iadd, 1) := by decide +kernel
theorem dtokenWholeB_34 : decode cX12_tokenWhole 34 = .ok (.bipush 48, 2) := by decide +kernel
theorem dtokenWholeB_36 : decode cX12_tokenWhole 36 = .ok (.isub, 1) := by decide +kernel
theorem dtokenWholeB_37 : decode cX12_tokenWhole 37 = .ok (.goto 4, 3) := by decide +kernel
theorem dtokenWholeB_40 : decode cX12_tokenWhole 40 = .ok (.iload_n 3, 1) := by decide +kernel
theorem dtokenWholeB_41 : decode cX12_tokenWhole 41 = .ok (.istore_n 3, 1) := by decide +kernel
theorem dtokenWholeB_42 : decode cX12_tokenWhole 42 = .ok (.iinc 2 1, 3) := by decide +kernel
theorem dtokenWholeB_45 : decode cX12_tokenWhole 45 = .ok (.goto (-41), 3) := by decide +kernel
theorem dtokenWholeB_48 : decode cX12_tokenWhole 48 = .ok (.aload_n 0, 1) := by decide +kernel
theorem dtokenWholeB_49 : decode cX12_tokenWhole 49 = .ok (.getfield 13, 3) := by decide +kernel
theorem dtokenWholeB_52 : decode cX12_tokenWhole 52 = .ok (.aload_n 0, 1) := by decide +kernel
theorem dtokenWholeB_53 : decode cX12_tokenWhole 53 = .ok (.getfield 536, 3) := by decide +kernel
theorem dtokenWholeB_56 : decode cX12_tokenWhole 56 = .ok (.iload_n 2, 1) := by decide +kernel
theorem dtokenWholeB_57 : decode cX12_tokenWhole 57 = .ok (.iload_n 1, 1) := by decide +kernel
theorem dtokenWholeB_58 : decode cX12_tokenWhole 58 = .ok (.isub, 1) := by decide +kernel
theorem dtokenWholeB_59 : decode cX12_tokenWhole 59 = .ok (.bipush 9, 2) := by decide +kernel
theorem dtokenWholeB_61 : decode cX12_tokenWhole 61 = .ok (.if_icmp .gt 14, 3) := by decide +kernel
theorem dtokenWholeB_64 : decode cX12_tokenWhole 64 = .ok (.aload_n 0, 1) := by decide +kernel
theorem dtokenWholeB_65 : decode cX12_tokenWhole 65 = .ok (.iload_n 2, 1) := by decide +kernel
theorem dtokenWholeB_66 : decode cX12_tokenWhole 66 = .ok (.invokevirtual 437, 3) := by decide +kernel
theorem dtokenWholeB_69 : decode cX12_tokenWhole 69 = .ok (.invokestatic 539, 3) := by decide +kernel
theorem dtokenWholeB_72 : decode cX12_tokenWhole 72 = .ok (.ifCond .eq 8, 3) := by decide +kernel
theorem dtokenWholeB_75 : decode cX12_tokenWhole 75 = .ok (.bipush 7, 2) := by decide +kernel
theorem dtokenWholeB_77 : decode cX12_tokenWhole 77 = .ok (.goto 4, 3) := by decide +kernel
theorem dtokenWholeB_80 : decode cX12_tokenWhole 80 = .ok (.iconst 3, 1) := by decide +kernel
theorem dtokenWholeB_81 : decode cX12_tokenWhole 81 = .ok (.iastore, 1) := by decide +kernel
theorem dtokenWholeB_82 : decode cX12_tokenWhole 82 = .ok (.aload_n 0, 1) := by decide +kernel
theorem dtokenWholeB_83 : decode cX12_tokenWhole 83 = .ok (.getfield 19, 3) := by decide +kernel
theorem dtokenWholeB_86 : decode cX12_tokenWhole 86 = .ok (.aload_n 0, 1) := by decide +kernel
theorem dtokenWholeB_87 : decode cX12_tokenWhole 87 = .ok (.getfield 536, 3) := by decide +kernel
theorem dtokenWholeB_90 : decode cX12_tokenWhole 90 = .ok (.iload_n 2, 1) := by decide +kernel
theorem dtokenWholeB_91 : decode cX12_tokenWhole 91 = .ok (.iastore, 1) := by decide +kernel
theorem dtokenWholeB_92 : decode cX12_tokenWhole 92 = .ok (.aload_n 0, 1) := by decide +kernel
theorem dtokenWholeB_93 : decode cX12_tokenWhole 93 = .ok (.getfield 22, 3) := by decide +kernel
theorem dtokenWholeB_96 : decode cX12_tokenWhole 96 = .ok (.aload_n 0, 1) := by decide +kernel
theorem dtokenWholeB_97 : decode cX12_tokenWhole 97 = .ok (.getfield 536, 3) := by decide +kernel
theorem dtokenWholeB_100 : decode cX12_tokenWhole 100 = .ok (.iload_n 3, 1) := by decide +kernel
theorem dtokenWholeB_101 : decode cX12_tokenWhole 101 = .ok (.iastore, 1) := by decide +kernel
theorem dtokenWholeB_102 : decode cX12_tokenWhole 102 = .ok (.return_, 1) := by decide +kernel
section
variable {l : Launch} {D : va_G} {cA : Nat → ClassId} {ad : Nat → Nat}
theorem s_tokenWhole2 {a1 : Int} {h : ja_H} {Q : Option ja_V → ja_H → Prop} (g : mo_G mo_zr h) (r1 : -2147483648 ≤ a1 ∧ a1 ≤ 2147483647) (p1 : 0 ≤ a1 ∧ a1 < (h 0 1)) (p2 : (h 0 6) ≤ 900) (k1 : ∀ (h' : ja_H), (mo_ag FSX h h' ∧ (h' 0 6) = (h 0 6) ∧ (h' 0 1) = (h 0 1)) → mo_G mo_zr h' → Q none h') : mM_tokenWhole l D cA ad a1 h Q := by
  show mJ l D cA ad 2 cX12_tokenWhole 4 none 0 [(0, (2, ((0 : Nat) : Int))), (1, (0, a1))] [] h Q
  have kn_size := gF_size g
  have CUT : ∀ n : Nat, (∀ (x2 x3 : Int), (-2147483648 ≤ x2 ∧ x2 ≤ 2147483647) → (-2147483648 ≤ x3 ∧ x3 ≤ 2147483647) → (a1 ≤ x2 ∧ x2 ≤ (h 0 1)) → ((5002 - x2).toNat) = n → mJ l D cA ad 2 cX12_tokenWhole 4 none 4 [(0, (2, ((0 : Nat) : Int))), (1, (0, a1)), (2, (0, x2)), (3, (0, x3))] [] h Q) := by
    intro n
    induction n using Nat.strongRecOn with
    | _ n ih =>
      skip
      · intro x2 x3 qx2 qx3 iv hm
        subst hm
        refine ja_aload_n dtokenWholeB_4 rfl rfl ?_
        refine ja_iload_n dtokenWholeB_5 rfl rfl ?_
        refine t_byteAt (by decide) (show (0 : Nat) ≤ 8 by decide) dtokenWholeB_6 g ⟨by omega, by omega⟩ (show 0 ≤ x2 by omega) ?_
        intro w1 k6_0
        refine t_isDigit (by decide) (show (0 : Nat) ≤ 8 by decide) dtokenWholeB_9 g ⟨by omega, by omega⟩ ?_
        intro w2 k9_0
        refine ja_if_eq 48 dtokenWholeB_12 rfl ⟨by omega, by omega⟩ (fun c12 => ?_) (fun c12 => ?_)
        · refine ja_aload_n dtokenWholeB_48 rfl rfl ?_
          refine fa_kinds dtokenWholeB_49 ?_
          refine ja_aload_n dtokenWholeB_52 rfl rfl ?_
          refine fg_tokens (v := h 0 6) rfl dtokenWholeB_53 ?_
          have f3 := gF_tokens g
          refine ja_iload_n dtokenWholeB_56 rfl rfl ?_
          refine ja_iload_n dtokenWholeB_57 rfl rfl ?_
          refine ja_isub dtokenWholeB_58 ?_
          refine ja_bipush 9 dtokenWholeB_59 rfl ?_
          refine ja_icmp_gt 75 dtokenWholeB_61 rfl ⟨by omega, by omega⟩ ⟨by decide, by decide⟩ (fun c61 => ?_) (fun c61 => ?_)
          · refine ja_bipush 7 dtokenWholeB_75 rfl ?_
            refine ja_goto 81 dtokenWholeB_77 rfl ?_
            have g4 := gW_kinds g (h 0 6).toNat (x := 7) ⟨by decide, by decide⟩
            refine is_kinds ⟨by omega, by omega⟩ dtokenWholeB_81 ?_
            refine ja_aload_n dtokenWholeB_82 rfl rfl ?_
            refine fa_ends dtokenWholeB_83 ?_
            refine ja_aload_n dtokenWholeB_86 rfl rfl ?_
            refine fg_tokens (v := h 0 6) rfl dtokenWholeB_87 ?_
            refine ja_iload_n dtokenWholeB_90 rfl rfl ?_
            have g5 := gW_ends g4 (h 0 6).toNat (x := x2) ⟨by omega, by omega⟩
            refine is_ends ⟨by omega, by omega⟩ dtokenWholeB_91 ?_
            refine ja_aload_n dtokenWholeB_92 rfl rfl ?_
            refine fa_worths dtokenWholeB_93 ?_
            refine ja_aload_n dtokenWholeB_96 rfl rfl ?_
            refine fg_tokens (v := h 0 6) rfl dtokenWholeB_97 ?_
            refine ja_iload_n dtokenWholeB_100 rfl rfl ?_
            have g6 := gW_worths g5 (h 0 6).toNat (x := x3) ⟨by omega, by omega⟩
            refine is_worths ⟨by omega, by omega⟩ dtokenWholeB_101 ?_
            refine ja_return dtokenWholeB_102 rfl ?_
            exact k1 (ja_up (ja_up (ja_up h 2 ((h 0 6).toNat) 7) 4 ((h 0 6).toNat) x2) 5 ((h 0 6).toNat) x3) (⟨(by (repeat (first | exact ag_refl | refine ag_up rfl ?_))), (by simp [ja_up]), (by simp [ja_up])⟩) g6
          · refine ja_aload_n dtokenWholeB_64 rfl rfl ?_
            refine ja_iload_n dtokenWholeB_65 rfl rfl ?_
            refine t_byteAt (by decide) (show (2 : Nat) ≤ 8 by decide) dtokenWholeB_66 g ⟨by omega, by omega⟩ (show 0 ≤ x2 by omega) ?_
            intro w7 k66_0
            refine t_isLetter (by decide) (show (2 : Nat) ≤ 8 by decide) dtokenWholeB_69 g ⟨by omega, by omega⟩ ?_
            intro w8 k69_0
            refine ja_if_eq 80 dtokenWholeB_72 rfl ⟨by omega, by omega⟩ (fun c72 => ?_) (fun c72 => ?_)
            · refine ja_iconst dtokenWholeB_80 ?_
              have g9 := gW_kinds g (h 0 6).toNat (x := 3) ⟨by decide, by decide⟩
              refine is_kinds ⟨by omega, by omega⟩ dtokenWholeB_81 ?_
              refine ja_aload_n dtokenWholeB_82 rfl rfl ?_
              refine fa_ends dtokenWholeB_83 ?_
              refine ja_aload_n dtokenWholeB_86 rfl rfl ?_
              refine fg_tokens (v := h 0 6) rfl dtokenWholeB_87 ?_
              refine ja_iload_n dtokenWholeB_90 rfl rfl ?_
              have g10 := gW_ends g9 (h 0 6).toNat (x := x2) ⟨by omega, by omega⟩
              refine is_ends ⟨by omega, by omega⟩ dtokenWholeB_91 ?_
              refine ja_aload_n dtokenWholeB_92 rfl rfl ?_
              refine fa_worths dtokenWholeB_93 ?_
              refine ja_aload_n dtokenWholeB_96 rfl rfl ?_
              refine fg_tokens (v := h 0 6) rfl dtokenWholeB_97 ?_
              refine ja_iload_n dtokenWholeB_100 rfl rfl ?_
              have g11 := gW_worths g10 (h 0 6).toNat (x := x3) ⟨by omega, by omega⟩
              refine is_worths ⟨by omega, by omega⟩ dtokenWholeB_101 ?_
              refine ja_return dtokenWholeB_102 rfl ?_
              exact k1 (ja_up (ja_up (ja_up h 2 ((h 0 6).toNat) 3) 4 ((h 0 6).toNat) x2) 5 ((h 0 6).toNat) x3) (⟨(by (repeat (first | exact ag_refl | refine ag_up rfl ?_))), (by simp [ja_up]), (by simp [ja_up])⟩) g11
            · refine ja_bipush 7 dtokenWholeB_75 rfl ?_
              refine ja_goto 81 dtokenWholeB_77 rfl ?_
              have g12 := gW_kinds g (h 0 6).toNat (x := 7) ⟨by decide, by decide⟩
              refine is_kinds ⟨by omega, by omega⟩ dtokenWholeB_81 ?_
              refine ja_aload_n dtokenWholeB_82 rfl rfl ?_
              refine fa_ends dtokenWholeB_83 ?_
              refine ja_aload_n dtokenWholeB_86 rfl rfl ?_
              refine fg_tokens (v := h 0 6) rfl dtokenWholeB_87 ?_
              refine ja_iload_n dtokenWholeB_90 rfl rfl ?_
              have g13 := gW_ends g12 (h 0 6).toNat (x := x2) ⟨by omega, by omega⟩
              refine is_ends ⟨by omega, by omega⟩ dtokenWholeB_91 ?_
              refine ja_aload_n dtokenWholeB_92 rfl rfl ?_
              refine fa_worths dtokenWholeB_93 ?_
              refine ja_aload_n dtokenWholeB_96 rfl rfl ?_
              refine fg_tokens (v := h 0 6) rfl dtokenWholeB_97 ?_
              refine ja_iload_n dtokenWholeB_100 rfl rfl ?_
              have g14 := gW_worths g13 (h 0 6).toNat (x := x3) ⟨by omega, by omega⟩
              refine is_worths ⟨by omega, by omega⟩ dtokenWholeB_101 ?_
              refine ja_return dtokenWholeB_102 rfl ?_
              exact k1 (ja_up (ja_up (ja_up h 2 ((h 0 6).toNat) 7) 4 ((h 0 6).toNat) x2) 5 ((h 0 6).toNat) x3) (⟨(by (repeat (first | exact ag_refl | refine ag_up rfl ?_))), (by simp [ja_up]), (by simp [ja_up])⟩) g14
        · refine ja_iload_n dtokenWholeB_15 rfl rfl ?_
          refine ja_iload_n dtokenWholeB_16 rfl rfl ?_
          refine ja_isub dtokenWholeB_17 ?_
          refine ja_bipush 9 dtokenWholeB_18 rfl ?_
          refine ja_icmp_ge 40 dtokenWholeB_20 rfl ⟨by omega, by omega⟩ ⟨by decide, by decide⟩ (fun c20 => ?_) (fun c20 => ?_)
          · refine ja_iload_n dtokenWholeB_40 rfl rfl ?_
            refine ja_istore_n dtokenWholeB_41 rfl (by decide) (L2 := [(3, (0, x3)), (0, (2, ((0 : Nat) : Int))), (1, (0, a1)), (2, (0, x2))]) rfl ?_
            refine ja_iinc dtokenWholeB_42 rfl (by decide) (L2 := [(2, (0, (x2 + 1))), (3, (0, x3)), (0, (2, ((0 : Nat) : Int))), (1, (0, a1))]) rfl ?_
            refine ja_goto 4 dtokenWholeB_45 rfl ?_
            exact ja_wk (fun q hq => by simp only [List.mem_cons, List.not_mem_nil, or_false] at hq; rcases hq with rfl | rfl | rfl | rfl <;> rfl) ((ih ((5002 - (x2 + 1)).toNat) (by omega)) (x2 + 1) x3  ⟨by omega, by omega⟩ ⟨by omega, by omega⟩ (show a1 ≤ (x2 + 1) ∧ (x2 + 1) ≤ (h 0 1) by omega) rfl)
          · refine ja_bipush 10 dtokenWholeB_23 rfl ?_
            refine ja_iload_n dtokenWholeB_25 rfl rfl ?_
            refine mo_himul dtokenWholeB_26 (fun v15 rv15 => ?_)
            refine ja_aload_n dtokenWholeB_27 rfl rfl ?_
            refine fa_text dtokenWholeB_28 ?_
            refine ja_iload_n dtokenWholeB_31 rfl rfl ?_
            refine il_text (v := h 1 (x2).toNat) rfl ⟨by omega, by omega⟩ dtokenWholeB_32 ?_
            have f16 := gC_text g (x2).toNat
            refine mo_hiadd dtokenWholeB_33 (fun v17 rv17 => ?_)
            refine ja_bipush 48 dtokenWholeB_34 rfl ?_
            refine mo_hisub dtokenWholeB_36 (fun v18 rv18 => ?_)
            refine ja_goto 41 dtokenWholeB_37 rfl ?_
            refine ja_istore_n dtokenWholeB_41 rfl (by decide) (L2 := [(3, (0, v18)), (0, (2, ((0 : Nat) : Int))), (1, (0, a1)), (2, (0, x2))]) rfl ?_
            refine ja_iinc dtokenWholeB_42 rfl (by decide) (L2 := [(2, (0, (x2 + 1))), (3, (0, v18)), (0, (2, ((0 : Nat) : Int))), (1, (0, a1))]) rfl ?_
            refine ja_goto 4 dtokenWholeB_45 rfl ?_
            exact ja_wk (fun q hq => by simp only [List.mem_cons, List.not_mem_nil, or_false] at hq; rcases hq with rfl | rfl | rfl | rfl <;> rfl) ((ih ((5002 - (x2 + 1)).toNat) (by omega)) (x2 + 1) v18  ⟨by omega, by omega⟩ ⟨by omega, by omega⟩ (show a1 ≤ (x2 + 1) ∧ (x2 + 1) ≤ (h 0 1) by omega) rfl)
  refine ja_iload_n dtokenWholeB_0 rfl rfl ?_
  refine ja_istore_n dtokenWholeB_1 rfl (by decide) (L2 := [(2, (0, a1)), (0, (2, ((0 : Nat) : Int))), (1, (0, a1))]) rfl ?_
  refine ja_iconst dtokenWholeB_2 ?_
  refine ja_istore_n dtokenWholeB_3 rfl (by decide) (L2 := [(3, (0, 0)), (2, (0, a1)), (0, (2, ((0 : Nat) : Int))), (1, (0, a1))]) rfl ?_
  exact ja_wk (fun q hq => by simp only [List.mem_cons, List.not_mem_nil, or_false] at hq; rcases hq with rfl | rfl | rfl | rfl <;> rfl) ((CUT _) a1 0  ⟨by omega, by omega⟩ ⟨by decide, by decide⟩ (show a1 ≤ a1 ∧ a1 ≤ (h 0 1) by omega) rfl)
theorem t_tokenWhole2 {a1 : Int} {d nL pc : Nat} {cc : ByteArray} {rt : Option FieldType} {L : List (Nat × ja_V)} {S : List ja_V} {h : ja_H} {Q : Option ja_V → ja_H → Prop} (hdd : 2 < d) (hwd : ja_wd S ≤ 8) (hd : decode cc pc = .ok (.invokevirtual 565, 3)) (g : mo_G mo_zr h) (r1 : -2147483648 ≤ a1 ∧ a1 ≤ 2147483647) (p1 : 0 ≤ a1 ∧ a1 < (h 0 1)) (p2 : (h 0 6) ≤ 900) (k1 : ∀ (h' : ja_H), (mo_ag FSX h h' ∧ (h' 0 6) = (h 0 6) ∧ (h' 0 1) = (h 0 1)) → mo_G mo_zr h' → mJ l D cA ad d cc nL rt (pc + 3) L S h' Q) : mJ l D cA ad d cc nL rt pc L ((0, a1) :: (2, ((0 : Nat) : Int)) :: S) h Q :=
  mc_tokenWhole hdd hwd hd (s_tokenWhole2 g r1 p1 p2 k1)
end
theorem dtokenPatternB_0 : decode cX12_tokenPattern 0 = .ok (.aload_n 0, 1) := by decide +kernel
theorem dtokenPatternB_1 : decode cX12_tokenPattern 1 = .ok (.iload_n 1, 1) := by decide +kernel
theorem dtokenPatternB_2 : decode cX12_tokenPattern 2 = .ok (.iconst 1, 1) := by decide +kernel
theorem dtokenPatternB_3 : decode cX12_tokenPattern 3 = .ok (.iadd, 1) := by decide +kernel
theorem dtokenPatternB_4 : decode cX12_tokenPattern 4 = .ok (.invokevirtual 555, 3) := by decide +kernel
theorem dtokenPatternB_7 : decode cX12_tokenPattern 7 = .ok (.istore_n 2, 1) := by decide +kernel
theorem dtokenPatternB_8 : decode cX12_tokenPattern 8 = .ok (.iload_n 2, 1) := by decide +kernel
theorem dtokenPatternB_9 : decode cX12_tokenPattern 9 = .ok (.iload_n 1, 1) := by decide +kernel
theorem dtokenPatternB_10 : decode cX12_tokenPattern 10 = .ok (.iconst 1, 1) := by decide +kernel
theorem dtokenPatternB_11 : decode cX12_tokenPattern 11 = .ok (.iadd, 1) := by decide +kernel
theorem dtokenPatternB_12 : decode cX12_tokenPattern 12 = .ok (.if_icmp .le 15, 3) := by decide +kernel
theorem dtokenPatternB_15 : decode cX12_tokenPattern 15 = .ok (.iload_n 2, 1) := by decide +kernel
theorem dtokenPatternB_16 : decode cX12_tokenPattern 16 = .ok (.iload_n 1, 1) := by decide +kernel
theorem dtokenPatternB_17 : decode cX12_tokenPattern 17 = .ok (.isub, 1) := by decide +kernel
theorem dtokenPatternB_18 : decode cX12_tokenPattern 18 = .ok (.bipush 13, 2) := by decide +kernel
theorem dtokenPatternB_20 : decode cX12_tokenPattern 20 = .ok (.if_icmp .gt 7, 3) := by decide +kernel
theorem dtokenPatternB_23 : decode cX12_tokenPattern 23 = .ok (.iconst 1, 1) := by decide +kernel
theorem dtokenPatternB_24 : decode cX12_tokenPattern 24 = .ok (.goto 4, 3) := by decide +kernel
theorem dtokenPatternB_27 : decode cX12_tokenPattern 27 = .ok (.iconst 0, 1) := by decide +kernel
theorem dtokenPatternB_28 : decode cX12_tokenPattern 28 = .ok (.istore_n 3, 1) := by decide +kernel
theorem dtokenPatternB_29 : decode cX12_tokenPattern 29 = .ok (.aload_n 0, 1) := by decide +kernel
theorem dtokenPatternB_30 : decode cX12_tokenPattern 30 = .ok (.iload_n 2, 1) := by decide +kernel
theorem dtokenPatternB_31 : decode cX12_tokenPattern 31 = .ok (.invokevirtual 437, 3) := by decide +kernel
theorem dtokenPatternB_34 : decode cX12_tokenPattern 34 = .ok (.bipush 43, 2) := by decide +kernel
theorem dtokenPatternB_36 : decode cX12_tokenPattern 36 = .ok (.if_icmp .ne 9, 3) := by decide +kernel
theorem dtokenPatternB_39 : decode cX12_tokenPattern 39 = .ok (.iload_n 2, 1) := by decide +kernel
theorem dtokenPatternB_40 : decode cX12_tokenPattern 40 = .ok (.iconst 1, 1) := by decide +kernel
theorem dtokenPatternB_41 : decode cX12_tokenPattern 41 = .ok (.iadd, 1) := by decide +kernel
theorem dtokenPatternB_42 : decode cX12_tokenPattern 42 = .ok (.goto 4, 3) := by decide +kernel
theorem dtokenPatternB_45 : decode cX12_tokenPattern 45 = .ok (.iload_n 2, 1) := by decide +kernel
theorem dtokenPatternB_46 : decode cX12_tokenPattern 46 = .ok (.istore_n 2, 1) := by decide +kernel
theorem dtokenPatternB_47 : decode cX12_tokenPattern 47 = .ok (.aload_n 0, 1) := by decide +kernel
theorem dtokenPatternB_48 : decode cX12_tokenPattern 48 = .ok (.iload_n 2, 1) := by decide +kernel
theorem dtokenPatternB_49 : decode cX12_tokenPattern 49 = .ok (.invokevirtual 437, 3) := by decide +kernel
theorem dtokenPatternB_52 : decode cX12_tokenPattern 52 = .ok (.bipush 46, 2) := by decide +kernel
theorem dtokenPatternB_54 : decode cX12_tokenPattern 54 = .ok (.if_icmp .ne 40, 3) := by decide +kernel
theorem dtokenPatternB_57 : decode cX12_tokenPattern 57 = .ok (.iload_n 2, 1) := by decide +kernel
theorem dtokenPatternB_58 : decode cX12_tokenPattern 58 = .ok (.iconst 1, 1) := by decide +kernel
theorem dtokenPatternB_59 : decode cX12_tokenPattern 59 = .ok (.iadd, 1) := by decide +kernel
theorem dtokenPatternB_60 : decode cX12_tokenPattern 60 = .ok (.istore 4, 2) := by decide +kernel
theorem dtokenPatternB_62 : decode cX12_tokenPattern 62 = .ok (.aload_n 0, 1) := by decide +kernel
theorem dtokenPatternB_63 : decode cX12_tokenPattern 63 = .ok (.iload 4, 2) := by decide +kernel
theorem dtokenPatternB_65 : decode cX12_tokenPattern 65 = .ok (.invokevirtual 555, 3) := by decide +kernel
theorem dtokenPatternB_68 : decode cX12_tokenPattern 68 = .ok (.istore_n 2, 1) := by decide +kernel
theorem dtokenPatternB_69 : decode cX12_tokenPattern 69 = .ok (.iload_n 3, 1) := by decide +kernel
theorem dtokenPatternB_70 : decode cX12_tokenPattern 70 = .ok (.ifCond .eq 22, 3) := by decide +kernel
theorem dtokenPatternB_73 : decode cX12_tokenPattern 73 = .ok (.iload_n 2, 1) := by decide +kernel
theorem dtokenPatternB_74 : decode cX12_tokenPattern 74 = .ok (.iload 4, 2) := by decide +kernel
theorem dtokenPatternB_76 : decode cX12_tokenPattern 76 = .ok (.if_icmp .le 16, 3) := by decide +kernel
theorem dtokenPatternB_79 : decode cX12_tokenPattern 79 = .ok (.iload_n 2, 1) := by decide +kernel
theorem dtokenPatternB_80 : decode cX12_tokenPattern 80 = .ok (.iload 4, 2) := by decide +kernel
theorem dtokenPatternB_82 : decode cX12_tokenPattern 82 = .ok (.isub, 1) := by decide +kernel
theorem dtokenPatternB_83 : decode cX12_tokenPattern 83 = .ok (.bipush 12, 2) := by decide +kernel
theorem dtokenPatternB_85 : decode cX12_tokenPattern 85 = .ok (.if_icmp .gt 7, 3) := by decide +kernel
theorem dtokenPatternB_88 : decode cX12_tokenPattern 88 = .ok (.iconst 1, 1) := by decide +kernel
theorem dtokenPatternB_89 : decode cX12_tokenPattern 89 = .ok (.goto 4, 3) := by decide +kernel
theorem dtokenPatternB_92 : decode cX12_tokenPattern 92 = .ok (.iconst 0, 1) := by decide +kernel
theorem dtokenPatternB_93 : decode cX12_tokenPattern 93 = .ok (.istore_n 3, 1) := by decide +kernel
theorem dtokenPatternB_94 : decode cX12_tokenPattern 94 = .ok (.iload_n 3, 1) := by decide +kernel
theorem dtokenPatternB_95 : decode cX12_tokenPattern 95 = .ok (.ifCond .eq 17, 3) := by decide +kernel
theorem dtokenPatternB_98 : decode cX12_tokenPattern 98 = .ok (.aload_n 0, 1) := by decide +kernel
theorem dtokenPatternB_99 : decode cX12_tokenPattern 99 = .ok (.iload_n 2, 1) := by decide +kernel
theorem dtokenPatternB_100 : decode cX12_tokenPattern 100 = .ok (.invokevirtual 437, 3) := by decide +kernel
theorem dtokenPatternB_103 : decode cX12_tokenPattern 103 = .ok (.bipush 34, 2) := by decide +kernel
theorem dtokenPatternB_105 : decode cX12_tokenPattern 105 = .ok (.if_icmp .ne 7, 3) := by decide +kernel
theorem dtokenPatternB_108 : decode cX12_tokenPattern 108 = .ok (.iconst 1, 1) := by decide +kernel
theorem dtokenPatternB_109 : decode cX12_tokenPattern 109 = .ok (.goto 4, 3) := by decide +kernel
theorem dtokenPatternB_112 : decode cX12_tokenPattern 112 = .ok (.iconst 0, 1) := by decide +kernel
theorem dtokenPatternB_113 : decode cX12_tokenPattern 113 = .ok (.istore_n 3, 1) := by decide +kernel
theorem dtokenPatternB_114 : decode cX12_tokenPattern 114 = .ok (.aload_n 0, 1) := by decide +kernel
theorem dtokenPatternB_115 : decode cX12_tokenPattern 115 = .ok (.getfield 13, 3) := by decide +kernel
theorem dtokenPatternB_118 : decode cX12_tokenPattern 118 = .ok (.aload_n 0, 1) := by decide +kernel
theorem dtokenPatternB_119 : decode cX12_tokenPattern 119 = .ok (.getfield 536, 3) := by decide +kernel
theorem dtokenPatternB_122 : decode cX12_tokenPattern 122 = .ok (.iload_n 3, 1) := by decide +kernel
theorem dtokenPatternB_123 : decode cX12_tokenPattern 123 = .ok (.ifCond .eq 7, 3) := by decide +kernel
theorem dtokenPatternB_126 : decode cX12_tokenPattern 126 = .ok (.iconst 4, 1) := by decide +kernel
theorem dtokenPatternB_127 : decode cX12_tokenPattern 127 = .ok (.goto 5, 3) := by decide +kernel
theorem dtokenPatternB_130 : decode cX12_tokenPattern 130 = .ok (.bipush 7, 2) := by decide +kernel
theorem dtokenPatternB_132 : decode cX12_tokenPattern 132 = .ok (.iastore, 1) := by decide +kernel
theorem dtokenPatternB_133 : decode cX12_tokenPattern 133 = .ok (.aload_n 0, 1) := by decide +kernel
theorem dtokenPatternB_134 : decode cX12_tokenPattern 134 = .ok (.getfield 19, 3) := by decide +kernel
theorem dtokenPatternB_137 : decode cX12_tokenPattern 137 = .ok (.aload_n 0, 1) := by decide +kernel
theorem dtokenPatternB_138 : decode cX12_tokenPattern 138 = .ok (.getfield 536, 3) := by decide +kernel
theorem dtokenPatternB_141 : decode cX12_tokenPattern 141 = .ok (.iload_n 2, 1) := by decide +kernel
theorem dtokenPatternB_142 : decode cX12_tokenPattern 142 = .ok (.iconst 1, 1) := by decide +kernel
theorem dtokenPatternB_143 : decode cX12_tokenPattern 143 = .ok (.iadd, 1) := by decide +kernel
theorem dtokenPatternB_144 : decode cX12_tokenPattern 144 = .ok (.iastore, 1) := by decide +kernel
theorem dtokenPatternB_145 : decode cX12_tokenPattern 145 = .ok (.aload_n 0, 1) := by decide +kernel
theorem dtokenPatternB_146 : decode cX12_tokenPattern 146 = .ok (.getfield 22, 3) := by decide +kernel
theorem dtokenPatternB_149 : decode cX12_tokenPattern 149 = .ok (.aload_n 0, 1) := by decide +kernel
theorem dtokenPatternB_150 : decode cX12_tokenPattern 150 = .ok (.getfield 536, 3) := by decide +kernel
theorem dtokenPatternB_153 : decode cX12_tokenPattern 153 = .ok (.iconst 0, 1) := by decide +kernel
theorem dtokenPatternB_154 : decode cX12_tokenPattern 154 = .ok (.iastore, 1) := by decide +kernel
theorem dtokenPatternB_155 : decode cX12_tokenPattern 155 = .ok (.return_, 1) := by decide +kernel
section
variable {l : Launch} {D : va_G} {cA : Nat → ClassId} {ad : Nat → Nat}
theorem s_tokenPattern2 {a1 : Int} {h : ja_H} {Q : Option ja_V → ja_H → Prop} (g : mo_G mo_zr h) (r1 : -2147483648 ≤ a1 ∧ a1 ≤ 2147483647) (p1 : 0 ≤ a1 ∧ a1 < (h 0 1)) (p2 : (h 0 6) ≤ 900) (k1 : ∀ (h' : ja_H), (mo_ag FSX h h' ∧ (h' 0 6) = (h 0 6) ∧ (h' 0 1) = (h 0 1)) → mo_G mo_zr h' → Q none h') : mM_tokenPattern l D cA ad a1 h Q := by
  show mJ l D cA ad 3 cX12_tokenPattern 5 none 0 [(0, (2, ((0 : Nat) : Int))), (1, (0, a1))] [] h Q
  have kn_size := gF_size g
  have CUT : ∀ n : Nat, (∀ (x3 s0 : Int), (-2147483648 ≤ x3 ∧ x3 ≤ 2147483647) → (-2147483648 ≤ s0 ∧ s0 ≤ 2147483647) → (a1 + 1 ≤ s0 ∧ s0 ≤ (h 0 1) ∧ 0 ≤ x3 ∧ x3 ≤ 1) → (3) = n → mJ l D cA ad 3 cX12_tokenPattern 5 none 46 [(0, (2, ((0 : Nat) : Int))), (3, (0, x3))] [(0, s0)] h Q) ∧ (∀ (x2 x3 : Int), (-2147483648 ≤ x2 ∧ x2 ≤ 2147483647) → (-2147483648 ≤ x3 ∧ x3 ≤ 2147483647) → (a1 + 1 ≤ x2 ∧ x2 ≤ (h 0 1) ∧ 0 ≤ x3 ∧ x3 ≤ 1) → (2) = n → mJ l D cA ad 3 cX12_tokenPattern 5 none 94 [(0, (2, ((0 : Nat) : Int))), (2, (0, x2)), (3, (0, x3))] [] h Q) := by
    intro n
    induction n using Nat.strongRecOn with
    | _ n ih =>
      refine ⟨?_, ?_⟩
      · intro x3 s0 qx3 qs0 iv hm
        subst hm
        refine ja_istore_n dtokenPatternB_46 rfl (by decide) (L2 := [(2, (0, s0)), (0, (2, ((0 : Nat) : Int))), (3, (0, x3))]) rfl ?_
        refine ja_aload_n dtokenPatternB_47 rfl rfl ?_
        refine ja_iload_n dtokenPatternB_48 rfl rfl ?_
        refine t_byteAt (by decide) (show (0 : Nat) ≤ 8 by decide) dtokenPatternB_49 g ⟨by omega, by omega⟩ (show 0 ≤ s0 by omega) ?_
        intro w1 k49_0
        refine ja_bipush 46 dtokenPatternB_52 rfl ?_
        refine ja_icmp_ne 94 dtokenPatternB_54 rfl ⟨by omega, by omega⟩ ⟨by decide, by decide⟩ (fun c54 => ?_) (fun c54 => ?_)
        · exact ja_wk (fun q hq => by simp only [List.mem_cons, List.not_mem_nil, or_false] at hq; rcases hq with rfl | rfl | rfl <;> rfl) ((ih (2) (by omega)).2 s0 x3  ⟨by omega, by omega⟩ ⟨by omega, by omega⟩ (show a1 + 1 ≤ s0 ∧ s0 ≤ (h 0 1) ∧ 0 ≤ x3 ∧ x3 ≤ 1 by omega) rfl)
        · refine ja_iload_n dtokenPatternB_57 rfl rfl ?_
          refine ja_iconst dtokenPatternB_58 ?_
          refine ja_iadd dtokenPatternB_59 ?_
          refine ja_istore dtokenPatternB_60 (by decide) (L2 := [(4, (0, (s0 + 1))), (2, (0, s0)), (0, (2, ((0 : Nat) : Int))), (3, (0, x3))]) rfl ?_
          refine ja_aload_n dtokenPatternB_62 rfl rfl ?_
          refine ja_iload dtokenPatternB_63 rfl ?_
          refine t_partEnd (by decide) (show (0 : Nat) ≤ 8 by decide) dtokenPatternB_65 g ⟨by omega, by omega⟩ (show 0 ≤ (s0 + 1) by omega) ?_
          intro w2 k65_0
          refine ja_istore_n dtokenPatternB_68 rfl (by decide) (L2 := [(2, (0, w2)), (4, (0, (s0 + 1))), (0, (2, ((0 : Nat) : Int))), (3, (0, x3))]) rfl ?_
          refine ja_iload_n dtokenPatternB_69 rfl rfl ?_
          refine ja_if_eq 92 dtokenPatternB_70 rfl ⟨by omega, by omega⟩ (fun c70 => ?_) (fun c70 => ?_)
          · refine ja_iconst dtokenPatternB_92 ?_
            refine ja_istore_n dtokenPatternB_93 rfl (by decide) (L2 := [(3, (0, 0)), (2, (0, w2)), (4, (0, (s0 + 1))), (0, (2, ((0 : Nat) : Int)))]) rfl ?_
            exact ja_wk (fun q hq => by simp only [List.mem_cons, List.not_mem_nil, or_false] at hq; rcases hq with rfl | rfl | rfl <;> rfl) ((ih (2) (by omega)).2 w2 0  ⟨by omega, by omega⟩ ⟨by decide, by decide⟩ (show a1 + 1 ≤ w2 ∧ w2 ≤ (h 0 1) ∧ 0 ≤ 0 ∧ 0 ≤ 1 by omega) rfl)
          · refine ja_iload_n dtokenPatternB_73 rfl rfl ?_
            refine ja_iload dtokenPatternB_74 rfl ?_
            refine ja_icmp_le 92 dtokenPatternB_76 rfl ⟨by omega, by omega⟩ ⟨by omega, by omega⟩ (fun c76 => ?_) (fun c76 => ?_)
            · refine ja_iconst dtokenPatternB_92 ?_
              refine ja_istore_n dtokenPatternB_93 rfl (by decide) (L2 := [(3, (0, 0)), (2, (0, w2)), (4, (0, (s0 + 1))), (0, (2, ((0 : Nat) : Int)))]) rfl ?_
              exact ja_wk (fun q hq => by simp only [List.mem_cons, List.not_mem_nil, or_false] at hq; rcases hq with rfl | rfl | rfl <;> rfl) ((ih (2) (by omega)).2 w2 0  ⟨by omega, by omega⟩ ⟨by decide, by decide⟩ (show a1 + 1 ≤ w2 ∧ w2 ≤ (h 0 1) ∧ 0 ≤ 0 ∧ 0 ≤ 1 by omega) rfl)
            · refine ja_iload_n dtokenPatternB_79 rfl rfl ?_
              refine ja_iload dtokenPatternB_80 rfl ?_
              refine ja_isub dtokenPatternB_82 ?_
              refine ja_bipush 12 dtokenPatternB_83 rfl ?_
              refine ja_icmp_gt 92 dtokenPatternB_85 rfl ⟨by omega, by omega⟩ ⟨by decide, by decide⟩ (fun c85 => ?_) (fun c85 => ?_)
              · refine ja_iconst dtokenPatternB_92 ?_
                refine ja_istore_n dtokenPatternB_93 rfl (by decide) (L2 := [(3, (0, 0)), (2, (0, w2)), (4, (0, (s0 + 1))), (0, (2, ((0 : Nat) : Int)))]) rfl ?_
                exact ja_wk (fun q hq => by simp only [List.mem_cons, List.not_mem_nil, or_false] at hq; rcases hq with rfl | rfl | rfl <;> rfl) ((ih (2) (by omega)).2 w2 0  ⟨by omega, by omega⟩ ⟨by decide, by decide⟩ (show a1 + 1 ≤ w2 ∧ w2 ≤ (h 0 1) ∧ 0 ≤ 0 ∧ 0 ≤ 1 by omega) rfl)
              · refine ja_iconst dtokenPatternB_88 ?_
                refine ja_goto 93 dtokenPatternB_89 rfl ?_
                refine ja_istore_n dtokenPatternB_93 rfl (by decide) (L2 := [(3, (0, 1)), (2, (0, w2)), (4, (0, (s0 + 1))), (0, (2, ((0 : Nat) : Int)))]) rfl ?_
                exact ja_wk (fun q hq => by simp only [List.mem_cons, List.not_mem_nil, or_false] at hq; rcases hq with rfl | rfl | rfl <;> rfl) ((ih (2) (by omega)).2 w2 1  ⟨by omega, by omega⟩ ⟨by decide, by decide⟩ (show a1 + 1 ≤ w2 ∧ w2 ≤ (h 0 1) ∧ 0 ≤ 1 ∧ 1 ≤ 1 by omega) rfl)
      · intro x2 x3 qx2 qx3 iv hm
        subst hm
        refine ja_iload_n dtokenPatternB_94 rfl rfl ?_
        refine ja_if_eq 112 dtokenPatternB_95 rfl ⟨by omega, by omega⟩ (fun c95 => ?_) (fun c95 => ?_)
        · refine ja_iconst dtokenPatternB_112 ?_
          refine ja_istore_n dtokenPatternB_113 rfl (by decide) (L2 := [(3, (0, 0)), (0, (2, ((0 : Nat) : Int))), (2, (0, x2))]) rfl ?_
          refine ja_aload_n dtokenPatternB_114 rfl rfl ?_
          refine fa_kinds dtokenPatternB_115 ?_
          refine ja_aload_n dtokenPatternB_118 rfl rfl ?_
          refine fg_tokens (v := h 0 6) rfl dtokenPatternB_119 ?_
          have f3 := gF_tokens g
          refine ja_iload_n dtokenPatternB_122 rfl rfl ?_
          refine ja_if_eq 130 dtokenPatternB_123 rfl ⟨by decide, by decide⟩ (fun c123 => ?_) (fun c123 => absurd c123 (by omega))
          refine ja_bipush 7 dtokenPatternB_130 rfl ?_
          have g4 := gW_kinds g (h 0 6).toNat (x := 7) ⟨by decide, by decide⟩
          refine is_kinds ⟨by omega, by omega⟩ dtokenPatternB_132 ?_
          refine ja_aload_n dtokenPatternB_133 rfl rfl ?_
          refine fa_ends dtokenPatternB_134 ?_
          refine ja_aload_n dtokenPatternB_137 rfl rfl ?_
          refine fg_tokens (v := h 0 6) rfl dtokenPatternB_138 ?_
          refine ja_iload_n dtokenPatternB_141 rfl rfl ?_
          refine ja_iconst dtokenPatternB_142 ?_
          refine ja_iadd dtokenPatternB_143 ?_
          have g5 := gW_ends g4 (h 0 6).toNat (x := x2 + 1) ⟨by omega, by omega⟩
          refine is_ends ⟨by omega, by omega⟩ dtokenPatternB_144 ?_
          refine ja_aload_n dtokenPatternB_145 rfl rfl ?_
          refine fa_worths dtokenPatternB_146 ?_
          refine ja_aload_n dtokenPatternB_149 rfl rfl ?_
          refine fg_tokens (v := h 0 6) rfl dtokenPatternB_150 ?_
          refine ja_iconst dtokenPatternB_153 ?_
          have g6 := gW_worths g5 (h 0 6).toNat (x := 0) ⟨by decide, by decide⟩
          refine is_worths ⟨by omega, by omega⟩ dtokenPatternB_154 ?_
          refine ja_return dtokenPatternB_155 rfl ?_
          exact k1 (ja_up (ja_up (ja_up h 2 ((h 0 6).toNat) 7) 4 ((h 0 6).toNat) (x2 + 1)) 5 ((h 0 6).toNat) 0) (⟨(by (repeat (first | exact ag_refl | refine ag_up rfl ?_))), (by simp [ja_up]), (by simp [ja_up])⟩) g6
        · refine ja_aload_n dtokenPatternB_98 rfl rfl ?_
          refine ja_iload_n dtokenPatternB_99 rfl rfl ?_
          refine t_byteAt (by decide) (show (0 : Nat) ≤ 8 by decide) dtokenPatternB_100 g ⟨by omega, by omega⟩ (show 0 ≤ x2 by omega) ?_
          intro w7 k100_0
          refine ja_bipush 34 dtokenPatternB_103 rfl ?_
          refine ja_icmp_ne 112 dtokenPatternB_105 rfl ⟨by omega, by omega⟩ ⟨by decide, by decide⟩ (fun c105 => ?_) (fun c105 => ?_)
          · refine ja_iconst dtokenPatternB_112 ?_
            refine ja_istore_n dtokenPatternB_113 rfl (by decide) (L2 := [(3, (0, 0)), (0, (2, ((0 : Nat) : Int))), (2, (0, x2))]) rfl ?_
            refine ja_aload_n dtokenPatternB_114 rfl rfl ?_
            refine fa_kinds dtokenPatternB_115 ?_
            refine ja_aload_n dtokenPatternB_118 rfl rfl ?_
            refine fg_tokens (v := h 0 6) rfl dtokenPatternB_119 ?_
            have f8 := gF_tokens g
            refine ja_iload_n dtokenPatternB_122 rfl rfl ?_
            refine ja_if_eq 130 dtokenPatternB_123 rfl ⟨by decide, by decide⟩ (fun c123 => ?_) (fun c123 => absurd c123 (by omega))
            refine ja_bipush 7 dtokenPatternB_130 rfl ?_
            have g9 := gW_kinds g (h 0 6).toNat (x := 7) ⟨by decide, by decide⟩
            refine is_kinds ⟨by omega, by omega⟩ dtokenPatternB_132 ?_
            refine ja_aload_n dtokenPatternB_133 rfl rfl ?_
            refine fa_ends dtokenPatternB_134 ?_
            refine ja_aload_n dtokenPatternB_137 rfl rfl ?_
            refine fg_tokens (v := h 0 6) rfl dtokenPatternB_138 ?_
            refine ja_iload_n dtokenPatternB_141 rfl rfl ?_
            refine ja_iconst dtokenPatternB_142 ?_
            refine ja_iadd dtokenPatternB_143 ?_
            have g10 := gW_ends g9 (h 0 6).toNat (x := x2 + 1) ⟨by omega, by omega⟩
            refine is_ends ⟨by omega, by omega⟩ dtokenPatternB_144 ?_
            refine ja_aload_n dtokenPatternB_145 rfl rfl ?_
            refine fa_worths dtokenPatternB_146 ?_
            refine ja_aload_n dtokenPatternB_149 rfl rfl ?_
            refine fg_tokens (v := h 0 6) rfl dtokenPatternB_150 ?_
            refine ja_iconst dtokenPatternB_153 ?_
            have g11 := gW_worths g10 (h 0 6).toNat (x := 0) ⟨by decide, by decide⟩
            refine is_worths ⟨by omega, by omega⟩ dtokenPatternB_154 ?_
            refine ja_return dtokenPatternB_155 rfl ?_
            exact k1 (ja_up (ja_up (ja_up h 2 ((h 0 6).toNat) 7) 4 ((h 0 6).toNat) (x2 + 1)) 5 ((h 0 6).toNat) 0) (⟨(by (repeat (first | exact ag_refl | refine ag_up rfl ?_))), (by simp [ja_up]), (by simp [ja_up])⟩) g11
          · refine ja_iconst dtokenPatternB_108 ?_
            refine ja_goto 113 dtokenPatternB_109 rfl ?_
            refine ja_istore_n dtokenPatternB_113 rfl (by decide) (L2 := [(3, (0, 1)), (0, (2, ((0 : Nat) : Int))), (2, (0, x2))]) rfl ?_
            refine ja_aload_n dtokenPatternB_114 rfl rfl ?_
            refine fa_kinds dtokenPatternB_115 ?_
            refine ja_aload_n dtokenPatternB_118 rfl rfl ?_
            refine fg_tokens (v := h 0 6) rfl dtokenPatternB_119 ?_
            have f12 := gF_tokens g
            refine ja_iload_n dtokenPatternB_122 rfl rfl ?_
            refine ja_if_eq 130 dtokenPatternB_123 rfl ⟨by decide, by decide⟩ (fun c123 => absurd c123 (by omega)) (fun c123 => ?_)
            refine ja_iconst dtokenPatternB_126 ?_
            refine ja_goto 132 dtokenPatternB_127 rfl ?_
            have g13 := gW_kinds g (h 0 6).toNat (x := 4) ⟨by decide, by decide⟩
            refine is_kinds ⟨by omega, by omega⟩ dtokenPatternB_132 ?_
            refine ja_aload_n dtokenPatternB_133 rfl rfl ?_
            refine fa_ends dtokenPatternB_134 ?_
            refine ja_aload_n dtokenPatternB_137 rfl rfl ?_
            refine fg_tokens (v := h 0 6) rfl dtokenPatternB_138 ?_
            refine ja_iload_n dtokenPatternB_141 rfl rfl ?_
            refine ja_iconst dtokenPatternB_142 ?_
            refine ja_iadd dtokenPatternB_143 ?_
            have g14 := gW_ends g13 (h 0 6).toNat (x := x2 + 1) ⟨by omega, by omega⟩
            refine is_ends ⟨by omega, by omega⟩ dtokenPatternB_144 ?_
            refine ja_aload_n dtokenPatternB_145 rfl rfl ?_
            refine fa_worths dtokenPatternB_146 ?_
            refine ja_aload_n dtokenPatternB_149 rfl rfl ?_
            refine fg_tokens (v := h 0 6) rfl dtokenPatternB_150 ?_
            refine ja_iconst dtokenPatternB_153 ?_
            have g15 := gW_worths g14 (h 0 6).toNat (x := 0) ⟨by decide, by decide⟩
            refine is_worths ⟨by omega, by omega⟩ dtokenPatternB_154 ?_
            refine ja_return dtokenPatternB_155 rfl ?_
            exact k1 (ja_up (ja_up (ja_up h 2 ((h 0 6).toNat) 4) 4 ((h 0 6).toNat) (x2 + 1)) 5 ((h 0 6).toNat) 0) (⟨(by (repeat (first | exact ag_refl | refine ag_up rfl ?_))), (by simp [ja_up]), (by simp [ja_up])⟩) g15
  refine ja_aload_n dtokenPatternB_0 rfl rfl ?_
  refine ja_iload_n dtokenPatternB_1 rfl rfl ?_
  refine ja_iconst dtokenPatternB_2 ?_
  refine ja_iadd dtokenPatternB_3 ?_
  refine t_partEnd (by decide) (show (0 : Nat) ≤ 8 by decide) dtokenPatternB_4 g ⟨by omega, by omega⟩ (show 0 ≤ (a1 + 1) by omega) ?_
  intro w16 k4_0
  refine ja_istore_n dtokenPatternB_7 rfl (by decide) (L2 := [(2, (0, w16)), (0, (2, ((0 : Nat) : Int))), (1, (0, a1))]) rfl ?_
  refine ja_iload_n dtokenPatternB_8 rfl rfl ?_
  refine ja_iload_n dtokenPatternB_9 rfl rfl ?_
  refine ja_iconst dtokenPatternB_10 ?_
  refine ja_iadd dtokenPatternB_11 ?_
  refine ja_icmp_le 27 dtokenPatternB_12 rfl ⟨by omega, by omega⟩ ⟨by omega, by omega⟩ (fun c12 => ?_) (fun c12 => ?_)
  · refine ja_iconst dtokenPatternB_27 ?_
    refine ja_istore_n dtokenPatternB_28 rfl (by decide) (L2 := [(3, (0, 0)), (2, (0, w16)), (0, (2, ((0 : Nat) : Int))), (1, (0, a1))]) rfl ?_
    refine ja_aload_n dtokenPatternB_29 rfl rfl ?_
    refine ja_iload_n dtokenPatternB_30 rfl rfl ?_
    refine t_byteAt (by decide) (show (0 : Nat) ≤ 8 by decide) dtokenPatternB_31 g ⟨by omega, by omega⟩ (show 0 ≤ w16 by omega) ?_
    intro w17 k31_0
    refine ja_bipush 43 dtokenPatternB_34 rfl ?_
    refine ja_icmp_ne 45 dtokenPatternB_36 rfl ⟨by omega, by omega⟩ ⟨by decide, by decide⟩ (fun c36 => ?_) (fun c36 => ?_)
    · refine ja_iload_n dtokenPatternB_45 rfl rfl ?_
      exact ja_wk (fun q hq => by simp only [List.mem_cons, List.not_mem_nil, or_false] at hq; rcases hq with rfl | rfl <;> rfl) ((CUT _).1 0 w16  ⟨by decide, by decide⟩ ⟨by omega, by omega⟩ (show a1 + 1 ≤ w16 ∧ w16 ≤ (h 0 1) ∧ 0 ≤ 0 ∧ 0 ≤ 1 by omega) rfl)
    · refine ja_iload_n dtokenPatternB_39 rfl rfl ?_
      refine ja_iconst dtokenPatternB_40 ?_
      refine ja_iadd dtokenPatternB_41 ?_
      refine ja_goto 46 dtokenPatternB_42 rfl ?_
      exact ja_wk (fun q hq => by simp only [List.mem_cons, List.not_mem_nil, or_false] at hq; rcases hq with rfl | rfl <;> rfl) ((CUT _).1 0 (w16 + 1)  ⟨by decide, by decide⟩ ⟨by omega, by omega⟩ (show a1 + 1 ≤ (w16 + 1) ∧ (w16 + 1) ≤ (h 0 1) ∧ 0 ≤ 0 ∧ 0 ≤ 1 by omega) rfl)
  · refine ja_iload_n dtokenPatternB_15 rfl rfl ?_
    refine ja_iload_n dtokenPatternB_16 rfl rfl ?_
    refine ja_isub dtokenPatternB_17 ?_
    refine ja_bipush 13 dtokenPatternB_18 rfl ?_
    refine ja_icmp_gt 27 dtokenPatternB_20 rfl ⟨by omega, by omega⟩ ⟨by decide, by decide⟩ (fun c20 => ?_) (fun c20 => ?_)
    · refine ja_iconst dtokenPatternB_27 ?_
      refine ja_istore_n dtokenPatternB_28 rfl (by decide) (L2 := [(3, (0, 0)), (2, (0, w16)), (0, (2, ((0 : Nat) : Int))), (1, (0, a1))]) rfl ?_
      refine ja_aload_n dtokenPatternB_29 rfl rfl ?_
      refine ja_iload_n dtokenPatternB_30 rfl rfl ?_
      refine t_byteAt (by decide) (show (0 : Nat) ≤ 8 by decide) dtokenPatternB_31 g ⟨by omega, by omega⟩ (show 0 ≤ w16 by omega) ?_
      intro w18 k31_0
      refine ja_bipush 43 dtokenPatternB_34 rfl ?_
      refine ja_icmp_ne 45 dtokenPatternB_36 rfl ⟨by omega, by omega⟩ ⟨by decide, by decide⟩ (fun c36 => ?_) (fun c36 => ?_)
      · refine ja_iload_n dtokenPatternB_45 rfl rfl ?_
        exact ja_wk (fun q hq => by simp only [List.mem_cons, List.not_mem_nil, or_false] at hq; rcases hq with rfl | rfl <;> rfl) ((CUT _).1 0 w16  ⟨by decide, by decide⟩ ⟨by omega, by omega⟩ (show a1 + 1 ≤ w16 ∧ w16 ≤ (h 0 1) ∧ 0 ≤ 0 ∧ 0 ≤ 1 by omega) rfl)
      · refine ja_iload_n dtokenPatternB_39 rfl rfl ?_
        refine ja_iconst dtokenPatternB_40 ?_
        refine ja_iadd dtokenPatternB_41 ?_
        refine ja_goto 46 dtokenPatternB_42 rfl ?_
        exact ja_wk (fun q hq => by simp only [List.mem_cons, List.not_mem_nil, or_false] at hq; rcases hq with rfl | rfl <;> rfl) ((CUT _).1 0 (w16 + 1)  ⟨by decide, by decide⟩ ⟨by omega, by omega⟩ (show a1 + 1 ≤ (w16 + 1) ∧ (w16 + 1) ≤ (h 0 1) ∧ 0 ≤ 0 ∧ 0 ≤ 1 by omega) rfl)
    · refine ja_iconst dtokenPatternB_23 ?_
      refine ja_goto 28 dtokenPatternB_24 rfl ?_
      refine ja_istore_n dtokenPatternB_28 rfl (by decide) (L2 := [(3, (0, 1)), (2, (0, w16)), (0, (2, ((0 : Nat) : Int))), (1, (0, a1))]) rfl ?_
      refine ja_aload_n dtokenPatternB_29 rfl rfl ?_
      refine ja_iload_n dtokenPatternB_30 rfl rfl ?_
      refine t_byteAt (by decide) (show (0 : Nat) ≤ 8 by decide) dtokenPatternB_31 g ⟨by omega, by omega⟩ (show 0 ≤ w16 by omega) ?_
      intro w19 k31_0
      refine ja_bipush 43 dtokenPatternB_34 rfl ?_
      refine ja_icmp_ne 45 dtokenPatternB_36 rfl ⟨by omega, by omega⟩ ⟨by decide, by decide⟩ (fun c36 => ?_) (fun c36 => ?_)
      · refine ja_iload_n dtokenPatternB_45 rfl rfl ?_
        exact ja_wk (fun q hq => by simp only [List.mem_cons, List.not_mem_nil, or_false] at hq; rcases hq with rfl | rfl <;> rfl) ((CUT _).1 1 w16  ⟨by decide, by decide⟩ ⟨by omega, by omega⟩ (show a1 + 1 ≤ w16 ∧ w16 ≤ (h 0 1) ∧ 0 ≤ 1 ∧ 1 ≤ 1 by omega) rfl)
      · refine ja_iload_n dtokenPatternB_39 rfl rfl ?_
        refine ja_iconst dtokenPatternB_40 ?_
        refine ja_iadd dtokenPatternB_41 ?_
        refine ja_goto 46 dtokenPatternB_42 rfl ?_
        exact ja_wk (fun q hq => by simp only [List.mem_cons, List.not_mem_nil, or_false] at hq; rcases hq with rfl | rfl <;> rfl) ((CUT _).1 1 (w16 + 1)  ⟨by decide, by decide⟩ ⟨by omega, by omega⟩ (show a1 + 1 ≤ (w16 + 1) ∧ (w16 + 1) ≤ (h 0 1) ∧ 0 ≤ 1 ∧ 1 ≤ 1 by omega) rfl)
theorem t_tokenPattern2 {a1 : Int} {d nL pc : Nat} {cc : ByteArray} {rt : Option FieldType} {L : List (Nat × ja_V)} {S : List ja_V} {h : ja_H} {Q : Option ja_V → ja_H → Prop} (hdd : 3 < d) (hwd : ja_wd S ≤ 8) (hd : decode cc pc = .ok (.invokevirtual 568, 3)) (g : mo_G mo_zr h) (r1 : -2147483648 ≤ a1 ∧ a1 ≤ 2147483647) (p1 : 0 ≤ a1 ∧ a1 < (h 0 1)) (p2 : (h 0 6) ≤ 900) (k1 : ∀ (h' : ja_H), (mo_ag FSX h h' ∧ (h' 0 6) = (h 0 6) ∧ (h' 0 1) = (h 0 1)) → mo_G mo_zr h' → mJ l D cA ad d cc nL rt (pc + 3) L S h' Q) : mJ l D cA ad d cc nL rt pc L ((0, a1) :: (2, ((0 : Nat) : Int)) :: S) h Q :=
  mc_tokenPattern hdd hwd hd (s_tokenPattern2 g r1 p1 p2 k1)
end
theorem dtokenSignB_0 : decode cX12_tokenSign 0 = .ok (.aload_n 0, 1) := by decide +kernel
theorem dtokenSignB_1 : decode cX12_tokenSign 1 = .ok (.iload_n 1, 1) := by decide +kernel
theorem dtokenSignB_2 : decode cX12_tokenSign 2 = .ok (.invokevirtual 437, 3) := by decide +kernel
theorem dtokenSignB_5 : decode cX12_tokenSign 5 = .ok (.istore_n 2, 1) := by decide +kernel
theorem dtokenSignB_6 : decode cX12_tokenSign 6 = .ok (.aload_n 0, 1) := by decide +kernel
theorem dtokenSignB_7 : decode cX12_tokenSign 7 = .ok (.iload_n 1, 1) := by decide +kernel
theorem dtokenSignB_8 : decode cX12_tokenSign 8 = .ok (.iconst 1, 1) := by decide +kernel
theorem dtokenSignB_9 : decode cX12_tokenSign 9 = .ok (.iadd, 1) := by decide +kernel
theorem dtokenSignB_10 : decode cX12_tokenSign 10 = .ok (.invokevirtual 437, 3) := by decide +kernel
theorem dtokenSignB_13 : decode cX12_tokenSign 13 = .ok (.bipush 61, 2) := by decide +kernel
theorem dtokenSignB_15 : decode cX12_tokenSign 15 = .ok (.if_icmp .eq 7, 3) := by decide +kernel
theorem dtokenSignB_18 : decode cX12_tokenSign 18 = .ok (.iconst 0, 1) := by decide +kernel
theorem dtokenSignB_19 : decode cX12_tokenSign 19 = .ok (.goto 52, 3) := by decide +kernel
theorem dtokenSignB_22 : decode cX12_tokenSign 22 = .ok (.iload_n 2, 1) := by decide +kernel
theorem dtokenSignB_23 : decode cX12_tokenSign 23 = .ok (.bipush 61, 2) := by decide +kernel
theorem dtokenSignB_25 : decode cX12_tokenSign 25 = .ok (.if_icmp .ne 9, 3) := by decide +kernel
theorem dtokenSignB_28 : decode cX12_tokenSign 28 = .ok (.sipush 300, 3) := by decide +kernel
theorem dtokenSignB_31 : decode cX12_tokenSign 31 = .ok (.goto 40, 3) := by decide +kernel
theorem dtokenSignB_34 : decode cX12_tokenSign 34 = .ok (.iload_n 2, 1) := by decide +kernel
theorem dtokenSignB_35 : decode cX12_tokenSign 35 = .ok (.bipush 33, 2) := by decide +kernel
theorem dtokenSignB_37 : decode cX12_tokenSign 37 = .ok (.if_icmp .ne 9, 3) := by decide +kernel
theorem dtokenSignB_40 : decode cX12_tokenSign 40 = .ok (.sipush 301, 3) := by decide +kernel
theorem dtokenSignB_43 : decode cX12_tokenSign 43 = .ok (.goto 28, 3) := by decide +kernel
theorem dtokenSignB_46 : decode cX12_tokenSign 46 = .ok (.iload_n 2, 1) := by decide +kernel
theorem dtokenSignB_47 : decode cX12_tokenSign 47 = .ok (.bipush 60, 2) := by decide +kernel
theorem dtokenSignB_49 : decode cX12_tokenSign 49 = .ok (.if_icmp .ne 9, 3) := by decide +kernel
theorem dtokenSignB_52 : decode cX12_tokenSign 52 = .ok (.sipush 302, 3) := by decide +kernel
theorem dtokenSignB_55 : decode cX12_tokenSign 55 = .ok (.goto 16, 3) := by decide +kernel
theorem dtokenSignB_58 : decode cX12_tokenSign 58 = .ok (.iload_n 2, 1) := by decide +kernel
theorem dtokenSignB_59 : decode cX12_tokenSign 59 = .ok (.bipush 62, 2) := by decide +kernel
theorem dtokenSignB_61 : decode cX12_tokenSign 61 = .ok (.if_icmp .ne 9, 3) := by decide +kernel
theorem dtokenSignB_64 : decode cX12_tokenSign 64 = .ok (.sipush 303, 3) := by decide +kernel
theorem dtokenSignB_67 : decode cX12_tokenSign 67 = .ok (.goto 4, 3) := by decide +kernel
theorem dtokenSignB_70 : decode cX12_tokenSign 70 = .ok (.iconst 0, 1) := by decide +kernel
theorem dtokenSignB_71 : decode cX12_tokenSign 71 = .ok (.istore_n 3, 1) := by decide +kernel
theorem dtokenSignB_72 : decode cX12_tokenSign 72 = .ok (.iload_n 2, 1) := by decide +kernel
theorem dtokenSignB_73 : decode cX12_tokenSign 73 = .ok (.bipush 61, 2) := by decide +kernel
theorem dtokenSignB_75 : decode cX12_tokenSign 75 = .ok (.if_icmp .eq 45, 3) := by decide +kernel
theorem dtokenSignB_78 : decode cX12_tokenSign 78 = .ok (.iload_n 2, 1) := by decide +kernel
theorem dtokenSignB_79 : decode cX12_tokenSign 79 = .ok (.bipush 60, 2) := by decide +kernel
theorem dtokenSignB_81 : decode cX12_tokenSign 81 = .ok (.if_icmp .eq 39, 3) := by decide +kernel
theorem dtokenSignB_84 : decode cX12_tokenSign 84 = .ok (.iload_n 2, 1) := by decide +kernel
theorem dtokenSignB_85 : decode cX12_tokenSign 85 = .ok (.bipush 62, 2) := by decide +kernel
theorem dtokenSignB_87 : decode cX12_tokenSign 87 = .ok (.if_icmp .eq 33, 3) := by decide +kernel
theorem dtokenSignB_90 : decode cX12_tokenSign 90 = .ok (.iload_n 2, 1) := by decide +kernel
theorem dtokenSignB_91 : decode cX12_tokenSign 91 = .ok (.bipush 43, 2) := by decide +kernel
theorem dtokenSignB_93 : decode cX12_tokenSign 93 = .ok (.if_icmp .eq 27, 3) := by decide +kernel
theorem dtokenSignB_96 : decode cX12_tokenSign 96 = .ok (.iload_n 2, 1) := by decide +kernel
theorem dtokenSignB_97 : decode cX12_tokenSign 97 = .ok (.bipush 45, 2) := by decide +kernel
theorem dtokenSignB_99 : decode cX12_tokenSign 99 = .ok (.if_icmp .eq 21, 3) := by decide +kernel
theorem dtokenSignB_102 : decode cX12_tokenSign 102 = .ok (.iload_n 2, 1) := by decide +kernel
theorem dtokenSignB_103 : decode cX12_tokenSign 103 = .ok (.bipush 42, 2) := by decide +kernel
theorem dtokenSignB_105 : decode cX12_tokenSign 105 = .ok (.if_icmp .eq 15, 3) := by decide +kernel
theorem dtokenSignB_108 : decode cX12_tokenSign 108 = .ok (.iload_n 2, 1) := by decide +kernel
theorem dtokenSignB_109 : decode cX12_tokenSign 109 = .ok (.bipush 47, 2) := by decide +kernel
theorem dtokenSignB_111 : decode cX12_tokenSign 111 = .ok (.if_icmp .eq 9, 3) := by decide +kernel
theorem dtokenSignB_114 : decode cX12_tokenSign 114 = .ok (.iload_n 2, 1) := by decide +kernel
theorem dtokenSignB_115 : decode cX12_tokenSign 115 = .ok (.bipush 37, 2) := by decide +kernel
theorem dtokenSignB_117 : decode cX12_tokenSign 117 = .ok (.if_icmp .ne 7, 3) := by decide +kernel
theorem dtokenSignB_120 : decode cX12_tokenSign 120 = .ok (.iconst 1, 1) := by decide +kernel
theorem dtokenSignB_121 : decode cX12_tokenSign 121 = .ok (.goto 4, 3) := by decide +kernel
theorem dtokenSignB_124 : decode cX12_tokenSign 124 = .ok (.iconst 0, 1) := by decide +kernel
theorem dtokenSignB_125 : decode cX12_tokenSign 125 = .ok (.istore 4, 2) := by decide +kernel
theorem dtokenSignB_127 : decode cX12_tokenSign 127 = .ok (.iload 4, 2) := by decide +kernel
theorem dtokenSignB_129 : decode cX12_tokenSign 129 = .ok (.ifCond .ne 45, 3) := by decide +kernel
theorem dtokenSignB_132 : decode cX12_tokenSign 132 = .ok (.iload_n 2, 1) := by decide +kernel
theorem dtokenSignB_133 : decode cX12_tokenSign 133 = .ok (.bipush 40, 2) := by decide +kernel
theorem dtokenSignB_135 : decode cX12_tokenSign 135 = .ok (.if_icmp .eq 39, 3) := by decide +kernel
theorem dtokenSignB_138 : decode cX12_tokenSign 138 = .ok (.iload_n 2, 1) := by decide +kernel
theorem dtokenSignB_139 : decode cX12_tokenSign 139 = .ok (.bipush 41, 2) := by decide +kernel
theorem dtokenSignB_141 : decode cX12_tokenSign 141 = .ok (.if_icmp .eq 33, 3) := by decide +kernel
theorem dtokenSignB_144 : decode cX12_tokenSign 144 = .ok (.iload_n 2, 1) := by decide +kernel
theorem dtokenSignB_145 : decode cX12_tokenSign 145 = .ok (.bipush 123, 2) := by decide +kernel
theorem dtokenSignB_147 : decode cX12_tokenSign 147 = .ok (.if_icmp .eq 27, 3) := by decide +kernel
theorem dtokenSignB_150 : decode cX12_tokenSign 150 = .ok (.iload_n 2, 1) := by decide +kernel
theorem dtokenSignB_151 : decode cX12_tokenSign 151 = .ok (.bipush 125, 2) := by decide +kernel
theorem dtokenSignB_153 : decode cX12_tokenSign 153 = .ok (.if_icmp .eq 21, 3) := by decide +kernel
theorem dtokenSignB_156 : decode cX12_tokenSign 156 = .ok (.iload_n 2, 1) := by decide +kernel
theorem dtokenSignB_157 : decode cX12_tokenSign 157 = .ok (.bipush 59, 2) := by decide +kernel
theorem dtokenSignB_159 : decode cX12_tokenSign 159 = .ok (.if_icmp .eq 15, 3) := by decide +kernel
theorem dtokenSignB_162 : decode cX12_tokenSign 162 = .ok (.iload_n 2, 1) := by decide +kernel
theorem dtokenSignB_163 : decode cX12_tokenSign 163 = .ok (.bipush 44, 2) := by decide +kernel
theorem dtokenSignB_165 : decode cX12_tokenSign 165 = .ok (.if_icmp .eq 9, 3) := by decide +kernel
theorem dtokenSignB_168 : decode cX12_tokenSign 168 = .ok (.iload_n 2, 1) := by decide +kernel
theorem dtokenSignB_169 : decode cX12_tokenSign 169 = .ok (.bipush 46, 2) := by decide +kernel
theorem dtokenSignB_171 : decode cX12_tokenSign 171 = .ok (.if_icmp .ne 7, 3) := by decide +kernel
theorem dtokenSignB_174 : decode cX12_tokenSign 174 = .ok (.iconst 1, 1) := by decide +kernel
theorem dtokenSignB_175 : decode cX12_tokenSign 175 = .ok (.goto 4, 3) := by decide +kernel
theorem dtokenSignB_178 : decode cX12_tokenSign 178 = .ok (.iconst 0, 1) := by decide +kernel
theorem dtokenSignB_179 : decode cX12_tokenSign 179 = .ok (.istore 4, 2) := by decide +kernel
theorem dtokenSignB_181 : decode cX12_tokenSign 181 = .ok (.aload_n 0, 1) := by decide +kernel
theorem dtokenSignB_182 : decode cX12_tokenSign 182 = .ok (.getfield 13, 3) := by decide +kernel
theorem dtokenSignB_185 : decode cX12_tokenSign 185 = .ok (.aload_n 0, 1) := by decide +kernel
theorem dtokenSignB_186 : decode cX12_tokenSign 186 = .ok (.getfield 536, 3) := by decide +kernel
theorem dtokenSignB_189 : decode cX12_tokenSign 189 = .ok (.iload_n 3, 1) := by decide +kernel
theorem dtokenSignB_190 : decode cX12_tokenSign 190 = .ok (.ifCond .gt 8, 3) := by decide +kernel
theorem dtokenSignB_193 : decode cX12_tokenSign 193 = .ok (.iload 4, 2) := by decide +kernel
theorem dtokenSignB_195 : decode cX12_tokenSign 195 = .ok (.ifCond .eq 7, 3) := by decide +kernel
theorem dtokenSignB_198 : decode cX12_tokenSign 198 = .ok (.iconst 5, 1) := by decide +kernel
theorem dtokenSignB_199 : decode cX12_tokenSign 199 = .ok (.goto 5, 3) := by decide +kernel
theorem dtokenSignB_202 : decode cX12_tokenSign 202 = .ok (.bipush 7, 2) := by decide +kernel
theorem dtokenSignB_204 : decode cX12_tokenSign 204 = .ok (.iastore, 1) := by decide +kernel
theorem dtokenSignB_205 : decode cX12_tokenSign 205 = .ok (.aload_n 0, 1) := by decide +kernel
theorem dtokenSignB_206 : decode cX12_tokenSign 206 = .ok (.getfield 19, 3) := by decide +kernel
theorem dtokenSignB_209 : decode cX12_tokenSign 209 = .ok (.aload_n 0, 1) := by decide +kernel
theorem dtokenSignB_210 : decode cX12_tokenSign 210 = .ok (.getfield 536, 3) := by decide +kernel
theorem dtokenSignB_213 : decode cX12_tokenSign 213 = .ok (.iload_n 3, 1) := by decide +kernel
theorem dtokenSignB_214 : decode cX12_tokenSign 214 = .ok (.ifCond .le 9, 3) := by decide +kernel
theorem dtokenSignB_217 : decode cX12_tokenSign 217 = .ok (.iload_n 1, 1) := by decide +kernel
theorem dtokenSignB_218 : decode cX12_tokenSign 218 = .ok (.iconst 2, 1) := by decide +kernel
theorem dtokenSignB_219 : decode cX12_tokenSign 219 = .ok (.iadd, 1) := by decide +kernel
theorem dtokenSignB_220 : decode cX12_tokenSign 220 = .ok (.goto 6, 3) := by decide +kernel
theorem dtokenSignB_223 : decode cX12_tokenSign 223 = .ok (.iload_n 1, 1) := by decide +kernel
theorem dtokenSignB_224 : decode cX12_tokenSign 224 = .ok (.iconst 1, 1) := by decide +kernel
theorem dtokenSignB_225 : decode cX12_tokenSign 225 = .ok (.iadd, 1) := by decide +kernel
theorem dtokenSignB_226 : decode cX12_tokenSign 226 = .ok (.iastore, 1) := by decide +kernel
theorem dtokenSignB_227 : decode cX12_tokenSign 227 = .ok (.aload_n 0, 1) := by decide +kernel
theorem dtokenSignB_228 : decode cX12_tokenSign 228 = .ok (.getfield 22, 3) := by decide +kernel
theorem dtokenSignB_231 : decode cX12_tokenSign 231 = .ok (.aload_n 0, 1) := by decide +kernel
theorem dtokenSignB_232 : decode cX12_tokenSign 232 = .ok (.getfield 536, 3) := by decide +kernel
theorem dtokenSignB_235 : decode cX12_tokenSign 235 = .ok (.iload_n 3, 1) := by decide +kernel
theorem dtokenSignB_236 : decode cX12_tokenSign 236 = .ok (.ifCond .le 7, 3) := by decide +kernel
theorem dtokenSignB_239 : decode cX12_tokenSign 239 = .ok (.iload_n 3, 1) := by decide +kernel
theorem dtokenSignB_240 : decode cX12_tokenSign 240 = .ok (.goto 4, 3) := by decide +kernel
theorem dtokenSignB_243 : decode cX12_tokenSign 243 = .ok (.iload_n 2, 1) := by decide +kernel
theorem dtokenSignB_244 : decode cX12_tokenSign 244 = .ok (.iastore, 1) := by decide +kernel
theorem dtokenSignB_245 : decode cX12_tokenSign 245 = .ok (.return_, 1) := by decide +kernel
section
variable {l : Launch} {D : va_G} {cA : Nat → ClassId} {ad : Nat → Nat}
theorem s_tokenSign2 {a1 : Int} {h : ja_H} {Q : Option ja_V → ja_H → Prop} (g : mo_G mo_zr h) (r1 : -2147483648 ≤ a1 ∧ a1 ≤ 2147483647) (p1 : 0 ≤ a1 ∧ a1 < (h 0 1)) (p2 : (h 0 6) ≤ 900) (k1 : ∀ (h' : ja_H), (mo_ag FSX h h' ∧ (h' 0 6) = (h 0 6) ∧ (h' 0 1) = (h 0 1)) → mo_G mo_zr h' → Q none h') : mM_tokenSign l D cA ad a1 h Q := by
  show mJ l D cA ad 2 cX12_tokenSign 5 none 0 [(0, (2, ((0 : Nat) : Int))), (1, (0, a1))] [] h Q
  have kn_size := gF_size g
  have CUT : ∀ n : Nat, (∀ (x2 s0 : Int), (-2147483648 ≤ x2 ∧ x2 ≤ 2147483647) → (-2147483648 ≤ s0 ∧ s0 ≤ 2147483647) → (-1 ≤ x2 ∧ x2 ≤ 255 ∧ (s0 = 0 ∨ (300 ≤ s0 ∧ s0 ≤ 303 ∧ a1 + 1 < (h 0 1)))) → (3) = n → mJ l D cA ad 2 cX12_tokenSign 5 none 71 [(0, (2, ((0 : Nat) : Int))), (1, (0, a1)), (2, (0, x2))] [(0, s0)] h Q) ∧ (∀ (x2 x3 s0 : Int), (-2147483648 ≤ x2 ∧ x2 ≤ 2147483647) → (-2147483648 ≤ x3 ∧ x3 ≤ 2147483647) → (-2147483648 ≤ s0 ∧ s0 ≤ 2147483647) → (-1 ≤ x2 ∧ x2 ≤ 255 ∧ (x3 = 0 ∨ (300 ≤ x3 ∧ x3 ≤ 303 ∧ a1 + 1 < (h 0 1))) ∧ 0 ≤ s0 ∧ s0 ≤ 1) → (2) = n → mJ l D cA ad 2 cX12_tokenSign 5 none 125 [(0, (2, ((0 : Nat) : Int))), (1, (0, a1)), (2, (0, x2)), (3, (0, x3))] [(0, s0)] h Q) ∧ (∀ (x2 x3 s0 : Int), (-2147483648 ≤ x2 ∧ x2 ≤ 2147483647) → (-2147483648 ≤ x3 ∧ x3 ≤ 2147483647) → (-2147483648 ≤ s0 ∧ s0 ≤ 2147483647) → (-1 ≤ x2 ∧ x2 ≤ 255 ∧ (x3 = 0 ∨ (300 ≤ x3 ∧ x3 ≤ 303 ∧ a1 + 1 < (h 0 1))) ∧ 0 ≤ s0 ∧ s0 ≤ 1) → (1) = n → mJ l D cA ad 2 cX12_tokenSign 5 none 179 [(0, (2, ((0 : Nat) : Int))), (1, (0, a1)), (2, (0, x2)), (3, (0, x3))] [(0, s0)] h Q) := by
    intro n
    induction n using Nat.strongRecOn with
    | _ n ih =>
      refine ⟨?_, ?_, ?_⟩
      · intro x2 s0 qx2 qs0 iv hm
        subst hm
        refine ja_istore_n dtokenSignB_71 rfl (by decide) (L2 := [(3, (0, s0)), (0, (2, ((0 : Nat) : Int))), (1, (0, a1)), (2, (0, x2))]) rfl ?_
        refine ja_iload_n dtokenSignB_72 rfl rfl ?_
        refine ja_bipush 61 dtokenSignB_73 rfl ?_
        refine ja_icmp_eq 120 dtokenSignB_75 rfl ⟨by omega, by omega⟩ ⟨by decide, by decide⟩ (fun c75 => ?_) (fun c75 => ?_)
        · refine ja_iconst dtokenSignB_120 ?_
          refine ja_goto 125 dtokenSignB_121 rfl ?_
          exact ja_wk (fun q hq => by simp only [List.mem_cons, List.not_mem_nil, or_false] at hq; rcases hq with rfl | rfl | rfl | rfl <;> rfl) ((ih (2) (by omega)).2.1 x2 s0 1  ⟨by omega, by omega⟩ ⟨by omega, by omega⟩ ⟨by decide, by decide⟩ (show -1 ≤ x2 ∧ x2 ≤ 255 ∧ (s0 = 0 ∨ (300 ≤ s0 ∧ s0 ≤ 303 ∧ a1 + 1 < (h 0 1))) ∧ 0 ≤ 1 ∧ 1 ≤ 1 by omega) rfl)
        · refine ja_iload_n dtokenSignB_78 rfl rfl ?_
          refine ja_bipush 60 dtokenSignB_79 rfl ?_
          refine ja_icmp_eq 120 dtokenSignB_81 rfl ⟨by omega, by omega⟩ ⟨by decide, by decide⟩ (fun c81 => ?_) (fun c81 => ?_)
          · refine ja_iconst dtokenSignB_120 ?_
            refine ja_goto 125 dtokenSignB_121 rfl ?_
            exact ja_wk (fun q hq => by simp only [List.mem_cons, List.not_mem_nil, or_false] at hq; rcases hq with rfl | rfl | rfl | rfl <;> rfl) ((ih (2) (by omega)).2.1 x2 s0 1  ⟨by omega, by omega⟩ ⟨by omega, by omega⟩ ⟨by decide, by decide⟩ (show -1 ≤ x2 ∧ x2 ≤ 255 ∧ (s0 = 0 ∨ (300 ≤ s0 ∧ s0 ≤ 303 ∧ a1 + 1 < (h 0 1))) ∧ 0 ≤ 1 ∧ 1 ≤ 1 by omega) rfl)
          · refine ja_iload_n dtokenSignB_84 rfl rfl ?_
            refine ja_bipush 62 dtokenSignB_85 rfl ?_
            refine ja_icmp_eq 120 dtokenSignB_87 rfl ⟨by omega, by omega⟩ ⟨by decide, by decide⟩ (fun c87 => ?_) (fun c87 => ?_)
            · refine ja_iconst dtokenSignB_120 ?_
              refine ja_goto 125 dtokenSignB_121 rfl ?_
              exact ja_wk (fun q hq => by simp only [List.mem_cons, List.not_mem_nil, or_false] at hq; rcases hq with rfl | rfl | rfl | rfl <;> rfl) ((ih (2) (by omega)).2.1 x2 s0 1  ⟨by omega, by omega⟩ ⟨by omega, by omega⟩ ⟨by decide, by decide⟩ (show -1 ≤ x2 ∧ x2 ≤ 255 ∧ (s0 = 0 ∨ (300 ≤ s0 ∧ s0 ≤ 303 ∧ a1 + 1 < (h 0 1))) ∧ 0 ≤ 1 ∧ 1 ≤ 1 by omega) rfl)
            · refine ja_iload_n dtokenSignB_90 rfl rfl ?_
              refine ja_bipush 43 dtokenSignB_91 rfl ?_
              refine ja_icmp_eq 120 dtokenSignB_93 rfl ⟨by omega, by omega⟩ ⟨by decide, by decide⟩ (fun c93 => ?_) (fun c93 => ?_)
              · refine ja_iconst dtokenSignB_120 ?_
                refine ja_goto 125 dtokenSignB_121 rfl ?_
                exact ja_wk (fun q hq => by simp only [List.mem_cons, List.not_mem_nil, or_false] at hq; rcases hq with rfl | rfl | rfl | rfl <;> rfl) ((ih (2) (by omega)).2.1 x2 s0 1  ⟨by omega, by omega⟩ ⟨by omega, by omega⟩ ⟨by decide, by decide⟩ (show -1 ≤ x2 ∧ x2 ≤ 255 ∧ (s0 = 0 ∨ (300 ≤ s0 ∧ s0 ≤ 303 ∧ a1 + 1 < (h 0 1))) ∧ 0 ≤ 1 ∧ 1 ≤ 1 by omega) rfl)
              · refine ja_iload_n dtokenSignB_96 rfl rfl ?_
                refine ja_bipush 45 dtokenSignB_97 rfl ?_
                refine ja_icmp_eq 120 dtokenSignB_99 rfl ⟨by omega, by omega⟩ ⟨by decide, by decide⟩ (fun c99 => ?_) (fun c99 => ?_)
                · refine ja_iconst dtokenSignB_120 ?_
                  refine ja_goto 125 dtokenSignB_121 rfl ?_
                  exact ja_wk (fun q hq => by simp only [List.mem_cons, List.not_mem_nil, or_false] at hq; rcases hq with rfl | rfl | rfl | rfl <;> rfl) ((ih (2) (by omega)).2.1 x2 s0 1  ⟨by omega, by omega⟩ ⟨by omega, by omega⟩ ⟨by decide, by decide⟩ (show -1 ≤ x2 ∧ x2 ≤ 255 ∧ (s0 = 0 ∨ (300 ≤ s0 ∧ s0 ≤ 303 ∧ a1 + 1 < (h 0 1))) ∧ 0 ≤ 1 ∧ 1 ≤ 1 by omega) rfl)
                · refine ja_iload_n dtokenSignB_102 rfl rfl ?_
                  refine ja_bipush 42 dtokenSignB_103 rfl ?_
                  refine ja_icmp_eq 120 dtokenSignB_105 rfl ⟨by omega, by omega⟩ ⟨by decide, by decide⟩ (fun c105 => ?_) (fun c105 => ?_)
                  · refine ja_iconst dtokenSignB_120 ?_
                    refine ja_goto 125 dtokenSignB_121 rfl ?_
                    exact ja_wk (fun q hq => by simp only [List.mem_cons, List.not_mem_nil, or_false] at hq; rcases hq with rfl | rfl | rfl | rfl <;> rfl) ((ih (2) (by omega)).2.1 x2 s0 1  ⟨by omega, by omega⟩ ⟨by omega, by omega⟩ ⟨by decide, by decide⟩ (show -1 ≤ x2 ∧ x2 ≤ 255 ∧ (s0 = 0 ∨ (300 ≤ s0 ∧ s0 ≤ 303 ∧ a1 + 1 < (h 0 1))) ∧ 0 ≤ 1 ∧ 1 ≤ 1 by omega) rfl)
                  · refine ja_iload_n dtokenSignB_108 rfl rfl ?_
                    refine ja_bipush 47 dtokenSignB_109 rfl ?_
                    refine ja_icmp_eq 120 dtokenSignB_111 rfl ⟨by omega, by omega⟩ ⟨by decide, by decide⟩ (fun c111 => ?_) (fun c111 => ?_)
                    · refine ja_iconst dtokenSignB_120 ?_
                      refine ja_goto 125 dtokenSignB_121 rfl ?_
                      exact ja_wk (fun q hq => by simp only [List.mem_cons, List.not_mem_nil, or_false] at hq; rcases hq with rfl | rfl | rfl | rfl <;> rfl) ((ih (2) (by omega)).2.1 x2 s0 1  ⟨by omega, by omega⟩ ⟨by omega, by omega⟩ ⟨by decide, by decide⟩ (show -1 ≤ x2 ∧ x2 ≤ 255 ∧ (s0 = 0 ∨ (300 ≤ s0 ∧ s0 ≤ 303 ∧ a1 + 1 < (h 0 1))) ∧ 0 ≤ 1 ∧ 1 ≤ 1 by omega) rfl)
                    · refine ja_iload_n dtokenSignB_114 rfl rfl ?_
                      refine ja_bipush 37 dtokenSignB_115 rfl ?_
                      refine ja_icmp_ne 124 dtokenSignB_117 rfl ⟨by omega, by omega⟩ ⟨by decide, by decide⟩ (fun c117 => ?_) (fun c117 => ?_)
                      · refine ja_iconst dtokenSignB_124 ?_
                        exact ja_wk (fun q hq => by simp only [List.mem_cons, List.not_mem_nil, or_false] at hq; rcases hq with rfl | rfl | rfl | rfl <;> rfl) ((ih (2) (by omega)).2.1 x2 s0 0  ⟨by omega, by omega⟩ ⟨by omega, by omega⟩ ⟨by decide, by decide⟩ (show -1 ≤ x2 ∧ x2 ≤ 255 ∧ (s0 = 0 ∨ (300 ≤ s0 ∧ s0 ≤ 303 ∧ a1 + 1 < (h 0 1))) ∧ 0 ≤ 0 ∧ 0 ≤ 1 by omega) rfl)
                      · refine ja_iconst dtokenSignB_120 ?_
                        refine ja_goto 125 dtokenSignB_121 rfl ?_
                        exact ja_wk (fun q hq => by simp only [List.mem_cons, List.not_mem_nil, or_false] at hq; rcases hq with rfl | rfl | rfl | rfl <;> rfl) ((ih (2) (by omega)).2.1 x2 s0 1  ⟨by omega, by omega⟩ ⟨by omega, by omega⟩ ⟨by decide, by decide⟩ (show -1 ≤ x2 ∧ x2 ≤ 255 ∧ (s0 = 0 ∨ (300 ≤ s0 ∧ s0 ≤ 303 ∧ a1 + 1 < (h 0 1))) ∧ 0 ≤ 1 ∧ 1 ≤ 1 by omega) rfl)
      · intro x2 x3 s0 qx2 qx3 qs0 iv hm
        subst hm
        refine ja_istore dtokenSignB_125 (by decide) (L2 := [(4, (0, s0)), (0, (2, ((0 : Nat) : Int))), (1, (0, a1)), (2, (0, x2)), (3, (0, x3))]) rfl ?_
        refine ja_iload dtokenSignB_127 rfl ?_
        refine ja_if_ne 174 dtokenSignB_129 rfl ⟨by omega, by omega⟩ (fun c129 => ?_) (fun c129 => ?_)
        · refine ja_iconst dtokenSignB_174 ?_
          refine ja_goto 179 dtokenSignB_175 rfl ?_
          exact ja_wk (fun q hq => by simp only [List.mem_cons, List.not_mem_nil, or_false] at hq; rcases hq with rfl | rfl | rfl | rfl <;> rfl) ((ih (1) (by omega)).2.2 x2 x3 1  ⟨by omega, by omega⟩ ⟨by omega, by omega⟩ ⟨by decide, by decide⟩ (show -1 ≤ x2 ∧ x2 ≤ 255 ∧ (x3 = 0 ∨ (300 ≤ x3 ∧ x3 ≤ 303 ∧ a1 + 1 < (h 0 1))) ∧ 0 ≤ 1 ∧ 1 ≤ 1 by omega) rfl)
        · refine ja_iload_n dtokenSignB_132 rfl rfl ?_
          refine ja_bipush 40 dtokenSignB_133 rfl ?_
          refine ja_icmp_eq 174 dtokenSignB_135 rfl ⟨by omega, by omega⟩ ⟨by decide, by decide⟩ (fun c135 => ?_) (fun c135 => ?_)
          · refine ja_iconst dtokenSignB_174 ?_
            refine ja_goto 179 dtokenSignB_175 rfl ?_
            exact ja_wk (fun q hq => by simp only [List.mem_cons, List.not_mem_nil, or_false] at hq; rcases hq with rfl | rfl | rfl | rfl <;> rfl) ((ih (1) (by omega)).2.2 x2 x3 1  ⟨by omega, by omega⟩ ⟨by omega, by omega⟩ ⟨by decide, by decide⟩ (show -1 ≤ x2 ∧ x2 ≤ 255 ∧ (x3 = 0 ∨ (300 ≤ x3 ∧ x3 ≤ 303 ∧ a1 + 1 < (h 0 1))) ∧ 0 ≤ 1 ∧ 1 ≤ 1 by omega) rfl)
          · refine ja_iload_n dtokenSignB_138 rfl rfl ?_
            refine ja_bipush 41 dtokenSignB_139 rfl ?_
            refine ja_icmp_eq 174 dtokenSignB_141 rfl ⟨by omega, by omega⟩ ⟨by decide, by decide⟩ (fun c141 => ?_) (fun c141 => ?_)
            · refine ja_iconst dtokenSignB_174 ?_
              refine ja_goto 179 dtokenSignB_175 rfl ?_
              exact ja_wk (fun q hq => by simp only [List.mem_cons, List.not_mem_nil, or_false] at hq; rcases hq with rfl | rfl | rfl | rfl <;> rfl) ((ih (1) (by omega)).2.2 x2 x3 1  ⟨by omega, by omega⟩ ⟨by omega, by omega⟩ ⟨by decide, by decide⟩ (show -1 ≤ x2 ∧ x2 ≤ 255 ∧ (x3 = 0 ∨ (300 ≤ x3 ∧ x3 ≤ 303 ∧ a1 + 1 < (h 0 1))) ∧ 0 ≤ 1 ∧ 1 ≤ 1 by omega) rfl)
            · refine ja_iload_n dtokenSignB_144 rfl rfl ?_
              refine ja_bipush 123 dtokenSignB_145 rfl ?_
              refine ja_icmp_eq 174 dtokenSignB_147 rfl ⟨by omega, by omega⟩ ⟨by decide, by decide⟩ (fun c147 => ?_) (fun c147 => ?_)
              · refine ja_iconst dtokenSignB_174 ?_
                refine ja_goto 179 dtokenSignB_175 rfl ?_
                exact ja_wk (fun q hq => by simp only [List.mem_cons, List.not_mem_nil, or_false] at hq; rcases hq with rfl | rfl | rfl | rfl <;> rfl) ((ih (1) (by omega)).2.2 x2 x3 1  ⟨by omega, by omega⟩ ⟨by omega, by omega⟩ ⟨by decide, by decide⟩ (show -1 ≤ x2 ∧ x2 ≤ 255 ∧ (x3 = 0 ∨ (300 ≤ x3 ∧ x3 ≤ 303 ∧ a1 + 1 < (h 0 1))) ∧ 0 ≤ 1 ∧ 1 ≤ 1 by omega) rfl)
              · refine ja_iload_n dtokenSignB_150 rfl rfl ?_
                refine ja_bipush 125 dtokenSignB_151 rfl ?_
                refine ja_icmp_eq 174 dtokenSignB_153 rfl ⟨by omega, by omega⟩ ⟨by decide, by decide⟩ (fun c153 => ?_) (fun c153 => ?_)
                · refine ja_iconst dtokenSignB_174 ?_
                  refine ja_goto 179 dtokenSignB_175 rfl ?_
                  exact ja_wk (fun q hq => by simp only [List.mem_cons, List.not_mem_nil, or_false] at hq; rcases hq with rfl | rfl | rfl | rfl <;> rfl) ((ih (1) (by omega)).2.2 x2 x3 1  ⟨by omega, by omega⟩ ⟨by omega, by omega⟩ ⟨by decide, by decide⟩ (show -1 ≤ x2 ∧ x2 ≤ 255 ∧ (x3 = 0 ∨ (300 ≤ x3 ∧ x3 ≤ 303 ∧ a1 + 1 < (h 0 1))) ∧ 0 ≤ 1 ∧ 1 ≤ 1 by omega) rfl)
                · refine ja_iload_n dtokenSignB_156 rfl rfl ?_
                  refine ja_bipush 59 dtokenSignB_157 rfl ?_
                  refine ja_icmp_eq 174 dtokenSignB_159 rfl ⟨by omega, by omega⟩ ⟨by decide, by decide⟩ (fun c159 => ?_) (fun c159 => ?_)
                  · refine ja_iconst dtokenSignB_174 ?_
                    refine ja_goto 179 dtokenSignB_175 rfl ?_
                    exact ja_wk (fun q hq => by simp only [List.mem_cons, List.not_mem_nil, or_false] at hq; rcases hq with rfl | rfl | rfl | rfl <;> rfl) ((ih (1) (by omega)).2.2 x2 x3 1  ⟨by omega, by omega⟩ ⟨by omega, by omega⟩ ⟨by decide, by decide⟩ (show -1 ≤ x2 ∧ x2 ≤ 255 ∧ (x3 = 0 ∨ (300 ≤ x3 ∧ x3 ≤ 303 ∧ a1 + 1 < (h 0 1))) ∧ 0 ≤ 1 ∧ 1 ≤ 1 by omega) rfl)
                  · refine ja_iload_n dtokenSignB_162 rfl rfl ?_
                    refine ja_bipush 44 dtokenSignB_163 rfl ?_
                    refine ja_icmp_eq 174 dtokenSignB_165 rfl ⟨by omega, by omega⟩ ⟨by decide, by decide⟩ (fun c165 => ?_) (fun c165 => ?_)
                    · refine ja_iconst dtokenSignB_174 ?_
                      refine ja_goto 179 dtokenSignB_175 rfl ?_
                      exact ja_wk (fun q hq => by simp only [List.mem_cons, List.not_mem_nil, or_false] at hq; rcases hq with rfl | rfl | rfl | rfl <;> rfl) ((ih (1) (by omega)).2.2 x2 x3 1  ⟨by omega, by omega⟩ ⟨by omega, by omega⟩ ⟨by decide, by decide⟩ (show -1 ≤ x2 ∧ x2 ≤ 255 ∧ (x3 = 0 ∨ (300 ≤ x3 ∧ x3 ≤ 303 ∧ a1 + 1 < (h 0 1))) ∧ 0 ≤ 1 ∧ 1 ≤ 1 by omega) rfl)
                    · refine ja_iload_n dtokenSignB_168 rfl rfl ?_
                      refine ja_bipush 46 dtokenSignB_169 rfl ?_
                      refine ja_icmp_ne 178 dtokenSignB_171 rfl ⟨by omega, by omega⟩ ⟨by decide, by decide⟩ (fun c171 => ?_) (fun c171 => ?_)
                      · refine ja_iconst dtokenSignB_178 ?_
                        exact ja_wk (fun q hq => by simp only [List.mem_cons, List.not_mem_nil, or_false] at hq; rcases hq with rfl | rfl | rfl | rfl <;> rfl) ((ih (1) (by omega)).2.2 x2 x3 0  ⟨by omega, by omega⟩ ⟨by omega, by omega⟩ ⟨by decide, by decide⟩ (show -1 ≤ x2 ∧ x2 ≤ 255 ∧ (x3 = 0 ∨ (300 ≤ x3 ∧ x3 ≤ 303 ∧ a1 + 1 < (h 0 1))) ∧ 0 ≤ 0 ∧ 0 ≤ 1 by omega) rfl)
                      · refine ja_iconst dtokenSignB_174 ?_
                        refine ja_goto 179 dtokenSignB_175 rfl ?_
                        exact ja_wk (fun q hq => by simp only [List.mem_cons, List.not_mem_nil, or_false] at hq; rcases hq with rfl | rfl | rfl | rfl <;> rfl) ((ih (1) (by omega)).2.2 x2 x3 1  ⟨by omega, by omega⟩ ⟨by omega, by omega⟩ ⟨by decide, by decide⟩ (show -1 ≤ x2 ∧ x2 ≤ 255 ∧ (x3 = 0 ∨ (300 ≤ x3 ∧ x3 ≤ 303 ∧ a1 + 1 < (h 0 1))) ∧ 0 ≤ 1 ∧ 1 ≤ 1 by omega) rfl)
      · intro x2 x3 s0 qx2 qx3 qs0 iv hm
        subst hm
        refine ja_istore dtokenSignB_179 (by decide) (L2 := [(4, (0, s0)), (0, (2, ((0 : Nat) : Int))), (1, (0, a1)), (2, (0, x2)), (3, (0, x3))]) rfl ?_
        refine ja_aload_n dtokenSignB_181 rfl rfl ?_
        refine fa_kinds dtokenSignB_182 ?_
        refine ja_aload_n dtokenSignB_185 rfl rfl ?_
        refine fg_tokens (v := h 0 6) rfl dtokenSignB_186 ?_
        have f1 := gF_tokens g
        refine ja_iload_n dtokenSignB_189 rfl rfl ?_
        refine ja_if_gt 198 dtokenSignB_190 rfl ⟨by omega, by omega⟩ (fun c190 => ?_) (fun c190 => ?_)
        · refine ja_iconst dtokenSignB_198 ?_
          refine ja_goto 204 dtokenSignB_199 rfl ?_
          have g2 := gW_kinds g (h 0 6).toNat (x := 5) ⟨by decide, by decide⟩
          refine is_kinds ⟨by omega, by omega⟩ dtokenSignB_204 ?_
          refine ja_aload_n dtokenSignB_205 rfl rfl ?_
          refine fa_ends dtokenSignB_206 ?_
          refine ja_aload_n dtokenSignB_209 rfl rfl ?_
          refine fg_tokens (v := h 0 6) rfl dtokenSignB_210 ?_
          refine ja_iload_n dtokenSignB_213 rfl rfl ?_
          refine ja_if_le 223 dtokenSignB_214 rfl ⟨by omega, by omega⟩ (fun c214 => ?_) (fun c214 => ?_)
          · refine ja_iload_n dtokenSignB_223 rfl rfl ?_
            refine ja_iconst dtokenSignB_224 ?_
            refine ja_iadd dtokenSignB_225 ?_
            have g3 := gW_ends g2 (h 0 6).toNat (x := a1 + 1) ⟨by omega, by omega⟩
            refine is_ends ⟨by omega, by omega⟩ dtokenSignB_226 ?_
            refine ja_aload_n dtokenSignB_227 rfl rfl ?_
            refine fa_worths dtokenSignB_228 ?_
            refine ja_aload_n dtokenSignB_231 rfl rfl ?_
            refine fg_tokens (v := h 0 6) rfl dtokenSignB_232 ?_
            refine ja_iload_n dtokenSignB_235 rfl rfl ?_
            refine ja_if_le 243 dtokenSignB_236 rfl ⟨by omega, by omega⟩ (fun c236 => ?_) (fun c236 => ?_)
            · refine ja_iload_n dtokenSignB_243 rfl rfl ?_
              have g4 := gW_worths g3 (h 0 6).toNat (x := x2) ⟨by omega, by omega⟩
              refine is_worths ⟨by omega, by omega⟩ dtokenSignB_244 ?_
              refine ja_return dtokenSignB_245 rfl ?_
              exact k1 (ja_up (ja_up (ja_up h 2 ((h 0 6).toNat) 5) 4 ((h 0 6).toNat) (a1 + 1)) 5 ((h 0 6).toNat) x2) (⟨(by (repeat (first | exact ag_refl | refine ag_up rfl ?_))), (by simp [ja_up]), (by simp [ja_up])⟩) g4
            · refine ja_iload_n dtokenSignB_239 rfl rfl ?_
              refine ja_goto 244 dtokenSignB_240 rfl ?_
              have g5 := gW_worths g3 (h 0 6).toNat (x := x3) ⟨by omega, by omega⟩
              refine is_worths ⟨by omega, by omega⟩ dtokenSignB_244 ?_
              refine ja_return dtokenSignB_245 rfl ?_
              exact k1 (ja_up (ja_up (ja_up h 2 ((h 0 6).toNat) 5) 4 ((h 0 6).toNat) (a1 + 1)) 5 ((h 0 6).toNat) x3) (⟨(by (repeat (first | exact ag_refl | refine ag_up rfl ?_))), (by simp [ja_up]), (by simp [ja_up])⟩) g5
          · refine ja_iload_n dtokenSignB_217 rfl rfl ?_
            refine ja_iconst dtokenSignB_218 ?_
            refine ja_iadd dtokenSignB_219 ?_
            refine ja_goto 226 dtokenSignB_220 rfl ?_
            have g6 := gW_ends g2 (h 0 6).toNat (x := a1 + 2) ⟨by omega, by omega⟩
            refine is_ends ⟨by omega, by omega⟩ dtokenSignB_226 ?_
            refine ja_aload_n dtokenSignB_227 rfl rfl ?_
            refine fa_worths dtokenSignB_228 ?_
            refine ja_aload_n dtokenSignB_231 rfl rfl ?_
            refine fg_tokens (v := h 0 6) rfl dtokenSignB_232 ?_
            refine ja_iload_n dtokenSignB_235 rfl rfl ?_
            refine ja_if_le 243 dtokenSignB_236 rfl ⟨by omega, by omega⟩ (fun c236 => ?_) (fun c236 => ?_)
            · refine ja_iload_n dtokenSignB_243 rfl rfl ?_
              have g7 := gW_worths g6 (h 0 6).toNat (x := x2) ⟨by omega, by omega⟩
              refine is_worths ⟨by omega, by omega⟩ dtokenSignB_244 ?_
              refine ja_return dtokenSignB_245 rfl ?_
              exact k1 (ja_up (ja_up (ja_up h 2 ((h 0 6).toNat) 5) 4 ((h 0 6).toNat) (a1 + 2)) 5 ((h 0 6).toNat) x2) (⟨(by (repeat (first | exact ag_refl | refine ag_up rfl ?_))), (by simp [ja_up]), (by simp [ja_up])⟩) g7
            · refine ja_iload_n dtokenSignB_239 rfl rfl ?_
              refine ja_goto 244 dtokenSignB_240 rfl ?_
              have g8 := gW_worths g6 (h 0 6).toNat (x := x3) ⟨by omega, by omega⟩
              refine is_worths ⟨by omega, by omega⟩ dtokenSignB_244 ?_
              refine ja_return dtokenSignB_245 rfl ?_
              exact k1 (ja_up (ja_up (ja_up h 2 ((h 0 6).toNat) 5) 4 ((h 0 6).toNat) (a1 + 2)) 5 ((h 0 6).toNat) x3) (⟨(by (repeat (first | exact ag_refl | refine ag_up rfl ?_))), (by simp [ja_up]), (by simp [ja_up])⟩) g8
        · refine ja_iload dtokenSignB_193 rfl ?_
          refine ja_if_eq 202 dtokenSignB_195 rfl ⟨by omega, by omega⟩ (fun c195 => ?_) (fun c195 => ?_)
          · refine ja_bipush 7 dtokenSignB_202 rfl ?_
            have g9 := gW_kinds g (h 0 6).toNat (x := 7) ⟨by decide, by decide⟩
            refine is_kinds ⟨by omega, by omega⟩ dtokenSignB_204 ?_
            refine ja_aload_n dtokenSignB_205 rfl rfl ?_
            refine fa_ends dtokenSignB_206 ?_
            refine ja_aload_n dtokenSignB_209 rfl rfl ?_
            refine fg_tokens (v := h 0 6) rfl dtokenSignB_210 ?_
            refine ja_iload_n dtokenSignB_213 rfl rfl ?_
            refine ja_if_le 223 dtokenSignB_214 rfl ⟨by omega, by omega⟩ (fun c214 => ?_) (fun c214 => ?_)
            · refine ja_iload_n dtokenSignB_223 rfl rfl ?_
              refine ja_iconst dtokenSignB_224 ?_
              refine ja_iadd dtokenSignB_225 ?_
              have g10 := gW_ends g9 (h 0 6).toNat (x := a1 + 1) ⟨by omega, by omega⟩
              refine is_ends ⟨by omega, by omega⟩ dtokenSignB_226 ?_
              refine ja_aload_n dtokenSignB_227 rfl rfl ?_
              refine fa_worths dtokenSignB_228 ?_
              refine ja_aload_n dtokenSignB_231 rfl rfl ?_
              refine fg_tokens (v := h 0 6) rfl dtokenSignB_232 ?_
              refine ja_iload_n dtokenSignB_235 rfl rfl ?_
              refine ja_if_le 243 dtokenSignB_236 rfl ⟨by omega, by omega⟩ (fun c236 => ?_) (fun c236 => ?_)
              · refine ja_iload_n dtokenSignB_243 rfl rfl ?_
                have g11 := gW_worths g10 (h 0 6).toNat (x := x2) ⟨by omega, by omega⟩
                refine is_worths ⟨by omega, by omega⟩ dtokenSignB_244 ?_
                refine ja_return dtokenSignB_245 rfl ?_
                exact k1 (ja_up (ja_up (ja_up h 2 ((h 0 6).toNat) 7) 4 ((h 0 6).toNat) (a1 + 1)) 5 ((h 0 6).toNat) x2) (⟨(by (repeat (first | exact ag_refl | refine ag_up rfl ?_))), (by simp [ja_up]), (by simp [ja_up])⟩) g11
              · refine ja_iload_n dtokenSignB_239 rfl rfl ?_
                refine ja_goto 244 dtokenSignB_240 rfl ?_
                have g12 := gW_worths g10 (h 0 6).toNat (x := x3) ⟨by omega, by omega⟩
                refine is_worths ⟨by omega, by omega⟩ dtokenSignB_244 ?_
                refine ja_return dtokenSignB_245 rfl ?_
                exact k1 (ja_up (ja_up (ja_up h 2 ((h 0 6).toNat) 7) 4 ((h 0 6).toNat) (a1 + 1)) 5 ((h 0 6).toNat) x3) (⟨(by (repeat (first | exact ag_refl | refine ag_up rfl ?_))), (by simp [ja_up]), (by simp [ja_up])⟩) g12
            · refine ja_iload_n dtokenSignB_217 rfl rfl ?_
              refine ja_iconst dtokenSignB_218 ?_
              refine ja_iadd dtokenSignB_219 ?_
              refine ja_goto 226 dtokenSignB_220 rfl ?_
              have g13 := gW_ends g9 (h 0 6).toNat (x := a1 + 2) ⟨by omega, by omega⟩
              refine is_ends ⟨by omega, by omega⟩ dtokenSignB_226 ?_
              refine ja_aload_n dtokenSignB_227 rfl rfl ?_
              refine fa_worths dtokenSignB_228 ?_
              refine ja_aload_n dtokenSignB_231 rfl rfl ?_
              refine fg_tokens (v := h 0 6) rfl dtokenSignB_232 ?_
              refine ja_iload_n dtokenSignB_235 rfl rfl ?_
              refine ja_if_le 243 dtokenSignB_236 rfl ⟨by omega, by omega⟩ (fun c236 => ?_) (fun c236 => ?_)
              · refine ja_iload_n dtokenSignB_243 rfl rfl ?_
                have g14 := gW_worths g13 (h 0 6).toNat (x := x2) ⟨by omega, by omega⟩
                refine is_worths ⟨by omega, by omega⟩ dtokenSignB_244 ?_
                refine ja_return dtokenSignB_245 rfl ?_
                exact k1 (ja_up (ja_up (ja_up h 2 ((h 0 6).toNat) 7) 4 ((h 0 6).toNat) (a1 + 2)) 5 ((h 0 6).toNat) x2) (⟨(by (repeat (first | exact ag_refl | refine ag_up rfl ?_))), (by simp [ja_up]), (by simp [ja_up])⟩) g14
              · refine ja_iload_n dtokenSignB_239 rfl rfl ?_
                refine ja_goto 244 dtokenSignB_240 rfl ?_
                have g15 := gW_worths g13 (h 0 6).toNat (x := x3) ⟨by omega, by omega⟩
                refine is_worths ⟨by omega, by omega⟩ dtokenSignB_244 ?_
                refine ja_return dtokenSignB_245 rfl ?_
                exact k1 (ja_up (ja_up (ja_up h 2 ((h 0 6).toNat) 7) 4 ((h 0 6).toNat) (a1 + 2)) 5 ((h 0 6).toNat) x3) (⟨(by (repeat (first | exact ag_refl | refine ag_up rfl ?_))), (by simp [ja_up]), (by simp [ja_up])⟩) g15
          · refine ja_iconst dtokenSignB_198 ?_
            refine ja_goto 204 dtokenSignB_199 rfl ?_
            have g16 := gW_kinds g (h 0 6).toNat (x := 5) ⟨by decide, by decide⟩
            refine is_kinds ⟨by omega, by omega⟩ dtokenSignB_204 ?_
            refine ja_aload_n dtokenSignB_205 rfl rfl ?_
            refine fa_ends dtokenSignB_206 ?_
            refine ja_aload_n dtokenSignB_209 rfl rfl ?_
            refine fg_tokens (v := h 0 6) rfl dtokenSignB_210 ?_
            refine ja_iload_n dtokenSignB_213 rfl rfl ?_
            refine ja_if_le 223 dtokenSignB_214 rfl ⟨by omega, by omega⟩ (fun c214 => ?_) (fun c214 => ?_)
            · refine ja_iload_n dtokenSignB_223 rfl rfl ?_
              refine ja_iconst dtokenSignB_224 ?_
              refine ja_iadd dtokenSignB_225 ?_
              have g17 := gW_ends g16 (h 0 6).toNat (x := a1 + 1) ⟨by omega, by omega⟩
              refine is_ends ⟨by omega, by omega⟩ dtokenSignB_226 ?_
              refine ja_aload_n dtokenSignB_227 rfl rfl ?_
              refine fa_worths dtokenSignB_228 ?_
              refine ja_aload_n dtokenSignB_231 rfl rfl ?_
              refine fg_tokens (v := h 0 6) rfl dtokenSignB_232 ?_
              refine ja_iload_n dtokenSignB_235 rfl rfl ?_
              refine ja_if_le 243 dtokenSignB_236 rfl ⟨by omega, by omega⟩ (fun c236 => ?_) (fun c236 => ?_)
              · refine ja_iload_n dtokenSignB_243 rfl rfl ?_
                have g18 := gW_worths g17 (h 0 6).toNat (x := x2) ⟨by omega, by omega⟩
                refine is_worths ⟨by omega, by omega⟩ dtokenSignB_244 ?_
                refine ja_return dtokenSignB_245 rfl ?_
                exact k1 (ja_up (ja_up (ja_up h 2 ((h 0 6).toNat) 5) 4 ((h 0 6).toNat) (a1 + 1)) 5 ((h 0 6).toNat) x2) (⟨(by (repeat (first | exact ag_refl | refine ag_up rfl ?_))), (by simp [ja_up]), (by simp [ja_up])⟩) g18
              · refine ja_iload_n dtokenSignB_239 rfl rfl ?_
                refine ja_goto 244 dtokenSignB_240 rfl ?_
                have g19 := gW_worths g17 (h 0 6).toNat (x := x3) ⟨by omega, by omega⟩
                refine is_worths ⟨by omega, by omega⟩ dtokenSignB_244 ?_
                refine ja_return dtokenSignB_245 rfl ?_
                exact k1 (ja_up (ja_up (ja_up h 2 ((h 0 6).toNat) 5) 4 ((h 0 6).toNat) (a1 + 1)) 5 ((h 0 6).toNat) x3) (⟨(by (repeat (first | exact ag_refl | refine ag_up rfl ?_))), (by simp [ja_up]), (by simp [ja_up])⟩) g19
            · refine ja_iload_n dtokenSignB_217 rfl rfl ?_
              refine ja_iconst dtokenSignB_218 ?_
              refine ja_iadd dtokenSignB_219 ?_
              refine ja_goto 226 dtokenSignB_220 rfl ?_
              have g20 := gW_ends g16 (h 0 6).toNat (x := a1 + 2) ⟨by omega, by omega⟩
              refine is_ends ⟨by omega, by omega⟩ dtokenSignB_226 ?_
              refine ja_aload_n dtokenSignB_227 rfl rfl ?_
              refine fa_worths dtokenSignB_228 ?_
              refine ja_aload_n dtokenSignB_231 rfl rfl ?_
              refine fg_tokens (v := h 0 6) rfl dtokenSignB_232 ?_
              refine ja_iload_n dtokenSignB_235 rfl rfl ?_
              refine ja_if_le 243 dtokenSignB_236 rfl ⟨by omega, by omega⟩ (fun c236 => ?_) (fun c236 => ?_)
              · refine ja_iload_n dtokenSignB_243 rfl rfl ?_
                have g21 := gW_worths g20 (h 0 6).toNat (x := x2) ⟨by omega, by omega⟩
                refine is_worths ⟨by omega, by omega⟩ dtokenSignB_244 ?_
                refine ja_return dtokenSignB_245 rfl ?_
                exact k1 (ja_up (ja_up (ja_up h 2 ((h 0 6).toNat) 5) 4 ((h 0 6).toNat) (a1 + 2)) 5 ((h 0 6).toNat) x2) (⟨(by (repeat (first | exact ag_refl | refine ag_up rfl ?_))), (by simp [ja_up]), (by simp [ja_up])⟩) g21
              · refine ja_iload_n dtokenSignB_239 rfl rfl ?_
                refine ja_goto 244 dtokenSignB_240 rfl ?_
                have g22 := gW_worths g20 (h 0 6).toNat (x := x3) ⟨by omega, by omega⟩
                refine is_worths ⟨by omega, by omega⟩ dtokenSignB_244 ?_
                refine ja_return dtokenSignB_245 rfl ?_
                exact k1 (ja_up (ja_up (ja_up h 2 ((h 0 6).toNat) 5) 4 ((h 0 6).toNat) (a1 + 2)) 5 ((h 0 6).toNat) x3) (⟨(by (repeat (first | exact ag_refl | refine ag_up rfl ?_))), (by simp [ja_up]), (by simp [ja_up])⟩) g22
  refine ja_aload_n dtokenSignB_0 rfl rfl ?_
  refine ja_iload_n dtokenSignB_1 rfl rfl ?_
  refine t_byteAt (by decide) (show (0 : Nat) ≤ 8 by decide) dtokenSignB_2 g ⟨by omega, by omega⟩ (show 0 ≤ a1 by omega) ?_
  intro w23 k2_0
  refine ja_istore_n dtokenSignB_5 rfl (by decide) (L2 := [(2, (0, w23)), (0, (2, ((0 : Nat) : Int))), (1, (0, a1))]) rfl ?_
  refine ja_aload_n dtokenSignB_6 rfl rfl ?_
  refine ja_iload_n dtokenSignB_7 rfl rfl ?_
  refine ja_iconst dtokenSignB_8 ?_
  refine ja_iadd dtokenSignB_9 ?_
  refine t_byteAt (by decide) (show (0 : Nat) ≤ 8 by decide) dtokenSignB_10 g ⟨by omega, by omega⟩ (show 0 ≤ (a1 + 1) by omega) ?_
  intro w24 k10_0
  refine ja_bipush 61 dtokenSignB_13 rfl ?_
  refine ja_icmp_eq 22 dtokenSignB_15 rfl ⟨by omega, by omega⟩ ⟨by decide, by decide⟩ (fun c15 => ?_) (fun c15 => ?_)
  · refine ja_iload_n dtokenSignB_22 rfl rfl ?_
    refine ja_bipush 61 dtokenSignB_23 rfl ?_
    refine ja_icmp_ne 34 dtokenSignB_25 rfl ⟨by omega, by omega⟩ ⟨by decide, by decide⟩ (fun c25 => ?_) (fun c25 => ?_)
    · refine ja_iload_n dtokenSignB_34 rfl rfl ?_
      refine ja_bipush 33 dtokenSignB_35 rfl ?_
      refine ja_icmp_ne 46 dtokenSignB_37 rfl ⟨by omega, by omega⟩ ⟨by decide, by decide⟩ (fun c37 => ?_) (fun c37 => ?_)
      · refine ja_iload_n dtokenSignB_46 rfl rfl ?_
        refine ja_bipush 60 dtokenSignB_47 rfl ?_
        refine ja_icmp_ne 58 dtokenSignB_49 rfl ⟨by omega, by omega⟩ ⟨by decide, by decide⟩ (fun c49 => ?_) (fun c49 => ?_)
        · refine ja_iload_n dtokenSignB_58 rfl rfl ?_
          refine ja_bipush 62 dtokenSignB_59 rfl ?_
          refine ja_icmp_ne 70 dtokenSignB_61 rfl ⟨by omega, by omega⟩ ⟨by decide, by decide⟩ (fun c61 => ?_) (fun c61 => ?_)
          · refine ja_iconst dtokenSignB_70 ?_
            exact ja_wk (fun q hq => by simp only [List.mem_cons, List.not_mem_nil, or_false] at hq; rcases hq with rfl | rfl | rfl <;> rfl) ((CUT _).1 w23 0  ⟨by omega, by omega⟩ ⟨by decide, by decide⟩ (show -1 ≤ w23 ∧ w23 ≤ 255 ∧ (0 = 0 ∨ (300 ≤ 0 ∧ 0 ≤ 303 ∧ a1 + 1 < (h 0 1))) by omega) rfl)
          · refine ja_sipush 303 dtokenSignB_64 rfl ?_
            refine ja_goto 71 dtokenSignB_67 rfl ?_
            exact ja_wk (fun q hq => by simp only [List.mem_cons, List.not_mem_nil, or_false] at hq; rcases hq with rfl | rfl | rfl <;> rfl) ((CUT _).1 w23 303  ⟨by omega, by omega⟩ ⟨by decide, by decide⟩ (show -1 ≤ w23 ∧ w23 ≤ 255 ∧ (303 = 0 ∨ (300 ≤ 303 ∧ 303 ≤ 303 ∧ a1 + 1 < (h 0 1))) by omega) rfl)
        · refine ja_sipush 302 dtokenSignB_52 rfl ?_
          refine ja_goto 71 dtokenSignB_55 rfl ?_
          exact ja_wk (fun q hq => by simp only [List.mem_cons, List.not_mem_nil, or_false] at hq; rcases hq with rfl | rfl | rfl <;> rfl) ((CUT _).1 w23 302  ⟨by omega, by omega⟩ ⟨by decide, by decide⟩ (show -1 ≤ w23 ∧ w23 ≤ 255 ∧ (302 = 0 ∨ (300 ≤ 302 ∧ 302 ≤ 303 ∧ a1 + 1 < (h 0 1))) by omega) rfl)
      · refine ja_sipush 301 dtokenSignB_40 rfl ?_
        refine ja_goto 71 dtokenSignB_43 rfl ?_
        exact ja_wk (fun q hq => by simp only [List.mem_cons, List.not_mem_nil, or_false] at hq; rcases hq with rfl | rfl | rfl <;> rfl) ((CUT _).1 w23 301  ⟨by omega, by omega⟩ ⟨by decide, by decide⟩ (show -1 ≤ w23 ∧ w23 ≤ 255 ∧ (301 = 0 ∨ (300 ≤ 301 ∧ 301 ≤ 303 ∧ a1 + 1 < (h 0 1))) by omega) rfl)
    · refine ja_sipush 300 dtokenSignB_28 rfl ?_
      refine ja_goto 71 dtokenSignB_31 rfl ?_
      exact ja_wk (fun q hq => by simp only [List.mem_cons, List.not_mem_nil, or_false] at hq; rcases hq with rfl | rfl | rfl <;> rfl) ((CUT _).1 w23 300  ⟨by omega, by omega⟩ ⟨by decide, by decide⟩ (show -1 ≤ w23 ∧ w23 ≤ 255 ∧ (300 = 0 ∨ (300 ≤ 300 ∧ 300 ≤ 303 ∧ a1 + 1 < (h 0 1))) by omega) rfl)
  · refine ja_iconst dtokenSignB_18 ?_
    refine ja_goto 71 dtokenSignB_19 rfl ?_
    exact ja_wk (fun q hq => by simp only [List.mem_cons, List.not_mem_nil, or_false] at hq; rcases hq with rfl | rfl | rfl <;> rfl) ((CUT _).1 w23 0  ⟨by omega, by omega⟩ ⟨by decide, by decide⟩ (show -1 ≤ w23 ∧ w23 ≤ 255 ∧ (0 = 0 ∨ (300 ≤ 0 ∧ 0 ≤ 303 ∧ a1 + 1 < (h 0 1))) by omega) rfl)
theorem t_tokenSign2 {a1 : Int} {d nL pc : Nat} {cc : ByteArray} {rt : Option FieldType} {L : List (Nat × ja_V)} {S : List ja_V} {h : ja_H} {Q : Option ja_V → ja_H → Prop} (hdd : 2 < d) (hwd : ja_wd S ≤ 8) (hd : decode cc pc = .ok (.invokevirtual 571, 3)) (g : mo_G mo_zr h) (r1 : -2147483648 ≤ a1 ∧ a1 ≤ 2147483647) (p1 : 0 ≤ a1 ∧ a1 < (h 0 1)) (p2 : (h 0 6) ≤ 900) (k1 : ∀ (h' : ja_H), (mo_ag FSX h h' ∧ (h' 0 6) = (h 0 6) ∧ (h' 0 1) = (h 0 1)) → mo_G mo_zr h' → mJ l D cA ad d cc nL rt (pc + 3) L S h' Q) : mJ l D cA ad d cc nL rt pc L ((0, a1) :: (2, ((0 : Nat) : Int)) :: S) h Q :=
  mc_tokenSign hdd hwd hd (s_tokenSign2 g r1 p1 p2 k1)
end
theorem dscanB_0 : decode cX12_scan 0 = .ok (.aload_n 0, 1) := by decide +kernel
theorem dscanB_1 : decode cX12_scan 1 = .ok (.iconst 0, 1) := by decide +kernel
theorem dscanB_2 : decode cX12_scan 2 = .ok (.putfield 536, 3) := by decide +kernel
theorem dscanB_5 : decode cX12_scan 5 = .ok (.aload_n 0, 1) := by decide +kernel
theorem dscanB_6 : decode cX12_scan 6 = .ok (.iconst 0, 1) := by decide +kernel
theorem dscanB_7 : decode cX12_scan 7 = .ok (.invokevirtual 558, 3) := by decide +kernel
theorem dscanB_10 : decode cX12_scan 10 = .ok (.istore_n 1, 1) := by decide +kernel
theorem dscanB_11 : decode cX12_scan 11 = .ok (.iconst 1, 1) := by decide +kernel
theorem dscanB_12 : decode cX12_scan 12 = .ok (.istore_n 2, 1) := by decide +kernel
theorem dscanB_13 : decode cX12_scan 13 = .ok (.iload_n 2, 1) := by decide +kernel
theorem dscanB_14 : decode cX12_scan 14 = .ok (.ifCond .eq 189, 3) := by decide +kernel
theorem dscanB_17 : decode cX12_scan 17 = .ok (.aload_n 0, 1) := by decide +kernel
theorem dscanB_18 : decode cX12_scan 18 = .ok (.getfield 16, 3) := by decide +kernel
theorem dscanB_21 : decode cX12_scan 21 = .ok (.aload_n 0, 1) := by decide +kernel
theorem dscanB_22 : decode cX12_scan 22 = .ok (.getfield 536, 3) := by decide +kernel
theorem dscanB_25 : decode cX12_scan 25 = .ok (.iload_n 1, 1) := by decide +kernel
theorem dscanB_26 : decode cX12_scan 26 = .ok (.iastore, 1) := by decide +kernel
theorem dscanB_27 : decode cX12_scan 27 = .ok (.aload_n 0, 1) := by decide +kernel
theorem dscanB_28 : decode cX12_scan 28 = .ok (.iload_n 1, 1) := by decide +kernel
theorem dscanB_29 : decode cX12_scan 29 = .ok (.invokevirtual 437, 3) := by decide +kernel
theorem dscanB_32 : decode cX12_scan 32 = .ok (.istore_n 3, 1) := by decide +kernel
theorem dscanB_33 : decode cX12_scan 33 = .ok (.iload_n 1, 1) := by decide +kernel
theorem dscanB_34 : decode cX12_scan 34 = .ok (.aload_n 0, 1) := by decide +kernel
theorem dscanB_35 : decode cX12_scan 35 = .ok (.getfield 427, 3) := by decide +kernel
theorem dscanB_38 : decode cX12_scan 38 = .ok (.if_icmp .lt 37, 3) := by decide +kernel
theorem dscanB_41 : decode cX12_scan 41 = .ok (.aload_n 0, 1) := by decide +kernel
theorem dscanB_42 : decode cX12_scan 42 = .ok (.getfield 13, 3) := by decide +kernel
theorem dscanB_45 : decode cX12_scan 45 = .ok (.aload_n 0, 1) := by decide +kernel
theorem dscanB_46 : decode cX12_scan 46 = .ok (.getfield 536, 3) := by decide +kernel
theorem dscanB_49 : decode cX12_scan 49 = .ok (.bipush 6, 2) := by decide +kernel
theorem dscanB_51 : decode cX12_scan 51 = .ok (.iastore, 1) := by decide +kernel
theorem dscanB_52 : decode cX12_scan 52 = .ok (.aload_n 0, 1) := by decide +kernel
theorem dscanB_53 : decode cX12_scan 53 = .ok (.getfield 22, 3) := by decide +kernel
theorem dscanB_56 : decode cX12_scan 56 = .ok (.aload_n 0, 1) := by decide +kernel
theorem dscanB_57 : decode cX12_scan 57 = .ok (.getfield 536, 3) := by decide +kernel
theorem dscanB_60 : decode cX12_scan 60 = .ok (.iconst 0, 1) := by decide +kernel
theorem dscanB_61 : decode cX12_scan 61 = .ok (.iastore, 1) := by decide +kernel
theorem dscanB_62 : decode cX12_scan 62 = .ok (.aload_n 0, 1) := by decide +kernel
theorem dscanB_63 : decode cX12_scan 63 = .ok (.getfield 19, 3) := by decide +kernel
theorem dscanB_66 : decode cX12_scan 66 = .ok (.aload_n 0, 1) := by decide +kernel
theorem dscanB_67 : decode cX12_scan 67 = .ok (.getfield 536, 3) := by decide +kernel
theorem dscanB_70 : decode cX12_scan 70 = .ok (.iload_n 1, 1) := by decide +kernel
theorem dscanB_71 : decode cX12_scan 71 = .ok (.iastore, 1) := by decide +kernel
theorem dscanB_72 : decode cX12_scan 72 = .ok (.goto 52, 3) := by decide +kernel
theorem dscanB_75 : decode cX12_scan 75 = .ok (.iload_n 3, 1) := by decide +kernel
theorem dscanB_76 : decode cX12_scan 76 = .ok (.invokestatic 539, 3) := by decide +kernel
theorem dscanB_79 : decode cX12_scan 79 = .ok (.ifCond .eq 11, 3) := by decide +kernel
theorem dscanB_82 : decode cX12_scan 82 = .ok (.aload_n 0, 1) := by decide +kernel
theorem dscanB_83 : decode cX12_scan 83 = .ok (.iload_n 1, 1) := by decide +kernel
theorem dscanB_84 : decode cX12_scan 84 = .ok (.invokevirtual 561, 3) := by decide +kernel
theorem dscanB_87 : decode cX12_scan 87 = .ok (.goto 37, 3) := by decide +kernel
theorem dscanB_90 : decode cX12_scan 90 = .ok (.iload_n 3, 1) := by decide +kernel
theorem dscanB_91 : decode cX12_scan 91 = .ok (.invokestatic 543, 3) := by decide +kernel
theorem dscanB_94 : decode cX12_scan 94 = .ok (.ifCond .eq 11, 3) := by decide +kernel
theorem dscanB_97 : decode cX12_scan 97 = .ok (.aload_n 0, 1) := by decide +kernel
theorem dscanB_98 : decode cX12_scan 98 = .ok (.iload_n 1, 1) := by decide +kernel
theorem dscanB_99 : decode cX12_scan 99 = .ok (.invokevirtual 565, 3) := by decide +kernel
theorem dscanB_102 : decode cX12_scan 102 = .ok (.goto 22, 3) := by decide +kernel
theorem dscanB_105 : decode cX12_scan 105 = .ok (.iload_n 3, 1) := by decide +kernel
theorem dscanB_106 : decode cX12_scan 106 = .ok (.bipush 34, 2) := by decide +kernel
theorem dscanB_108 : decode cX12_scan 108 = .ok (.if_icmp .ne 11, 3) := by decide +kernel
theorem dscanB_111 : decode cX12_scan 111 = .ok (.aload_n 0, 1) := by decide +kernel
theorem dscanB_112 : decode cX12_scan 112 = .ok (.iload_n 1, 1) := by decide +kernel
theorem dscanB_113 : decode cX12_scan 113 = .ok (.invokevirtual 568, 3) := by decide +kernel
theorem dscanB_116 : decode cX12_scan 116 = .ok (.goto 8, 3) := by decide +kernel
theorem dscanB_119 : decode cX12_scan 119 = .ok (.aload_n 0, 1) := by decide +kernel
theorem dscanB_120 : decode cX12_scan 120 = .ok (.iload_n 1, 1) := by decide +kernel
theorem dscanB_121 : decode cX12_scan 121 = .ok (.invokevirtual 571, 3) := by decide +kernel
theorem dscanB_124 : decode cX12_scan 124 = .ok (.aload_n 0, 1) := by decide +kernel
theorem dscanB_125 : decode cX12_scan 125 = .ok (.getfield 13, 3) := by decide +kernel
theorem dscanB_128 : decode cX12_scan 128 = .ok (.aload_n 0, 1) := by decide +kernel
theorem dscanB_129 : decode cX12_scan 129 = .ok (.getfield 536, 3) := by decide +kernel
theorem dscanB_132 : decode cX12_scan 132 = .ok (.iaload, 1) := by decide +kernel
theorem dscanB_133 : decode cX12_scan 133 = .ok (.bipush 6, 2) := by decide +kernel
theorem dscanB_135 : decode cX12_scan 135 = .ok (.if_icmp .eq 31, 3) := by decide +kernel
theorem dscanB_138 : decode cX12_scan 138 = .ok (.aload_n 0, 1) := by decide +kernel
theorem dscanB_139 : decode cX12_scan 139 = .ok (.getfield 13, 3) := by decide +kernel
theorem dscanB_142 : decode cX12_scan 142 = .ok (.aload_n 0, 1) := by decide +kernel
theorem dscanB_143 : decode cX12_scan 143 = .ok (.getfield 536, 3) := by decide +kernel
theorem dscanB_146 : decode cX12_scan 146 = .ok (.iaload, 1) := by decide +kernel
theorem dscanB_147 : decode cX12_scan 147 = .ok (.bipush 7, 2) := by decide +kernel
theorem dscanB_149 : decode cX12_scan 149 = .ok (.if_icmp .eq 17, 3) := by decide +kernel
theorem dscanB_152 : decode cX12_scan 152 = .ok (.aload_n 0, 1) := by decide +kernel
theorem dscanB_153 : decode cX12_scan 153 = .ok (.getfield 536, 3) := by decide +kernel
theorem dscanB_156 : decode cX12_scan 156 = .ok (.sipush 900, 3) := by decide +kernel
theorem dscanB_159 : decode cX12_scan 159 = .ok (.if_icmp .ge 7, 3) := by decide +kernel
theorem dscanB_162 : decode cX12_scan 162 = .ok (.iconst 1, 1) := by decide +kernel
theorem dscanB_163 : decode cX12_scan 163 = .ok (.goto 4, 3) := by decide +kernel
theorem dscanB_166 : decode cX12_scan 166 = .ok (.iconst 0, 1) := by decide +kernel
theorem dscanB_167 : decode cX12_scan 167 = .ok (.istore_n 2, 1) := by decide +kernel
theorem dscanB_168 : decode cX12_scan 168 = .ok (.iload_n 2, 1) := by decide +kernel
theorem dscanB_169 : decode cX12_scan 169 = .ok (.ifCond .eq 19, 3) := by decide +kernel
theorem dscanB_172 : decode cX12_scan 172 = .ok (.aload_n 0, 1) := by decide +kernel
theorem dscanB_173 : decode cX12_scan 173 = .ok (.aload_n 0, 1) := by decide +kernel
theorem dscanB_174 : decode cX12_scan 174 = .ok (.getfield 19, 3) := by decide +kernel
theorem dscanB_177 : decode cX12_scan 177 = .ok (.aload_n 0, 1) := by decide +kernel
theorem dscanB_178 : decode cX12_scan 178 = .ok (.getfield 536, 3) := by decide +kernel
theorem dscanB_181 : decode cX12_scan 181 = .ok (.iaload, 1) := by decide +kernel
theorem dscanB_182 : decode cX12_scan 182 = .ok (.invokevirtual 558, 3) := by decide +kernel
theorem dscanB_185 : decode cX12_scan 185 = .ok (.goto 4, 3) := by decide +kernel
theorem dscanB_188 : decode cX12_scan 188 = .ok (.iload_n 1, 1) := by decide +kernel
theorem dscanB_189 : decode cX12_scan 189 = .ok (.istore_n 1, 1) := by decide +kernel
theorem dscanB_190 : decode cX12_scan 190 = .ok (.aload_n 0, 1) := by decide +kernel
theorem dscanB_191 : decode cX12_scan 191 = .ok (.dup, 1) := by decide +kernel
theorem dscanB_192 : decode cX12_scan 192 = .ok (.getfield 536, 3) := by decide +kernel
theorem dscanB_195 : decode cX12_scan 195 = .ok (.iconst 1, 1) := by decide +kernel
theorem dscanB_196 : decode cX12_scan 196 = .ok (.iadd, 1) := by decide +kernel
theorem dscanB_197 : decode cX12_scan 197 = .ok (.putfield 536, 3) := by decide +kernel
theorem dscanB_200 : decode cX12_scan 200 = .ok (.goto (-187), 3) := by decide +kernel
theorem dscanB_203 : decode cX12_scan 203 = .ok (.return_, 1) := by decide +kernel
section
variable {l : Launch} {D : va_G} {cA : Nat → ClassId} {ad : Nat → Nat}
theorem s_scan2 {h : ja_H} {Q : Option ja_V → ja_H → Prop} (g : mo_G mo_zr h) (k1 : ∀ (h' : ja_H), (mo_ag FSX h h' ∧ (h' 0 1) = (h 0 1)) → mo_G mo_zr h' → Q none h') : mM_scan l D cA ad  h Q := by
  show mJ l D cA ad 4 cX12_scan 4 none 0 [(0, (2, ((0 : Nat) : Int)))] [] h Q
  have kn_size := gF_size g
  have kn_tokens := gF_tokens g
  have CUT : ∀ n : Nat, (∀ (x1 x2 : Int) (u : ja_H), mo_G mo_zr u → (-2147483648 ≤ x1 ∧ x1 ≤ 2147483647) → (-2147483648 ≤ x2 ∧ x2 ≤ 2147483647) → (0 ≤ x2 ∧ x2 ≤ 1 ∧ 0 ≤ x1 ∧ x1 ≤ 5001 ∧ (x2 = 1 → (u 0 6) ≤ 900) ∧ mo_ag FSX h u ∧ (u 0 1) = (h 0 1)) → ((902 - (u 0 6)).toNat) = n → mJ l D cA ad 4 cX12_scan 4 none 13 [(0, (2, ((0 : Nat) : Int))), (1, (0, x1)), (2, (0, x2))] [] u Q) := by
    intro n
    induction n using Nat.strongRecOn with
    | _ n ih =>
      skip
      · intro x1 x2 u gu qx1 qx2 iv hm
        subst hm
        have ku_size := gF_size gu
        have ku_tokens := gF_tokens gu
        obtain ⟨i0, i1, i2, i3, i4, i5, i6⟩ := iv
        refine ja_iload_n dscanB_13 rfl rfl ?_
        refine ja_if_eq 203 dscanB_14 rfl ⟨by omega, by omega⟩ (fun c14 => ?_) (fun c14 => ?_)
        · refine ja_return dscanB_203 rfl ?_
          exact k1 u (⟨i5, i6⟩) gu
        · refine ja_aload_n dscanB_17 rfl rfl ?_
          refine fa_places dscanB_18 ?_
          refine ja_aload_n dscanB_21 rfl rfl ?_
          refine fg_tokens (v := u 0 6) rfl dscanB_22 ?_
          have f1 := gF_tokens gu
          refine ja_iload_n dscanB_25 rfl rfl ?_
          have g2 := gW_places gu (u 0 6).toNat (x := x1) ⟨by omega, by omega⟩
          refine is_places ⟨by omega, by omega⟩ dscanB_26 ?_
          refine ja_aload_n dscanB_27 rfl rfl ?_
          refine ja_iload_n dscanB_28 rfl rfl ?_
          refine t_byteAt (by decide) (show (0 : Nat) ≤ 8 by decide) dscanB_29 g2 ⟨by omega, by omega⟩ (show 0 ≤ x1 by omega) ?_
          intro w3 k29_0
          replace k29_0 : (w3 = -1 ∧ (u 0 1) ≤ x1) ∨ (0 ≤ w3 ∧ w3 ≤ 255 ∧ x1 < (u 0 1) ∧ w3 = (u 1 (x1).toNat)) := k29_0
          refine ja_istore_n dscanB_32 rfl (by decide) (L2 := [(3, (0, w3)), (0, (2, ((0 : Nat) : Int))), (1, (0, x1)), (2, (0, x2))]) rfl ?_
          refine ja_iload_n dscanB_33 rfl rfl ?_
          refine ja_aload_n dscanB_34 rfl rfl ?_
          refine fg_size (v := u 0 1) rfl dscanB_35 ?_
          have f4 := gF_size gu
          refine ja_icmp_lt 75 dscanB_38 rfl ⟨by omega, by omega⟩ ⟨by omega, by omega⟩ (fun c38 => ?_) (fun c38 => ?_)
          · refine ja_iload_n dscanB_75 rfl rfl ?_
            refine t_isLetter (by decide) (show (0 : Nat) ≤ 8 by decide) dscanB_76 g2 ⟨by omega, by omega⟩ ?_
            intro w5 k76_0
            replace k76_0 : 0 ≤ w5 ∧ w5 ≤ 1 ∧ (w5 = 1 → 65 ≤ w3 ∧ w3 ≤ 122) := k76_0
            refine ja_if_eq 90 dscanB_79 rfl ⟨by omega, by omega⟩ (fun c79 => ?_) (fun c79 => ?_)
            · refine ja_iload_n dscanB_90 rfl rfl ?_
              refine t_isDigit (by decide) (show (0 : Nat) ≤ 8 by decide) dscanB_91 g2 ⟨by omega, by omega⟩ ?_
              intro w6 k91_0
              replace k91_0 : 0 ≤ w6 ∧ w6 ≤ 1 ∧ (w6 = 1 → 48 ≤ w3 ∧ w3 ≤ 57) := k91_0
              refine ja_if_eq 105 dscanB_94 rfl ⟨by omega, by omega⟩ (fun c94 => ?_) (fun c94 => ?_)
              · refine ja_iload_n dscanB_105 rfl rfl ?_
                refine ja_bipush 34 dscanB_106 rfl ?_
                refine ja_icmp_ne 119 dscanB_108 rfl ⟨by omega, by omega⟩ ⟨by decide, by decide⟩ (fun c108 => ?_) (fun c108 => ?_)
                · refine ja_aload_n dscanB_119 rfl rfl ?_
                  refine ja_iload_n dscanB_120 rfl rfl ?_
                  refine t_tokenSign2 (by decide) (show (0 : Nat) ≤ 8 by decide) dscanB_121 g2 ⟨by omega, by omega⟩ (show 0 ≤ x1 ∧ x1 < (u 0 1) by omega) (show (u 0 6) ≤ 900 by omega) ?_
                  intro h7 k121_0 g8
                  replace k121_0 : mo_ag FSX (ja_up u 3 ((u 0 6).toNat) x1) h7 ∧ (h7 0 6) = (u 0 6) ∧ (h7 0 1) = (u 0 1) := k121_0
                  refine ja_aload_n dscanB_124 rfl rfl ?_
                  refine fa_kinds dscanB_125 ?_
                  refine ja_aload_n dscanB_128 rfl rfl ?_
                  refine fg_tokens (v := h7 0 6) rfl dscanB_129 ?_
                  have f9 := gF_tokens g8
                  refine il_kinds (v := h7 2 (h7 0 6).toNat) rfl ⟨by omega, by omega⟩ dscanB_132 ?_
                  have f10 := gC_kinds g8 (h7 0 6).toNat
                  refine ja_bipush 6 dscanB_133 rfl ?_
                  refine ja_icmp_eq 166 dscanB_135 rfl ⟨by omega, by omega⟩ ⟨by decide, by decide⟩ (fun c135 => ?_) (fun c135 => ?_)
                  · refine ja_iconst dscanB_166 ?_
                    refine ja_istore_n dscanB_167 rfl (by decide) (L2 := [(2, (0, 0)), (3, (0, w3)), (0, (2, ((0 : Nat) : Int))), (1, (0, x1))]) rfl ?_
                    refine ja_iload_n dscanB_168 rfl rfl ?_
                    refine ja_if_eq 188 dscanB_169 rfl ⟨by decide, by decide⟩ (fun c169 => ?_) (fun c169 => absurd c169 (by omega))
                    refine ja_iload_n dscanB_188 rfl rfl ?_
                    refine ja_istore_n dscanB_189 rfl (by decide) (L2 := [(1, (0, x1)), (2, (0, 0)), (3, (0, w3)), (0, (2, ((0 : Nat) : Int)))]) rfl ?_
                    refine ja_aload_n dscanB_190 rfl rfl ?_
                    refine ja_dup dscanB_191 (by decide) ?_
                    refine fg_tokens (v := h7 0 6) rfl dscanB_192 ?_
                    refine ja_iconst dscanB_195 ?_
                    refine ja_iadd dscanB_196 ?_
                    have g11 := gP_tokens g8 (x := (h7 0 6) + 1) ⟨by omega, by omega⟩
                    refine fp_tokens dscanB_197 ?_
                    refine ja_goto 13 dscanB_200 rfl ?_
                    exact ja_wk (fun q hq => by simp only [List.mem_cons, List.not_mem_nil, or_false] at hq; rcases hq with rfl | rfl | rfl <;> rfl) ((ih ((902 - ((h7 0 6) + 1)).toNat) (by omega)) x1 0 (ja_up h7 0 6 ((h7 0 6) + 1)) g11 ⟨by omega, by omega⟩ ⟨by decide, by decide⟩ (⟨by omega, by omega, by omega, by omega, (show ((0 : Int) = 1 → (((h7 0 6) + 1) : Int) ≤ 900) by omega), (ag_trans i5 (ag_trans (by (repeat (first | exact ag_refl | refine ag_up rfl ?_))) (ag_trans k121_0.1 (by (repeat (first | exact ag_refl | refine ag_up rfl ?_)))))), (show ((h7 0 1) : Int) = (h 0 1) by omega)⟩) rfl)
                  · refine ja_aload_n dscanB_138 rfl rfl ?_
                    refine fa_kinds dscanB_139 ?_
                    refine ja_aload_n dscanB_142 rfl rfl ?_
                    refine fg_tokens (v := h7 0 6) rfl dscanB_143 ?_
                    refine il_kinds (v := h7 2 (h7 0 6).toNat) rfl ⟨by omega, by omega⟩ dscanB_146 ?_
                    refine ja_bipush 7 dscanB_147 rfl ?_
                    refine ja_icmp_eq 166 dscanB_149 rfl ⟨by omega, by omega⟩ ⟨by decide, by decide⟩ (fun c149 => ?_) (fun c149 => ?_)
                    · refine ja_iconst dscanB_166 ?_
                      refine ja_istore_n dscanB_167 rfl (by decide) (L2 := [(2, (0, 0)), (3, (0, w3)), (0, (2, ((0 : Nat) : Int))), (1, (0, x1))]) rfl ?_
                      refine ja_iload_n dscanB_168 rfl rfl ?_
                      refine ja_if_eq 188 dscanB_169 rfl ⟨by decide, by decide⟩ (fun c169 => ?_) (fun c169 => absurd c169 (by omega))
                      refine ja_iload_n dscanB_188 rfl rfl ?_
                      refine ja_istore_n dscanB_189 rfl (by decide) (L2 := [(1, (0, x1)), (2, (0, 0)), (3, (0, w3)), (0, (2, ((0 : Nat) : Int)))]) rfl ?_
                      refine ja_aload_n dscanB_190 rfl rfl ?_
                      refine ja_dup dscanB_191 (by decide) ?_
                      refine fg_tokens (v := h7 0 6) rfl dscanB_192 ?_
                      refine ja_iconst dscanB_195 ?_
                      refine ja_iadd dscanB_196 ?_
                      have g12 := gP_tokens g8 (x := (h7 0 6) + 1) ⟨by omega, by omega⟩
                      refine fp_tokens dscanB_197 ?_
                      refine ja_goto 13 dscanB_200 rfl ?_
                      exact ja_wk (fun q hq => by simp only [List.mem_cons, List.not_mem_nil, or_false] at hq; rcases hq with rfl | rfl | rfl <;> rfl) ((ih ((902 - ((h7 0 6) + 1)).toNat) (by omega)) x1 0 (ja_up h7 0 6 ((h7 0 6) + 1)) g12 ⟨by omega, by omega⟩ ⟨by decide, by decide⟩ (⟨by omega, by omega, by omega, by omega, (show ((0 : Int) = 1 → (((h7 0 6) + 1) : Int) ≤ 900) by omega), (ag_trans i5 (ag_trans (by (repeat (first | exact ag_refl | refine ag_up rfl ?_))) (ag_trans k121_0.1 (by (repeat (first | exact ag_refl | refine ag_up rfl ?_)))))), (show ((h7 0 1) : Int) = (h 0 1) by omega)⟩) rfl)
                    · refine ja_aload_n dscanB_152 rfl rfl ?_
                      refine fg_tokens (v := h7 0 6) rfl dscanB_153 ?_
                      refine ja_sipush 900 dscanB_156 rfl ?_
                      refine ja_icmp_ge 166 dscanB_159 rfl ⟨by omega, by omega⟩ ⟨by decide, by decide⟩ (fun c159 => ?_) (fun c159 => ?_)
                      · refine ja_iconst dscanB_166 ?_
                        refine ja_istore_n dscanB_167 rfl (by decide) (L2 := [(2, (0, 0)), (3, (0, w3)), (0, (2, ((0 : Nat) : Int))), (1, (0, x1))]) rfl ?_
                        refine ja_iload_n dscanB_168 rfl rfl ?_
                        refine ja_if_eq 188 dscanB_169 rfl ⟨by decide, by decide⟩ (fun c169 => ?_) (fun c169 => absurd c169 (by omega))
                        refine ja_iload_n dscanB_188 rfl rfl ?_
                        refine ja_istore_n dscanB_189 rfl (by decide) (L2 := [(1, (0, x1)), (2, (0, 0)), (3, (0, w3)), (0, (2, ((0 : Nat) : Int)))]) rfl ?_
                        refine ja_aload_n dscanB_190 rfl rfl ?_
                        refine ja_dup dscanB_191 (by decide) ?_
                        refine fg_tokens (v := h7 0 6) rfl dscanB_192 ?_
                        refine ja_iconst dscanB_195 ?_
                        refine ja_iadd dscanB_196 ?_
                        have g13 := gP_tokens g8 (x := (h7 0 6) + 1) ⟨by omega, by omega⟩
                        refine fp_tokens dscanB_197 ?_
                        refine ja_goto 13 dscanB_200 rfl ?_
                        exact ja_wk (fun q hq => by simp only [List.mem_cons, List.not_mem_nil, or_false] at hq; rcases hq with rfl | rfl | rfl <;> rfl) ((ih ((902 - ((h7 0 6) + 1)).toNat) (by omega)) x1 0 (ja_up h7 0 6 ((h7 0 6) + 1)) g13 ⟨by omega, by omega⟩ ⟨by decide, by decide⟩ (⟨by omega, by omega, by omega, by omega, (show ((0 : Int) = 1 → (((h7 0 6) + 1) : Int) ≤ 900) by omega), (ag_trans i5 (ag_trans (by (repeat (first | exact ag_refl | refine ag_up rfl ?_))) (ag_trans k121_0.1 (by (repeat (first | exact ag_refl | refine ag_up rfl ?_)))))), (show ((h7 0 1) : Int) = (h 0 1) by omega)⟩) rfl)
                      · refine ja_iconst dscanB_162 ?_
                        refine ja_goto 167 dscanB_163 rfl ?_
                        refine ja_istore_n dscanB_167 rfl (by decide) (L2 := [(2, (0, 1)), (3, (0, w3)), (0, (2, ((0 : Nat) : Int))), (1, (0, x1))]) rfl ?_
                        refine ja_iload_n dscanB_168 rfl rfl ?_
                        refine ja_if_eq 188 dscanB_169 rfl ⟨by decide, by decide⟩ (fun c169 => absurd c169 (by omega)) (fun c169 => ?_)
                        refine ja_aload_n dscanB_172 rfl rfl ?_
                        refine ja_aload_n dscanB_173 rfl rfl ?_
                        refine fa_ends dscanB_174 ?_
                        refine ja_aload_n dscanB_177 rfl rfl ?_
                        refine fg_tokens (v := h7 0 6) rfl dscanB_178 ?_
                        refine il_ends (v := h7 4 (h7 0 6).toNat) rfl ⟨by omega, by omega⟩ dscanB_181 ?_
                        have f14 := gC_ends g8 (h7 0 6).toNat
                        refine t_skip (by decide) (show (0 : Nat) ≤ 8 by decide) dscanB_182 g8 ⟨by omega, by omega⟩ (show 0 ≤ (h7 4 (h7 0 6).toNat) ∧ (h7 4 (h7 0 6).toNat) ≤ 5001 by omega) ?_
                        intro w15 k182_0
                        refine ja_goto 189 dscanB_185 rfl ?_
                        refine ja_istore_n dscanB_189 rfl (by decide) (L2 := [(1, (0, w15)), (2, (0, 1)), (3, (0, w3)), (0, (2, ((0 : Nat) : Int)))]) rfl ?_
                        refine ja_aload_n dscanB_190 rfl rfl ?_
                        refine ja_dup dscanB_191 (by decide) ?_
                        refine fg_tokens (v := h7 0 6) rfl dscanB_192 ?_
                        refine ja_iconst dscanB_195 ?_
                        refine ja_iadd dscanB_196 ?_
                        have g16 := gP_tokens g8 (x := (h7 0 6) + 1) ⟨by omega, by omega⟩
                        refine fp_tokens dscanB_197 ?_
                        refine ja_goto 13 dscanB_200 rfl ?_
                        exact ja_wk (fun q hq => by simp only [List.mem_cons, List.not_mem_nil, or_false] at hq; rcases hq with rfl | rfl | rfl <;> rfl) ((ih ((902 - ((h7 0 6) + 1)).toNat) (by omega)) w15 1 (ja_up h7 0 6 ((h7 0 6) + 1)) g16 ⟨by omega, by omega⟩ ⟨by decide, by decide⟩ (⟨by omega, by omega, by omega, by omega, (show ((1 : Int) = 1 → (((h7 0 6) + 1) : Int) ≤ 900) by omega), (ag_trans i5 (ag_trans (by (repeat (first | exact ag_refl | refine ag_up rfl ?_))) (ag_trans k121_0.1 (by (repeat (first | exact ag_refl | refine ag_up rfl ?_)))))), (show ((h7 0 1) : Int) = (h 0 1) by omega)⟩) rfl)
                · refine ja_aload_n dscanB_111 rfl rfl ?_
                  refine ja_iload_n dscanB_112 rfl rfl ?_
                  refine t_tokenPattern2 (by decide) (show (0 : Nat) ≤ 8 by decide) dscanB_113 g2 ⟨by omega, by omega⟩ (show 0 ≤ x1 ∧ x1 < (u 0 1) by omega) (show (u 0 6) ≤ 900 by omega) ?_
                  intro h17 k113_0 g18
                  replace k113_0 : mo_ag FSX (ja_up u 3 ((u 0 6).toNat) x1) h17 ∧ (h17 0 6) = (u 0 6) ∧ (h17 0 1) = (u 0 1) := k113_0
                  refine ja_goto 124 dscanB_116 rfl ?_
                  refine ja_aload_n dscanB_124 rfl rfl ?_
                  refine fa_kinds dscanB_125 ?_
                  refine ja_aload_n dscanB_128 rfl rfl ?_
                  refine fg_tokens (v := h17 0 6) rfl dscanB_129 ?_
                  have f19 := gF_tokens g18
                  refine il_kinds (v := h17 2 (h17 0 6).toNat) rfl ⟨by omega, by omega⟩ dscanB_132 ?_
                  have f20 := gC_kinds g18 (h17 0 6).toNat
                  refine ja_bipush 6 dscanB_133 rfl ?_
                  refine ja_icmp_eq 166 dscanB_135 rfl ⟨by omega, by omega⟩ ⟨by decide, by decide⟩ (fun c135 => ?_) (fun c135 => ?_)
                  · refine ja_iconst dscanB_166 ?_
                    refine ja_istore_n dscanB_167 rfl (by decide) (L2 := [(2, (0, 0)), (3, (0, w3)), (0, (2, ((0 : Nat) : Int))), (1, (0, x1))]) rfl ?_
                    refine ja_iload_n dscanB_168 rfl rfl ?_
                    refine ja_if_eq 188 dscanB_169 rfl ⟨by decide, by decide⟩ (fun c169 => ?_) (fun c169 => absurd c169 (by omega))
                    refine ja_iload_n dscanB_188 rfl rfl ?_
                    refine ja_istore_n dscanB_189 rfl (by decide) (L2 := [(1, (0, x1)), (2, (0, 0)), (3, (0, w3)), (0, (2, ((0 : Nat) : Int)))]) rfl ?_
                    refine ja_aload_n dscanB_190 rfl rfl ?_
                    refine ja_dup dscanB_191 (by decide) ?_
                    refine fg_tokens (v := h17 0 6) rfl dscanB_192 ?_
                    refine ja_iconst dscanB_195 ?_
                    refine ja_iadd dscanB_196 ?_
                    have g21 := gP_tokens g18 (x := (h17 0 6) + 1) ⟨by omega, by omega⟩
                    refine fp_tokens dscanB_197 ?_
                    refine ja_goto 13 dscanB_200 rfl ?_
                    exact ja_wk (fun q hq => by simp only [List.mem_cons, List.not_mem_nil, or_false] at hq; rcases hq with rfl | rfl | rfl <;> rfl) ((ih ((902 - ((h17 0 6) + 1)).toNat) (by omega)) x1 0 (ja_up h17 0 6 ((h17 0 6) + 1)) g21 ⟨by omega, by omega⟩ ⟨by decide, by decide⟩ (⟨by omega, by omega, by omega, by omega, (show ((0 : Int) = 1 → (((h17 0 6) + 1) : Int) ≤ 900) by omega), (ag_trans i5 (ag_trans (by (repeat (first | exact ag_refl | refine ag_up rfl ?_))) (ag_trans k113_0.1 (by (repeat (first | exact ag_refl | refine ag_up rfl ?_)))))), (show ((h17 0 1) : Int) = (h 0 1) by omega)⟩) rfl)
                  · refine ja_aload_n dscanB_138 rfl rfl ?_
                    refine fa_kinds dscanB_139 ?_
                    refine ja_aload_n dscanB_142 rfl rfl ?_
                    refine fg_tokens (v := h17 0 6) rfl dscanB_143 ?_
                    refine il_kinds (v := h17 2 (h17 0 6).toNat) rfl ⟨by omega, by omega⟩ dscanB_146 ?_
                    refine ja_bipush 7 dscanB_147 rfl ?_
                    refine ja_icmp_eq 166 dscanB_149 rfl ⟨by omega, by omega⟩ ⟨by decide, by decide⟩ (fun c149 => ?_) (fun c149 => ?_)
                    · refine ja_iconst dscanB_166 ?_
                      refine ja_istore_n dscanB_167 rfl (by decide) (L2 := [(2, (0, 0)), (3, (0, w3)), (0, (2, ((0 : Nat) : Int))), (1, (0, x1))]) rfl ?_
                      refine ja_iload_n dscanB_168 rfl rfl ?_
                      refine ja_if_eq 188 dscanB_169 rfl ⟨by decide, by decide⟩ (fun c169 => ?_) (fun c169 => absurd c169 (by omega))
                      refine ja_iload_n dscanB_188 rfl rfl ?_
                      refine ja_istore_n dscanB_189 rfl (by decide) (L2 := [(1, (0, x1)), (2, (0, 0)), (3, (0, w3)), (0, (2, ((0 : Nat) : Int)))]) rfl ?_
                      refine ja_aload_n dscanB_190 rfl rfl ?_
                      refine ja_dup dscanB_191 (by decide) ?_
                      refine fg_tokens (v := h17 0 6) rfl dscanB_192 ?_
                      refine ja_iconst dscanB_195 ?_
                      refine ja_iadd dscanB_196 ?_
                      have g22 := gP_tokens g18 (x := (h17 0 6) + 1) ⟨by omega, by omega⟩
                      refine fp_tokens dscanB_197 ?_
                      refine ja_goto 13 dscanB_200 rfl ?_
                      exact ja_wk (fun q hq => by simp only [List.mem_cons, List.not_mem_nil, or_false] at hq; rcases hq with rfl | rfl | rfl <;> rfl) ((ih ((902 - ((h17 0 6) + 1)).toNat) (by omega)) x1 0 (ja_up h17 0 6 ((h17 0 6) + 1)) g22 ⟨by omega, by omega⟩ ⟨by decide, by decide⟩ (⟨by omega, by omega, by omega, by omega, (show ((0 : Int) = 1 → (((h17 0 6) + 1) : Int) ≤ 900) by omega), (ag_trans i5 (ag_trans (by (repeat (first | exact ag_refl | refine ag_up rfl ?_))) (ag_trans k113_0.1 (by (repeat (first | exact ag_refl | refine ag_up rfl ?_)))))), (show ((h17 0 1) : Int) = (h 0 1) by omega)⟩) rfl)
                    · refine ja_aload_n dscanB_152 rfl rfl ?_
                      refine fg_tokens (v := h17 0 6) rfl dscanB_153 ?_
                      refine ja_sipush 900 dscanB_156 rfl ?_
                      refine ja_icmp_ge 166 dscanB_159 rfl ⟨by omega, by omega⟩ ⟨by decide, by decide⟩ (fun c159 => ?_) (fun c159 => ?_)
                      · refine ja_iconst dscanB_166 ?_
                        refine ja_istore_n dscanB_167 rfl (by decide) (L2 := [(2, (0, 0)), (3, (0, w3)), (0, (2, ((0 : Nat) : Int))), (1, (0, x1))]) rfl ?_
                        refine ja_iload_n dscanB_168 rfl rfl ?_
                        refine ja_if_eq 188 dscanB_169 rfl ⟨by decide, by decide⟩ (fun c169 => ?_) (fun c169 => absurd c169 (by omega))
                        refine ja_iload_n dscanB_188 rfl rfl ?_
                        refine ja_istore_n dscanB_189 rfl (by decide) (L2 := [(1, (0, x1)), (2, (0, 0)), (3, (0, w3)), (0, (2, ((0 : Nat) : Int)))]) rfl ?_
                        refine ja_aload_n dscanB_190 rfl rfl ?_
                        refine ja_dup dscanB_191 (by decide) ?_
                        refine fg_tokens (v := h17 0 6) rfl dscanB_192 ?_
                        refine ja_iconst dscanB_195 ?_
                        refine ja_iadd dscanB_196 ?_
                        have g23 := gP_tokens g18 (x := (h17 0 6) + 1) ⟨by omega, by omega⟩
                        refine fp_tokens dscanB_197 ?_
                        refine ja_goto 13 dscanB_200 rfl ?_
                        exact ja_wk (fun q hq => by simp only [List.mem_cons, List.not_mem_nil, or_false] at hq; rcases hq with rfl | rfl | rfl <;> rfl) ((ih ((902 - ((h17 0 6) + 1)).toNat) (by omega)) x1 0 (ja_up h17 0 6 ((h17 0 6) + 1)) g23 ⟨by omega, by omega⟩ ⟨by decide, by decide⟩ (⟨by omega, by omega, by omega, by omega, (show ((0 : Int) = 1 → (((h17 0 6) + 1) : Int) ≤ 900) by omega), (ag_trans i5 (ag_trans (by (repeat (first | exact ag_refl | refine ag_up rfl ?_))) (ag_trans k113_0.1 (by (repeat (first | exact ag_refl | refine ag_up rfl ?_)))))), (show ((h17 0 1) : Int) = (h 0 1) by omega)⟩) rfl)
                      · refine ja_iconst dscanB_162 ?_
                        refine ja_goto 167 dscanB_163 rfl ?_
                        refine ja_istore_n dscanB_167 rfl (by decide) (L2 := [(2, (0, 1)), (3, (0, w3)), (0, (2, ((0 : Nat) : Int))), (1, (0, x1))]) rfl ?_
                        refine ja_iload_n dscanB_168 rfl rfl ?_
                        refine ja_if_eq 188 dscanB_169 rfl ⟨by decide, by decide⟩ (fun c169 => absurd c169 (by omega)) (fun c169 => ?_)
                        refine ja_aload_n dscanB_172 rfl rfl ?_
                        refine ja_aload_n dscanB_173 rfl rfl ?_
                        refine fa_ends dscanB_174 ?_
                        refine ja_aload_n dscanB_177 rfl rfl ?_
                        refine fg_tokens (v := h17 0 6) rfl dscanB_178 ?_
                        refine il_ends (v := h17 4 (h17 0 6).toNat) rfl ⟨by omega, by omega⟩ dscanB_181 ?_
                        have f24 := gC_ends g18 (h17 0 6).toNat
                        refine t_skip (by decide) (show (0 : Nat) ≤ 8 by decide) dscanB_182 g18 ⟨by omega, by omega⟩ (show 0 ≤ (h17 4 (h17 0 6).toNat) ∧ (h17 4 (h17 0 6).toNat) ≤ 5001 by omega) ?_
                        intro w25 k182_0
                        refine ja_goto 189 dscanB_185 rfl ?_
                        refine ja_istore_n dscanB_189 rfl (by decide) (L2 := [(1, (0, w25)), (2, (0, 1)), (3, (0, w3)), (0, (2, ((0 : Nat) : Int)))]) rfl ?_
                        refine ja_aload_n dscanB_190 rfl rfl ?_
                        refine ja_dup dscanB_191 (by decide) ?_
                        refine fg_tokens (v := h17 0 6) rfl dscanB_192 ?_
                        refine ja_iconst dscanB_195 ?_
                        refine ja_iadd dscanB_196 ?_
                        have g26 := gP_tokens g18 (x := (h17 0 6) + 1) ⟨by omega, by omega⟩
                        refine fp_tokens dscanB_197 ?_
                        refine ja_goto 13 dscanB_200 rfl ?_
                        exact ja_wk (fun q hq => by simp only [List.mem_cons, List.not_mem_nil, or_false] at hq; rcases hq with rfl | rfl | rfl <;> rfl) ((ih ((902 - ((h17 0 6) + 1)).toNat) (by omega)) w25 1 (ja_up h17 0 6 ((h17 0 6) + 1)) g26 ⟨by omega, by omega⟩ ⟨by decide, by decide⟩ (⟨by omega, by omega, by omega, by omega, (show ((1 : Int) = 1 → (((h17 0 6) + 1) : Int) ≤ 900) by omega), (ag_trans i5 (ag_trans (by (repeat (first | exact ag_refl | refine ag_up rfl ?_))) (ag_trans k113_0.1 (by (repeat (first | exact ag_refl | refine ag_up rfl ?_)))))), (show ((h17 0 1) : Int) = (h 0 1) by omega)⟩) rfl)
              · refine ja_aload_n dscanB_97 rfl rfl ?_
                refine ja_iload_n dscanB_98 rfl rfl ?_
                refine t_tokenWhole2 (by decide) (show (0 : Nat) ≤ 8 by decide) dscanB_99 g2 ⟨by omega, by omega⟩ (show 0 ≤ x1 ∧ x1 < (u 0 1) by omega) (show (u 0 6) ≤ 900 by omega) ?_
                intro h27 k99_0 g28
                replace k99_0 : mo_ag FSX (ja_up u 3 ((u 0 6).toNat) x1) h27 ∧ (h27 0 6) = (u 0 6) ∧ (h27 0 1) = (u 0 1) := k99_0
                refine ja_goto 124 dscanB_102 rfl ?_
                refine ja_aload_n dscanB_124 rfl rfl ?_
                refine fa_kinds dscanB_125 ?_
                refine ja_aload_n dscanB_128 rfl rfl ?_
                refine fg_tokens (v := h27 0 6) rfl dscanB_129 ?_
                have f29 := gF_tokens g28
                refine il_kinds (v := h27 2 (h27 0 6).toNat) rfl ⟨by omega, by omega⟩ dscanB_132 ?_
                have f30 := gC_kinds g28 (h27 0 6).toNat
                refine ja_bipush 6 dscanB_133 rfl ?_
                refine ja_icmp_eq 166 dscanB_135 rfl ⟨by omega, by omega⟩ ⟨by decide, by decide⟩ (fun c135 => ?_) (fun c135 => ?_)
                · refine ja_iconst dscanB_166 ?_
                  refine ja_istore_n dscanB_167 rfl (by decide) (L2 := [(2, (0, 0)), (3, (0, w3)), (0, (2, ((0 : Nat) : Int))), (1, (0, x1))]) rfl ?_
                  refine ja_iload_n dscanB_168 rfl rfl ?_
                  refine ja_if_eq 188 dscanB_169 rfl ⟨by decide, by decide⟩ (fun c169 => ?_) (fun c169 => absurd c169 (by omega))
                  refine ja_iload_n dscanB_188 rfl rfl ?_
                  refine ja_istore_n dscanB_189 rfl (by decide) (L2 := [(1, (0, x1)), (2, (0, 0)), (3, (0, w3)), (0, (2, ((0 : Nat) : Int)))]) rfl ?_
                  refine ja_aload_n dscanB_190 rfl rfl ?_
                  refine ja_dup dscanB_191 (by decide) ?_
                  refine fg_tokens (v := h27 0 6) rfl dscanB_192 ?_
                  refine ja_iconst dscanB_195 ?_
                  refine ja_iadd dscanB_196 ?_
                  have g31 := gP_tokens g28 (x := (h27 0 6) + 1) ⟨by omega, by omega⟩
                  refine fp_tokens dscanB_197 ?_
                  refine ja_goto 13 dscanB_200 rfl ?_
                  exact ja_wk (fun q hq => by simp only [List.mem_cons, List.not_mem_nil, or_false] at hq; rcases hq with rfl | rfl | rfl <;> rfl) ((ih ((902 - ((h27 0 6) + 1)).toNat) (by omega)) x1 0 (ja_up h27 0 6 ((h27 0 6) + 1)) g31 ⟨by omega, by omega⟩ ⟨by decide, by decide⟩ (⟨by omega, by omega, by omega, by omega, (show ((0 : Int) = 1 → (((h27 0 6) + 1) : Int) ≤ 900) by omega), (ag_trans i5 (ag_trans (by (repeat (first | exact ag_refl | refine ag_up rfl ?_))) (ag_trans k99_0.1 (by (repeat (first | exact ag_refl | refine ag_up rfl ?_)))))), (show ((h27 0 1) : Int) = (h 0 1) by omega)⟩) rfl)
                · refine ja_aload_n dscanB_138 rfl rfl ?_
                  refine fa_kinds dscanB_139 ?_
                  refine ja_aload_n dscanB_142 rfl rfl ?_
                  refine fg_tokens (v := h27 0 6) rfl dscanB_143 ?_
                  refine il_kinds (v := h27 2 (h27 0 6).toNat) rfl ⟨by omega, by omega⟩ dscanB_146 ?_
                  refine ja_bipush 7 dscanB_147 rfl ?_
                  refine ja_icmp_eq 166 dscanB_149 rfl ⟨by omega, by omega⟩ ⟨by decide, by decide⟩ (fun c149 => ?_) (fun c149 => ?_)
                  · refine ja_iconst dscanB_166 ?_
                    refine ja_istore_n dscanB_167 rfl (by decide) (L2 := [(2, (0, 0)), (3, (0, w3)), (0, (2, ((0 : Nat) : Int))), (1, (0, x1))]) rfl ?_
                    refine ja_iload_n dscanB_168 rfl rfl ?_
                    refine ja_if_eq 188 dscanB_169 rfl ⟨by decide, by decide⟩ (fun c169 => ?_) (fun c169 => absurd c169 (by omega))
                    refine ja_iload_n dscanB_188 rfl rfl ?_
                    refine ja_istore_n dscanB_189 rfl (by decide) (L2 := [(1, (0, x1)), (2, (0, 0)), (3, (0, w3)), (0, (2, ((0 : Nat) : Int)))]) rfl ?_
                    refine ja_aload_n dscanB_190 rfl rfl ?_
                    refine ja_dup dscanB_191 (by decide) ?_
                    refine fg_tokens (v := h27 0 6) rfl dscanB_192 ?_
                    refine ja_iconst dscanB_195 ?_
                    refine ja_iadd dscanB_196 ?_
                    have g32 := gP_tokens g28 (x := (h27 0 6) + 1) ⟨by omega, by omega⟩
                    refine fp_tokens dscanB_197 ?_
                    refine ja_goto 13 dscanB_200 rfl ?_
                    exact ja_wk (fun q hq => by simp only [List.mem_cons, List.not_mem_nil, or_false] at hq; rcases hq with rfl | rfl | rfl <;> rfl) ((ih ((902 - ((h27 0 6) + 1)).toNat) (by omega)) x1 0 (ja_up h27 0 6 ((h27 0 6) + 1)) g32 ⟨by omega, by omega⟩ ⟨by decide, by decide⟩ (⟨by omega, by omega, by omega, by omega, (show ((0 : Int) = 1 → (((h27 0 6) + 1) : Int) ≤ 900) by omega), (ag_trans i5 (ag_trans (by (repeat (first | exact ag_refl | refine ag_up rfl ?_))) (ag_trans k99_0.1 (by (repeat (first | exact ag_refl | refine ag_up rfl ?_)))))), (show ((h27 0 1) : Int) = (h 0 1) by omega)⟩) rfl)
                  · refine ja_aload_n dscanB_152 rfl rfl ?_
                    refine fg_tokens (v := h27 0 6) rfl dscanB_153 ?_
                    refine ja_sipush 900 dscanB_156 rfl ?_
                    refine ja_icmp_ge 166 dscanB_159 rfl ⟨by omega, by omega⟩ ⟨by decide, by decide⟩ (fun c159 => ?_) (fun c159 => ?_)
                    · refine ja_iconst dscanB_166 ?_
                      refine ja_istore_n dscanB_167 rfl (by decide) (L2 := [(2, (0, 0)), (3, (0, w3)), (0, (2, ((0 : Nat) : Int))), (1, (0, x1))]) rfl ?_
                      refine ja_iload_n dscanB_168 rfl rfl ?_
                      refine ja_if_eq 188 dscanB_169 rfl ⟨by decide, by decide⟩ (fun c169 => ?_) (fun c169 => absurd c169 (by omega))
                      refine ja_iload_n dscanB_188 rfl rfl ?_
                      refine ja_istore_n dscanB_189 rfl (by decide) (L2 := [(1, (0, x1)), (2, (0, 0)), (3, (0, w3)), (0, (2, ((0 : Nat) : Int)))]) rfl ?_
                      refine ja_aload_n dscanB_190 rfl rfl ?_
                      refine ja_dup dscanB_191 (by decide) ?_
                      refine fg_tokens (v := h27 0 6) rfl dscanB_192 ?_
                      refine ja_iconst dscanB_195 ?_
                      refine ja_iadd dscanB_196 ?_
                      have g33 := gP_tokens g28 (x := (h27 0 6) + 1) ⟨by omega, by omega⟩
                      refine fp_tokens dscanB_197 ?_
                      refine ja_goto 13 dscanB_200 rfl ?_
                      exact ja_wk (fun q hq => by simp only [List.mem_cons, List.not_mem_nil, or_false] at hq; rcases hq with rfl | rfl | rfl <;> rfl) ((ih ((902 - ((h27 0 6) + 1)).toNat) (by omega)) x1 0 (ja_up h27 0 6 ((h27 0 6) + 1)) g33 ⟨by omega, by omega⟩ ⟨by decide, by decide⟩ (⟨by omega, by omega, by omega, by omega, (show ((0 : Int) = 1 → (((h27 0 6) + 1) : Int) ≤ 900) by omega), (ag_trans i5 (ag_trans (by (repeat (first | exact ag_refl | refine ag_up rfl ?_))) (ag_trans k99_0.1 (by (repeat (first | exact ag_refl | refine ag_up rfl ?_)))))), (show ((h27 0 1) : Int) = (h 0 1) by omega)⟩) rfl)
                    · refine ja_iconst dscanB_162 ?_
                      refine ja_goto 167 dscanB_163 rfl ?_
                      refine ja_istore_n dscanB_167 rfl (by decide) (L2 := [(2, (0, 1)), (3, (0, w3)), (0, (2, ((0 : Nat) : Int))), (1, (0, x1))]) rfl ?_
                      refine ja_iload_n dscanB_168 rfl rfl ?_
                      refine ja_if_eq 188 dscanB_169 rfl ⟨by decide, by decide⟩ (fun c169 => absurd c169 (by omega)) (fun c169 => ?_)
                      refine ja_aload_n dscanB_172 rfl rfl ?_
                      refine ja_aload_n dscanB_173 rfl rfl ?_
                      refine fa_ends dscanB_174 ?_
                      refine ja_aload_n dscanB_177 rfl rfl ?_
                      refine fg_tokens (v := h27 0 6) rfl dscanB_178 ?_
                      refine il_ends (v := h27 4 (h27 0 6).toNat) rfl ⟨by omega, by omega⟩ dscanB_181 ?_
                      have f34 := gC_ends g28 (h27 0 6).toNat
                      refine t_skip (by decide) (show (0 : Nat) ≤ 8 by decide) dscanB_182 g28 ⟨by omega, by omega⟩ (show 0 ≤ (h27 4 (h27 0 6).toNat) ∧ (h27 4 (h27 0 6).toNat) ≤ 5001 by omega) ?_
                      intro w35 k182_0
                      refine ja_goto 189 dscanB_185 rfl ?_
                      refine ja_istore_n dscanB_189 rfl (by decide) (L2 := [(1, (0, w35)), (2, (0, 1)), (3, (0, w3)), (0, (2, ((0 : Nat) : Int)))]) rfl ?_
                      refine ja_aload_n dscanB_190 rfl rfl ?_
                      refine ja_dup dscanB_191 (by decide) ?_
                      refine fg_tokens (v := h27 0 6) rfl dscanB_192 ?_
                      refine ja_iconst dscanB_195 ?_
                      refine ja_iadd dscanB_196 ?_
                      have g36 := gP_tokens g28 (x := (h27 0 6) + 1) ⟨by omega, by omega⟩
                      refine fp_tokens dscanB_197 ?_
                      refine ja_goto 13 dscanB_200 rfl ?_
                      exact ja_wk (fun q hq => by simp only [List.mem_cons, List.not_mem_nil, or_false] at hq; rcases hq with rfl | rfl | rfl <;> rfl) ((ih ((902 - ((h27 0 6) + 1)).toNat) (by omega)) w35 1 (ja_up h27 0 6 ((h27 0 6) + 1)) g36 ⟨by omega, by omega⟩ ⟨by decide, by decide⟩ (⟨by omega, by omega, by omega, by omega, (show ((1 : Int) = 1 → (((h27 0 6) + 1) : Int) ≤ 900) by omega), (ag_trans i5 (ag_trans (by (repeat (first | exact ag_refl | refine ag_up rfl ?_))) (ag_trans k99_0.1 (by (repeat (first | exact ag_refl | refine ag_up rfl ?_)))))), (show ((h27 0 1) : Int) = (h 0 1) by omega)⟩) rfl)
            · refine ja_aload_n dscanB_82 rfl rfl ?_
              refine ja_iload_n dscanB_83 rfl rfl ?_
              refine t_tokenName2 (by decide) (show (0 : Nat) ≤ 8 by decide) dscanB_84 g2 ⟨by omega, by omega⟩ (show 0 ≤ x1 ∧ x1 < (u 0 1) by omega) (show (u 0 6) ≤ 900 by omega) ?_
              intro h37 k84_0 g38
              replace k84_0 : mo_ag FSX (ja_up u 3 ((u 0 6).toNat) x1) h37 ∧ (h37 0 6) = (u 0 6) ∧ (h37 0 1) = (u 0 1) := k84_0
              refine ja_goto 124 dscanB_87 rfl ?_
              refine ja_aload_n dscanB_124 rfl rfl ?_
              refine fa_kinds dscanB_125 ?_
              refine ja_aload_n dscanB_128 rfl rfl ?_
              refine fg_tokens (v := h37 0 6) rfl dscanB_129 ?_
              have f39 := gF_tokens g38
              refine il_kinds (v := h37 2 (h37 0 6).toNat) rfl ⟨by omega, by omega⟩ dscanB_132 ?_
              have f40 := gC_kinds g38 (h37 0 6).toNat
              refine ja_bipush 6 dscanB_133 rfl ?_
              refine ja_icmp_eq 166 dscanB_135 rfl ⟨by omega, by omega⟩ ⟨by decide, by decide⟩ (fun c135 => ?_) (fun c135 => ?_)
              · refine ja_iconst dscanB_166 ?_
                refine ja_istore_n dscanB_167 rfl (by decide) (L2 := [(2, (0, 0)), (3, (0, w3)), (0, (2, ((0 : Nat) : Int))), (1, (0, x1))]) rfl ?_
                refine ja_iload_n dscanB_168 rfl rfl ?_
                refine ja_if_eq 188 dscanB_169 rfl ⟨by decide, by decide⟩ (fun c169 => ?_) (fun c169 => absurd c169 (by omega))
                refine ja_iload_n dscanB_188 rfl rfl ?_
                refine ja_istore_n dscanB_189 rfl (by decide) (L2 := [(1, (0, x1)), (2, (0, 0)), (3, (0, w3)), (0, (2, ((0 : Nat) : Int)))]) rfl ?_
                refine ja_aload_n dscanB_190 rfl rfl ?_
                refine ja_dup dscanB_191 (by decide) ?_
                refine fg_tokens (v := h37 0 6) rfl dscanB_192 ?_
                refine ja_iconst dscanB_195 ?_
                refine ja_iadd dscanB_196 ?_
                have g41 := gP_tokens g38 (x := (h37 0 6) + 1) ⟨by omega, by omega⟩
                refine fp_tokens dscanB_197 ?_
                refine ja_goto 13 dscanB_200 rfl ?_
                exact ja_wk (fun q hq => by simp only [List.mem_cons, List.not_mem_nil, or_false] at hq; rcases hq with rfl | rfl | rfl <;> rfl) ((ih ((902 - ((h37 0 6) + 1)).toNat) (by omega)) x1 0 (ja_up h37 0 6 ((h37 0 6) + 1)) g41 ⟨by omega, by omega⟩ ⟨by decide, by decide⟩ (⟨by omega, by omega, by omega, by omega, (show ((0 : Int) = 1 → (((h37 0 6) + 1) : Int) ≤ 900) by omega), (ag_trans i5 (ag_trans (by (repeat (first | exact ag_refl | refine ag_up rfl ?_))) (ag_trans k84_0.1 (by (repeat (first | exact ag_refl | refine ag_up rfl ?_)))))), (show ((h37 0 1) : Int) = (h 0 1) by omega)⟩) rfl)
              · refine ja_aload_n dscanB_138 rfl rfl ?_
                refine fa_kinds dscanB_139 ?_
                refine ja_aload_n dscanB_142 rfl rfl ?_
                refine fg_tokens (v := h37 0 6) rfl dscanB_143 ?_
                refine il_kinds (v := h37 2 (h37 0 6).toNat) rfl ⟨by omega, by omega⟩ dscanB_146 ?_
                refine ja_bipush 7 dscanB_147 rfl ?_
                refine ja_icmp_eq 166 dscanB_149 rfl ⟨by omega, by omega⟩ ⟨by decide, by decide⟩ (fun c149 => ?_) (fun c149 => ?_)
                · refine ja_iconst dscanB_166 ?_
                  refine ja_istore_n dscanB_167 rfl (by decide) (L2 := [(2, (0, 0)), (3, (0, w3)), (0, (2, ((0 : Nat) : Int))), (1, (0, x1))]) rfl ?_
                  refine ja_iload_n dscanB_168 rfl rfl ?_
                  refine ja_if_eq 188 dscanB_169 rfl ⟨by decide, by decide⟩ (fun c169 => ?_) (fun c169 => absurd c169 (by omega))
                  refine ja_iload_n dscanB_188 rfl rfl ?_
                  refine ja_istore_n dscanB_189 rfl (by decide) (L2 := [(1, (0, x1)), (2, (0, 0)), (3, (0, w3)), (0, (2, ((0 : Nat) : Int)))]) rfl ?_
                  refine ja_aload_n dscanB_190 rfl rfl ?_
                  refine ja_dup dscanB_191 (by decide) ?_
                  refine fg_tokens (v := h37 0 6) rfl dscanB_192 ?_
                  refine ja_iconst dscanB_195 ?_
                  refine ja_iadd dscanB_196 ?_
                  have g42 := gP_tokens g38 (x := (h37 0 6) + 1) ⟨by omega, by omega⟩
                  refine fp_tokens dscanB_197 ?_
                  refine ja_goto 13 dscanB_200 rfl ?_
                  exact ja_wk (fun q hq => by simp only [List.mem_cons, List.not_mem_nil, or_false] at hq; rcases hq with rfl | rfl | rfl <;> rfl) ((ih ((902 - ((h37 0 6) + 1)).toNat) (by omega)) x1 0 (ja_up h37 0 6 ((h37 0 6) + 1)) g42 ⟨by omega, by omega⟩ ⟨by decide, by decide⟩ (⟨by omega, by omega, by omega, by omega, (show ((0 : Int) = 1 → (((h37 0 6) + 1) : Int) ≤ 900) by omega), (ag_trans i5 (ag_trans (by (repeat (first | exact ag_refl | refine ag_up rfl ?_))) (ag_trans k84_0.1 (by (repeat (first | exact ag_refl | refine ag_up rfl ?_)))))), (show ((h37 0 1) : Int) = (h 0 1) by omega)⟩) rfl)
                · refine ja_aload_n dscanB_152 rfl rfl ?_
                  refine fg_tokens (v := h37 0 6) rfl dscanB_153 ?_
                  refine ja_sipush 900 dscanB_156 rfl ?_
                  refine ja_icmp_ge 166 dscanB_159 rfl ⟨by omega, by omega⟩ ⟨by decide, by decide⟩ (fun c159 => ?_) (fun c159 => ?_)
                  · refine ja_iconst dscanB_166 ?_
                    refine ja_istore_n dscanB_167 rfl (by decide) (L2 := [(2, (0, 0)), (3, (0, w3)), (0, (2, ((0 : Nat) : Int))), (1, (0, x1))]) rfl ?_
                    refine ja_iload_n dscanB_168 rfl rfl ?_
                    refine ja_if_eq 188 dscanB_169 rfl ⟨by decide, by decide⟩ (fun c169 => ?_) (fun c169 => absurd c169 (by omega))
                    refine ja_iload_n dscanB_188 rfl rfl ?_
                    refine ja_istore_n dscanB_189 rfl (by decide) (L2 := [(1, (0, x1)), (2, (0, 0)), (3, (0, w3)), (0, (2, ((0 : Nat) : Int)))]) rfl ?_
                    refine ja_aload_n dscanB_190 rfl rfl ?_
                    refine ja_dup dscanB_191 (by decide) ?_
                    refine fg_tokens (v := h37 0 6) rfl dscanB_192 ?_
                    refine ja_iconst dscanB_195 ?_
                    refine ja_iadd dscanB_196 ?_
                    have g43 := gP_tokens g38 (x := (h37 0 6) + 1) ⟨by omega, by omega⟩
                    refine fp_tokens dscanB_197 ?_
                    refine ja_goto 13 dscanB_200 rfl ?_
                    exact ja_wk (fun q hq => by simp only [List.mem_cons, List.not_mem_nil, or_false] at hq; rcases hq with rfl | rfl | rfl <;> rfl) ((ih ((902 - ((h37 0 6) + 1)).toNat) (by omega)) x1 0 (ja_up h37 0 6 ((h37 0 6) + 1)) g43 ⟨by omega, by omega⟩ ⟨by decide, by decide⟩ (⟨by omega, by omega, by omega, by omega, (show ((0 : Int) = 1 → (((h37 0 6) + 1) : Int) ≤ 900) by omega), (ag_trans i5 (ag_trans (by (repeat (first | exact ag_refl | refine ag_up rfl ?_))) (ag_trans k84_0.1 (by (repeat (first | exact ag_refl | refine ag_up rfl ?_)))))), (show ((h37 0 1) : Int) = (h 0 1) by omega)⟩) rfl)
                  · refine ja_iconst dscanB_162 ?_
                    refine ja_goto 167 dscanB_163 rfl ?_
                    refine ja_istore_n dscanB_167 rfl (by decide) (L2 := [(2, (0, 1)), (3, (0, w3)), (0, (2, ((0 : Nat) : Int))), (1, (0, x1))]) rfl ?_
                    refine ja_iload_n dscanB_168 rfl rfl ?_
                    refine ja_if_eq 188 dscanB_169 rfl ⟨by decide, by decide⟩ (fun c169 => absurd c169 (by omega)) (fun c169 => ?_)
                    refine ja_aload_n dscanB_172 rfl rfl ?_
                    refine ja_aload_n dscanB_173 rfl rfl ?_
                    refine fa_ends dscanB_174 ?_
                    refine ja_aload_n dscanB_177 rfl rfl ?_
                    refine fg_tokens (v := h37 0 6) rfl dscanB_178 ?_
                    refine il_ends (v := h37 4 (h37 0 6).toNat) rfl ⟨by omega, by omega⟩ dscanB_181 ?_
                    have f44 := gC_ends g38 (h37 0 6).toNat
                    refine t_skip (by decide) (show (0 : Nat) ≤ 8 by decide) dscanB_182 g38 ⟨by omega, by omega⟩ (show 0 ≤ (h37 4 (h37 0 6).toNat) ∧ (h37 4 (h37 0 6).toNat) ≤ 5001 by omega) ?_
                    intro w45 k182_0
                    refine ja_goto 189 dscanB_185 rfl ?_
                    refine ja_istore_n dscanB_189 rfl (by decide) (L2 := [(1, (0, w45)), (2, (0, 1)), (3, (0, w3)), (0, (2, ((0 : Nat) : Int)))]) rfl ?_
                    refine ja_aload_n dscanB_190 rfl rfl ?_
                    refine ja_dup dscanB_191 (by decide) ?_
                    refine fg_tokens (v := h37 0 6) rfl dscanB_192 ?_
                    refine ja_iconst dscanB_195 ?_
                    refine ja_iadd dscanB_196 ?_
                    have g46 := gP_tokens g38 (x := (h37 0 6) + 1) ⟨by omega, by omega⟩
                    refine fp_tokens dscanB_197 ?_
                    refine ja_goto 13 dscanB_200 rfl ?_
                    exact ja_wk (fun q hq => by simp only [List.mem_cons, List.not_mem_nil, or_false] at hq; rcases hq with rfl | rfl | rfl <;> rfl) ((ih ((902 - ((h37 0 6) + 1)).toNat) (by omega)) w45 1 (ja_up h37 0 6 ((h37 0 6) + 1)) g46 ⟨by omega, by omega⟩ ⟨by decide, by decide⟩ (⟨by omega, by omega, by omega, by omega, (show ((1 : Int) = 1 → (((h37 0 6) + 1) : Int) ≤ 900) by omega), (ag_trans i5 (ag_trans (by (repeat (first | exact ag_refl | refine ag_up rfl ?_))) (ag_trans k84_0.1 (by (repeat (first | exact ag_refl | refine ag_up rfl ?_)))))), (show ((h37 0 1) : Int) = (h 0 1) by omega)⟩) rfl)
          · refine ja_aload_n dscanB_41 rfl rfl ?_
            refine fa_kinds dscanB_42 ?_
            refine ja_aload_n dscanB_45 rfl rfl ?_
            refine fg_tokens (v := u 0 6) rfl dscanB_46 ?_
            refine ja_bipush 6 dscanB_49 rfl ?_
            have g47 := gW_kinds g2 (u 0 6).toNat (x := 6) ⟨by decide, by decide⟩
            refine is_kinds ⟨by omega, by omega⟩ dscanB_51 ?_
            refine ja_aload_n dscanB_52 rfl rfl ?_
            refine fa_worths dscanB_53 ?_
            refine ja_aload_n dscanB_56 rfl rfl ?_
            refine fg_tokens (v := u 0 6) rfl dscanB_57 ?_
            refine ja_iconst dscanB_60 ?_
            have g48 := gW_worths g47 (u 0 6).toNat (x := 0) ⟨by decide, by decide⟩
            refine is_worths ⟨by omega, by omega⟩ dscanB_61 ?_
            refine ja_aload_n dscanB_62 rfl rfl ?_
            refine fa_ends dscanB_63 ?_
            refine ja_aload_n dscanB_66 rfl rfl ?_
            refine fg_tokens (v := u 0 6) rfl dscanB_67 ?_
            refine ja_iload_n dscanB_70 rfl rfl ?_
            have g49 := gW_ends g48 (u 0 6).toNat (x := x1) ⟨by omega, by omega⟩
            refine is_ends ⟨by omega, by omega⟩ dscanB_71 ?_
            refine ja_goto 124 dscanB_72 rfl ?_
            refine ja_aload_n dscanB_124 rfl rfl ?_
            refine fa_kinds dscanB_125 ?_
            refine ja_aload_n dscanB_128 rfl rfl ?_
            refine fg_tokens (v := u 0 6) rfl dscanB_129 ?_
            refine il_kinds (v := 6) (by simp [ja_up]) ⟨by omega, by omega⟩ dscanB_132 ?_
            refine ja_bipush 6 dscanB_133 rfl ?_
            refine ja_icmp_eq 166 dscanB_135 rfl ⟨by decide, by decide⟩ ⟨by decide, by decide⟩ (fun c135 => ?_) (fun c135 => absurd c135 (by omega))
            refine ja_iconst dscanB_166 ?_
            refine ja_istore_n dscanB_167 rfl (by decide) (L2 := [(2, (0, 0)), (3, (0, w3)), (0, (2, ((0 : Nat) : Int))), (1, (0, x1))]) rfl ?_
            refine ja_iload_n dscanB_168 rfl rfl ?_
            refine ja_if_eq 188 dscanB_169 rfl ⟨by decide, by decide⟩ (fun c169 => ?_) (fun c169 => absurd c169 (by omega))
            refine ja_iload_n dscanB_188 rfl rfl ?_
            refine ja_istore_n dscanB_189 rfl (by decide) (L2 := [(1, (0, x1)), (2, (0, 0)), (3, (0, w3)), (0, (2, ((0 : Nat) : Int)))]) rfl ?_
            refine ja_aload_n dscanB_190 rfl rfl ?_
            refine ja_dup dscanB_191 (by decide) ?_
            refine fg_tokens (v := u 0 6) rfl dscanB_192 ?_
            refine ja_iconst dscanB_195 ?_
            refine ja_iadd dscanB_196 ?_
            have g50 := gP_tokens g49 (x := (u 0 6) + 1) ⟨by omega, by omega⟩
            refine fp_tokens dscanB_197 ?_
            refine ja_goto 13 dscanB_200 rfl ?_
            exact ja_wk (fun q hq => by simp only [List.mem_cons, List.not_mem_nil, or_false] at hq; rcases hq with rfl | rfl | rfl <;> rfl) ((ih ((902 - ((u 0 6) + 1)).toNat) (by omega)) x1 0 (ja_up (ja_up (ja_up (ja_up (ja_up u 3 ((u 0 6).toNat) x1) 2 ((u 0 6).toNat) 6) 5 ((u 0 6).toNat) 0) 4 ((u 0 6).toNat) x1) 0 6 ((u 0 6) + 1)) g50 ⟨by omega, by omega⟩ ⟨by decide, by decide⟩ (⟨by omega, by omega, by omega, by omega, (show ((0 : Int) = 1 → (((u 0 6) + 1) : Int) ≤ 900) by omega), (ag_trans i5 (by (repeat (first | exact ag_refl | refine ag_up rfl ?_)))), (show ((u 0 1) : Int) = (h 0 1) by omega)⟩) rfl)
  refine ja_aload_n dscanB_0 rfl rfl ?_
  refine ja_iconst dscanB_1 ?_
  have g51 := gP_tokens g (x := 0) ⟨by decide, by decide⟩
  refine fp_tokens dscanB_2 ?_
  refine ja_aload_n dscanB_5 rfl rfl ?_
  refine ja_iconst dscanB_6 ?_
  refine t_skip (by decide) (show (0 : Nat) ≤ 8 by decide) dscanB_7 g51 ⟨by decide, by decide⟩ (show 0 ≤ 0 ∧ 0 ≤ 5001 by omega) ?_
  intro w52 k7_0
  replace k7_0 : 0 ≤ w52 ∧ w52 ≤ 5001 := k7_0
  refine ja_istore_n dscanB_10 rfl (by decide) (L2 := [(1, (0, w52)), (0, (2, ((0 : Nat) : Int)))]) rfl ?_
  refine ja_iconst dscanB_11 ?_
  refine ja_istore_n dscanB_12 rfl (by decide) (L2 := [(2, (0, 1)), (1, (0, w52)), (0, (2, ((0 : Nat) : Int)))]) rfl ?_
  exact ja_wk (fun q hq => by simp only [List.mem_cons, List.not_mem_nil, or_false] at hq; rcases hq with rfl | rfl | rfl <;> rfl) ((CUT _) w52 1 (ja_up h 0 6 0) g51 ⟨by omega, by omega⟩ ⟨by decide, by decide⟩ (⟨by omega, by omega, by omega, by omega, (show ((1 : Int) = 1 → (0 : Int) ≤ 900) by omega), (by (repeat (first | exact ag_refl | refine ag_up rfl ?_))), (show ((h 0 1) : Int) = (h 0 1) by omega)⟩) rfl)
theorem t_scan2 {d nL pc : Nat} {cc : ByteArray} {rt : Option FieldType} {L : List (Nat × ja_V)} {S : List ja_V} {h : ja_H} {Q : Option ja_V → ja_H → Prop} (hdd : 4 < d) (hwd : ja_wd S ≤ 8) (hd : decode cc pc = .ok (.invokevirtual 632, 3)) (g : mo_G mo_zr h) (k1 : ∀ (h' : ja_H), (mo_ag FSX h h' ∧ (h' 0 1) = (h 0 1)) → mo_G mo_zr h' → mJ l D cA ad d cc nL rt (pc + 3) L S h' Q) : mJ l D cA ad d cc nL rt pc L ((2, ((0 : Nat) : Int)) :: S) h Q :=
  mc_scan hdd hwd hd (s_scan2 g k1)
end
theorem dclassOfB_0 : decode cX12_classOf 0 = .ok (.iconst 0, 1) := by decide +kernel
theorem dclassOfB_1 : decode cX12_classOf 1 = .ok (.istore_n 2, 1) := by decide +kernel
theorem dclassOfB_2 : decode cX12_classOf 2 = .ok (.iload_n 2, 1) := by decide +kernel
theorem dclassOfB_3 : decode cX12_classOf 3 = .ok (.aload_n 0, 1) := by decide +kernel
theorem dclassOfB_4 : decode cX12_classOf 4 = .ok (.getfield 647, 3) := by decide +kernel
theorem dclassOfB_7 : decode cX12_classOf 7 = .ok (.if_icmp .ge 25, 3) := by decide +kernel
theorem dclassOfB_10 : decode cX12_classOf 10 = .ok (.aload_n 0, 1) := by decide +kernel
theorem dclassOfB_11 : decode cX12_classOf 11 = .ok (.aload_n 0, 1) := by decide +kernel
theorem dclassOfB_12 : decode cX12_classOf 12 = .ok (.getfield 37, 3) := by decide +kernel
theorem dclassOfB_15 : decode cX12_classOf 15 = .ok (.iload_n 2, 1) := by decide +kernel
theorem dclassOfB_16 : decode cX12_classOf 16 = .ok (.iaload, 1) := by decide +kernel
theorem dclassOfB_17 : decode cX12_classOf 17 = .ok (.invokevirtual 716, 3) := by decide +kernel
theorem dclassOfB_20 : decode cX12_classOf 20 = .ok (.iload_n 1, 1) := by decide +kernel
theorem dclassOfB_21 : decode cX12_classOf 21 = .ok (.if_icmp .ne 5, 3) := by decide +kernel
theorem dclassOfB_24 : decode cX12_classOf 24 = .ok (.iload_n 2, 1) := by decide +kernel
theorem dclassOfB_25 : decode cX12_classOf 25 = .ok (.ireturn, 1) := by decide +kernel
theorem dclassOfB_26 : decode cX12_classOf 26 = .ok (.iinc 2 1, 3) := by decide +kernel
theorem dclassOfB_29 : decode cX12_classOf 29 = .ok (.goto (-27), 3) := by decide +kernel
theorem dclassOfB_32 : decode cX12_classOf 32 = .ok (.iconst (-1), 1) := by decide +kernel
theorem dclassOfB_33 : decode cX12_classOf 33 = .ok (.ireturn, 1) := by decide +kernel
section
variable {l : Launch} {D : va_G} {cA : Nat → ClassId} {ad : Nat → Nat}
theorem s_classOf2 {a1 : Int} {h : ja_H} {Q : Option ja_V → ja_H → Prop} (g : mo_G mo_zr h) (r1 : -2147483648 ≤ a1 ∧ a1 ≤ 2147483647) (k1 : ∀ (v : Int), (0 ≤ v ∧ v < (h 0 22) ∧ v = clF h a1) → Q (some (0, v)) h) (k2 : (clF h a1 = -1) → Q (some (0, (-1))) h) : mM_classOf l D cA ad a1 h Q := by
  show mJ l D cA ad 2 cX12_classOf 3 (some .int) 0 [(0, (2, ((0 : Nat) : Int))), (1, (0, a1))] [] h Q
  have kn_classes := gF_classes g
  have CUT : ∀ n : Nat, (∀ (x2 : Int), (-2147483648 ≤ x2 ∧ x2 ≤ 2147483647) → (0 ≤ x2 ∧ x2 ≤ (h 0 22) ∧ fndI (nmC h) a1 (x2).toNat = -1) → (((20 : Int) - x2).toNat) = n → mJ l D cA ad 2 cX12_classOf 3 (some .int) 2 [(0, (2, ((0 : Nat) : Int))), (1, (0, a1)), (2, (0, x2))] [] h Q) := by
    intro n
    induction n using Nat.strongRecOn with
    | _ n ih =>
      skip
      · intro x2 qx2 iv hm
        subst hm
        refine ja_iload_n dclassOfB_2 rfl rfl ?_
        refine ja_aload_n dclassOfB_3 rfl rfl ?_
        refine fg_classes (v := h 0 22) rfl dclassOfB_4 ?_
        have f1 := gF_classes g
        refine ja_icmp_ge 32 dclassOfB_7 rfl ⟨by omega, by omega⟩ ⟨by omega, by omega⟩ (fun c7 => ?_) (fun c7 => ?_)
        · refine ja_iconst dclassOfB_32 ?_
          refine ja_ireturn dclassOfB_33 rfl ?_
          exact mo_fin (by omega) rfl (k2 ((by have e : x2 = (h 0 22) := (by omega); subst e; exact iv.2.2)))
        · refine ja_aload_n dclassOfB_10 rfl rfl ?_
          refine ja_aload_n dclassOfB_11 rfl rfl ?_
          refine fa_className dclassOfB_12 ?_
          refine ja_iload_n dclassOfB_15 rfl rfl ?_
          refine il_className (v := h 10 (x2).toNat) rfl ⟨by omega, by omega⟩ dclassOfB_16 ?_
          have f2 := gC_className g (x2).toNat
          refine t_id (by decide) (show (0 : Nat) ≤ 8 by decide) dclassOfB_17 g ⟨by omega, by omega⟩ (show 0 ≤ (h 10 (x2).toNat) ∧ (h 10 (x2).toNat) ≤ 900 by omega) ?_
          intro k17_0
          refine ja_iload_n dclassOfB_20 rfl rfl ?_
          refine ja_icmp_ne 26 dclassOfB_21 rfl ⟨by omega, by omega⟩ ⟨by omega, by omega⟩ (fun c21 => ?_) (fun c21 => ?_)
          · refine ja_iinc dclassOfB_26 rfl (by decide) (L2 := [(2, (0, (x2 + 1))), (0, (2, ((0 : Nat) : Int))), (1, (0, a1))]) rfl ?_
            refine ja_goto 2 dclassOfB_29 rfl ?_
            exact ja_wk (fun q hq => by simp only [List.mem_cons, List.not_mem_nil, or_false] at hq; rcases hq with rfl | rfl | rfl <;> rfl) ((ih (((20 : Int) - (x2 + 1)).toNat) (by omega)) (x2 + 1)  ⟨by omega, by omega⟩ (⟨by omega, by omega, fnd_step (by omega) iv.2.2 c21⟩) rfl)
          · refine ja_iload_n dclassOfB_24 rfl rfl ?_
            refine ja_ireturn dclassOfB_25 rfl ?_
            exact mo_fin (by omega) rfl (k1 x2 (⟨by omega, by omega, fnd_hit (by omega) (by omega) iv.2.2 c21⟩))
  refine ja_iconst dclassOfB_0 ?_
  refine ja_istore_n dclassOfB_1 rfl (by decide) (L2 := [(2, (0, 0)), (0, (2, ((0 : Nat) : Int))), (1, (0, a1))]) rfl ?_
  exact ja_wk (fun q hq => by simp only [List.mem_cons, List.not_mem_nil, or_false] at hq; rcases hq with rfl | rfl | rfl <;> rfl) ((CUT _) 0  ⟨by decide, by decide⟩ (⟨by omega, by omega, rfl⟩) rfl)
theorem t_classOf2 {a1 : Int} {d nL pc : Nat} {cc : ByteArray} {rt : Option FieldType} {L : List (Nat × ja_V)} {S : List ja_V} {h : ja_H} {Q : Option ja_V → ja_H → Prop} (hdd : 2 < d) (hwd : ja_wd S ≤ 8) (hd : decode cc pc = .ok (.invokevirtual 903, 3)) (g : mo_G mo_zr h) (r1 : -2147483648 ≤ a1 ∧ a1 ≤ 2147483647) (k1 : ∀ (v : Int), (0 ≤ v ∧ v < (h 0 22) ∧ v = clF h a1) → mJ l D cA ad d cc nL rt (pc + 3) L ((0, v) :: S) h Q) (k2 : (clF h a1 = -1) → mJ l D cA ad d cc nL rt (pc + 3) L ((0, (-1)) :: S) h Q) : mJ l D cA ad d cc nL rt pc L ((0, a1) :: (2, ((0 : Nat) : Int)) :: S) h Q :=
  mc_classOf hdd hwd hd (s_classOf2 g r1 k1 k2)
end
theorem daspectOfB_0 : decode cX12_aspectOf 0 = .ok (.iconst 0, 1) := by decide +kernel
theorem daspectOfB_1 : decode cX12_aspectOf 1 = .ok (.istore_n 2, 1) := by decide +kernel
theorem daspectOfB_2 : decode cX12_aspectOf 2 = .ok (.iload_n 2, 1) := by decide +kernel
theorem daspectOfB_3 : decode cX12_aspectOf 3 = .ok (.aload_n 0, 1) := by decide +kernel
theorem daspectOfB_4 : decode cX12_aspectOf 4 = .ok (.getfield 650, 3) := by decide +kernel
theorem daspectOfB_7 : decode cX12_aspectOf 7 = .ok (.if_icmp .ge 25, 3) := by decide +kernel
theorem daspectOfB_10 : decode cX12_aspectOf 10 = .ok (.aload_n 0, 1) := by decide +kernel
theorem daspectOfB_11 : decode cX12_aspectOf 11 = .ok (.aload_n 0, 1) := by decide +kernel
theorem daspectOfB_12 : decode cX12_aspectOf 12 = .ok (.getfield 46, 3) := by decide +kernel
theorem daspectOfB_15 : decode cX12_aspectOf 15 = .ok (.iload_n 2, 1) := by decide +kernel
theorem daspectOfB_16 : decode cX12_aspectOf 16 = .ok (.iaload, 1) := by decide +kernel
theorem daspectOfB_17 : decode cX12_aspectOf 17 = .ok (.invokevirtual 716, 3) := by decide +kernel
theorem daspectOfB_20 : decode cX12_aspectOf 20 = .ok (.iload_n 1, 1) := by decide +kernel
theorem daspectOfB_21 : decode cX12_aspectOf 21 = .ok (.if_icmp .ne 5, 3) := by decide +kernel
theorem daspectOfB_24 : decode cX12_aspectOf 24 = .ok (.iload_n 2, 1) := by decide +kernel
theorem daspectOfB_25 : decode cX12_aspectOf 25 = .ok (.ireturn, 1) := by decide +kernel
theorem daspectOfB_26 : decode cX12_aspectOf 26 = .ok (.iinc 2 1, 3) := by decide +kernel
theorem daspectOfB_29 : decode cX12_aspectOf 29 = .ok (.goto (-27), 3) := by decide +kernel
theorem daspectOfB_32 : decode cX12_aspectOf 32 = .ok (.iconst (-1), 1) := by decide +kernel
theorem daspectOfB_33 : decode cX12_aspectOf 33 = .ok (.ireturn, 1) := by decide +kernel
section
variable {l : Launch} {D : va_G} {cA : Nat → ClassId} {ad : Nat → Nat}
theorem s_aspectOf2 {a1 : Int} {h : ja_H} {Q : Option ja_V → ja_H → Prop} (g : mo_G mo_zr h) (r1 : -2147483648 ≤ a1 ∧ a1 ≤ 2147483647) (k1 : ∀ (v : Int), (0 ≤ v ∧ v < (h 0 26) ∧ v = asF h a1) → Q (some (0, v)) h) (k2 : (asF h a1 = -1) → Q (some (0, (-1))) h) : mM_aspectOf l D cA ad a1 h Q := by
  show mJ l D cA ad 2 cX12_aspectOf 3 (some .int) 0 [(0, (2, ((0 : Nat) : Int))), (1, (0, a1))] [] h Q
  have kn_aspects := gF_aspects g
  have CUT : ∀ n : Nat, (∀ (x2 : Int), (-2147483648 ≤ x2 ∧ x2 ≤ 2147483647) → (0 ≤ x2 ∧ x2 ≤ (h 0 26) ∧ fndI (nmA h) a1 (x2).toNat = -1) → (((20 : Int) - x2).toNat) = n → mJ l D cA ad 2 cX12_aspectOf 3 (some .int) 2 [(0, (2, ((0 : Nat) : Int))), (1, (0, a1)), (2, (0, x2))] [] h Q) := by
    intro n
    induction n using Nat.strongRecOn with
    | _ n ih =>
      skip
      · intro x2 qx2 iv hm
        subst hm
        refine ja_iload_n daspectOfB_2 rfl rfl ?_
        refine ja_aload_n daspectOfB_3 rfl rfl ?_
        refine fg_aspects (v := h 0 26) rfl daspectOfB_4 ?_
        have f1 := gF_aspects g
        refine ja_icmp_ge 32 daspectOfB_7 rfl ⟨by omega, by omega⟩ ⟨by omega, by omega⟩ (fun c7 => ?_) (fun c7 => ?_)
        · refine ja_iconst daspectOfB_32 ?_
          refine ja_ireturn daspectOfB_33 rfl ?_
          exact mo_fin (by omega) rfl (k2 ((by have e : x2 = (h 0 26) := (by omega); subst e; exact iv.2.2)))
        · refine ja_aload_n daspectOfB_10 rfl rfl ?_
          refine ja_aload_n daspectOfB_11 rfl rfl ?_
          refine fa_aspectName daspectOfB_12 ?_
          refine ja_iload_n daspectOfB_15 rfl rfl ?_
          refine il_aspectName (v := h 13 (x2).toNat) rfl ⟨by omega, by omega⟩ daspectOfB_16 ?_
          have f2 := gC_aspectName g (x2).toNat
          refine t_id (by decide) (show (0 : Nat) ≤ 8 by decide) daspectOfB_17 g ⟨by omega, by omega⟩ (show 0 ≤ (h 13 (x2).toNat) ∧ (h 13 (x2).toNat) ≤ 900 by omega) ?_
          intro k17_0
          refine ja_iload_n daspectOfB_20 rfl rfl ?_
          refine ja_icmp_ne 26 daspectOfB_21 rfl ⟨by omega, by omega⟩ ⟨by omega, by omega⟩ (fun c21 => ?_) (fun c21 => ?_)
          · refine ja_iinc daspectOfB_26 rfl (by decide) (L2 := [(2, (0, (x2 + 1))), (0, (2, ((0 : Nat) : Int))), (1, (0, a1))]) rfl ?_
            refine ja_goto 2 daspectOfB_29 rfl ?_
            exact ja_wk (fun q hq => by simp only [List.mem_cons, List.not_mem_nil, or_false] at hq; rcases hq with rfl | rfl | rfl <;> rfl) ((ih (((20 : Int) - (x2 + 1)).toNat) (by omega)) (x2 + 1)  ⟨by omega, by omega⟩ (⟨by omega, by omega, fnd_step (by omega) iv.2.2 c21⟩) rfl)
          · refine ja_iload_n daspectOfB_24 rfl rfl ?_
            refine ja_ireturn daspectOfB_25 rfl ?_
            exact mo_fin (by omega) rfl (k1 x2 (⟨by omega, by omega, fnd_hit (by omega) (by omega) iv.2.2 c21⟩))
  refine ja_iconst daspectOfB_0 ?_
  refine ja_istore_n daspectOfB_1 rfl (by decide) (L2 := [(2, (0, 0)), (0, (2, ((0 : Nat) : Int))), (1, (0, a1))]) rfl ?_
  exact ja_wk (fun q hq => by simp only [List.mem_cons, List.not_mem_nil, or_false] at hq; rcases hq with rfl | rfl | rfl <;> rfl) ((CUT _) 0  ⟨by decide, by decide⟩ (⟨by omega, by omega, rfl⟩) rfl)
theorem t_aspectOf2 {a1 : Int} {d nL pc : Nat} {cc : ByteArray} {rt : Option FieldType} {L : List (Nat × ja_V)} {S : List ja_V} {h : ja_H} {Q : Option ja_V → ja_H → Prop} (hdd : 2 < d) (hwd : ja_wd S ≤ 8) (hd : decode cc pc = .ok (.invokevirtual 906, 3)) (g : mo_G mo_zr h) (r1 : -2147483648 ≤ a1 ∧ a1 ≤ 2147483647) (k1 : ∀ (v : Int), (0 ≤ v ∧ v < (h 0 26) ∧ v = asF h a1) → mJ l D cA ad d cc nL rt (pc + 3) L ((0, v) :: S) h Q) (k2 : (asF h a1 = -1) → mJ l D cA ad d cc nL rt (pc + 3) L ((0, (-1)) :: S) h Q) : mJ l D cA ad d cc nL rt pc L ((0, a1) :: (2, ((0 : Nat) : Int)) :: S) h Q :=
  mc_aspectOf hdd hwd hd (s_aspectOf2 g r1 k1 k2)
end
theorem daspectFieldOfB_0 : decode cX12_aspectFieldOf 0 = .ok (.iconst 0, 1) := by decide +kernel
theorem daspectFieldOfB_1 : decode cX12_aspectFieldOf 1 = .ok (.istore_n 3, 1) := by decide +kernel
theorem daspectFieldOfB_2 : decode cX12_aspectFieldOf 2 = .ok (.iload_n 3, 1) := by decide +kernel
theorem daspectFieldOfB_3 : decode cX12_aspectFieldOf 3 = .ok (.aload_n 0, 1) := by decide +kernel
theorem daspectFieldOfB_4 : decode cX12_aspectFieldOf 4 = .ok (.getfield 53, 3) := by decide +kernel
theorem daspectFieldOfB_7 : decode cX12_aspectFieldOf 7 = .ok (.iload_n 1, 1) := by decide +kernel
theorem daspectFieldOfB_8 : decode cX12_aspectFieldOf 8 = .ok (.iaload, 1) := by decide +kernel
theorem daspectFieldOfB_9 : decode cX12_aspectFieldOf 9 = .ok (.if_icmp .ge 26, 3) := by decide +kernel
theorem daspectFieldOfB_12 : decode cX12_aspectFieldOf 12 = .ok (.aload_n 0, 1) := by decide +kernel
theorem daspectFieldOfB_13 : decode cX12_aspectFieldOf 13 = .ok (.getfield 56, 3) := by decide +kernel
theorem daspectFieldOfB_16 : decode cX12_aspectFieldOf 16 = .ok (.bipush 10, 2) := by decide +kernel
theorem daspectFieldOfB_18 : decode cX12_aspectFieldOf 18 = .ok (.iload_n 1, 1) := by decide +kernel
theorem daspectFieldOfB_19 : decode cX12_aspectFieldOf 19 = .ok (.imul, 1) := by decide +kernel
theorem daspectFieldOfB_20 : decode cX12_aspectFieldOf 20 = .ok (.iload_n 3, 1) := by decide +kernel
theorem daspectFieldOfB_21 : decode cX12_aspectFieldOf 21 = .ok (.iadd, 1) := by decide +kernel
theorem daspectFieldOfB_22 : decode cX12_aspectFieldOf 22 = .ok (.iaload, 1) := by decide +kernel
theorem daspectFieldOfB_23 : decode cX12_aspectFieldOf 23 = .ok (.iload_n 2, 1) := by decide +kernel
theorem daspectFieldOfB_24 : decode cX12_aspectFieldOf 24 = .ok (.if_icmp .ne 5, 3) := by decide +kernel
theorem daspectFieldOfB_27 : decode cX12_aspectFieldOf 27 = .ok (.iload_n 3, 1) := by decide +kernel
theorem daspectFieldOfB_28 : decode cX12_aspectFieldOf 28 = .ok (.ireturn, 1) := by decide +kernel
theorem daspectFieldOfB_29 : decode cX12_aspectFieldOf 29 = .ok (.iinc 3 1, 3) := by decide +kernel
theorem daspectFieldOfB_32 : decode cX12_aspectFieldOf 32 = .ok (.goto (-30), 3) := by decide +kernel
theorem daspectFieldOfB_35 : decode cX12_aspectFieldOf 35 = .ok (.iconst (-1), 1) := by decide +kernel
theorem daspectFieldOfB_36 : decode cX12_aspectFieldOf 36 = .ok (.ireturn, 1) := by decide +kernel
section
variable {l : Launch} {D : va_G} {cA : Nat → ClassId} {ad : Nat → Nat}
theorem s_aspectFieldOf2 {a1 a2 : Int} {h : ja_H} {Q : Option ja_V → ja_H → Prop} (g : mo_G mo_zr h) (r1 : -2147483648 ≤ a1 ∧ a1 ≤ 2147483647) (r2 : -2147483648 ≤ a2 ∧ a2 ≤ 2147483647) (p1 : 0 ≤ a1 ∧ a1 ≤ 7) (k1 : ∀ (v : Int), (0 ≤ v ∧ v < (h 15 (a1).toNat) ∧ v = afF h a1 a2) → Q (some (0, v)) h) (k2 : (afF h a1 a2 = -1) → Q (some (0, (-1))) h) : mM_aspectFieldOf l D cA ad a1 a2 h Q := by
  show mJ l D cA ad 1 cX12_aspectFieldOf 4 (some .int) 0 [(0, (2, ((0 : Nat) : Int))), (1, (0, a1)), (2, (0, a2))] [] h Q
  have CUT : ∀ n : Nat, (∀ (x3 : Int), (-2147483648 ≤ x3 ∧ x3 ≤ 2147483647) → (0 ≤ x3 ∧ x3 ≤ (h 15 (a1).toNat) ∧ fndI (fun k => h 16 (10 * a1 + (k : Int)).toNat) a2 (x3).toNat = -1) → (((20 : Int) - x3).toNat) = n → mJ l D cA ad 1 cX12_aspectFieldOf 4 (some .int) 2 [(0, (2, ((0 : Nat) : Int))), (1, (0, a1)), (2, (0, a2)), (3, (0, x3))] [] h Q) := by
    intro n
    induction n using Nat.strongRecOn with
    | _ n ih =>
      skip
      · intro x3 qx3 iv hm
        subst hm
        have kaf := gC_aspectFields g (a1).toNat
        refine ja_iload_n daspectFieldOfB_2 rfl rfl ?_
        refine ja_aload_n daspectFieldOfB_3 rfl rfl ?_
        refine fa_aspectFields daspectFieldOfB_4 ?_
        refine ja_iload_n daspectFieldOfB_7 rfl rfl ?_
        refine il_aspectFields (v := h 15 (a1).toNat) rfl ⟨by omega, by omega⟩ daspectFieldOfB_8 ?_
        have f1 := gC_aspectFields g (a1).toNat
        refine ja_icmp_ge 35 daspectFieldOfB_9 rfl ⟨by omega, by omega⟩ ⟨by omega, by omega⟩ (fun c9 => ?_) (fun c9 => ?_)
        · refine ja_iconst daspectFieldOfB_35 ?_
          refine ja_ireturn daspectFieldOfB_36 rfl ?_
          exact mo_fin (by omega) rfl (k2 ((by have e : x3 = (h 15 (a1).toNat) := (by omega); subst e; exact iv.2.2)))
        · refine ja_aload_n daspectFieldOfB_12 rfl rfl ?_
          refine fa_aspectField daspectFieldOfB_13 ?_
          refine ja_bipush 10 daspectFieldOfB_16 rfl ?_
          refine ja_iload_n daspectFieldOfB_18 rfl rfl ?_
          refine ja_imul daspectFieldOfB_19 ?_
          refine ja_iload_n daspectFieldOfB_20 rfl rfl ?_
          refine ja_iadd daspectFieldOfB_21 ?_
          refine il_aspectField (v := h 16 ((10 * a1) + x3).toNat) rfl ⟨by omega, by omega⟩ daspectFieldOfB_22 ?_
          have f2 := gC_aspectField g ((10 * a1) + x3).toNat
          refine ja_iload_n daspectFieldOfB_23 rfl rfl ?_
          refine ja_icmp_ne 29 daspectFieldOfB_24 rfl ⟨by omega, by omega⟩ ⟨by omega, by omega⟩ (fun c24 => ?_) (fun c24 => ?_)
          · refine ja_iinc daspectFieldOfB_29 rfl (by decide) (L2 := [(3, (0, (x3 + 1))), (0, (2, ((0 : Nat) : Int))), (1, (0, a1)), (2, (0, a2))]) rfl ?_
            refine ja_goto 2 daspectFieldOfB_32 rfl ?_
            exact ja_wk (fun q hq => by simp only [List.mem_cons, List.not_mem_nil, or_false] at hq; rcases hq with rfl | rfl | rfl | rfl <;> rfl) ((ih (((20 : Int) - (x3 + 1)).toNat) (by omega)) (x3 + 1)  ⟨by omega, by omega⟩ (⟨by omega, by omega, fnd_step (by omega) iv.2.2 (by rw [Int.toNat_of_nonneg iv.1]; exact c24)⟩) rfl)
          · refine ja_iload_n daspectFieldOfB_27 rfl rfl ?_
            refine ja_ireturn daspectFieldOfB_28 rfl ?_
            exact mo_fin (by omega) rfl (k1 x3 (⟨by omega, by omega, fnd_hit (by omega) (by omega) iv.2.2 (by rw [Int.toNat_of_nonneg iv.1]; omega)⟩))
  have kaf := gC_aspectFields g (a1).toNat
  refine ja_iconst daspectFieldOfB_0 ?_
  refine ja_istore_n daspectFieldOfB_1 rfl (by decide) (L2 := [(3, (0, 0)), (0, (2, ((0 : Nat) : Int))), (1, (0, a1)), (2, (0, a2))]) rfl ?_
  exact ja_wk (fun q hq => by simp only [List.mem_cons, List.not_mem_nil, or_false] at hq; rcases hq with rfl | rfl | rfl | rfl <;> rfl) ((CUT _) 0  ⟨by decide, by decide⟩ (⟨by omega, by omega, rfl⟩) rfl)
theorem t_aspectFieldOf2 {a1 a2 : Int} {d nL pc : Nat} {cc : ByteArray} {rt : Option FieldType} {L : List (Nat × ja_V)} {S : List ja_V} {h : ja_H} {Q : Option ja_V → ja_H → Prop} (hdd : 1 < d) (hwd : ja_wd S ≤ 8) (hd : decode cc pc = .ok (.invokevirtual 909, 3)) (g : mo_G mo_zr h) (r1 : -2147483648 ≤ a1 ∧ a1 ≤ 2147483647) (r2 : -2147483648 ≤ a2 ∧ a2 ≤ 2147483647) (p1 : 0 ≤ a1 ∧ a1 ≤ 7) (k1 : ∀ (v : Int), (0 ≤ v ∧ v < (h 15 (a1).toNat) ∧ v = afF h a1 a2) → mJ l D cA ad d cc nL rt (pc + 3) L ((0, v) :: S) h Q) (k2 : (afF h a1 a2 = -1) → mJ l D cA ad d cc nL rt (pc + 3) L ((0, (-1)) :: S) h Q) : mJ l D cA ad d cc nL rt pc L ((0, a2) :: (0, a1) :: (2, ((0 : Nat) : Int)) :: S) h Q :=
  mc_aspectFieldOf hdd hwd hd (s_aspectFieldOf2 g r1 r2 p1 k1 k2)
end
