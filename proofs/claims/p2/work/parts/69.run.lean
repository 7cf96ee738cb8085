/-! the reference: leaves (written by a program) -/
/-! the reference: leaves; the stack of an evaluation -/
/-- digits, the first of them the heaviest -/
def lxM (d : Nat → Nat) (B : Nat) : Nat → Nat
  | 0 => 0
  | n + 1 => lxM d B n * B + d n
theorem lx_same {d e : Nat → Nat} {B : Nat} : ∀ n : Nat, (∀ j : Nat, j < n → d j = e j) → lxM d B n = lxM e B n
  | 0, _ => rfl
  | n + 1, q => by
    show lxM d B n * B + d n = lxM e B n * B + e n
    rw [lx_same n (fun j hj => q j (by omega)), q n (by omega)]
theorem lx_lt {d e : Nat → Nat} {B k : Nat} (hB : ∀ j : Nat, d j < B) (q : ∀ j : Nat, j < k → d j = e j) (l : d k < e k) : ∀ n : Nat, k < n → lxM d B n < lxM e B n
  | 0, h => absurd h (by omega)
  | n + 1, h => by
    show lxM d B n * B + d n < lxM e B n * B + e n
    by_cases z : k = n
    · subst z
      rw [lx_same k q]; omega
    · have i := lx_lt hB q l n (by omega)
      have m : (lxM d B n + 1) * B ≤ lxM e B n * B := Nat.mul_le_mul_right B i
      rw [Nat.succ_mul] at m
      have b := hB n
      omega
theorem lx_max {d : Nat → Nat} {B : Nat} (hB : ∀ j : Nat, d j < B) : ∀ n : Nat, lxM d B n < B ^ n
  | 0 => by show 0 < 1; decide
  | n + 1 => by
    show lxM d B n * B + d n < B ^ (n + 1)
    have i := lx_max hB n
    have m : (lxM d B n + 1) * B ≤ B ^ n * B := Nat.mul_le_mul_right B i
    rw [Nat.succ_mul] at m
    rw [Nat.pow_succ]
    have b := hB n
    omega
/-- ranks of nodes -/
def nRk (h : ja_H) (n : Nat) : Nat := n + (if (h 67) n = 0 then 900 else 0)
def rkN (h : ja_H) (n : Nat) : Nat := cntP (fun m => decide (nRk h m < nRk h n)) ((h 0 95)).toNat
theorem rkN_lt {h : ja_H} {a b : Nat} (ha : (a : Int) < (h 0 95)) (l : nRk h a < nRk h b) : rkN h a < rkN h b :=
  cntP_lt (x := a) (by simp) (by simpa using l) ((h 0 95)).toNat (fun j hj z => by simp at z ⊢; omega) (by omega)
theorem rkN_899 {h : ja_H} {n : Nat} (g : mo_G mo_zr h) (hn : (n : Int) < (h 0 95)) : rkN h n ≤ 899 := by
  have a := cntP_lt (p := fun m => decide (nRk h m < nRk h n)) (q := fun _ => true) (x := n) (by simp) rfl ((h 0 95)).toNat (fun _ _ _ => rfl) (by omega)
  have b := cntP_n (p := fun _ => true) ((h 0 95)).toNat
  have c := gF_nodes g
  unfold rkN
  omega
theorem rkN_ag {h u : ja_H} (ag : mo_ag (mo_F [95] [67]) h u) (n : Nat) : rkN u n = rkN h n := by
  have e1 : (u 0 95) = (h 0 95) := ag _ _ rfl
  have f1 : (u 67) = (h 67) := funext fun j => ag _ _ rfl
  have f2 : nRk u = nRk h := by funext m; unfold nRk; rw [f1]
  unfold rkN; rw [e1, f2]
def kid (h : ja_H) (c : Int) (n : Nat) : Prop := 0 ≤ c ∧ c < (h 0 95) ∧ rkN h c.toNat < rkN h n
theorem ci_kid {h : ja_H} {ht st rg : Nat → Int} {n : Nat} (g : mo_G mo_zr h) (q : CI h ht st rg) (hn : (n : Int) < (h 0 95)) : ((h 58) n = 13 ∨ (h 58) n = 14 → kid h ((h 59) n) n ∧ kid h ((h 60) n) n) ∧ ((h 58) n = 11 ∨ (h 58) n = 15 → kid h ((h 59) n) n) ∧ ((h 58) n = 12 → kid h ((h 37) ((h 59) n).toNat) n) := by
  obtain ⟨-, -, q3, -, q5, -⟩ := q
  obtain ⟨c1, c2, c3, c4, c5, c6⟩ := q3 n hn
  have K : ∀ c : Int, 0 ≤ c → c < n → (h 67) c.toNat = (h 67) n → kid h c n := fun c a b e => ⟨a, by omega, rkN_lt (by omega) (by unfold nRk; rw [e]; omega)⟩
  refine ⟨fun z => ?_, fun z => ?_, fun z => ?_⟩
  · obtain ⟨a1, a2, a3, a4, a5, a6⟩ := c1 z
    exact ⟨K _ a1 a2 a5, K _ a3 a4 a6⟩
  · obtain ⟨a1, a2, a3⟩ := c2 z
    exact K _ a1 a2 a3
  · obtain ⟨a1, ⟨a2, a3⟩, -⟩ := c4 z
    obtain ⟨b1, b2⟩ := q5.2.2.2.1 ((h 59) n).toNat (by omega)
    have gr := gC_pickRoot g ((h 59) n).toNat
    refine ⟨gr.1, b1, rkN_lt (by omega) ?_⟩
    unfold nRk
    rw [a1, b2]
    simp
    omega
/-- one entry of the stack -/
def evE (h : ja_H) (e : Nat) : Prop := (h 132) e < (h 0 95) ∧ (h 134) e < (h 0 172) ∧ (e : Int) + rkN h ((h 132) e).toNat ≤ 899 ∧ ((h 133) e ≠ 0 → 11 ≤ (h 58) ((h 132) e).toNat) ∧ 0 ≤ (h 135) e ∧ (h 135) e ≤ (h 0 172)
def evI (h : ja_H) : Prop := ∀ e : Nat, (e : Int) < (h 0 202) → evE h e
def evD (h : ja_H) (e : Nat) : Nat := if (h 133) e = 0 then 1900 else if (h 133) e = 1 then 500 + ((h 135) e + 1).toNat else 300
def evX (h : ja_H) (e : Nat) : Nat := if (e : Int) < (h 0 202) then evD h e else 0
def evV (h : ja_H) : Nat := lxM (evX h) 2000 1001
theorem evD_b {h : ja_H} (g : mo_G mo_zr h) (e : Nat) : 1 ≤ evD h e ∧ evD h e ≤ 1900 := by
  have := gC_evAt g e
  unfold evD
  split
  · omega
  · split <;> omega
theorem evX_b {h : ja_H} (g : mo_G mo_zr h) (e : Nat) : evX h e < 2000 := by
  have := evD_b g e
  unfold evX
  split <;> omega
def FEVK : Nat → Nat → Bool := mo_X [202, 203, 131, 206, 207] [132, 133, 134, 135, 130, 131, 136, 137, 1]
def RW (h : ja_H) : Prop := ∀ r : Nat, (r : Int) < (h 0 172) → (h 115) r < (h 0 88) ∧ (0 < (h 116) r → caN h)
theorem evE_keep {h H : ja_H} {e : Nat} (ag : mo_ag FEVK h H) (q : evE h e) (e1 : (H 132) e = (h 132) e) (e2 : (H 134) e = (h 134) e) (e3 : (H 133) e ≠ 0 → 11 ≤ (h 58) ((h 132) e).toNat) (e4 : 0 ≤ (H 135) e ∧ (H 135) e ≤ (h 0 172)) : evE H e := by
  obtain ⟨q1, q2, q3, q4, q5⟩ := q
  have n1 : (H 0 95) = (h 0 95) := ag _ _ rfl
  have n2 : (H 0 172) = (h 0 172) := ag _ _ rfl
  have n3 : (H 58) = (h 58) := funext fun j => ag _ _ rfl
  have n4 : ∀ n, rkN H n = rkN h n := rkN_ag (ag_sub (X_sub (by decide) (by decide)) ag)
  exact ⟨by rw [e1, n1]; exact q1, by rw [e2, n2]; exact q2, by rw [e1, n4]; exact q3, by rw [e1, n3]; exact e3, by rw [n2]; exact e4⟩
/-- the top goes -/
theorem ev_pop {h H : ja_H} {e : Int} (gH : mo_G mo_zr H) (q : evI h) (h0 : 0 ≤ e) (he : e = (h 0 202) - 1) (he2 : (h 0 202) ≤ 1000) (ag : mo_ag FEVK h H) (hev : (H 0 202) = (h 0 202) - 1) (N : ∀ j : Nat, j ≠ e.toNat → (H 132) j = (h 132) j ∧ (H 134) j = (h 134) j ∧ (H 133) j = (h 133) j ∧ (H 135) j = (h 135) j) (g : mo_G mo_zr h) : evI H ∧ evV H < evV h := by
  have low : ∀ j : Nat, (j : Int) < (H 0 202) → evE H j := fun j hj => by
    obtain ⟨n1, n2, n3, n4⟩ := N j (by omega)
    have qj := q j (by omega)
    exact evE_keep ag qj n1 n2 (by rw [n3]; exact qj.2.2.2.1) (by rw [n4]; exact qj.2.2.2.2)
  refine ⟨low, lx_lt (k := e.toNat) (evX_b gH) (fun j hj => ?_) ?_ 1001 (by omega)⟩
  · obtain ⟨n1, n2, n3, n4⟩ := N j (by omega)
    have ed : evD H j = evD h j := by unfold evD; rw [n3, n4]
    unfold evX
    rw [if_pos (show (j : Int) < (H 0 202) by omega), if_pos (show (j : Int) < (h 0 202) by omega), ed]
  · have b := evD_b g e.toNat
    unfold evX
    rw [if_neg (by omega), if_pos (by omega)]
    omega
/-- one more is asked -/
theorem ev_ask {h H : ja_H} {e c r : Int} (g : mo_G mo_zr h) (gH : mo_G mo_zr H) (q : evI h) (h0 : 0 ≤ e) (he : e = (h 0 202) - 1) (ag : mo_ag FEVK h H) (hev : (H 0 202) = (h 0 202) + 1) (N : ∀ j : Nat, j ≠ e.toNat → j ≠ ((h 0 202)).toNat → (H 132) j = (h 132) j ∧ (H 134) j = (h 134) j ∧ (H 133) j = (h 133) j ∧ (H 135) j = (h 135) j) (E1 : (H 132) e.toNat = (h 132) e.toNat) (E2 : (H 134) e.toNat = (h 134) e.toNat) (k11 : 11 ≤ (h 58) ((h 132) e.toNat).toNat) (T : 0 ≤ (H 135) e.toNat ∧ (H 135) e.toNat ≤ (h 0 172))
    (W1 : (H 132) ((h 0 202)).toNat = c) (W2 : (H 134) ((h 0 202)).toNat = r) (W3 : (H 133) ((h 0 202)).toNat = 0) (W4 : (H 135) ((h 0 202)).toNat = 0) (kd : kid h c ((h 132) e.toNat).toNat) (hr : 0 ≤ r ∧ r < (h 0 172)) (D : evD H e.toNat < evD h e.toNat) : evI H ∧ evV H < evV h := by
  have qe := q e.toNat (by omega)
  obtain ⟨k1, k2, k3⟩ := kd
  have n1 : (H 0 95) = (h 0 95) := ag _ _ rfl
  have n2 : (H 0 172) = (h 0 172) := ag _ _ rfl
  have n4 : ∀ n, rkN H n = rkN h n := rkN_ag (ag_sub (X_sub (by decide) (by decide)) ag)
  refine ⟨fun j hj => ?_, lx_lt (k := e.toNat) (evX_b gH) (fun j hj => ?_) ?_ 1001 ?_⟩
  · by_cases z1 : j = e.toNat
    · subst z1
      exact evE_keep ag qe E1 E2 (fun _ => k11) T
    · by_cases z2 : j = ((h 0 202)).toNat
      · subst z2
        have q3 := qe.2.2.1
        refine ⟨by rw [W1, n1]; exact k2, by rw [W2, n2]; exact hr.2, ?_, fun z => absurd W3 z, by rw [W4, n2]; omega⟩
        rw [W1, n4]
        omega
      · obtain ⟨m1, m2, m3, m4⟩ := N j z1 z2
        have qj := q j (by omega)
        exact evE_keep ag qj m1 m2 (by rw [m3]; exact qj.2.2.2.1) (by rw [m4]; exact qj.2.2.2.2)
  · obtain ⟨m1, m2, m3, m4⟩ := N j (by omega) (by omega)
    have ed : evD H j = evD h j := by unfold evD; rw [m3, m4]
    unfold evX
    rw [if_pos (show (j : Int) < (H 0 202) by omega), if_pos (show (j : Int) < (h 0 202) by omega), ed]
  · unfold evX
    rw [if_pos (by omega), if_pos (by omega)]
    exact D
  · have := qe.2.2.1; omega
theorem ev_900 {h : ja_H} (q : evI h) (h0 : 1 ≤ (h 0 202)) : (h 0 202) ≤ 900 := by
  have := (q ((h 0 202) - 1).toNat (by omega)).2.2.1
  omega
theorem disLeaf_0 : decode cX12_isLeaf 0 = .ok (.aload_n 0, 1) := by decide +kernel
theorem disLeaf_1 : decode cX12_isLeaf 1 = .ok (.getfield 354, 3) := by decide +kernel
theorem disLeaf_4 : decode cX12_isLeaf 4 = .ok (.iload_n 2, 1) := by decide +kernel
theorem disLeaf_5 : decode cX12_isLeaf 5 = .ok (.iaload, 1) := by decide +kernel
theorem disLeaf_6 : decode cX12_isLeaf 6 = .ok (.istore_n 3, 1) := by decide +kernel
theorem disLeaf_7 : decode cX12_isLeaf 7 = .ok (.aload_n 0, 1) := by decide +kernel
theorem disLeaf_8 : decode cX12_isLeaf 8 = .ok (.getfield 182, 3) := by decide +kernel
theorem disLeaf_11 : decode cX12_isLeaf 11 = .ok (.iload_n 1, 1) := by decide +kernel
theorem disLeaf_12 : decode cX12_isLeaf 12 = .ok (.iaload, 1) := by decide +kernel
theorem disLeaf_13 : decode cX12_isLeaf 13 = .ok (.tableswitch 291 0 10 #[59, 291, 291, 59, 59, 291, 291, 119, 155, 192, 285], 59) := by decide +kernel
theorem disLeaf_72 : decode cX12_isLeaf 72 = .ok (.aload_n 0, 1) := by decide +kernel
theorem disLeaf_73 : decode cX12_isLeaf 73 = .ok (.iload_n 1, 1) := by decide +kernel
theorem disLeaf_74 : decode cX12_isLeaf 74 = .ok (.iload_n 3, 1) := by decide +kernel
theorem disLeaf_75 : decode cX12_isLeaf 75 = .ok (.invokevirtual 957, 3) := by decide +kernel
theorem disLeaf_78 : decode cX12_isLeaf 78 = .ok (.istore 4, 2) := by decide +kernel
theorem disLeaf_80 : decode cX12_isLeaf 80 = .ok (.iload 4, 2) := by decide +kernel
theorem disLeaf_82 : decode cX12_isLeaf 82 = .ok (.iconst 1, 1) := by decide +kernel
theorem disLeaf_83 : decode cX12_isLeaf 83 = .ok (.if_icmp .eq 43, 3) := by decide +kernel
theorem disLeaf_86 : decode cX12_isLeaf 86 = .ok (.iload 4, 2) := by decide +kernel
theorem disLeaf_88 : decode cX12_isLeaf 88 = .ok (.iconst 2, 1) := by decide +kernel
theorem disLeaf_89 : decode cX12_isLeaf 89 = .ok (.if_icmp .ne 41, 3) := by decide +kernel
theorem disLeaf_92 : decode cX12_isLeaf 92 = .ok (.aload_n 0, 1) := by decide +kernel
theorem disLeaf_93 : decode cX12_isLeaf 93 = .ok (.getfield 360, 3) := by decide +kernel
theorem disLeaf_96 : decode cX12_isLeaf 96 = .ok (.iload_n 2, 1) := by decide +kernel
theorem disLeaf_97 : decode cX12_isLeaf 97 = .ok (.iaload, 1) := by decide +kernel
theorem disLeaf_98 : decode cX12_isLeaf 98 = .ok (.iconst 2, 1) := by decide +kernel
theorem disLeaf_99 : decode cX12_isLeaf 99 = .ok (.if_icmp .ne 31, 3) := by decide +kernel
theorem disLeaf_102 : decode cX12_isLeaf 102 = .ok (.aload_n 0, 1) := by decide +kernel
theorem disLeaf_103 : decode cX12_isLeaf 103 = .ok (.getfield 212, 3) := by decide +kernel
theorem disLeaf_106 : decode cX12_isLeaf 106 = .ok (.iload_n 1, 1) := by decide +kernel
theorem disLeaf_107 : decode cX12_isLeaf 107 = .ok (.iaload, 1) := by decide +kernel
theorem disLeaf_108 : decode cX12_isLeaf 108 = .ok (.aload_n 0, 1) := by decide +kernel
theorem disLeaf_109 : decode cX12_isLeaf 109 = .ok (.getfield 276, 3) := by decide +kernel
theorem disLeaf_112 : decode cX12_isLeaf 112 = .ok (.aload_n 0, 1) := by decide +kernel
theorem disLeaf_113 : decode cX12_isLeaf 113 = .ok (.getfield 363, 3) := by decide +kernel
theorem disLeaf_116 : decode cX12_isLeaf 116 = .ok (.iload_n 2, 1) := by decide +kernel
theorem disLeaf_117 : decode cX12_isLeaf 117 = .ok (.iaload, 1) := by decide +kernel
theorem disLeaf_118 : decode cX12_isLeaf 118 = .ok (.iaload, 1) := by decide +kernel
theorem disLeaf_119 : decode cX12_isLeaf 119 = .ok (.ishr, 1) := by decide +kernel
theorem disLeaf_120 : decode cX12_isLeaf 120 = .ok (.iconst 1, 1) := by decide +kernel
theorem disLeaf_121 : decode cX12_isLeaf 121 = .ok (.iand, 1) := by decide +kernel
theorem disLeaf_122 : decode cX12_isLeaf 122 = .ok (.iconst 1, 1) := by decide +kernel
theorem disLeaf_123 : decode cX12_isLeaf 123 = .ok (.if_icmp .ne 7, 3) := by decide +kernel
theorem disLeaf_126 : decode cX12_isLeaf 126 = .ok (.iconst 1, 1) := by decide +kernel
theorem disLeaf_127 : decode cX12_isLeaf 127 = .ok (.goto 4, 3) := by decide +kernel
theorem disLeaf_130 : decode cX12_isLeaf 130 = .ok (.iconst 0, 1) := by decide +kernel
theorem disLeaf_131 : decode cX12_isLeaf 131 = .ok (.ireturn, 1) := by decide +kernel
theorem disLeaf_132 : decode cX12_isLeaf 132 = .ok (.aload_n 0, 1) := by decide +kernel
theorem disLeaf_133 : decode cX12_isLeaf 133 = .ok (.getfield 357, 3) := by decide +kernel
theorem disLeaf_136 : decode cX12_isLeaf 136 = .ok (.iload_n 2, 1) := by decide +kernel
theorem disLeaf_137 : decode cX12_isLeaf 137 = .ok (.iaload, 1) := by decide +kernel
theorem disLeaf_138 : decode cX12_isLeaf 138 = .ok (.ifCond .le 28, 3) := by decide +kernel
theorem disLeaf_141 : decode cX12_isLeaf 141 = .ok (.aload_n 0, 1) := by decide +kernel
theorem disLeaf_142 : decode cX12_isLeaf 142 = .ok (.iload_n 1, 1) := by decide +kernel
theorem disLeaf_143 : decode cX12_isLeaf 143 = .ok (.aload_n 0, 1) := by decide +kernel
theorem disLeaf_144 : decode cX12_isLeaf 144 = .ok (.getfield 185, 3) := by decide +kernel
theorem disLeaf_147 : decode cX12_isLeaf 147 = .ok (.iload_n 1, 1) := by decide +kernel
theorem disLeaf_148 : decode cX12_isLeaf 148 = .ok (.iaload, 1) := by decide +kernel
theorem disLeaf_149 : decode cX12_isLeaf 149 = .ok (.iconst 2, 1) := by decide +kernel
theorem disLeaf_150 : decode cX12_isLeaf 150 = .ok (.aload_n 0, 1) := by decide +kernel
theorem disLeaf_151 : decode cX12_isLeaf 151 = .ok (.getfield 357, 3) := by decide +kernel
theorem disLeaf_154 : decode cX12_isLeaf 154 = .ok (.iload_n 2, 1) := by decide +kernel
theorem disLeaf_155 : decode cX12_isLeaf 155 = .ok (.iaload, 1) := by decide +kernel
theorem disLeaf_156 : decode cX12_isLeaf 156 = .ok (.invokevirtual 1160, 3) := by decide +kernel
theorem disLeaf_159 : decode cX12_isLeaf 159 = .ok (.ifCond .eq 7, 3) := by decide +kernel
theorem disLeaf_162 : decode cX12_isLeaf 162 = .ok (.iconst 1, 1) := by decide +kernel
theorem disLeaf_163 : decode cX12_isLeaf 163 = .ok (.goto 4, 3) := by decide +kernel
theorem disLeaf_166 : decode cX12_isLeaf 166 = .ok (.iconst 0, 1) := by decide +kernel
theorem disLeaf_167 : decode cX12_isLeaf 167 = .ok (.ireturn, 1) := by decide +kernel
theorem disLeaf_168 : decode cX12_isLeaf 168 = .ok (.aload_n 0, 1) := by decide +kernel
theorem disLeaf_169 : decode cX12_isLeaf 169 = .ok (.getfield 360, 3) := by decide +kernel
theorem disLeaf_172 : decode cX12_isLeaf 172 = .ok (.iload_n 2, 1) := by decide +kernel
theorem disLeaf_173 : decode cX12_isLeaf 173 = .ok (.iaload, 1) := by decide +kernel
theorem disLeaf_174 : decode cX12_isLeaf 174 = .ok (.iconst 2, 1) := by decide +kernel
theorem disLeaf_175 : decode cX12_isLeaf 175 = .ok (.if_icmp .ne 28, 3) := by decide +kernel
theorem disLeaf_178 : decode cX12_isLeaf 178 = .ok (.aload_n 0, 1) := by decide +kernel
theorem disLeaf_179 : decode cX12_isLeaf 179 = .ok (.iload_n 1, 1) := by decide +kernel
theorem disLeaf_180 : decode cX12_isLeaf 180 = .ok (.aload_n 0, 1) := by decide +kernel
theorem disLeaf_181 : decode cX12_isLeaf 181 = .ok (.getfield 185, 3) := by decide +kernel
theorem disLeaf_184 : decode cX12_isLeaf 184 = .ok (.iload_n 1, 1) := by decide +kernel
theorem disLeaf_185 : decode cX12_isLeaf 185 = .ok (.iaload, 1) := by decide +kernel
theorem disLeaf_186 : decode cX12_isLeaf 186 = .ok (.iconst 2, 1) := by decide +kernel
theorem disLeaf_187 : decode cX12_isLeaf 187 = .ok (.aload_n 0, 1) := by decide +kernel
theorem disLeaf_188 : decode cX12_isLeaf 188 = .ok (.getfield 363, 3) := by decide +kernel
theorem disLeaf_191 : decode cX12_isLeaf 191 = .ok (.iload_n 2, 1) := by decide +kernel
theorem disLeaf_192 : decode cX12_isLeaf 192 = .ok (.iaload, 1) := by decide +kernel
theorem disLeaf_193 : decode cX12_isLeaf 193 = .ok (.invokevirtual 1160, 3) := by decide +kernel
theorem disLeaf_196 : decode cX12_isLeaf 196 = .ok (.ifCond .eq 7, 3) := by decide +kernel
theorem disLeaf_199 : decode cX12_isLeaf 199 = .ok (.iconst 1, 1) := by decide +kernel
theorem disLeaf_200 : decode cX12_isLeaf 200 = .ok (.goto 4, 3) := by decide +kernel
theorem disLeaf_203 : decode cX12_isLeaf 203 = .ok (.iconst 0, 1) := by decide +kernel
theorem disLeaf_204 : decode cX12_isLeaf 204 = .ok (.ireturn, 1) := by decide +kernel
theorem disLeaf_205 : decode cX12_isLeaf 205 = .ok (.aload_n 0, 1) := by decide +kernel
theorem disLeaf_206 : decode cX12_isLeaf 206 = .ok (.getfield 366, 3) := by decide +kernel
theorem disLeaf_209 : decode cX12_isLeaf 209 = .ok (.iload_n 2, 1) := by decide +kernel
theorem disLeaf_210 : decode cX12_isLeaf 210 = .ok (.iaload, 1) := by decide +kernel
theorem disLeaf_211 : decode cX12_isLeaf 211 = .ok (.aload_n 0, 1) := by decide +kernel
theorem disLeaf_212 : decode cX12_isLeaf 212 = .ok (.getfield 194, 3) := by decide +kernel
theorem disLeaf_215 : decode cX12_isLeaf 215 = .ok (.iload_n 1, 1) := by decide +kernel
theorem disLeaf_216 : decode cX12_isLeaf 216 = .ok (.iaload, 1) := by decide +kernel
theorem disLeaf_217 : decode cX12_isLeaf 217 = .ok (.if_icmp .ne 7, 3) := by decide +kernel
theorem disLeaf_220 : decode cX12_isLeaf 220 = .ok (.iconst 1, 1) := by decide +kernel
theorem disLeaf_221 : decode cX12_isLeaf 221 = .ok (.goto 4, 3) := by decide +kernel
theorem disLeaf_224 : decode cX12_isLeaf 224 = .ok (.iconst 0, 1) := by decide +kernel
theorem disLeaf_225 : decode cX12_isLeaf 225 = .ok (.istore 5, 2) := by decide +kernel
theorem disLeaf_227 : decode cX12_isLeaf 227 = .ok (.iconst 0, 1) := by decide +kernel
theorem disLeaf_228 : decode cX12_isLeaf 228 = .ok (.istore 6, 2) := by decide +kernel
theorem disLeaf_230 : decode cX12_isLeaf 230 = .ok (.iload 6, 2) := by decide +kernel
theorem disLeaf_232 : decode cX12_isLeaf 232 = .ok (.aload_n 0, 1) := by decide +kernel
theorem disLeaf_233 : decode cX12_isLeaf 233 = .ok (.getfield 194, 3) := by decide +kernel
theorem disLeaf_236 : decode cX12_isLeaf 236 = .ok (.iload_n 1, 1) := by decide +kernel
theorem disLeaf_237 : decode cX12_isLeaf 237 = .ok (.iaload, 1) := by decide +kernel
theorem disLeaf_238 : decode cX12_isLeaf 238 = .ok (.if_icmp .ge 57, 3) := by decide +kernel
theorem disLeaf_241 : decode cX12_isLeaf 241 = .ok (.iload 5, 2) := by decide +kernel
theorem disLeaf_243 : decode cX12_isLeaf 243 = .ok (.ifCond .eq 52, 3) := by decide +kernel
theorem disLeaf_246 : decode cX12_isLeaf 246 = .ok (.aload_n 0, 1) := by decide +kernel
theorem disLeaf_247 : decode cX12_isLeaf 247 = .ok (.iload_n 1, 1) := by decide +kernel
theorem disLeaf_248 : decode cX12_isLeaf 248 = .ok (.aload_n 0, 1) := by decide +kernel
theorem disLeaf_249 : decode cX12_isLeaf 249 = .ok (.getfield 197, 3) := by decide +kernel
theorem disLeaf_252 : decode cX12_isLeaf 252 = .ok (.bipush 7, 2) := by decide +kernel
theorem disLeaf_254 : decode cX12_isLeaf 254 = .ok (.iload_n 1, 1) := by decide +kernel
theorem disLeaf_255 : decode cX12_isLeaf 255 = .ok (.imul, 1) := by decide +kernel
theorem disLeaf_256 : decode cX12_isLeaf 256 = .ok (.iload 6, 2) := by decide +kernel
theorem disLeaf_258 : decode cX12_isLeaf 258 = .ok (.iadd, 1) := by decide +kernel
theorem disLeaf_259 : decode cX12_isLeaf 259 = .ok (.iaload, 1) := by decide +kernel
theorem disLeaf_260 : decode cX12_isLeaf 260 = .ok (.aload_n 0, 1) := by decide +kernel
theorem disLeaf_261 : decode cX12_isLeaf 261 = .ok (.getfield 369, 3) := by decide +kernel
theorem disLeaf_264 : decode cX12_isLeaf 264 = .ok (.bipush 6, 2) := by decide +kernel
theorem disLeaf_266 : decode cX12_isLeaf 266 = .ok (.iload_n 2, 1) := by decide +kernel
theorem disLeaf_267 : decode cX12_isLeaf 267 = .ok (.imul, 1) := by decide +kernel
theorem disLeaf_268 : decode cX12_isLeaf 268 = .ok (.iload 6, 2) := by decide +kernel
theorem disLeaf_270 : decode cX12_isLeaf 270 = .ok (.iadd, 1) := by decide +kernel
theorem disLeaf_271 : decode cX12_isLeaf 271 = .ok (.iaload, 1) := by decide +kernel
theorem disLeaf_272 : decode cX12_isLeaf 272 = .ok (.aload_n 0, 1) := by decide +kernel
theorem disLeaf_273 : decode cX12_isLeaf 273 = .ok (.getfield 372, 3) := by decide +kernel
theorem disLeaf_276 : decode cX12_isLeaf 276 = .ok (.bipush 6, 2) := by decide +kernel
theorem disLeaf_278 : decode cX12_isLeaf 278 = .ok (.iload_n 2, 1) := by decide +kernel
theorem disLeaf_279 : decode cX12_isLeaf 279 = .ok (.imul, 1) := by decide +kernel
theorem disLeaf_280 : decode cX12_isLeaf 280 = .ok (.iload 6, 2) := by decide +kernel
theorem disLeaf_282 : decode cX12_isLeaf 282 = .ok (.iadd, 1) := by decide +kernel
theorem disLeaf_283 : decode cX12_isLeaf 283 = .ok (.iaload, 1) := by decide +kernel
theorem disLeaf_284 : decode cX12_isLeaf 284 = .ok (.invokevirtual 1160, 3) := by decide +kernel
theorem disLeaf_287 : decode cX12_isLeaf 287 = .ok (.istore 5, 2) := by decide +kernel
theorem disLeaf_289 : decode cX12_isLeaf 289 = .ok (.iinc 6 1, 3) := by decide +kernel
theorem disLeaf_292 : decode cX12_isLeaf 292 = .ok (.goto (-62), 3) := by decide +kernel
theorem disLeaf_295 : decode cX12_isLeaf 295 = .ok (.iload 5, 2) := by decide +kernel
theorem disLeaf_297 : decode cX12_isLeaf 297 = .ok (.ireturn, 1) := by decide +kernel
theorem disLeaf_298 : decode cX12_isLeaf 298 = .ok (.aload_n 0, 1) := by decide +kernel
theorem disLeaf_299 : decode cX12_isLeaf 299 = .ok (.iload_n 1, 1) := by decide +kernel
theorem disLeaf_300 : decode cX12_isLeaf 300 = .ok (.invokevirtual 1163, 3) := by decide +kernel
theorem disLeaf_303 : decode cX12_isLeaf 303 = .ok (.ireturn, 1) := by decide +kernel
theorem disLeaf_304 : decode cX12_isLeaf 304 = .ok (.aload_n 0, 1) := by decide +kernel
theorem disLeaf_305 : decode cX12_isLeaf 305 = .ok (.iload_n 1, 1) := by decide +kernel
theorem disLeaf_306 : decode cX12_isLeaf 306 = .ok (.iload_n 3, 1) := by decide +kernel
theorem disLeaf_307 : decode cX12_isLeaf 307 = .ok (.invokevirtual 969, 3) := by decide +kernel
theorem disLeaf_310 : decode cX12_isLeaf 310 = .ok (.iconst 1, 1) := by decide +kernel
theorem disLeaf_311 : decode cX12_isLeaf 311 = .ok (.if_icmp .ne 7, 3) := by decide +kernel
theorem disLeaf_314 : decode cX12_isLeaf 314 = .ok (.iconst 1, 1) := by decide +kernel
theorem disLeaf_315 : decode cX12_isLeaf 315 = .ok (.goto 4, 3) := by decide +kernel
theorem disLeaf_318 : decode cX12_isLeaf 318 = .ok (.iconst 0, 1) := by decide +kernel
theorem disLeaf_319 : decode cX12_isLeaf 319 = .ok (.ireturn, 1) := by decide +kernel
section
variable {l : Launch} {D : va_G} {cA : Nat → ClassId} {ad : Nat → Nat}
theorem s_isLeaf {a1 a2 : Int} {ht st rg : Nat → Int} {h : ja_H} {Q : Option ja_V → ja_H → Prop} (g : mo_G mo_zr h) (r1 : -2147483648 ≤ a1 ∧ a1 ≤ 2147483647) (r2 : -2147483648 ≤ a2 ∧ a2 ≤ 2147483647) (p1 : 0 ≤ a1 ∧ a1 ≤ 899) (p2 : 0 ≤ a2 ∧ a2 ≤ 119) (p3 : VI h) (p4 : CI h ht st rg) (p5 : a1 < (h 0 95)) (p6 : (h 115 (a2).toNat) < (h 0 88)) (p7 : 0 < (h 116 (a2).toNat) → caN h) (k1 : ∀ (v : Int) (h' : ja_H), ((0 ≤ v ∧ v ≤ 1) ∧ mo_ag FBI h h' ∧ VI h') → mo_G mo_zr h' → Q (some (0, v)) h') : mM_isLeaf l D cA ad a1 a2 h Q := by
  show mJ l D cA ad 6 cX12_isLeaf 7 (some .boolean) 0 [(0, (2, ((0 : Nat) : Int))), (1, (0, a1)), (2, (0, a2))] [] h Q
  have kn_points := gF_points g
  have CUT : ∀ n : Nat, (∀ (x5 x6 : Int) (u : ja_H), mo_G mo_zr u → (-2147483648 ≤ x5 ∧ x5 ≤ 2147483647) → (-2147483648 ≤ x6 ∧ x6 ≤ 2147483647) → ((0 ≤ x5 ∧ x5 ≤ 1 ∧ 0 ≤ x6 ∧ x6 ≤ 7 ∧ (h 58 (a1).toNat) = 9) ∧ mo_ag FBI h u ∧ VI u) → (((10 : Int) - x6).toNat) = n → mJ l D cA ad 6 cX12_isLeaf 7 (some .boolean) 230 [(0, (2, ((0 : Nat) : Int))), (1, (0, a1)), (2, (0, a2)), (5, (0, x5)), (6, (0, x6))] [] u Q) := by
    intro n
    induction n using Nat.strongRecOn with
    | _ n ih =>
      skip
      · intro x5 x6 u gu qx5 qx6 iv hm
        subst hm
        have ku_points := gF_points gu
        obtain ⟨iv, ag, qv⟩ := iv
        have enm : (u 62 (a1).toNat) = (h 62 (a1).toNat) := ag 62 _ rfl
        have ekd : (u 58 (a1).toNat) = (h 58 (a1).toNat) := ag 58 _ rfl
        have ena : (u 63) = (h 63) := funext fun j => ag 63 j rfl
        have kmm := gC_nodeMany g (a1).toNat
        refine ja_iload disLeaf_230 rfl ?_
        refine ja_aload_n disLeaf_232 rfl rfl ?_
        refine fa_nodeMany disLeaf_233 ?_
        refine ja_iload_n disLeaf_236 rfl rfl ?_
        refine il_nodeMany (v := u 62 (a1).toNat) rfl ⟨by omega, by omega⟩ disLeaf_237 ?_
        have f1 := gC_nodeMany gu (a1).toNat
        refine ja_icmp_ge 295 disLeaf_238 rfl ⟨by omega, by omega⟩ ⟨by omega, by omega⟩ (fun c238 => ?_) (fun c238 => ?_)
        · refine ja_iload disLeaf_295 rfl ?_
          refine ja_zreturn disLeaf_297 rfl (by omega) ?_
          exact mo_fin (by omega) rfl (k1 x5 u (⟨by omega, ag, qv⟩) gu)
        · refine ja_iload disLeaf_241 rfl ?_
          refine ja_if_eq 295 disLeaf_243 rfl ⟨by omega, by omega⟩ (fun c243 => ?_) (fun c243 => ?_)
          · refine ja_iload disLeaf_295 rfl ?_
            refine ja_zreturn disLeaf_297 rfl (by omega) ?_
            exact mo_fin (by omega) rfl (k1 x5 u (⟨by omega, ag, qv⟩) gu)
          · have hy := lnZ_n ((p4.2.2.1 (a1).toNat (by omega)).2.2.2.2.2 (by omega) (x6).toNat (by omega))
            have ei : 7 * (a1).toNat + (x6).toNat = (7 * a1 + x6).toNat := by omega
            rw [ei, ← ena] at hy
            refine ja_aload_n disLeaf_246 rfl rfl ?_
            refine ja_iload_n disLeaf_247 rfl rfl ?_
            refine ja_aload_n disLeaf_248 rfl rfl ?_
            refine fa_nodeArg disLeaf_249 ?_
            refine ja_bipush 7 disLeaf_252 rfl ?_
            refine ja_iload_n disLeaf_254 rfl rfl ?_
            refine ja_imul disLeaf_255 ?_
            refine ja_iload disLeaf_256 rfl ?_
            refine ja_iadd disLeaf_258 ?_
            refine il_nodeArg (v := u 63 ((7 * a1) + x6).toNat) rfl ⟨by omega, by omega⟩ disLeaf_259 ?_
            have f2 := gC_nodeArg gu ((7 * a1) + x6).toNat
            refine ja_aload_n disLeaf_260 rfl rfl ?_
            refine fa_reachKind disLeaf_261 ?_
            refine ja_bipush 6 disLeaf_264 rfl ?_
            refine ja_iload_n disLeaf_266 rfl rfl ?_
            refine ja_imul disLeaf_267 ?_
            refine ja_iload disLeaf_268 rfl ?_
            refine ja_iadd disLeaf_270 ?_
            refine il_reachKind (v := u 120 ((6 * a2) + x6).toNat) rfl ⟨by omega, by omega⟩ disLeaf_271 ?_
            have f3 := gC_reachKind gu ((6 * a2) + x6).toNat
            refine ja_aload_n disLeaf_272 rfl rfl ?_
            refine fa_reachValue disLeaf_273 ?_
            refine ja_bipush 6 disLeaf_276 rfl ?_
            refine ja_iload_n disLeaf_278 rfl rfl ?_
            refine ja_imul disLeaf_279 ?_
            refine ja_iload disLeaf_280 rfl ?_
            refine ja_iadd disLeaf_282 ?_
            refine il_reachValue (v := u 121 ((6 * a2) + x6).toNat) rfl ⟨by omega, by omega⟩ disLeaf_283 ?_
            have f4 := gC_reachValue gu ((6 * a2) + x6).toNat
            refine t_meetsName (by decide) (show (0 : Nat) ≤ 8 by decide) disLeaf_284 gu ⟨by omega, by omega⟩ ⟨by omega, by omega⟩ ⟨by omega, by omega⟩ ⟨by omega, by omega⟩ (show 0 ≤ a1 ∧ a1 ≤ 899 by omega) (show -1 ≤ (u 63 ((7 * a1) + x6).toNat) ∧ ((u 63 ((7 * a1) + x6).toNat) ≤ 6 ∨ (100 ≤ (u 63 ((7 * a1) + x6).toNat) ∧ (u 63 ((7 * a1) + x6).toNat) ≤ 111)) by omega) (show 0 ≤ (u 120 ((6 * a2) + x6).toNat) ∧ (u 120 ((6 * a2) + x6).toNat) ≤ 2 by omega) ((vi_at qv (by decide) _)) (qv) ((fun z => (vi_aS qv (show (120, 121) ∈ vps by decide) _ z).2)) ?_
            intro w5 h6 k284_0 g7
            refine ja_istore disLeaf_287 (by decide) (L2 := [(5, (0, w5)), (0, (2, ((0 : Nat) : Int))), (1, (0, a1)), (2, (0, a2)), (6, (0, x6))]) rfl ?_
            refine ja_iinc disLeaf_289 rfl (by decide) (L2 := [(6, (0, (x6 + 1))), (5, (0, w5)), (0, (2, ((0 : Nat) : Int))), (1, (0, a1)), (2, (0, a2))]) rfl ?_
            refine ja_goto 230 disLeaf_292 rfl ?_
            exact ja_wk (fun q hq => by simp only [List.mem_cons, List.not_mem_nil, or_false] at hq; rcases hq with rfl | rfl | rfl | rfl | rfl <;> rfl) ((ih (((10 : Int) - (x6 + 1)).toNat) (by omega)) w5 (x6 + 1) h6 g7 ⟨by omega, by omega⟩ ⟨by omega, by omega⟩ (⟨by omega, (ag_trans ag k284_0.2.1), k284_0.2.2⟩) rfl)
  have hnd := p4.2.2.1 (a1).toNat (by omega)
  obtain ⟨-, -, hn10, -, hn7, hn9⟩ := hnd
  have grp := gC_reachPoint g (a2).toNat
  have hpt := ci_pt p4 (h 115 (a2).toNat).toNat (by omega)
  refine ja_aload_n disLeaf_0 rfl rfl ?_
  refine fa_reachPoint disLeaf_1 ?_
  refine ja_iload_n disLeaf_4 rfl rfl ?_
  refine il_reachPoint (v := h 115 (a2).toNat) rfl ⟨by omega, by omega⟩ disLeaf_5 ?_
  have f8 := gC_reachPoint g (a2).toNat
  refine ja_istore_n disLeaf_6 rfl (by decide) (L2 := [(3, (0, (h 115 (a2).toNat))), (0, (2, ((0 : Nat) : Int))), (1, (0, a1)), (2, (0, a2))]) rfl ?_
  refine ja_aload_n disLeaf_7 rfl rfl ?_
  refine fa_nodeKind disLeaf_8 ?_
  refine ja_iload_n disLeaf_11 rfl rfl ?_
  refine il_nodeKind (v := h 58 (a1).toNat) rfl ⟨by omega, by omega⟩ disLeaf_12 ?_
  have f9 := gC_nodeKind g (a1).toNat
  have T13_72 : (h 58 (a1).toNat = 0 ∨ h 58 (a1).toNat = 3 ∨ h 58 (a1).toNat = 4) → mJ l D cA ad 6 cX12_isLeaf 7 (some .boolean) 72 [(3, (0, (h 115 (a2).toNat))), (0, (2, ((0 : Nat) : Int))), (1, (0, a1)), (2, (0, a2))] [] h Q := by
    intro e13
    have hvr := vi_at p3 (show (117, 118) ∈ vps by decide) (a2).toNat
    refine ja_aload_n disLeaf_72 rfl rfl ?_
    refine ja_iload_n disLeaf_73 rfl rfl ?_
    refine ja_iload_n disLeaf_74 rfl rfl ?_
    refine t_namedAhead (by decide) (show (0 : Nat) ≤ 8 by decide) disLeaf_75 g ⟨by omega, by omega⟩ ⟨by omega, by omega⟩ (show 0 ≤ a1 ∧ a1 ≤ 899 by omega) (show 0 ≤ (h 115 (a2).toNat) ∧ (h 115 (a2).toNat) ≤ 399 by omega) (hpt) ?_
    intro w10 k75_0
    refine ja_istore disLeaf_78 (by decide) (L2 := [(4, (0, w10)), (3, (0, (h 115 (a2).toNat))), (0, (2, ((0 : Nat) : Int))), (1, (0, a1)), (2, (0, a2))]) rfl ?_
    refine ja_iload disLeaf_80 rfl ?_
    refine ja_iconst disLeaf_82 ?_
    refine ja_icmp_eq 126 disLeaf_83 rfl ⟨by omega, by omega⟩ ⟨by decide, by decide⟩ (fun c83 => ?_) (fun c83 => ?_)
    · refine ja_iconst disLeaf_126 ?_
      refine ja_goto 131 disLeaf_127 rfl ?_
      refine ja_zreturn disLeaf_131 rfl (by omega) ?_
      exact mo_fin (by omega) rfl (k1 1 h (⟨by omega, ag_refl, p3⟩) g)
    · refine ja_iload disLeaf_86 rfl ?_
      refine ja_iconst disLeaf_88 ?_
      refine ja_icmp_ne 130 disLeaf_89 rfl ⟨by omega, by omega⟩ ⟨by decide, by decide⟩ (fun c89 => ?_) (fun c89 => ?_)
      · refine ja_iconst disLeaf_130 ?_
        refine ja_zreturn disLeaf_131 rfl (by omega) ?_
        exact mo_fin (by omega) rfl (k1 0 h (⟨by omega, ag_refl, p3⟩) g)
      · refine ja_aload_n disLeaf_92 rfl rfl ?_
        refine fa_reachTargetKind disLeaf_93 ?_
        refine ja_iload_n disLeaf_96 rfl rfl ?_
        refine il_reachTargetKind (v := h 117 (a2).toNat) rfl ⟨by omega, by omega⟩ disLeaf_97 ?_
        have f11 := gC_reachTargetKind g (a2).toNat
        refine ja_iconst disLeaf_98 ?_
        refine ja_icmp_ne 130 disLeaf_99 rfl ⟨by omega, by omega⟩ ⟨by decide, by decide⟩ (fun c99 => ?_) (fun c99 => ?_)
        · refine ja_iconst disLeaf_130 ?_
          refine ja_zreturn disLeaf_131 rfl (by omega) ?_
          exact mo_fin (by omega) rfl (k1 0 h (⟨by omega, ag_refl, p3⟩) g)
        · refine ja_aload_n disLeaf_102 rfl rfl ?_
          refine fa_nodeTypes disLeaf_103 ?_
          refine ja_iload_n disLeaf_106 rfl rfl ?_
          refine il_nodeTypes (v := h 68 (a1).toNat) rfl ⟨by omega, by omega⟩ disLeaf_107 ?_
          have f12 := gC_nodeTypes g (a1).toNat
          refine ja_aload_n disLeaf_108 rfl rfl ?_
          refine fa_objectClass disLeaf_109 ?_
          refine ja_aload_n disLeaf_112 rfl rfl ?_
          refine fa_reachTarget disLeaf_113 ?_
          refine ja_iload_n disLeaf_116 rfl rfl ?_
          refine il_reachTarget (v := h 118 (a2).toNat) rfl ⟨by omega, by omega⟩ disLeaf_117 ?_
          have f13 := gC_reachTarget g (a2).toNat
          refine il_objectClass (v := h 89 (h 118 (a2).toNat).toNat) rfl ⟨by omega, by omega⟩ disLeaf_118 ?_
          have f14 := gC_objectClass g (h 118 (a2).toNat).toNat
          refine mo_hishr disLeaf_119 (fun v15 rv15 => ?_)
          refine ja_iconst disLeaf_120 ?_
          refine mo_iandc disLeaf_121 (by decide) (fun v16 rv16 => ?_)
          refine ja_iconst disLeaf_122 ?_
          refine ja_icmp_ne 130 disLeaf_123 rfl ⟨by omega, by omega⟩ ⟨by decide, by decide⟩ (fun c123 => ?_) (fun c123 => ?_)
          · refine ja_iconst disLeaf_130 ?_
            refine ja_zreturn disLeaf_131 rfl (by omega) ?_
            exact mo_fin (by omega) rfl (k1 0 h (⟨by omega, ag_refl, p3⟩) g)
          · refine ja_iconst disLeaf_126 ?_
            refine ja_goto 131 disLeaf_127 rfl ?_
            refine ja_zreturn disLeaf_131 rfl (by omega) ?_
            exact mo_fin (by omega) rfl (k1 1 h (⟨by omega, ag_refl, p3⟩) g)
  have T13_132 : (h 58 (a1).toNat = 7) → mJ l D cA ad 6 cX12_isLeaf 7 (some .boolean) 132 [(3, (0, (h 115 (a2).toNat))), (0, (2, ((0 : Nat) : Int))), (1, (0, a1)), (2, (0, a2))] [] h Q := by
    intro e13
    have hy := lnZ_n (Or.inr (hn7 (by omega)))
    refine ja_aload_n disLeaf_132 rfl rfl ?_
    refine fa_reachSelf disLeaf_133 ?_
    refine ja_iload_n disLeaf_136 rfl rfl ?_
    refine il_reachSelf (v := h 116 (a2).toNat) rfl ⟨by omega, by omega⟩ disLeaf_137 ?_
    have f17 := gC_reachSelf g (a2).toNat
    refine ja_if_le 166 disLeaf_138 rfl ⟨by omega, by omega⟩ (fun c138 => ?_) (fun c138 => ?_)
    · refine ja_iconst disLeaf_166 ?_
      refine ja_zreturn disLeaf_167 rfl (by omega) ?_
      exact mo_fin (by omega) rfl (k1 0 h (⟨by omega, ag_refl, p3⟩) g)
    · refine ja_aload_n disLeaf_141 rfl rfl ?_
      refine ja_iload_n disLeaf_142 rfl rfl ?_
      refine ja_aload_n disLeaf_143 rfl rfl ?_
      refine fa_nodeA disLeaf_144 ?_
      refine ja_iload_n disLeaf_147 rfl rfl ?_
      refine il_nodeA (v := h 59 (a1).toNat) rfl ⟨by omega, by omega⟩ disLeaf_148 ?_
      have f18 := gC_nodeA g (a1).toNat
      refine ja_iconst disLeaf_149 ?_
      refine ja_aload_n disLeaf_150 rfl rfl ?_
      refine fa_reachSelf disLeaf_151 ?_
      refine ja_iload_n disLeaf_154 rfl rfl ?_
      refine il_reachSelf (v := h 116 (a2).toNat) rfl ⟨by omega, by omega⟩ disLeaf_155 ?_
      refine t_meetsName (by decide) (show (0 : Nat) ≤ 8 by decide) disLeaf_156 g ⟨by omega, by omega⟩ ⟨by omega, by omega⟩ ⟨by decide, by decide⟩ ⟨by omega, by omega⟩ (show 0 ≤ a1 ∧ a1 ≤ 899 by omega) (show -1 ≤ (h 59 (a1).toNat) ∧ ((h 59 (a1).toNat) ≤ 6 ∨ (100 ≤ (h 59 (a1).toNat) ∧ (h 59 (a1).toNat) ≤ 111)) by omega) (show 0 ≤ 2 ∧ 2 ≤ 2 by omega) ((fun _ => by omega)) (p3) ((fun _ => p7 (by omega))) ?_
      intro w19 h20 k156_0 g21
      refine ja_if_eq 166 disLeaf_159 rfl ⟨by omega, by omega⟩ (fun c159 => ?_) (fun c159 => ?_)
      · refine ja_iconst disLeaf_166 ?_
        refine ja_zreturn disLeaf_167 rfl (by omega) ?_
        exact mo_fin (by omega) rfl (k1 0 h20 (⟨by omega, k156_0.2.1, k156_0.2.2⟩) g21)
      · refine ja_iconst disLeaf_162 ?_
        refine ja_goto 167 disLeaf_163 rfl ?_
        refine ja_zreturn disLeaf_167 rfl (by omega) ?_
        exact mo_fin (by omega) rfl (k1 1 h20 (⟨by omega, k156_0.2.1, k156_0.2.2⟩) g21)
  have T13_168 : (h 58 (a1).toNat = 8) → mJ l D cA ad 6 cX12_isLeaf 7 (some .boolean) 168 [(3, (0, (h 115 (a2).toNat))), (0, (2, ((0 : Nat) : Int))), (1, (0, a1)), (2, (0, a2))] [] h Q := by
    intro e13
    have hy := lnZ_n (Or.inr (hn7 (by omega)))
    refine ja_aload_n disLeaf_168 rfl rfl ?_
    refine fa_reachTargetKind disLeaf_169 ?_
    refine ja_iload_n disLeaf_172 rfl rfl ?_
    refine il_reachTargetKind (v := h 117 (a2).toNat) rfl ⟨by omega, by omega⟩ disLeaf_173 ?_
    have f22 := gC_reachTargetKind g (a2).toNat
    refine ja_iconst disLeaf_174 ?_
    refine ja_icmp_ne 203 disLeaf_175 rfl ⟨by omega, by omega⟩ ⟨by decide, by decide⟩ (fun c175 => ?_) (fun c175 => ?_)
    · refine ja_iconst disLeaf_203 ?_
      refine ja_zreturn disLeaf_204 rfl (by omega) ?_
      exact mo_fin (by omega) rfl (k1 0 h (⟨by omega, ag_refl, p3⟩) g)
    · refine ja_aload_n disLeaf_178 rfl rfl ?_
      refine ja_iload_n disLeaf_179 rfl rfl ?_
      refine ja_aload_n disLeaf_180 rfl rfl ?_
      refine fa_nodeA disLeaf_181 ?_
      refine ja_iload_n disLeaf_184 rfl rfl ?_
      refine il_nodeA (v := h 59 (a1).toNat) rfl ⟨by omega, by omega⟩ disLeaf_185 ?_
      have f23 := gC_nodeA g (a1).toNat
      refine ja_iconst disLeaf_186 ?_
      refine ja_aload_n disLeaf_187 rfl rfl ?_
      refine fa_reachTarget disLeaf_188 ?_
      refine ja_iload_n disLeaf_191 rfl rfl ?_
      refine il_reachTarget (v := h 118 (a2).toNat) rfl ⟨by omega, by omega⟩ disLeaf_192 ?_
      have f24 := gC_reachTarget g (a2).toNat
      refine t_meetsName (by decide) (show (0 : Nat) ≤ 8 by decide) disLeaf_193 g ⟨by omega, by omega⟩ ⟨by omega, by omega⟩ ⟨by decide, by decide⟩ ⟨by omega, by omega⟩ (show 0 ≤ a1 ∧ a1 ≤ 899 by omega) (show -1 ≤ (h 59 (a1).toNat) ∧ ((h 59 (a1).toNat) ≤ 6 ∨ (100 ≤ (h 59 (a1).toNat) ∧ (h 59 (a1).toNat) ≤ 111)) by omega) (show 0 ≤ 2 ∧ 2 ≤ 2 by omega) ((fun _ => vi_at p3 (show (117, 118) ∈ vps by decide) (a2).toNat (by omega))) (p3) ((fun _ => (vi_aS p3 (show (117, 118) ∈ vps by decide) (a2).toNat (by omega)).2)) ?_
      intro w25 h26 k193_0 g27
      refine ja_if_eq 203 disLeaf_196 rfl ⟨by omega, by omega⟩ (fun c196 => ?_) (fun c196 => ?_)
      · refine ja_iconst disLeaf_203 ?_
        refine ja_zreturn disLeaf_204 rfl (by omega) ?_
        exact mo_fin (by omega) rfl (k1 0 h26 (⟨by omega, k193_0.2.1, k193_0.2.2⟩) g27)
      · refine ja_iconst disLeaf_199 ?_
        refine ja_goto 204 disLeaf_200 rfl ?_
        refine ja_zreturn disLeaf_204 rfl (by omega) ?_
        exact mo_fin (by omega) rfl (k1 1 h26 (⟨by omega, k193_0.2.1, k193_0.2.2⟩) g27)
  have T13_205 : (h 58 (a1).toNat = 9) → mJ l D cA ad 6 cX12_isLeaf 7 (some .boolean) 205 [(3, (0, (h 115 (a2).toNat))), (0, (2, ((0 : Nat) : Int))), (1, (0, a1)), (2, (0, a2))] [] h Q := by
    intro e13
    refine ja_aload_n disLeaf_205 rfl rfl ?_
    refine fa_reachMany disLeaf_206 ?_
    refine ja_iload_n disLeaf_209 rfl rfl ?_
    refine il_reachMany (v := h 119 (a2).toNat) rfl ⟨by omega, by omega⟩ disLeaf_210 ?_
    have f28 := gC_reachMany g (a2).toNat
    refine ja_aload_n disLeaf_211 rfl rfl ?_
    refine fa_nodeMany disLeaf_212 ?_
    refine ja_iload_n disLeaf_215 rfl rfl ?_
    refine il_nodeMany (v := h 62 (a1).toNat) rfl ⟨by omega, by omega⟩ disLeaf_216 ?_
    have f29 := gC_nodeMany g (a1).toNat
    refine ja_icmp_ne 224 disLeaf_217 rfl ⟨by omega, by omega⟩ ⟨by omega, by omega⟩ (fun c217 => ?_) (fun c217 => ?_)
    · refine ja_iconst disLeaf_224 ?_
      refine ja_istore disLeaf_225 (by decide) (L2 := [(5, (0, 0)), (3, (0, (h 115 (a2).toNat))), (0, (2, ((0 : Nat) : Int))), (1, (0, a1)), (2, (0, a2))]) rfl ?_
      refine ja_iconst disLeaf_227 ?_
      refine ja_istore disLeaf_228 (by decide) (L2 := [(6, (0, 0)), (5, (0, 0)), (3, (0, (h 115 (a2).toNat))), (0, (2, ((0 : Nat) : Int))), (1, (0, a1)), (2, (0, a2))]) rfl ?_
      exact ja_wk (fun q hq => by simp only [List.mem_cons, List.not_mem_nil, or_false] at hq; rcases hq with rfl | rfl | rfl | rfl | rfl <;> rfl) ((CUT _) 0 0 h g ⟨by decide, by decide⟩ ⟨by decide, by decide⟩ (⟨by omega, ag_refl, p3⟩) rfl)
    · refine ja_iconst disLeaf_220 ?_
      refine ja_goto 225 disLeaf_221 rfl ?_
      refine ja_istore disLeaf_225 (by decide) (L2 := [(5, (0, 1)), (3, (0, (h 115 (a2).toNat))), (0, (2, ((0 : Nat) : Int))), (1, (0, a1)), (2, (0, a2))]) rfl ?_
      refine ja_iconst disLeaf_227 ?_
      refine ja_istore disLeaf_228 (by decide) (L2 := [(6, (0, 0)), (5, (0, 1)), (3, (0, (h 115 (a2).toNat))), (0, (2, ((0 : Nat) : Int))), (1, (0, a1)), (2, (0, a2))]) rfl ?_
      exact ja_wk (fun q hq => by simp only [List.mem_cons, List.not_mem_nil, or_false] at hq; rcases hq with rfl | rfl | rfl | rfl | rfl <;> rfl) ((CUT _) 1 0 h g ⟨by decide, by decide⟩ ⟨by decide, by decide⟩ (⟨by omega, ag_refl, p3⟩) rfl)
  have T13_298 : (h 58 (a1).toNat = 10) → mJ l D cA ad 6 cX12_isLeaf 7 (some .boolean) 298 [(3, (0, (h 115 (a2).toNat))), (0, (2, ((0 : Nat) : Int))), (1, (0, a1)), (2, (0, a2))] [] h Q := by
    intro e13
    obtain ⟨w1, w2, w3, w4⟩ := hn10 (by omega)
    refine ja_aload_n disLeaf_298 rfl rfl ?_
    refine ja_iload_n disLeaf_299 rfl rfl ?_
    refine t_isIf (by decide) (show (0 : Nat) ≤ 8 by decide) disLeaf_300 g ⟨by omega, by omega⟩ (show 0 ≤ a1 ∧ a1 ≤ 899 by omega) (p3) (p4) (show 0 ≤ (h 59 (a1).toNat) ∧ (h 59 (a1).toNat) < (h 0 113) by omega) (w4) (w3) ?_
    intro w30 h31 k300_0 g32
    refine ja_zreturn disLeaf_303 rfl (by omega) ?_
    exact mo_fin (by omega) rfl (k1 w30 h31 (k300_0) g32)
  have T13_304 : (h 58 (a1).toNat < 0 ∨ 10 < h 58 (a1).toNat ∨ h 58 (a1).toNat = 1 ∨ h 58 (a1).toNat = 2 ∨ h 58 (a1).toNat = 5 ∨ h 58 (a1).toNat = 6) → mJ l D cA ad 6 cX12_isLeaf 7 (some .boolean) 304 [(3, (0, (h 115 (a2).toNat))), (0, (2, ((0 : Nat) : Int))), (1, (0, a1)), (2, (0, a2))] [] h Q := by
    intro e13
    refine ja_aload_n disLeaf_304 rfl rfl ?_
    refine ja_iload_n disLeaf_305 rfl rfl ?_
    refine ja_iload_n disLeaf_306 rfl rfl ?_
    refine t_aheadOf (by decide) (show (0 : Nat) ≤ 8 by decide) disLeaf_307 g ⟨by omega, by omega⟩ ⟨by omega, by omega⟩ (show 0 ≤ a1 ∧ a1 ≤ 899 by omega) (show 0 ≤ (h 115 (a2).toNat) ∧ (h 115 (a2).toNat) ≤ 399 by omega) ((ci_nd g p4 (a1).toNat (by omega))) (hpt) ?_
    intro w33 h34 k307_0 g35
    refine ja_iconst disLeaf_310 ?_
    refine ja_icmp_ne 318 disLeaf_311 rfl ⟨by omega, by omega⟩ ⟨by decide, by decide⟩ (fun c311 => ?_) (fun c311 => ?_)
    · refine ja_iconst disLeaf_318 ?_
      refine ja_zreturn disLeaf_319 rfl (by omega) ?_
      exact mo_fin (by omega) rfl (k1 0 h34 (⟨by omega, ag_sub (X_X (by decide) (by decide)) k307_0.2.2, vi_ag p3 (ag_sub (X_sub (by decide) (by decide)) k307_0.2.2)⟩) g35)
    · refine ja_iconst disLeaf_314 ?_
      refine ja_goto 319 disLeaf_315 rfl ?_
      refine ja_zreturn disLeaf_319 rfl (by omega) ?_
      exact mo_fin (by omega) rfl (k1 1 h34 (⟨by omega, ag_sub (X_X (by decide) (by decide)) k307_0.2.2, vi_ag p3 (ag_sub (X_sub (by decide) (by decide)) k307_0.2.2)⟩) g35)
  rcases (by omega : h 58 (a1).toNat = 0 ∨ h 58 (a1).toNat = 1 ∨ h 58 (a1).toNat = 2 ∨ h 58 (a1).toNat = 3 ∨ h 58 (a1).toNat = 4 ∨ h 58 (a1).toNat = 5 ∨ h 58 (a1).toNat = 6 ∨ h 58 (a1).toNat = 7 ∨ h 58 (a1).toNat = 8 ∨ h 58 (a1).toNat = 9 ∨ h 58 (a1).toNat = 10 ∨ (h 58 (a1).toNat < 0 ∨ 10 < h 58 (a1).toNat)) with e | e | e | e | e | e | e | e | e | e | e | e
  · exact ja_tableIn 72 disLeaf_13 ⟨by omega, by omega⟩ (by omega) (by omega) (by rw [e]; rfl) rfl (T13_72 (by omega))
  · exact ja_tableIn 304 disLeaf_13 ⟨by omega, by omega⟩ (by omega) (by omega) (by rw [e]; rfl) rfl (T13_304 (by omega))
  · exact ja_tableIn 304 disLeaf_13 ⟨by omega, by omega⟩ (by omega) (by omega) (by rw [e]; rfl) rfl (T13_304 (by omega))
  · exact ja_tableIn 72 disLeaf_13 ⟨by omega, by omega⟩ (by omega) (by omega) (by rw [e]; rfl) rfl (T13_72 (by omega))
  · exact ja_tableIn 72 disLeaf_13 ⟨by omega, by omega⟩ (by omega) (by omega) (by rw [e]; rfl) rfl (T13_72 (by omega))
  · exact ja_tableIn 304 disLeaf_13 ⟨by omega, by omega⟩ (by omega) (by omega) (by rw [e]; rfl) rfl (T13_304 (by omega))
  · exact ja_tableIn 304 disLeaf_13 ⟨by omega, by omega⟩ (by omega) (by omega) (by rw [e]; rfl) rfl (T13_304 (by omega))
  · exact ja_tableIn 132 disLeaf_13 ⟨by omega, by omega⟩ (by omega) (by omega) (by rw [e]; rfl) rfl (T13_132 (by omega))
  · exact ja_tableIn 168 disLeaf_13 ⟨by omega, by omega⟩ (by omega) (by omega) (by rw [e]; rfl) rfl (T13_168 (by omega))
  · exact ja_tableIn 205 disLeaf_13 ⟨by omega, by omega⟩ (by omega) (by omega) (by rw [e]; rfl) rfl (T13_205 (by omega))
  · exact ja_tableIn 298 disLeaf_13 ⟨by omega, by omega⟩ (by omega) (by omega) (by rw [e]; rfl) rfl (T13_298 (by omega))
  · exact ja_tableOut 304 disLeaf_13 ⟨by omega, by omega⟩ (by omega) rfl (T13_304 (by omega))
theorem t_isLeaf {a1 a2 : Int} {ht st rg : Nat → Int} {d nL pc : Nat} {cc : ByteArray} {rt : Option FieldType} {L : List (Nat × ja_V)} {S : List ja_V} {h : ja_H} {Q : Option ja_V → ja_H → Prop} (hdd : 6 < d) (hwd : ja_wd S ≤ 8) (hd : decode cc pc = .ok (.invokevirtual 1154, 3)) (g : mo_G mo_zr h) (r1 : -2147483648 ≤ a1 ∧ a1 ≤ 2147483647) (r2 : -2147483648 ≤ a2 ∧ a2 ≤ 2147483647) (p1 : 0 ≤ a1 ∧ a1 ≤ 899) (p2 : 0 ≤ a2 ∧ a2 ≤ 119) (p3 : VI h) (p4 : CI h ht st rg) (p5 : a1 < (h 0 95)) (p6 : (h 115 (a2).toNat) < (h 0 88)) (p7 : 0 < (h 116 (a2).toNat) → caN h) (k1 : ∀ (v : Int) (h' : ja_H), ((0 ≤ v ∧ v ≤ 1) ∧ mo_ag FBI h h' ∧ VI h') → mo_G mo_zr h' → mJ l D cA ad d cc nL rt (pc + 3) L ((0, v) :: S) h' Q) : mJ l D cA ad d cc nL rt pc L ((0, a2) :: (0, a1) :: (2, ((0 : Nat) : Int)) :: S) h Q :=
  mc_isLeaf hdd hwd hd (s_isLeaf g r1 r2 p1 p2 p3 p4 p5 p6 p7 k1)
end
