/-! the reference: a run (written by a program) -/
/-! the reference: a run -/
theorem fT_0 {h : ja_H} {ht st rg : Nat → Int} (c : CI h ht st rg) : ∀ n : Nat, (∀ j : Nat, j < n → bdT h st rg j) → 0 ≤ fT h st n
  | 0, _ => Int.le_refl _
  | n + 1, q => by
    have i := fT_0 c n (fun j hj => q j (by omega))
    have b := q n (by omega)
    show 0 ≤ fT h st n + (if (h 96) n ≤ 2 then st ((h 97) n).toNat else 0)
    by_cases z : (h 96) n ≤ 2
    · rw [if_pos z]
      have := b z
      have := (c.1 ((h 97) n).toNat (by omega)).2.2.2.1
      omega
    · rw [if_neg z]; omega
theorem ri_out {h : ja_H} {ht st rg : Nat → Int} (c : CI h ht st rg) (q : RI h ht st rg) : (h 0 132) ≤ (h 0 130) := by
  obtain ⟨⟨w, -, rc⟩, -⟩ := q
  have := rc.2.2.2.2
  have := fT_0 c ((h 0 150)).toNat (ft_bdT rc.1.2)
  omega
/-- a STEP -/
theorem rs_step {h u : ja_H} {ht st rg : Nat → Int} (g : mo_G mo_zr h) (gu : mo_G mo_zr u) (b : RB h ht st rg) (q : RI h ht st rg) (hu : (h 0 186) = 0) (o : (h 74) ((h 97) ((h 0 150) - 1).toNat).toNat = 25) (ag : mo_ag (mo_X [130] [97]) h u) (es : (u 0 130) = (h 0 130) + 1) (N : ∀ j : Nat, j ≠ ((h 0 150) - 1).toNat → (u 97) j = (h 97) j) (E : (u 97) ((h 0 150) - 1).toNat = (h 97) ((h 0 150) - 1).toNat + 1) (vi : VI u) : RB u ht st rg ∧ RI u ht st rg ∧ rV u st rg < RVC := by
  have n := ri_n g b.2.1 q
  obtain ⟨t1, ⟨b1, b2, b3, b4, b5, b6⟩, t3⟩ := ri_top q hu
  have gw := gF_words g
  obtain ⟨x1, x2, x3, x4, x5, x6, x7, x8⟩ := w_next b.2.1 b1.1 b1.2 (by omega)
  have e0 : pw_eff ((h 74) ((h 97) ((h 0 150) - 1).toNat).toNat) ((h 75) ((h 97) ((h 0 150) - 1).toNat).toNat) (pw_pop h ((h 75) ((h 97) ((h 0 150) - 1).toNat).toNat)) = 0 := by rw [o]; rfl
  have tr : pw_tr ((h 74) ((h 97) ((h 0 150) - 1).toNat).toNat) = 0 := by rw [o]; rfl
  rw [e0] at x2
  rw [tr] at x3
  have et : (u 0 168) = (h 0 168) := ag _ _ rfl
  have ep : (u 0 149) = (h 0 149) := ag _ _ rfl
  have eo : (u 0 132) = (h 0 132) := ag _ _ rfl
  have eu : (u 0 186) = 0 := (ag _ _ rfl).trans hu
  have ri : RI u ht st rg := ri_word (pc := (h 97) ((h 0 150) - 1).toNat + 1) (w := 0) g q hu (ag_sub (X_X (by decide) (by decide)) ag) (Or.inl eu) (tw_0 eu) N E ⟨by omega, x1⟩ (by omega) ⟨by omega, by omega⟩ (by omega) (fun k _ => ⟨ag _ _ rfl, ag _ _ rfl⟩) (fun k k1 k2 => by
    rw [(ag _ _ rfl : (u 113) k = (h 113) k), (ag _ _ rfl : (u 112) k = (h 112) k)]
    obtain ⟨y1, y2, y3, y4, y5⟩ := b6 k k1 (by omega)
    exact ⟨y1, y2, y3, y4, by omega⟩) (by omega)
  have rb := rb_ag b vi (ag_sub (X_sub (by decide) (by decide)) ag)
  exact ⟨rb, ri, rV_b gu rb.2.1 ri⟩
theorem ri_ag {h u : ja_H} {ht st rg : Nat → Int} (g : mo_G mo_zr h) (q : RI h ht st rg) (ag : mo_ag (mo_X [208] []) h u) : RI u ht st rg := by
  obtain ⟨⟨w, t, rc⟩, p⟩ := q
  have e1 : (u 0 186) = (h 0 186) := ag _ _ rfl
  have e2 : (u 0 187) = (h 0 187) := ag _ _ rfl
  have e3 : (u 0 190) = (h 0 190) := ag _ _ rfl
  have e4 : (u 0 191) = (h 0 191) := ag _ _ rfl
  have e5 : (u 0 172) = (h 0 172) := ag _ _ rfl
  have e6 : (u 0 150) = (h 0 150) := ag _ _ rfl
  have f1 : (u 123) = (h 123) := funext fun j => ag _ _ rfl
  obtain ⟨P1, P2, P3, P4⟩ := pot_all (h := h) (u := u) (ag_sub (X_sub (by decide) (by decide)) ag)
  refine ⟨⟨w, ?_, rc_ext g (ag_sub (X_sub (by decide) (by decide)) ag) rc⟩, ?_⟩
  · unfold tw; rw [e1, e2]; exact t
  · rw [e1]
    intro z
    have := p z
    unfold pnd at this ⊢
    rw [e3, e4, e5, e6, f1, P1, P2, P3, P4]
    exact this
def rL (x3 b : Int) (h : ja_H) (st rg : Nat → Int) : Nat := if x3 = 1 then rM b h st rg + 1 else 0
theorem rL_0 {x b c : Int} {h u : ja_H} {st rg : Nat → Int} (e : x = 1) : rL 0 b u st rg < rL x c h st rg := by
  unfold rL; rw [if_neg (by decide), if_pos e]; omega
theorem rL_1 {x b : Int} {h u : ja_H} {st rg : Nat → Int} (e : x = 1) (q : rV u st rg < rV h st rg) : rL 1 b u st rg < rL x b h st rg := by
  unfold rL; rw [if_pos rfl, if_pos e]; exact Nat.succ_lt_succ (rM_dec q)
theorem rL_s {x b : Int} {h u : ja_H} {st rg : Nat → Int} (e : x = 1) (hb : 1 ≤ b) (q : rV u st rg < RVC) : rL 1 (b + (-1)) u st rg < rL x b h st rg := by
  unfold rL; rw [if_pos rfl, if_pos e]; have e : b + (-1) = b - 1 := by omega
  rw [e]; exact Nat.succ_lt_succ (rM_step hb q)
theorem drun_0 : decode cX12_run 0 = .ok (.aload_n 0, 1) := by decide +kernel
theorem drun_1 : decode cX12_run 1 = .ok (.aload_n 0, 1) := by decide +kernel
theorem drun_2 : decode cX12_run 2 = .ok (.getfield 434, 3) := by decide +kernel
theorem drun_5 : decode cX12_run 5 = .ok (.ifCond .ne 7, 3) := by decide +kernel
theorem drun_8 : decode cX12_run 8 = .ok (.iconst 1, 1) := by decide +kernel
theorem drun_9 : decode cX12_run 9 = .ok (.goto 20, 3) := by decide +kernel
theorem drun_12 : decode cX12_run 12 = .ok (.iload_n 1, 1) := by decide +kernel
theorem drun_13 : decode cX12_run 13 = .ok (.iconst 1, 1) := by decide +kernel
theorem drun_14 : decode cX12_run 14 = .ok (.if_icmp .lt 10, 3) := by decide +kernel
theorem drun_17 : decode cX12_run 17 = .ok (.iload_n 1, 1) := by decide +kernel
theorem drun_18 : decode cX12_run 18 = .ok (.sipush 2000, 3) := by decide +kernel
theorem drun_21 : decode cX12_run 21 = .ok (.if_icmp .le 7, 3) := by decide +kernel
theorem drun_24 : decode cX12_run 24 = .ok (.iconst 2, 1) := by decide +kernel
theorem drun_25 : decode cX12_run 25 = .ok (.goto 4, 3) := by decide +kernel
theorem drun_28 : decode cX12_run 28 = .ok (.iconst 0, 1) := by decide +kernel
theorem drun_29 : decode cX12_run 29 = .ok (.putfield 423, 3) := by decide +kernel
theorem drun_32 : decode cX12_run 32 = .ok (.aload_n 0, 1) := by decide +kernel
theorem drun_33 : decode cX12_run 33 = .ok (.getfield 423, 3) := by decide +kernel
theorem drun_36 : decode cX12_run 36 = .ok (.ifCond .le 5, 3) := by decide +kernel
theorem drun_39 : decode cX12_run 39 = .ok (.iconst 0, 1) := by decide +kernel
theorem drun_40 : decode cX12_run 40 = .ok (.ireturn, 1) := by decide +kernel
theorem drun_41 : decode cX12_run 41 = .ok (.iload_n 1, 1) := by decide +kernel
theorem drun_42 : decode cX12_run 42 = .ok (.istore_n 2, 1) := by decide +kernel
theorem drun_43 : decode cX12_run 43 = .ok (.aload_n 0, 1) := by decide +kernel
theorem drun_44 : decode cX12_run 44 = .ok (.getfield 1016, 3) := by decide +kernel
theorem drun_47 : decode cX12_run 47 = .ok (.iconst 1, 1) := by decide +kernel
theorem drun_48 : decode cX12_run 48 = .ok (.if_icmp .ne 7, 3) := by decide +kernel
theorem drun_51 : decode cX12_run 51 = .ok (.iconst 1, 1) := by decide +kernel
theorem drun_52 : decode cX12_run 52 = .ok (.goto 4, 3) := by decide +kernel
theorem drun_55 : decode cX12_run 55 = .ok (.iconst 0, 1) := by decide +kernel
theorem drun_56 : decode cX12_run 56 = .ok (.istore_n 3, 1) := by decide +kernel
theorem drun_57 : decode cX12_run 57 = .ok (.iload_n 3, 1) := by decide +kernel
theorem drun_58 : decode cX12_run 58 = .ok (.ifCond .eq 143, 3) := by decide +kernel
theorem drun_61 : decode cX12_run 61 = .ok (.aload_n 0, 1) := by decide +kernel
theorem drun_62 : decode cX12_run 62 = .ok (.getfield 1008, 3) := by decide +kernel
theorem drun_65 : decode cX12_run 65 = .ok (.iconst 2, 1) := by decide +kernel
theorem drun_66 : decode cX12_run 66 = .ok (.if_icmp .ne 10, 3) := by decide +kernel
theorem drun_69 : decode cX12_run 69 = .ok (.aload_n 0, 1) := by decide +kernel
theorem drun_70 : decode cX12_run 70 = .ok (.invokevirtual 1033, 3) := by decide +kernel
theorem drun_73 : decode cX12_run 73 = .ok (.goto 107, 3) := by decide +kernel
theorem drun_76 : decode cX12_run 76 = .ok (.aload_n 0, 1) := by decide +kernel
theorem drun_77 : decode cX12_run 77 = .ok (.getfield 1008, 3) := by decide +kernel
theorem drun_80 : decode cX12_run 80 = .ok (.iconst 1, 1) := by decide +kernel
theorem drun_81 : decode cX12_run 81 = .ok (.if_icmp .ne 10, 3) := by decide +kernel
theorem drun_84 : decode cX12_run 84 = .ok (.aload_n 0, 1) := by decide +kernel
theorem drun_85 : decode cX12_run 85 = .ok (.invokevirtual 1036, 3) := by decide +kernel
theorem drun_88 : decode cX12_run 88 = .ok (.goto 92, 3) := by decide +kernel
theorem drun_91 : decode cX12_run 91 = .ok (.aload_n 0, 1) := by decide +kernel
theorem drun_92 : decode cX12_run 92 = .ok (.getfield 996, 3) := by decide +kernel
theorem drun_95 : decode cX12_run 95 = .ok (.iconst 1, 1) := by decide +kernel
theorem drun_96 : decode cX12_run 96 = .ok (.isub, 1) := by decide +kernel
theorem drun_97 : decode cX12_run 97 = .ok (.istore 4, 2) := by decide +kernel
theorem drun_99 : decode cX12_run 99 = .ok (.aload_n 0, 1) := by decide +kernel
theorem drun_100 : decode cX12_run 100 = .ok (.getfield 300, 3) := by decide +kernel
theorem drun_103 : decode cX12_run 103 = .ok (.iload 4, 2) := by decide +kernel
theorem drun_105 : decode cX12_run 105 = .ok (.iaload, 1) := by decide +kernel
theorem drun_106 : decode cX12_run 106 = .ok (.istore 5, 2) := by decide +kernel
theorem drun_108 : decode cX12_run 108 = .ok (.aload_n 0, 1) := by decide +kernel
theorem drun_109 : decode cX12_run 109 = .ok (.getfield 231, 3) := by decide +kernel
theorem drun_112 : decode cX12_run 112 = .ok (.iload 5, 2) := by decide +kernel
theorem drun_114 : decode cX12_run 114 = .ok (.iaload, 1) := by decide +kernel
theorem drun_115 : decode cX12_run 115 = .ok (.bipush 25, 2) := by decide +kernel
theorem drun_117 : decode cX12_run 117 = .ok (.if_icmp .ne 44, 3) := by decide +kernel
theorem drun_120 : decode cX12_run 120 = .ok (.iload_n 2, 1) := by decide +kernel
theorem drun_121 : decode cX12_run 121 = .ok (.ifCond .le 7, 3) := by decide +kernel
theorem drun_124 : decode cX12_run 124 = .ok (.iconst 1, 1) := by decide +kernel
theorem drun_125 : decode cX12_run 125 = .ok (.goto 4, 3) := by decide +kernel
theorem drun_128 : decode cX12_run 128 = .ok (.iconst 0, 1) := by decide +kernel
theorem drun_129 : decode cX12_run 129 = .ok (.istore_n 3, 1) := by decide +kernel
theorem drun_130 : decode cX12_run 130 = .ok (.iload_n 3, 1) := by decide +kernel
theorem drun_131 : decode cX12_run 131 = .ok (.ifCond .eq 49, 3) := by decide +kernel
theorem drun_134 : decode cX12_run 134 = .ok (.iinc 2 (-1), 3) := by decide +kernel
theorem drun_137 : decode cX12_run 137 = .ok (.aload_n 0, 1) := by decide +kernel
theorem drun_138 : decode cX12_run 138 = .ok (.dup, 1) := by decide +kernel
theorem drun_139 : decode cX12_run 139 = .ok (.getfield 975, 3) := by decide +kernel
theorem drun_142 : decode cX12_run 142 = .ok (.iconst 1, 1) := by decide +kernel
theorem drun_143 : decode cX12_run 143 = .ok (.iadd, 1) := by decide +kernel
theorem drun_144 : decode cX12_run 144 = .ok (.putfield 975, 3) := by decide +kernel
theorem drun_147 : decode cX12_run 147 = .ok (.aload_n 0, 1) := by decide +kernel
theorem drun_148 : decode cX12_run 148 = .ok (.getfield 300, 3) := by decide +kernel
theorem drun_151 : decode cX12_run 151 = .ok (.iload 4, 2) := by decide +kernel
theorem drun_153 : decode cX12_run 153 = .ok (.dup2, 1) := by decide +kernel
theorem drun_154 : decode cX12_run 154 = .ok (.iaload, 1) := by decide +kernel
theorem drun_155 : decode cX12_run 155 = .ok (.iconst 1, 1) := by decide +kernel
theorem drun_156 : decode cX12_run 156 = .ok (.iadd, 1) := by decide +kernel
theorem drun_157 : decode cX12_run 157 = .ok (.iastore, 1) := by decide +kernel
theorem drun_158 : decode cX12_run 158 = .ok (.goto 22, 3) := by decide +kernel
theorem drun_161 : decode cX12_run 161 = .ok (.aload_n 0, 1) := by decide +kernel
theorem drun_162 : decode cX12_run 162 = .ok (.getfield 300, 3) := by decide +kernel
theorem drun_165 : decode cX12_run 165 = .ok (.iload 4, 2) := by decide +kernel
theorem drun_167 : decode cX12_run 167 = .ok (.dup2, 1) := by decide +kernel
theorem drun_168 : decode cX12_run 168 = .ok (.iaload, 1) := by decide +kernel
theorem drun_169 : decode cX12_run 169 = .ok (.iconst 1, 1) := by decide +kernel
theorem drun_170 : decode cX12_run 170 = .ok (.iadd, 1) := by decide +kernel
theorem drun_171 : decode cX12_run 171 = .ok (.iastore, 1) := by decide +kernel
theorem drun_172 : decode cX12_run 172 = .ok (.aload_n 0, 1) := by decide +kernel
theorem drun_173 : decode cX12_run 173 = .ok (.iload 5, 2) := by decide +kernel
theorem drun_175 : decode cX12_run 175 = .ok (.iload 4, 2) := by decide +kernel
theorem drun_177 : decode cX12_run 177 = .ok (.invokevirtual 1039, 3) := by decide +kernel
theorem drun_180 : decode cX12_run 180 = .ok (.iload_n 3, 1) := by decide +kernel
theorem drun_181 : decode cX12_run 181 = .ok (.ifCond .eq 15, 3) := by decide +kernel
theorem drun_184 : decode cX12_run 184 = .ok (.aload_n 0, 1) := by decide +kernel
theorem drun_185 : decode cX12_run 185 = .ok (.getfield 1016, 3) := by decide +kernel
theorem drun_188 : decode cX12_run 188 = .ok (.iconst 1, 1) := by decide +kernel
theorem drun_189 : decode cX12_run 189 = .ok (.if_icmp .ne 7, 3) := by decide +kernel
theorem drun_192 : decode cX12_run 192 = .ok (.iconst 1, 1) := by decide +kernel
theorem drun_193 : decode cX12_run 193 = .ok (.goto 4, 3) := by decide +kernel
theorem drun_196 : decode cX12_run 196 = .ok (.iconst 0, 1) := by decide +kernel
theorem drun_197 : decode cX12_run 197 = .ok (.istore_n 3, 1) := by decide +kernel
theorem drun_198 : decode cX12_run 198 = .ok (.goto (-141), 3) := by decide +kernel
theorem drun_201 : decode cX12_run 201 = .ok (.aload_n 0, 1) := by decide +kernel
theorem drun_202 : decode cX12_run 202 = .ok (.getfield 1016, 3) := by decide +kernel
theorem drun_205 : decode cX12_run 205 = .ok (.ireturn, 1) := by decide +kernel
section
variable {l : Launch} {D : va_G} {cA : Nat → ClassId} {ad : Nat → Nat}
theorem s_run {a1 : Int} {ht st rg : Nat → Int} {h : ja_H} {Q : Option ja_V → ja_H → Prop} (g : mo_G mo_zr h) (r1 : -2147483648 ≤ a1 ∧ a1 ≤ 2147483647) (p1 : VI h) (p2 : GA h) (p3 : (h 0 127) = 1 → (h 0 118) = 1 ∧ CI h ht st rg ∧ ((h 0 129) = 1 → RI h ht st rg)) (p4 : 0 ≤ (h 0 130) ∧ (h 0 130) ≤ 2147000000) (k1 : ∀ (t : Int), (0 ≤ t ∧ t ≤ 2) → mo_G mo_zr (ja_up h 0 208 t) → Q (some (0, 0)) (ja_up h 0 208 t)) (k2 : ∀ (v : Int) (h' : ja_H), (((h' 0 127) = 1 ∧ (h' 0 118) = 1 ∧ (h' 0 1) = (h 0 1) ∧ (h' 0 130) ≤ (h 0 130) + 2000) ∧ RB h' ht st rg ∧ ((h' 0 129) = 1 → RI h' ht st rg)) → mo_G mo_zr h' → Q (some (0, v)) h') : mM_run l D cA ad a1 h Q := by
  show mJ l D cA ad 14 cX12_run 6 (some .int) 0 [(0, (2, ((0 : Nat) : Int))), (1, (0, a1))] [] h Q
  have kn_started := gF_started g
  have kn_state := gF_state g
  have kn_steps := gF_steps g
  have CUT : ∀ n : Nat, (∀ (x2 x3 : Int) (u : ja_H), mo_G mo_zr u → (-2147483648 ≤ x2 ∧ x2 ≤ 2147483647) → (-2147483648 ≤ x3 ∧ x3 ≤ 2147483647) → ((0 ≤ x2 ∧ x2 ≤ a1 ∧ a1 ≤ 2000 ∧ 0 ≤ x3 ∧ x3 ≤ 1) ∧ ((u 0 127) = 1 ∧ (u 0 118) = 1 ∧ (u 0 1) = (h 0 1) ∧ (u 0 130) + x2 ≤ (h 0 130) + a1) ∧ RB u ht st rg ∧ ((u 0 129) = 1 → RI u ht st rg) ∧ (x3 = 1 → (u 0 129) = 1)) → (rL x3 x2 u st rg) = n → mJ l D cA ad 14 cX12_run 6 (some .int) 57 [(0, (2, ((0 : Nat) : Int))), (2, (0, x2)), (3, (0, x3))] [] u Q) := by
    intro n
    induction n using Nat.strongRecOn with
    | _ n ih =>
      skip
      · intro x2 x3 u gu qx2 qx3 iv hm
        subst hm
        have ku_started := gF_started gu
        have ku_state := gF_state gu
        have ku_steps := gF_steps gu
        obtain ⟨iv, ⟨u1, u2, u3, u4⟩, rb, ri, hx⟩ := iv
        have kud := gF_under gu
        have kus := gF_state gu
        have qv := rb.1
        refine ja_iload_n drun_57 rfl rfl ?_
        refine ja_if_eq 201 drun_58 rfl ⟨by omega, by omega⟩ (fun c58 => ?_) (fun c58 => ?_)
        · refine ja_aload_n drun_201 rfl rfl ?_
          refine fg_state (v := u 0 129) rfl drun_202 ?_
          have f1 := gF_state gu
          refine ja_ireturn drun_205 rfl ?_
          exact mo_fin (by omega) rfl (k2 (u 0 129) u (⟨⟨u1, u2, u3, by omega⟩, rb, ri⟩) gu)
        · have hst1 := hx (by omega)
          have ri1 := ri hst1
          have ho := ri_out rb.2.1 ri1
          have rn := ri_n gu rb.2.1 ri1
          have gw := gF_words gu
          have gsp := gF_steps gu
          refine ja_aload_n drun_61 rfl rfl ?_
          refine fg_under (v := u 0 186) rfl drun_62 ?_
          have f2 := gF_under gu
          refine ja_iconst drun_65 ?_
          refine ja_icmp_ne 76 drun_66 rfl ⟨by omega, by omega⟩ ⟨by decide, by decide⟩ (fun c66 => ?_) (fun c66 => ?_)
          · refine ja_aload_n drun_76 rfl rfl ?_
            refine fg_under (v := u 0 186) rfl drun_77 ?_
            refine ja_iconst drun_80 ?_
            refine ja_icmp_ne 91 drun_81 rfl ⟨by omega, by omega⟩ ⟨by decide, by decide⟩ (fun c81 => ?_) (fun c81 => ?_)
            · have t1 := (ri_top ri1 (by omega)).2.1.1
              refine ja_aload_n drun_91 rfl rfl ?_
              refine fg_frames (v := u 0 150) rfl drun_92 ?_
              have f3 := gF_frames gu
              refine ja_iconst drun_95 ?_
              refine ja_isub drun_96 ?_
              refine ja_istore drun_97 (by decide) (L2 := [(4, (0, ((u 0 150) - 1))), (0, (2, ((0 : Nat) : Int))), (2, (0, x2)), (3, (0, x3))]) rfl ?_
              refine ja_aload_n drun_99 rfl rfl ?_
              refine fa_framePc drun_100 ?_
              refine ja_iload drun_103 rfl ?_
              refine il_framePc (v := u 97 ((u 0 150) - 1).toNat) rfl ⟨by omega, by omega⟩ drun_105 ?_
              have f4 := gC_framePc gu ((u 0 150) - 1).toNat
              refine ja_istore drun_106 (by decide) (L2 := [(5, (0, (u 97 ((u 0 150) - 1).toNat))), (4, (0, ((u 0 150) - 1))), (0, (2, ((0 : Nat) : Int))), (2, (0, x2)), (3, (0, x3))]) rfl ?_
              refine ja_aload_n drun_108 rfl rfl ?_
              refine fa_op drun_109 ?_
              refine ja_iload drun_112 rfl ?_
              refine il_op (v := u 74 (u 97 ((u 0 150) - 1).toNat).toNat) rfl ⟨by omega, by omega⟩ drun_114 ?_
              have f5 := gC_op gu (u 97 ((u 0 150) - 1).toNat).toNat
              refine ja_bipush 25 drun_115 rfl ?_
              refine ja_icmp_ne 161 drun_117 rfl ⟨by omega, by omega⟩ ⟨by decide, by decide⟩ (fun c117 => ?_) (fun c117 => ?_)
              · refine ja_aload_n drun_161 rfl rfl ?_
                refine fa_framePc drun_162 ?_
                refine ja_iload drun_165 rfl ?_
                refine ja_dup2 drun_167 (by first | decide | (dsimp only; decide)) (by first | decide | (dsimp only; decide)) ?_
                refine il_framePc (v := u 97 ((u 0 150) - 1).toNat) rfl ⟨by omega, by omega⟩ drun_168 ?_
                refine ja_iconst drun_169 ?_
                refine ja_iadd drun_170 ?_
                have g6 := gW_framePc gu ((u 0 150) - 1).toNat (x := (u 97 ((u 0 150) - 1).toNat) + 1) ⟨by omega, by omega⟩
                refine is_framePc ⟨by omega, by omega⟩ drun_171 ?_
                refine ja_aload_n drun_172 rfl rfl ?_
                refine ja_iload drun_173 rfl ?_
                refine ja_iload drun_175 rfl ?_
                refine t_execute (by decide) (show (0 : Nat) ≤ 8 by decide) drun_177 g6 ⟨by omega, by omega⟩ ⟨by omega, by omega⟩ ((⟨gu, rb, ri1, by omega, rfl, rfl, by omega, rfl⟩)) ((show (u 0 132) < 2147483647 by omega)) ?_
                intro h7 k177_0 g8
                obtain ⟨rob, roa, ror⟩ := k177_0
                have c_size : (h7 0 1) = (u 0 1) := (roa 0 1 rfl).trans rfl
                have c_compiled : (h7 0 118) = (u 0 118) := (roa 0 118 rfl).trans rfl
                have c_started : (h7 0 127) = (u 0 127) := (roa 0 127 rfl).trans rfl
                have c_steps : (h7 0 130) = (u 0 130) := (roa 0 130 rfl).trans rfl
                refine ja_iload_n drun_180 rfl rfl ?_
                refine ja_if_eq 196 drun_181 rfl ⟨by omega, by omega⟩ (fun c181 => ?_) (fun c181 => ?_)
                · refine ja_iconst drun_196 ?_
                  refine ja_istore_n drun_197 rfl (by decide) (L2 := [(3, (0, 0)), (5, (0, (u 97 ((u 0 150) - 1).toNat))), (4, (0, ((u 0 150) - 1))), (0, (2, ((0 : Nat) : Int))), (2, (0, x2))]) rfl ?_
                  refine ja_goto 57 drun_198 rfl ?_
                  exact ja_wk (fun q hq => by simp only [List.mem_cons, List.not_mem_nil, or_false] at hq; rcases hq with rfl | rfl | rfl <;> rfl) ((ih (rL 0 x2 h7 st rg) ((rL_0 (show x3 = 1 by omega)))) x2 0 h7 g8 ⟨by omega, by omega⟩ ⟨by decide, by decide⟩ (⟨by omega, ⟨(show (h7 0 127) = 1 by omega), (show (h7 0 118) = 1 by omega), (show (h7 0 1) = (h 0 1) by omega), (show (h7 0 130) + x2 ≤ (h 0 130) + a1 by omega)⟩, rob, (fun z => (ror z).1), (fun z => by first | (exfalso; omega) | (show (h7 0 129) = 1; omega))⟩) rfl)
                · refine ja_aload_n drun_184 rfl rfl ?_
                  refine fg_state (v := h7 0 129) rfl drun_185 ?_
                  have f9 := gF_state g8
                  refine ja_iconst drun_188 ?_
                  refine ja_icmp_ne 196 drun_189 rfl ⟨by omega, by omega⟩ ⟨by decide, by decide⟩ (fun c189 => ?_) (fun c189 => ?_)
                  · refine ja_iconst drun_196 ?_
                    refine ja_istore_n drun_197 rfl (by decide) (L2 := [(3, (0, 0)), (5, (0, (u 97 ((u 0 150) - 1).toNat))), (4, (0, ((u 0 150) - 1))), (0, (2, ((0 : Nat) : Int))), (2, (0, x2))]) rfl ?_
                    refine ja_goto 57 drun_198 rfl ?_
                    exact ja_wk (fun q hq => by simp only [List.mem_cons, List.not_mem_nil, or_false] at hq; rcases hq with rfl | rfl | rfl <;> rfl) ((ih (rL 0 x2 h7 st rg) ((rL_0 (show x3 = 1 by omega)))) x2 0 h7 g8 ⟨by omega, by omega⟩ ⟨by decide, by decide⟩ (⟨by omega, ⟨(show (h7 0 127) = 1 by omega), (show (h7 0 118) = 1 by omega), (show (h7 0 1) = (h 0 1) by omega), (show (h7 0 130) + x2 ≤ (h 0 130) + a1 by omega)⟩, rob, (fun z => (ror z).1), (fun z => by first | (exfalso; omega) | (show (h7 0 129) = 1; omega))⟩) rfl)
                  · refine ja_iconst drun_192 ?_
                    refine ja_goto 197 drun_193 rfl ?_
                    refine ja_istore_n drun_197 rfl (by decide) (L2 := [(3, (0, 1)), (5, (0, (u 97 ((u 0 150) - 1).toNat))), (4, (0, ((u 0 150) - 1))), (0, (2, ((0 : Nat) : Int))), (2, (0, x2))]) rfl ?_
                    refine ja_goto 57 drun_198 rfl ?_
                    exact ja_wk (fun q hq => by simp only [List.mem_cons, List.not_mem_nil, or_false] at hq; rcases hq with rfl | rfl | rfl <;> rfl) ((ih (rL 1 x2 h7 st rg) ((rL_1 (show x3 = 1 by omega) (ror (by omega)).2))) x2 1 h7 g8 ⟨by omega, by omega⟩ ⟨by decide, by decide⟩ (⟨by omega, ⟨(show (h7 0 127) = 1 by omega), (show (h7 0 118) = 1 by omega), (show (h7 0 1) = (h 0 1) by omega), (show (h7 0 130) + x2 ≤ (h 0 130) + a1 by omega)⟩, rob, (fun z => (ror z).1), (fun z => by first | (exfalso; omega) | (show (h7 0 129) = 1; omega))⟩) rfl)
              · refine ja_iload_n drun_120 rfl rfl ?_
                refine ja_if_le 128 drun_121 rfl ⟨by omega, by omega⟩ (fun c121 => ?_) (fun c121 => ?_)
                · refine ja_iconst drun_128 ?_
                  refine ja_istore_n drun_129 rfl (by decide) (L2 := [(3, (0, 0)), (5, (0, (u 97 ((u 0 150) - 1).toNat))), (4, (0, ((u 0 150) - 1))), (0, (2, ((0 : Nat) : Int))), (2, (0, x2))]) rfl ?_
                  refine ja_iload_n drun_130 rfl rfl ?_
                  refine ja_if_eq 180 drun_131 rfl ⟨by decide, by decide⟩ (fun c131 => ?_) (fun c131 => absurd c131 (by omega))
                  refine ja_iload_n drun_180 rfl rfl ?_
                  refine ja_if_eq 196 drun_181 rfl ⟨by decide, by decide⟩ (fun c181 => ?_) (fun c181 => absurd c181 (by omega))
                  refine ja_iconst drun_196 ?_
                  refine ja_istore_n drun_197 rfl (by decide) (L2 := [(3, (0, 0)), (5, (0, (u 97 ((u 0 150) - 1).toNat))), (4, (0, ((u 0 150) - 1))), (0, (2, ((0 : Nat) : Int))), (2, (0, x2))]) rfl ?_
                  refine ja_goto 57 drun_198 rfl ?_
                  exact ja_wk (fun q hq => by simp only [List.mem_cons, List.not_mem_nil, or_false] at hq; rcases hq with rfl | rfl | rfl <;> rfl) ((ih (rL 0 x2 u st rg) ((rL_0 (show x3 = 1 by omega)))) x2 0 u gu ⟨by omega, by omega⟩ ⟨by decide, by decide⟩ (⟨by omega, ⟨(show (u 0 127) = 1 by omega), (show (u 0 118) = 1 by omega), (show (u 0 1) = (h 0 1) by omega), (show (u 0 130) + x2 ≤ (h 0 130) + a1 by omega)⟩, rb, ri, (fun z => by first | (exfalso; omega) | (show (u 0 129) = 1; omega))⟩) rfl)
                · refine ja_iconst drun_124 ?_
                  refine ja_goto 129 drun_125 rfl ?_
                  refine ja_istore_n drun_129 rfl (by decide) (L2 := [(3, (0, 1)), (5, (0, (u 97 ((u 0 150) - 1).toNat))), (4, (0, ((u 0 150) - 1))), (0, (2, ((0 : Nat) : Int))), (2, (0, x2))]) rfl ?_
                  refine ja_iload_n drun_130 rfl rfl ?_
                  refine ja_if_eq 180 drun_131 rfl ⟨by decide, by decide⟩ (fun c131 => absurd c131 (by omega)) (fun c131 => ?_)
                  refine ja_iinc drun_134 rfl (by decide) (L2 := [(2, (0, (x2 + (-1)))), (3, (0, 1)), (5, (0, (u 97 ((u 0 150) - 1).toNat))), (4, (0, ((u 0 150) - 1))), (0, (2, ((0 : Nat) : Int)))]) rfl ?_
                  refine ja_aload_n drun_137 rfl rfl ?_
                  refine ja_dup drun_138 (by decide) ?_
                  refine fg_steps (v := u 0 130) rfl drun_139 ?_
                  have f10 := gF_steps gu
                  refine ja_iconst drun_142 ?_
                  refine ja_iadd drun_143 ?_
                  have g11 := gP_steps gu (x := (u 0 130) + 1) ⟨by omega, by omega⟩
                  refine fp_steps drun_144 ?_
                  refine ja_aload_n drun_147 rfl rfl ?_
                  refine fa_framePc drun_148 ?_
                  refine ja_iload drun_151 rfl ?_
                  refine ja_dup2 drun_153 (by first | decide | (dsimp only; decide)) (by first | decide | (dsimp only; decide)) ?_
                  refine il_framePc (v := u 97 ((u 0 150) - 1).toNat) rfl ⟨by omega, by omega⟩ drun_154 ?_
                  refine ja_iconst drun_155 ?_
                  refine ja_iadd drun_156 ?_
                  have g12 := gW_framePc g11 ((u 0 150) - 1).toNat (x := (u 97 ((u 0 150) - 1).toNat) + 1) ⟨by omega, by omega⟩
                  refine is_framePc ⟨by omega, by omega⟩ drun_157 ?_
                  have hst := rs_step (u := (ja_up (ja_up u 0 130 ((u 0 130) + 1)) 97 (((u 0 150) - 1).toNat) ((u 97 ((u 0 150) - 1).toNat) + 1))) gu g12 rb ri1 (by omega) (by omega) (by (repeat (first | exact ag_refl | refine ag_up rfl ?_))) rfl (fun j hj => mo_upJ hj) mo_upS (by (repeat (first | exact qv | refine vi_set (by decide) (by decide) (by decide) ?_ (by first | exact (fun z => absurd z (by decide)) | exact vi_aS qv (by decide) _ | exact qv.2 | exact (fun z => ⟨by omega, hca⟩) | exact (fun z => ⟨by omega, hca z⟩) | (intro z; exfalso; omega)) | refine vi_res ?_ (by first | exact (fun z => absurd z (by decide)) | exact vi_aS qv (by decide) _ | exact qv.2 | exact (fun z => ⟨by omega, hca⟩) | exact (fun z => ⟨by omega, hca z⟩) | (intro z; exfalso; omega)) | refine vi_arr (by decide) (by decide) ?_ | refine vi_up (by decide) (by decide) ?_ | refine vi_val (ck := 106) (by decide) (by decide) (by decide) ?_ ⟨by omega, by omega⟩)))
                  refine ja_goto 180 drun_158 rfl ?_
                  refine ja_iload_n drun_180 rfl rfl ?_
                  refine ja_if_eq 196 drun_181 rfl ⟨by decide, by decide⟩ (fun c181 => absurd c181 (by omega)) (fun c181 => ?_)
                  refine ja_aload_n drun_184 rfl rfl ?_
                  refine fg_state (v := u 0 129) rfl drun_185 ?_
                  have f13 := gF_state gu
                  refine ja_iconst drun_188 ?_
                  refine ja_icmp_ne 196 drun_189 rfl ⟨by omega, by omega⟩ ⟨by decide, by decide⟩ (fun c189 => ?_) (fun c189 => ?_)
                  · refine ja_iconst drun_196 ?_
                    refine ja_istore_n drun_197 rfl (by decide) (L2 := [(3, (0, 0)), (2, (0, (x2 + (-1)))), (5, (0, (u 97 ((u 0 150) - 1).toNat))), (4, (0, ((u 0 150) - 1))), (0, (2, ((0 : Nat) : Int)))]) rfl ?_
                    refine ja_goto 57 drun_198 rfl ?_
                    exact ja_wk (fun q hq => by simp only [List.mem_cons, List.not_mem_nil, or_false] at hq; rcases hq with rfl | rfl | rfl <;> rfl) ((ih (rL 0 (x2 + (-1)) (ja_up (ja_up u 0 130 ((u 0 130) + 1)) 97 (((u 0 150) - 1).toNat) ((u 97 ((u 0 150) - 1).toNat) + 1)) st rg) ((rL_0 (show x3 = 1 by omega)))) (x2 + (-1)) 0 (ja_up (ja_up u 0 130 ((u 0 130) + 1)) 97 (((u 0 150) - 1).toNat) ((u 97 ((u 0 150) - 1).toNat) + 1)) g12 ⟨by omega, by omega⟩ ⟨by decide, by decide⟩ (⟨by omega, ⟨(show (u 0 127) = 1 by omega), (show (u 0 118) = 1 by omega), (show (u 0 1) = (h 0 1) by omega), (show ((u 0 130) + 1) + (x2 + (-1)) ≤ (h 0 130) + a1 by omega)⟩, hst.1, (fun _ => hst.2.1), (fun z => by first | (exfalso; omega) | (show (u 0 129) = 1; omega))⟩) rfl)
                  · refine ja_iconst drun_192 ?_
                    refine ja_goto 197 drun_193 rfl ?_
                    refine ja_istore_n drun_197 rfl (by decide) (L2 := [(3, (0, 1)), (2, (0, (x2 + (-1)))), (5, (0, (u 97 ((u 0 150) - 1).toNat))), (4, (0, ((u 0 150) - 1))), (0, (2, ((0 : Nat) : Int)))]) rfl ?_
                    refine ja_goto 57 drun_198 rfl ?_
                    exact ja_wk (fun q hq => by simp only [List.mem_cons, List.not_mem_nil, or_false] at hq; rcases hq with rfl | rfl | rfl <;> rfl) ((ih (rL 1 (x2 + (-1)) (ja_up (ja_up u 0 130 ((u 0 130) + 1)) 97 (((u 0 150) - 1).toNat) ((u 97 ((u 0 150) - 1).toNat) + 1)) st rg) ((rL_s (show x3 = 1 by omega) (by omega) hst.2.2))) (x2 + (-1)) 1 (ja_up (ja_up u 0 130 ((u 0 130) + 1)) 97 (((u 0 150) - 1).toNat) ((u 97 ((u 0 150) - 1).toNat) + 1)) g12 ⟨by omega, by omega⟩ ⟨by decide, by decide⟩ (⟨by omega, ⟨(show (u 0 127) = 1 by omega), (show (u 0 118) = 1 by omega), (show (u 0 1) = (h 0 1) by omega), (show ((u 0 130) + 1) + (x2 + (-1)) ≤ (h 0 130) + a1 by omega)⟩, hst.1, (fun _ => hst.2.1), (fun z => by first | (exfalso; omega) | (show (u 0 129) = 1; omega))⟩) rfl)
            · refine ja_aload_n drun_84 rfl rfl ?_
              refine t_deliver (by decide) (show (0 : Nat) ≤ 8 by decide) drun_85 gu (rb) (ri1) (show (u 0 186) = 1 by omega) ?_
              intro h14 k85_0 g15
              obtain ⟨rob, roa, ror⟩ := k85_0
              have c_size : (h14 0 1) = (u 0 1) := (roa 0 1 rfl).trans rfl
              have c_compiled : (h14 0 118) = (u 0 118) := (roa 0 118 rfl).trans rfl
              have c_started : (h14 0 127) = (u 0 127) := (roa 0 127 rfl).trans rfl
              have c_steps : (h14 0 130) = (u 0 130) := (roa 0 130 rfl).trans rfl
              refine ja_goto 180 drun_88 rfl ?_
              refine ja_iload_n drun_180 rfl rfl ?_
              refine ja_if_eq 196 drun_181 rfl ⟨by omega, by omega⟩ (fun c181 => ?_) (fun c181 => ?_)
              · refine ja_iconst drun_196 ?_
                refine ja_istore_n drun_197 rfl (by decide) (L2 := [(3, (0, 0)), (0, (2, ((0 : Nat) : Int))), (2, (0, x2))]) rfl ?_
                refine ja_goto 57 drun_198 rfl ?_
                exact ja_wk (fun q hq => by simp only [List.mem_cons, List.not_mem_nil, or_false] at hq; rcases hq with rfl | rfl | rfl <;> rfl) ((ih (rL 0 x2 h14 st rg) ((rL_0 (show x3 = 1 by omega)))) x2 0 h14 g15 ⟨by omega, by omega⟩ ⟨by decide, by decide⟩ (⟨by omega, ⟨(show (h14 0 127) = 1 by omega), (show (h14 0 118) = 1 by omega), (show (h14 0 1) = (h 0 1) by omega), (show (h14 0 130) + x2 ≤ (h 0 130) + a1 by omega)⟩, rob, (fun z => (ror z).1), (fun z => by first | (exfalso; omega) | (show (h14 0 129) = 1; omega))⟩) rfl)
              · refine ja_aload_n drun_184 rfl rfl ?_
                refine fg_state (v := h14 0 129) rfl drun_185 ?_
                have f16 := gF_state g15
                refine ja_iconst drun_188 ?_
                refine ja_icmp_ne 196 drun_189 rfl ⟨by omega, by omega⟩ ⟨by decide, by decide⟩ (fun c189 => ?_) (fun c189 => ?_)
                · refine ja_iconst drun_196 ?_
                  refine ja_istore_n drun_197 rfl (by decide) (L2 := [(3, (0, 0)), (0, (2, ((0 : Nat) : Int))), (2, (0, x2))]) rfl ?_
                  refine ja_goto 57 drun_198 rfl ?_
                  exact ja_wk (fun q hq => by simp only [List.mem_cons, List.not_mem_nil, or_false] at hq; rcases hq with rfl | rfl | rfl <;> rfl) ((ih (rL 0 x2 h14 st rg) ((rL_0 (show x3 = 1 by omega)))) x2 0 h14 g15 ⟨by omega, by omega⟩ ⟨by decide, by decide⟩ (⟨by omega, ⟨(show (h14 0 127) = 1 by omega), (show (h14 0 118) = 1 by omega), (show (h14 0 1) = (h 0 1) by omega), (show (h14 0 130) + x2 ≤ (h 0 130) + a1 by omega)⟩, rob, (fun z => (ror z).1), (fun z => by first | (exfalso; omega) | (show (h14 0 129) = 1; omega))⟩) rfl)
                · refine ja_iconst drun_192 ?_
                  refine ja_goto 197 drun_193 rfl ?_
                  refine ja_istore_n drun_197 rfl (by decide) (L2 := [(3, (0, 1)), (0, (2, ((0 : Nat) : Int))), (2, (0, x2))]) rfl ?_
                  refine ja_goto 57 drun_198 rfl ?_
                  exact ja_wk (fun q hq => by simp only [List.mem_cons, List.not_mem_nil, or_false] at hq; rcases hq with rfl | rfl | rfl <;> rfl) ((ih (rL 1 x2 h14 st rg) ((rL_1 (show x3 = 1 by omega) (ror (by omega)).2))) x2 1 h14 g15 ⟨by omega, by omega⟩ ⟨by decide, by decide⟩ (⟨by omega, ⟨(show (h14 0 127) = 1 by omega), (show (h14 0 118) = 1 by omega), (show (h14 0 1) = (h 0 1) by omega), (show (h14 0 130) + x2 ≤ (h 0 130) + a1 by omega)⟩, rob, (fun z => (ror z).1), (fun z => by first | (exfalso; omega) | (show (h14 0 129) = 1; omega))⟩) rfl)
          · refine ja_aload_n drun_69 rfl rfl ?_
            refine t_rest (by decide) (show (0 : Nat) ≤ 8 by decide) drun_70 gu (rb) (ri1) (show (u 0 186) = 2 by omega) ?_
            intro h17 k70_0 g18
            obtain ⟨rob, roa, ror⟩ := k70_0
            have c_size : (h17 0 1) = (u 0 1) := (roa 0 1 rfl).trans rfl
            have c_compiled : (h17 0 118) = (u 0 118) := (roa 0 118 rfl).trans rfl
            have c_started : (h17 0 127) = (u 0 127) := (roa 0 127 rfl).trans rfl
            have c_steps : (h17 0 130) = (u 0 130) := (roa 0 130 rfl).trans rfl
            refine ja_goto 180 drun_73 rfl ?_
            refine ja_iload_n drun_180 rfl rfl ?_
            refine ja_if_eq 196 drun_181 rfl ⟨by omega, by omega⟩ (fun c181 => ?_) (fun c181 => ?_)
            · refine ja_iconst drun_196 ?_
              refine ja_istore_n drun_197 rfl (by decide) (L2 := [(3, (0, 0)), (0, (2, ((0 : Nat) : Int))), (2, (0, x2))]) rfl ?_
              refine ja_goto 57 drun_198 rfl ?_
              exact ja_wk (fun q hq => by simp only [List.mem_cons, List.not_mem_nil, or_false] at hq; rcases hq with rfl | rfl | rfl <;> rfl) ((ih (rL 0 x2 h17 st rg) ((rL_0 (show x3 = 1 by omega)))) x2 0 h17 g18 ⟨by omega, by omega⟩ ⟨by decide, by decide⟩ (⟨by omega, ⟨(show (h17 0 127) = 1 by omega), (show (h17 0 118) = 1 by omega), (show (h17 0 1) = (h 0 1) by omega), (show (h17 0 130) + x2 ≤ (h 0 130) + a1 by omega)⟩, rob, (fun z => (ror z).1), (fun z => by first | (exfalso; omega) | (show (h17 0 129) = 1; omega))⟩) rfl)
            · refine ja_aload_n drun_184 rfl rfl ?_
              refine fg_state (v := h17 0 129) rfl drun_185 ?_
              have f19 := gF_state g18
              refine ja_iconst drun_188 ?_
              refine ja_icmp_ne 196 drun_189 rfl ⟨by omega, by omega⟩ ⟨by decide, by decide⟩ (fun c189 => ?_) (fun c189 => ?_)
              · refine ja_iconst drun_196 ?_
                refine ja_istore_n drun_197 rfl (by decide) (L2 := [(3, (0, 0)), (0, (2, ((0 : Nat) : Int))), (2, (0, x2))]) rfl ?_
                refine ja_goto 57 drun_198 rfl ?_
                exact ja_wk (fun q hq => by simp only [List.mem_cons, List.not_mem_nil, or_false] at hq; rcases hq with rfl | rfl | rfl <;> rfl) ((ih (rL 0 x2 h17 st rg) ((rL_0 (show x3 = 1 by omega)))) x2 0 h17 g18 ⟨by omega, by omega⟩ ⟨by decide, by decide⟩ (⟨by omega, ⟨(show (h17 0 127) = 1 by omega), (show (h17 0 118) = 1 by omega), (show (h17 0 1) = (h 0 1) by omega), (show (h17 0 130) + x2 ≤ (h 0 130) + a1 by omega)⟩, rob, (fun z => (ror z).1), (fun z => by first | (exfalso; omega) | (show (h17 0 129) = 1; omega))⟩) rfl)
              · refine ja_iconst drun_192 ?_
                refine ja_goto 197 drun_193 rfl ?_
                refine ja_istore_n drun_197 rfl (by decide) (L2 := [(3, (0, 1)), (0, (2, ((0 : Nat) : Int))), (2, (0, x2))]) rfl ?_
                refine ja_goto 57 drun_198 rfl ?_
                exact ja_wk (fun q hq => by simp only [List.mem_cons, List.not_mem_nil, or_false] at hq; rcases hq with rfl | rfl | rfl <;> rfl) ((ih (rL 1 x2 h17 st rg) ((rL_1 (show x3 = 1 by omega) (ror (by omega)).2))) x2 1 h17 g18 ⟨by omega, by omega⟩ ⟨by decide, by decide⟩ (⟨by omega, ⟨(show (h17 0 127) = 1 by omega), (show (h17 0 118) = 1 by omega), (show (h17 0 1) = (h 0 1) by omega), (show (h17 0 130) + x2 ≤ (h 0 130) + a1 by omega)⟩, rob, (fun z => (ror z).1), (fun z => by first | (exfalso; omega) | (show (h17 0 129) = 1; omega))⟩) rfl)
  refine ja_aload_n drun_0 rfl rfl ?_
  refine ja_aload_n drun_1 rfl rfl ?_
  refine fg_started (v := h 0 127) rfl drun_2 ?_
  have f20 := gF_started g
  refine ja_if_ne 12 drun_5 rfl ⟨by omega, by omega⟩ (fun c5 => ?_) (fun c5 => ?_)
  · refine ja_iload_n drun_12 rfl rfl ?_
    refine ja_iconst drun_13 ?_
    refine ja_icmp_lt 24 drun_14 rfl ⟨by omega, by omega⟩ ⟨by decide, by decide⟩ (fun c14 => ?_) (fun c14 => ?_)
    · refine ja_iconst drun_24 ?_
      refine ja_goto 29 drun_25 rfl ?_
      have g21 := gP_thrown g (x := 2) ⟨by decide, by decide⟩
      refine fp_thrown drun_29 ?_
      refine ja_aload_n drun_32 rfl rfl ?_
      refine fg_thrown (v := 2) rfl drun_33 ?_
      refine ja_if_le 41 drun_36 rfl ⟨by decide, by decide⟩ (fun c36 => absurd c36 (by omega)) (fun c36 => ?_)
      refine ja_iconst drun_39 ?_
      refine ja_ireturn drun_40 rfl ?_
      exact mo_fin (by omega) rfl (k1 2 (by omega) g21)
    · refine ja_iload_n drun_17 rfl rfl ?_
      refine ja_sipush 2000 drun_18 rfl ?_
      refine ja_icmp_le 28 drun_21 rfl ⟨by omega, by omega⟩ ⟨by decide, by decide⟩ (fun c21 => ?_) (fun c21 => ?_)
      · refine ja_iconst drun_28 ?_
        have g22 := gP_thrown g (x := 0) ⟨by decide, by decide⟩
        refine fp_thrown drun_29 ?_
        refine ja_aload_n drun_32 rfl rfl ?_
        refine fg_thrown (v := 0) rfl drun_33 ?_
        refine ja_if_le 41 drun_36 rfl ⟨by decide, by decide⟩ (fun c36 => ?_) (fun c36 => absurd c36 (by omega))
        have hpc := p3 (by omega)
        refine ja_iload_n drun_41 rfl rfl ?_
        refine ja_istore_n drun_42 rfl (by decide) (L2 := [(2, (0, a1)), (0, (2, ((0 : Nat) : Int))), (1, (0, a1))]) rfl ?_
        refine ja_aload_n drun_43 rfl rfl ?_
        refine fg_state (v := h 0 129) rfl drun_44 ?_
        have f23 := gF_state g
        refine ja_iconst drun_47 ?_
        refine ja_icmp_ne 55 drun_48 rfl ⟨by omega, by omega⟩ ⟨by decide, by decide⟩ (fun c48 => ?_) (fun c48 => ?_)
        · refine ja_iconst drun_55 ?_
          refine ja_istore_n drun_56 rfl (by decide) (L2 := [(3, (0, 0)), (2, (0, a1)), (0, (2, ((0 : Nat) : Int))), (1, (0, a1))]) rfl ?_
          exact ja_wk (fun q hq => by simp only [List.mem_cons, List.not_mem_nil, or_false] at hq; rcases hq with rfl | rfl | rfl <;> rfl) ((CUT _) a1 0 (ja_up h 0 208 0) g22 ⟨by omega, by omega⟩ ⟨by decide, by decide⟩ (⟨by omega, ⟨(show (h 0 127) = 1 by omega), hpc.1, rfl, (show (h 0 130) + a1 ≤ (h 0 130) + a1 by omega)⟩, (by have qv := p1; exact ⟨(by (repeat (first | exact qv | refine vi_set (by decide) (by decide) (by decide) ?_ (by first | exact (fun z => absurd z (by decide)) | exact vi_aS qv (by decide) _ | exact qv.2 | exact (fun z => ⟨by omega, hca⟩) | exact (fun z => ⟨by omega, hca z⟩) | (intro z; exfalso; omega)) | refine vi_res ?_ (by first | exact (fun z => absurd z (by decide)) | exact vi_aS qv (by decide) _ | exact qv.2 | exact (fun z => ⟨by omega, hca⟩) | exact (fun z => ⟨by omega, hca z⟩) | (intro z; exfalso; omega)) | refine vi_arr (by decide) (by decide) ?_ | refine vi_up (by decide) (by decide) ?_ | refine vi_val (ck := 106) (by decide) (by decide) (by decide) ?_ ⟨by omega, by omega⟩))), ci_g hpc.2.1 (by (repeat (first | exact ag_refl | refine ag_up rfl ?_))), ga_ag p2 (by (repeat (first | exact ag_refl | refine ag_up rfl ?_))), hpc.1⟩), (fun z => ri_ag g (hpc.2.2 z) (by (repeat (first | exact ag_refl | refine ag_up rfl ?_)))), (fun z => by first | (exfalso; omega) | (show (h 0 129) = 1; omega))⟩) rfl)
        · refine ja_iconst drun_51 ?_
          refine ja_goto 56 drun_52 rfl ?_
          refine ja_istore_n drun_56 rfl (by decide) (L2 := [(3, (0, 1)), (2, (0, a1)), (0, (2, ((0 : Nat) : Int))), (1, (0, a1))]) rfl ?_
          exact ja_wk (fun q hq => by simp only [List.mem_cons, List.not_mem_nil, or_false] at hq; rcases hq with rfl | rfl | rfl <;> rfl) ((CUT _) a1 1 (ja_up h 0 208 0) g22 ⟨by omega, by omega⟩ ⟨by decide, by decide⟩ (⟨by omega, ⟨(show (h 0 127) = 1 by omega), hpc.1, rfl, (show (h 0 130) + a1 ≤ (h 0 130) + a1 by omega)⟩, (by have qv := p1; exact ⟨(by (repeat (first | exact qv | refine vi_set (by decide) (by decide) (by decide) ?_ (by first | exact (fun z => absurd z (by decide)) | exact vi_aS qv (by decide) _ | exact qv.2 | exact (fun z => ⟨by omega, hca⟩) | exact (fun z => ⟨by omega, hca z⟩) | (intro z; exfalso; omega)) | refine vi_res ?_ (by first | exact (fun z => absurd z (by decide)) | exact vi_aS qv (by decide) _ | exact qv.2 | exact (fun z => ⟨by omega, hca⟩) | exact (fun z => ⟨by omega, hca z⟩) | (intro z; exfalso; omega)) | refine vi_arr (by decide) (by decide) ?_ | refine vi_up (by decide) (by decide) ?_ | refine vi_val (ck := 106) (by decide) (by decide) (by decide) ?_ ⟨by omega, by omega⟩))), ci_g hpc.2.1 (by (repeat (first | exact ag_refl | refine ag_up rfl ?_))), ga_ag p2 (by (repeat (first | exact ag_refl | refine ag_up rfl ?_))), hpc.1⟩), (fun z => ri_ag g (hpc.2.2 z) (by (repeat (first | exact ag_refl | refine ag_up rfl ?_)))), (fun z => by first | (exfalso; omega) | (show (h 0 129) = 1; omega))⟩) rfl)
      · refine ja_iconst drun_24 ?_
        refine ja_goto 29 drun_25 rfl ?_
        have g24 := gP_thrown g (x := 2) ⟨by decide, by decide⟩
        refine fp_thrown drun_29 ?_
        refine ja_aload_n drun_32 rfl rfl ?_
        refine fg_thrown (v := 2) rfl drun_33 ?_
        refine ja_if_le 41 drun_36 rfl ⟨by decide, by decide⟩ (fun c36 => absurd c36 (by omega)) (fun c36 => ?_)
        refine ja_iconst drun_39 ?_
        refine ja_ireturn drun_40 rfl ?_
        exact mo_fin (by omega) rfl (k1 2 (by omega) g24)
  · refine ja_iconst drun_8 ?_
    refine ja_goto 29 drun_9 rfl ?_
    have g25 := gP_thrown g (x := 1) ⟨by decide, by decide⟩
    refine fp_thrown drun_29 ?_
    refine ja_aload_n drun_32 rfl rfl ?_
    refine fg_thrown (v := 1) rfl drun_33 ?_
    refine ja_if_le 41 drun_36 rfl ⟨by decide, by decide⟩ (fun c36 => absurd c36 (by omega)) (fun c36 => ?_)
    refine ja_iconst drun_39 ?_
    refine ja_ireturn drun_40 rfl ?_
    exact mo_fin (by omega) rfl (k1 1 (by omega) g25)
end
