/-! the reference: methods, fields of a class (written by a program) -/
/-! the reference: methods, fields of a class -/
def upR (rk : Nat → Nat) (x : Int) : Nat := if x < 0 then 0 else rk x.toNat + 1
theorem upR_f {f : Nat → Int} {n x : Int} {rk : Nat → Nat} (q : rk_P f n rk) (h0 : 0 ≤ x) (h1 : x < n) : upR rk (f x.toNat) + 1 ≤ upR rk x ∧ f x.toNat < n := by
  obtain ⟨q1, q2⟩ := q x.toNat (by omega)
  refine ⟨?_, q1⟩
  unfold upR
  rw [if_neg (show ¬ x < 0 by omega)]
  split
  · omega
  · have := q2 (by omega); omega
theorem upR_s {x : Int} {rk : Nat → Nat} (h0 : 0 ≤ x) : 1 ≤ upR rk x := by
  unfold upR; rw [if_neg (show ¬ x < 0 by omega)]; omega
/-- the classes of objects, of this program and of those before it: none stands above itself -/
def GA (h : ja_H) : Prop := ∃ (m : Int) (rk : Nat → Nat), (0 ≤ m ∧ m ≤ 12) ∧ rk_P (h 12) m rk ∧ (∀ c : Nat, m ≤ (c : Int) → h 12 c = 0) ∧ (∀ o : Nat, (h 89) o < m ∨ (h 89) o = 0) ∧ ((h 0 118) = 1 → (h 0 22) ≤ m)
def FGA : Nat → Nat → Bool := mo_F [22, 118] [12, 89]
theorem ga_ag {h u : ja_H} (q : GA h) (ag : mo_ag FGA h u) : GA u := by
  obtain ⟨m, rk, q1, q2, q3, q4, q5⟩ := q
  have e1 : (u 0 22) = (h 0 22) := ag _ _ rfl
  have e2 : (u 0 118) = (h 0 118) := ag _ _ rfl
  have f1 : u 12 = h 12 := funext fun j => ag _ _ rfl
  have f2 : (u 89) = (h 89) := funext fun j => ag _ _ rfl
  refine ⟨m, rk, q1, by rw [f1]; exact q2, by rw [f1]; exact q3, by rw [f2]; exact q4, by rw [e1, e2]; exact q5⟩
theorem rk_no0 {f : Nat → Int} {m : Int} {rk : Nat → Nat} (q : rk_P f m rk) (h0 : 1 ≤ m) : ¬ f 0 = 0 := fun e => by
  have := (q 0 (by omega)).2 (by omega)
  rw [e] at this
  exact Nat.lt_irrefl _ this
/-- an object's class has an end above it -/
theorem ga_cl {h : ja_H} (g : mo_G mo_zr h) (q : GA h) (ca : caN h) : ∃ (m : Int) (rk : Nat → Nat), (0 ≤ m ∧ m ≤ 12) ∧ rk_P (h 12) m rk ∧ (∀ o : Nat, 0 ≤ (h 89) o ∧ (h 89) o < m) ∧ ((h 0 118) = 1 → (h 0 22) ≤ m) := by
  obtain ⟨m, rk, q1, q2, q3, q4, q5⟩ := q
  have h1 : 1 ≤ m := by
    rcases Int.lt_or_le 0 m with l | l
    · omega
    · exact absurd (q3 0 (by omega)) ca
  refine ⟨m, rk, q1, q2, fun o => ⟨(gC_objectClass g o).1, ?_⟩, q5⟩
  rcases q4 o with z | z <;> omega
theorem ga_ca {h : ja_H} {ht st rg : Nat → Int} (c : CI h ht st rg) (h1 : 1 ≤ (h 0 22)) : caN h := by
  obtain ⟨rk, hr⟩ := c.2.2.2.2.2.1
  exact rk_no0 hr h1
theorem ga_make {h : ja_H} {o : Nat} {c : Int} (q : GA h) (hc : (h 0 118) = 1) (h1 : c < (h 0 22)) : GA (ja_up h 89 o c) := by
  obtain ⟨m, rk, q1, q2, q3, q4, q5⟩ := q
  have e1 := q5 hc
  refine ⟨m, rk, q1, q2, q3, fun j => ?_, q5⟩
  by_cases e : j = o
  · subst e; rw [mo_upS]; left; omega
  · rw [mo_upJ e]; exact q4 j
/-- compile keeps it -/
theorem ga_cp {h u : ja_H} (q : GA h) (k : cpK h u) : GA u := by
  obtain ⟨m, rk, q1, q2, q3, q4, q5⟩ := q
  obtain ⟨ag, n, k1, k2, ⟨rk', k3⟩, k4⟩ := k
  have f2 : (u 89) = (h 89) := funext fun j => ag _ _ rfl
  have B : ∃ b : Nat, ∀ c : Nat, (c : Int) < n → rk' c < b := by
    refine ⟨(List.range 13).foldr (fun c x => max (rk' c + 1) x) 0, fun c hc => ?_⟩
    have : ∀ l : List Nat, c ∈ l → rk' c < l.foldr (fun c x => max (rk' c + 1) x) 0 := fun l => by
      induction l with
      | nil => intro y; cases y
      | cons a l ih =>
        intro y
        show rk' c < max (rk' a + 1) _
        rcases List.mem_cons.mp y with y | y
        · subst y; omega
        · have := ih y; omega
    exact this _ (List.mem_range.mpr (by omega))
  obtain ⟨b, hb⟩ := B
  refine ⟨if m ≤ n then n else m, fun c => if (c : Int) < n then rk' c else b + rk c, by split <;> omega, ?_, ?_, ?_, ?_⟩
  · intro c hc
    by_cases z : (c : Int) < n
    · obtain ⟨r1, r2⟩ := k3 c z
      refine ⟨by split <;> omega, fun y => ?_⟩
      dsimp only
      rw [if_pos (show (((u 12 c).toNat : Nat) : Int) < n by omega), if_pos z]
      exact r2 y
    · have e := k4 c (by omega)
      have hm : ¬ m ≤ n := fun y => by rw [if_pos y] at hc; omega
      rw [if_neg hm] at hc ⊢
      obtain ⟨r1, r2⟩ := q2 c hc
      rw [e]
      refine ⟨r1, fun y => ?_⟩
      dsimp only
      rw [if_neg z]
      have r3 := r2 y
      split
      · next w => have := hb _ w; omega
      · omega
  · intro c hc
    have h1 : m ≤ (c : Int) ∧ n ≤ (c : Int) := by split at hc <;> omega
    rw [k4 c h1.2]
    exact q3 c h1.1
  · intro o
    rw [f2]
    rcases q4 o with z | z
    · left; split <;> omega
    · exact Or.inr z
  · intro z
    have := k2 z
    split <;> omega
theorem vi_cp {h u : ja_H} (q : VI h) (k : cpK h u) : VI u := by
  obtain ⟨q1, q2⟩ := q
  obtain ⟨ag, n, k1, k2, ⟨rk', k3⟩, k4⟩ := k
  have ec : caN h → caN u := fun y => by
    rcases Int.lt_or_le 0 n with l | l
    · exact rk_no0 k3 (by omega)
    · exact caN_e (k4 0 (by omega)) y
  refine ⟨fun p hp i => ?_, ?_⟩
  · have e : FVK p.1 i = true ∧ FVK p.2 i = true := by
      have d := of_decide_eq_true (List.all_eq_true.mp (show vps.all (fun p => decide (p.1 ≠ 0 ∧ p.2 ≠ 0 ∧ [90, 91, 92, 93, 94, 95, 106, 107, 108, 109, 110, 111, 120, 121, 126, 127, 128, 129, 130, 131, 136, 137, 117, 118, 89].contains p.1 = true ∧ [90, 91, 92, 93, 94, 95, 106, 107, 108, 109, 110, 111, 120, 121, 126, 127, 128, 129, 130, 131, 136, 137, 117, 118, 89].contains p.2 = true)) = true by decide) p hp)
      unfold FVK mo_F
      rw [if_neg d.1, if_neg d.2.1]
      exact d.2.2
    rw [ag _ _ e.1, ag _ _ e.2]; exact fun y => ⟨(q1 p hp i y).1, ec (q1 p hp i y).2⟩
  · have e1 : (u 0 188) = (h 0 188) := ag _ _ rfl
    have e2 : (u 0 189) = (h 0 189) := ag _ _ rfl
    rw [e1, e2]; exact fun y => ⟨(q2 y).1, ec (q2 y).2⟩
/-- what holds in a run, what a step of it gives -/
def RB (h : ja_H) (ht st rg : Nat → Int) : Prop := VI h ∧ CI h ht st rg ∧ GA h ∧ (h 0 118) = 1
def RO (h u : ja_H) (ht st rg : Nat → Int) : Prop := RB u ht st rg ∧ mo_ag FRO h u ∧ ((u 0 129) = 1 → RI u ht st rg ∧ rV u st rg < rV h st rg)
def FRB : Nat → Nat → Bool := mo_F [113, 88, 95, 52, 22, 118, 44, 34, 66, 67, 57, 26, 68] [74, 75, 76, 52, 55, 54, 56, 57, 24, 45, 44, 46, 58, 59, 60, 62, 63, 67, 12, 10, 5, 81, 23, 32, 31, 29, 37, 38, 89]
theorem rb_ag {h u : ja_H} {ht st rg : Nat → Int} (q : RB h ht st rg) (v : VI u) (ag : mo_ag FRB h u) : RB u ht st rg :=
  ⟨v, ci_g q.2.1 (ag_sub (F_F (by decide) (by decide)) ag), ga_ag q.2.2.1 (ag_sub (F_F (by decide) (by decide)) ag), (ag _ _ rfl).trans q.2.2.2⟩
theorem disInit_0 : decode cX12_isInit 0 = .ok (.aload_n 0, 1) := by decide +kernel
theorem disInit_1 : decode cX12_isInit 1 = .ok (.getfield 16, 3) := by decide +kernel
theorem disInit_4 : decode cX12_isInit 4 = .ok (.aload_n 0, 1) := by decide +kernel
theorem disInit_5 : decode cX12_isInit 5 = .ok (.getfield 65, 3) := by decide +kernel
theorem disInit_8 : decode cX12_isInit 8 = .ok (.iload_n 1, 1) := by decide +kernel
theorem disInit_9 : decode cX12_isInit 9 = .ok (.iaload, 1) := by decide +kernel
theorem disInit_10 : decode cX12_isInit 10 = .ok (.iaload, 1) := by decide +kernel
theorem disInit_11 : decode cX12_isInit 11 = .ok (.istore_n 2, 1) := by decide +kernel
theorem disInit_12 : decode cX12_isInit 12 = .ok (.aload_n 0, 1) := by decide +kernel
theorem disInit_13 : decode cX12_isInit 13 = .ok (.getfield 19, 3) := by decide +kernel
theorem disInit_16 : decode cX12_isInit 16 = .ok (.aload_n 0, 1) := by decide +kernel
theorem disInit_17 : decode cX12_isInit 17 = .ok (.getfield 65, 3) := by decide +kernel
theorem disInit_20 : decode cX12_isInit 20 = .ok (.iload_n 1, 1) := by decide +kernel
theorem disInit_21 : decode cX12_isInit 21 = .ok (.iaload, 1) := by decide +kernel
theorem disInit_22 : decode cX12_isInit 22 = .ok (.iaload, 1) := by decide +kernel
theorem disInit_23 : decode cX12_isInit 23 = .ok (.iload_n 2, 1) := by decide +kernel
theorem disInit_24 : decode cX12_isInit 24 = .ok (.isub, 1) := by decide +kernel
theorem disInit_25 : decode cX12_isInit 25 = .ok (.iconst 4, 1) := by decide +kernel
theorem disInit_26 : decode cX12_isInit 26 = .ok (.if_icmp .ne 57, 3) := by decide +kernel
theorem disInit_29 : decode cX12_isInit 29 = .ok (.aload_n 0, 1) := by decide +kernel
theorem disInit_30 : decode cX12_isInit 30 = .ok (.getfield 7, 3) := by decide +kernel
theorem disInit_33 : decode cX12_isInit 33 = .ok (.iload_n 2, 1) := by decide +kernel
theorem disInit_34 : decode cX12_isInit 34 = .ok (.iaload, 1) := by decide +kernel
theorem disInit_35 : decode cX12_isInit 35 = .ok (.bipush 105, 2) := by decide +kernel
theorem disInit_37 : decode cX12_isInit 37 = .ok (.if_icmp .ne 46, 3) := by decide +kernel
theorem disInit_40 : decode cX12_isInit 40 = .ok (.aload_n 0, 1) := by decide +kernel
theorem disInit_41 : decode cX12_isInit 41 = .ok (.getfield 7, 3) := by decide +kernel
theorem disInit_44 : decode cX12_isInit 44 = .ok (.iload_n 2, 1) := by decide +kernel
theorem disInit_45 : decode cX12_isInit 45 = .ok (.iconst 1, 1) := by decide +kernel
theorem disInit_46 : decode cX12_isInit 46 = .ok (.iadd, 1) := by decide +kernel
theorem disInit_47 : decode cX12_isInit 47 = .ok (.iaload, 1) := by decide +kernel
theorem disInit_48 : decode cX12_isInit 48 = .ok (.bipush 110, 2) := by decide +kernel
theorem disInit_50 : decode cX12_isInit 50 = .ok (.if_icmp .ne 33, 3) := by decide +kernel
theorem disInit_53 : decode cX12_isInit 53 = .ok (.aload_n 0, 1) := by decide +kernel
theorem disInit_54 : decode cX12_isInit 54 = .ok (.getfield 7, 3) := by decide +kernel
theorem disInit_57 : decode cX12_isInit 57 = .ok (.iload_n 2, 1) := by decide +kernel
theorem disInit_58 : decode cX12_isInit 58 = .ok (.iconst 2, 1) := by decide +kernel
theorem disInit_59 : decode cX12_isInit 59 = .ok (.iadd, 1) := by decide +kernel
theorem disInit_60 : decode cX12_isInit 60 = .ok (.iaload, 1) := by decide +kernel
theorem disInit_61 : decode cX12_isInit 61 = .ok (.bipush 105, 2) := by decide +kernel
theorem disInit_63 : decode cX12_isInit 63 = .ok (.if_icmp .ne 20, 3) := by decide +kernel
theorem disInit_66 : decode cX12_isInit 66 = .ok (.aload_n 0, 1) := by decide +kernel
theorem disInit_67 : decode cX12_isInit 67 = .ok (.getfield 7, 3) := by decide +kernel
theorem disInit_70 : decode cX12_isInit 70 = .ok (.iload_n 2, 1) := by decide +kernel
theorem disInit_71 : decode cX12_isInit 71 = .ok (.iconst 3, 1) := by decide +kernel
theorem disInit_72 : decode cX12_isInit 72 = .ok (.iadd, 1) := by decide +kernel
theorem disInit_73 : decode cX12_isInit 73 = .ok (.iaload, 1) := by decide +kernel
theorem disInit_74 : decode cX12_isInit 74 = .ok (.bipush 116, 2) := by decide +kernel
theorem disInit_76 : decode cX12_isInit 76 = .ok (.if_icmp .ne 7, 3) := by decide +kernel
theorem disInit_79 : decode cX12_isInit 79 = .ok (.iconst 1, 1) := by decide +kernel
theorem disInit_80 : decode cX12_isInit 80 = .ok (.goto 4, 3) := by decide +kernel
theorem disInit_83 : decode cX12_isInit 83 = .ok (.iconst 0, 1) := by decide +kernel
theorem disInit_84 : decode cX12_isInit 84 = .ok (.ireturn, 1) := by decide +kernel
section
variable {l : Launch} {D : va_G} {cA : Nat → ClassId} {ad : Nat → Nat}
theorem s_isInit {a1 : Int} {h : ja_H} {Q : Option ja_V → ja_H → Prop} (g : mo_G mo_zr h) (r1 : -2147483648 ≤ a1 ∧ a1 ≤ 2147483647) (p1 : 0 ≤ a1 ∧ a1 ≤ 60) (k1 : ∀ (v : Int), (0 ≤ v ∧ v ≤ 1) → Q (some (0, v)) h) : mM_isInit l D cA ad a1 h Q := by
  show mJ l D cA ad 1 cX12_isInit 3 (some .boolean) 0 [(0, (2, ((0 : Nat) : Int))), (1, (0, a1))] [] h Q
  refine ja_aload_n disInit_0 rfl rfl ?_
  refine fa_places disInit_1 ?_
  refine ja_aload_n disInit_4 rfl rfl ?_
  refine fa_methodName disInit_5 ?_
  refine ja_iload_n disInit_8 rfl rfl ?_
  refine il_methodName (v := h 19 (a1).toNat) rfl ⟨by omega, by omega⟩ disInit_9 ?_
  have f1 := gC_methodName g (a1).toNat
  refine il_places (v := h 3 (h 19 (a1).toNat).toNat) rfl ⟨by omega, by omega⟩ disInit_10 ?_
  have f2 := gC_places g (h 19 (a1).toNat).toNat
  refine ja_istore_n disInit_11 rfl (by decide) (L2 := [(2, (0, (h 3 (h 19 (a1).toNat).toNat))), (0, (2, ((0 : Nat) : Int))), (1, (0, a1))]) rfl ?_
  refine ja_aload_n disInit_12 rfl rfl ?_
  refine fa_ends disInit_13 ?_
  refine ja_aload_n disInit_16 rfl rfl ?_
  refine fa_methodName disInit_17 ?_
  refine ja_iload_n disInit_20 rfl rfl ?_
  refine il_methodName (v := h 19 (a1).toNat) rfl ⟨by omega, by omega⟩ disInit_21 ?_
  refine il_ends (v := h 4 (h 19 (a1).toNat).toNat) rfl ⟨by omega, by omega⟩ disInit_22 ?_
  have f3 := gC_ends g (h 19 (a1).toNat).toNat
  refine ja_iload_n disInit_23 rfl rfl ?_
  refine ja_isub disInit_24 ?_
  refine ja_iconst disInit_25 ?_
  refine ja_icmp_ne 83 disInit_26 rfl ⟨by omega, by omega⟩ ⟨by decide, by decide⟩ (fun c26 => ?_) (fun c26 => ?_)
  · refine ja_iconst disInit_83 ?_
    refine ja_zreturn disInit_84 rfl (by omega) ?_
    exact mo_fin (by omega) rfl (k1 0 (by omega))
  · refine ja_aload_n disInit_29 rfl rfl ?_
    refine fa_text disInit_30 ?_
    refine ja_iload_n disInit_33 rfl rfl ?_
    refine il_text (v := h 1 (h 3 (h 19 (a1).toNat).toNat).toNat) rfl ⟨by omega, by omega⟩ disInit_34 ?_
    have f4 := gC_text g (h 3 (h 19 (a1).toNat).toNat).toNat
    refine ja_bipush 105 disInit_35 rfl ?_
    refine ja_icmp_ne 83 disInit_37 rfl ⟨by omega, by omega⟩ ⟨by decide, by decide⟩ (fun c37 => ?_) (fun c37 => ?_)
    · refine ja_iconst disInit_83 ?_
      refine ja_zreturn disInit_84 rfl (by omega) ?_
      exact mo_fin (by omega) rfl (k1 0 (by omega))
    · refine ja_aload_n disInit_40 rfl rfl ?_
      refine fa_text disInit_41 ?_
      refine ja_iload_n disInit_44 rfl rfl ?_
      refine ja_iconst disInit_45 ?_
      refine ja_iadd disInit_46 ?_
      refine il_text (v := h 1 ((h 3 (h 19 (a1).toNat).toNat) + 1).toNat) rfl ⟨by omega, by omega⟩ disInit_47 ?_
      have f5 := gC_text g ((h 3 (h 19 (a1).toNat).toNat) + 1).toNat
      refine ja_bipush 110 disInit_48 rfl ?_
      refine ja_icmp_ne 83 disInit_50 rfl ⟨by omega, by omega⟩ ⟨by decide, by decide⟩ (fun c50 => ?_) (fun c50 => ?_)
      · refine ja_iconst disInit_83 ?_
        refine ja_zreturn disInit_84 rfl (by omega) ?_
        exact mo_fin (by omega) rfl (k1 0 (by omega))
      · refine ja_aload_n disInit_53 rfl rfl ?_
        refine fa_text disInit_54 ?_
        refine ja_iload_n disInit_57 rfl rfl ?_
        refine ja_iconst disInit_58 ?_
        refine ja_iadd disInit_59 ?_
        refine il_text (v := h 1 ((h 3 (h 19 (a1).toNat).toNat) + 2).toNat) rfl ⟨by omega, by omega⟩ disInit_60 ?_
        have f6 := gC_text g ((h 3 (h 19 (a1).toNat).toNat) + 2).toNat
        refine ja_bipush 105 disInit_61 rfl ?_
        refine ja_icmp_ne 83 disInit_63 rfl ⟨by omega, by omega⟩ ⟨by decide, by decide⟩ (fun c63 => ?_) (fun c63 => ?_)
        · refine ja_iconst disInit_83 ?_
          refine ja_zreturn disInit_84 rfl (by omega) ?_
          exact mo_fin (by omega) rfl (k1 0 (by omega))
        · refine ja_aload_n disInit_66 rfl rfl ?_
          refine fa_text disInit_67 ?_
          refine ja_iload_n disInit_70 rfl rfl ?_
          refine ja_iconst disInit_71 ?_
          refine ja_iadd disInit_72 ?_
          refine il_text (v := h 1 ((h 3 (h 19 (a1).toNat).toNat) + 3).toNat) rfl ⟨by omega, by omega⟩ disInit_73 ?_
          have f7 := gC_text g ((h 3 (h 19 (a1).toNat).toNat) + 3).toNat
          refine ja_bipush 116 disInit_74 rfl ?_
          refine ja_icmp_ne 83 disInit_76 rfl ⟨by omega, by omega⟩ ⟨by decide, by decide⟩ (fun c76 => ?_) (fun c76 => ?_)
          · refine ja_iconst disInit_83 ?_
            refine ja_zreturn disInit_84 rfl (by omega) ?_
            exact mo_fin (by omega) rfl (k1 0 (by omega))
          · refine ja_iconst disInit_79 ?_
            refine ja_goto 84 disInit_80 rfl ?_
            refine ja_zreturn disInit_84 rfl (by omega) ?_
            exact mo_fin (by omega) rfl (k1 1 (by omega))
theorem t_isInit {a1 : Int} {d nL pc : Nat} {cc : ByteArray} {rt : Option FieldType} {L : List (Nat × ja_V)} {S : List ja_V} {h : ja_H} {Q : Option ja_V → ja_H → Prop} (hdd : 1 < d) (hwd : ja_wd S ≤ 8) (hd : decode cc pc = .ok (.invokevirtual 1079, 3)) (g : mo_G mo_zr h) (r1 : -2147483648 ≤ a1 ∧ a1 ≤ 2147483647) (p1 : 0 ≤ a1 ∧ a1 ≤ 60) (k1 : ∀ (v : Int), (0 ≤ v ∧ v ≤ 1) → mJ l D cA ad d cc nL rt (pc + 3) L ((0, v) :: S) h Q) : mJ l D cA ad d cc nL rt pc L ((0, a1) :: (2, ((0 : Nat) : Int)) :: S) h Q :=
  mc_isInit hdd hwd hd (s_isInit g r1 p1 k1)
end
theorem dmethodIn_0 : decode cX12_methodIn 0 = .ok (.iload_n 1, 1) := by decide +kernel
theorem dmethodIn_1 : decode cX12_methodIn 1 = .ok (.istore_n 3, 1) := by decide +kernel
theorem dmethodIn_2 : decode cX12_methodIn 2 = .ok (.iload_n 3, 1) := by decide +kernel
theorem dmethodIn_3 : decode cX12_methodIn 3 = .ok (.ifCond .lt 60, 3) := by decide +kernel
theorem dmethodIn_6 : decode cX12_methodIn 6 = .ok (.iconst 0, 1) := by decide +kernel
theorem dmethodIn_7 : decode cX12_methodIn 7 = .ok (.istore 4, 2) := by decide +kernel
theorem dmethodIn_9 : decode cX12_methodIn 9 = .ok (.iload 4, 2) := by decide +kernel
theorem dmethodIn_11 : decode cX12_methodIn 11 = .ok (.aload_n 0, 1) := by decide +kernel
theorem dmethodIn_12 : decode cX12_methodIn 12 = .ok (.getfield 656, 3) := by decide +kernel
theorem dmethodIn_15 : decode cX12_methodIn 15 = .ok (.if_icmp .ge 38, 3) := by decide +kernel
theorem dmethodIn_18 : decode cX12_methodIn 18 = .ok (.aload_n 0, 1) := by decide +kernel
theorem dmethodIn_19 : decode cX12_methodIn 19 = .ok (.getfield 71, 3) := by decide +kernel
theorem dmethodIn_22 : decode cX12_methodIn 22 = .ok (.iload 4, 2) := by decide +kernel
theorem dmethodIn_24 : decode cX12_methodIn 24 = .ok (.iaload, 1) := by decide +kernel
theorem dmethodIn_25 : decode cX12_methodIn 25 = .ok (.iload_n 3, 1) := by decide +kernel
theorem dmethodIn_26 : decode cX12_methodIn 26 = .ok (.if_icmp .ne 21, 3) := by decide +kernel
theorem dmethodIn_29 : decode cX12_methodIn 29 = .ok (.aload_n 0, 1) := by decide +kernel
theorem dmethodIn_30 : decode cX12_methodIn 30 = .ok (.aload_n 0, 1) := by decide +kernel
theorem dmethodIn_31 : decode cX12_methodIn 31 = .ok (.getfield 65, 3) := by decide +kernel
theorem dmethodIn_34 : decode cX12_methodIn 34 = .ok (.iload 4, 2) := by decide +kernel
theorem dmethodIn_36 : decode cX12_methodIn 36 = .ok (.iaload, 1) := by decide +kernel
theorem dmethodIn_37 : decode cX12_methodIn 37 = .ok (.invokevirtual 716, 3) := by decide +kernel
theorem dmethodIn_40 : decode cX12_methodIn 40 = .ok (.iload_n 2, 1) := by decide +kernel
theorem dmethodIn_41 : decode cX12_methodIn 41 = .ok (.if_icmp .ne 6, 3) := by decide +kernel
theorem dmethodIn_44 : decode cX12_methodIn 44 = .ok (.iload 4, 2) := by decide +kernel
theorem dmethodIn_46 : decode cX12_methodIn 46 = .ok (.ireturn, 1) := by decide +kernel
theorem dmethodIn_47 : decode cX12_methodIn 47 = .ok (.iinc 4 1, 3) := by decide +kernel
theorem dmethodIn_50 : decode cX12_methodIn 50 = .ok (.goto (-41), 3) := by decide +kernel
theorem dmethodIn_53 : decode cX12_methodIn 53 = .ok (.aload_n 0, 1) := by decide +kernel
theorem dmethodIn_54 : decode cX12_methodIn 54 = .ok (.getfield 43, 3) := by decide +kernel
theorem dmethodIn_57 : decode cX12_methodIn 57 = .ok (.iload_n 3, 1) := by decide +kernel
theorem dmethodIn_58 : decode cX12_methodIn 58 = .ok (.iaload, 1) := by decide +kernel
theorem dmethodIn_59 : decode cX12_methodIn 59 = .ok (.istore_n 3, 1) := by decide +kernel
theorem dmethodIn_60 : decode cX12_methodIn 60 = .ok (.goto (-58), 3) := by decide +kernel
theorem dmethodIn_63 : decode cX12_methodIn 63 = .ok (.iconst (-1), 1) := by decide +kernel
theorem dmethodIn_64 : decode cX12_methodIn 64 = .ok (.ireturn, 1) := by decide +kernel
section
variable {l : Launch} {D : va_G} {cA : Nat → ClassId} {ad : Nat → Nat}
theorem s_methodIn {a1 a2 : Int} {rk : Nat → Nat} {m : Int} {h : ja_H} {Q : Option ja_V → ja_H → Prop} (g : mo_G mo_zr h) (r1 : -2147483648 ≤ a1 ∧ a1 ≤ 2147483647) (r2 : -2147483648 ≤ a2 ∧ a2 ≤ 2147483647) (p1 : -1 ≤ a1 ∧ a1 < m) (p2 : m ≤ 12) (p3 : rk_P (h 12) m rk) (k1 : ∀ (v : Int), (v = -1 ∨ (0 ≤ v ∧ v < (h 0 34))) → Q (some (0, v)) h) : mM_methodIn l D cA ad a1 a2 h Q := by
  show mJ l D cA ad 2 cX12_methodIn 5 (some .int) 0 [(0, (2, ((0 : Nat) : Int))), (1, (0, a1)), (2, (0, a2))] [] h Q
  have kn_methods := gF_methods g
  have CUT : ∀ n : Nat, (∀ (x3 : Int), (-2147483648 ≤ x3 ∧ x3 ≤ 2147483647) → (-1 ≤ x3 ∧ x3 < m) → (((200 : Int) * (upR rk x3 : Int)).toNat) = n → mJ l D cA ad 2 cX12_methodIn 5 (some .int) 2 [(0, (2, ((0 : Nat) : Int))), (2, (0, a2)), (3, (0, x3))] [] h Q) ∧ (∀ (x3 x4 : Int), (-2147483648 ≤ x3 ∧ x3 ≤ 2147483647) → (-2147483648 ≤ x4 ∧ x4 ≤ 2147483647) → ((0 ≤ x3 ∧ x3 < m) ∧ 0 ≤ x4 ∧ x4 ≤ (h 0 34)) → (((200 : Int) * (upR rk x3 : Int) - 1 - x4).toNat) = n → mJ l D cA ad 2 cX12_methodIn 5 (some .int) 9 [(0, (2, ((0 : Nat) : Int))), (2, (0, a2)), (3, (0, x3)), (4, (0, x4))] [] h Q) := by
    intro n
    induction n using Nat.strongRecOn with
    | _ n ih =>
      refine ⟨?_, ?_⟩
      · intro x3 qx3 iv hm
        subst hm
        refine ja_iload_n dmethodIn_2 rfl rfl ?_
        refine ja_if_lt 63 dmethodIn_3 rfl ⟨by omega, by omega⟩ (fun c3 => ?_) (fun c3 => ?_)
        · refine ja_iconst dmethodIn_63 ?_
          refine ja_ireturn dmethodIn_64 rfl ?_
          exact mo_fin (by omega) rfl (k1 (-1) (by omega))
        · refine ja_iconst dmethodIn_6 ?_
          refine ja_istore dmethodIn_7 (by decide) (L2 := [(4, (0, 0)), (0, (2, ((0 : Nat) : Int))), (2, (0, a2)), (3, (0, x3))]) rfl ?_
          exact ja_wk (fun q hq => by simp only [List.mem_cons, List.not_mem_nil, or_false] at hq; rcases hq with rfl | rfl | rfl | rfl <;> rfl) ((ih (((200 : Int) * (upR rk x3 : Int) - 1 - 0).toNat) ((by have uf := upR_f p3 (show 0 ≤ x3 by omega) (show x3 < m by omega); have us := upR_s (rk := rk) (show 0 ≤ x3 by omega); omega))).2 x3 0  ⟨by omega, by omega⟩ ⟨by decide, by decide⟩ (show (0 ≤ x3 ∧ x3 < m) ∧ 0 ≤ 0 ∧ 0 ≤ (h 0 34) by omega) rfl)
      · intro x3 x4 qx3 qx4 iv hm
        subst hm
        refine ja_iload dmethodIn_9 rfl ?_
        refine ja_aload_n dmethodIn_11 rfl rfl ?_
        refine fg_methods (v := h 0 34) rfl dmethodIn_12 ?_
        have f1 := gF_methods g
        refine ja_icmp_ge 53 dmethodIn_15 rfl ⟨by omega, by omega⟩ ⟨by omega, by omega⟩ (fun c15 => ?_) (fun c15 => ?_)
        · refine ja_aload_n dmethodIn_53 rfl rfl ?_
          refine fa_classAbove dmethodIn_54 ?_
          refine ja_iload_n dmethodIn_57 rfl rfl ?_
          refine il_classAbove (v := h 12 (x3).toNat) rfl ⟨by omega, by omega⟩ dmethodIn_58 ?_
          have f2 := gC_classAbove g (x3).toNat
          refine ja_istore_n dmethodIn_59 rfl (by decide) (L2 := [(3, (0, (h 12 (x3).toNat))), (0, (2, ((0 : Nat) : Int))), (2, (0, a2)), (4, (0, x4))]) rfl ?_
          refine ja_goto 2 dmethodIn_60 rfl ?_
          exact ja_wk (fun q hq => by simp only [List.mem_cons, List.not_mem_nil, or_false] at hq; rcases hq with rfl | rfl | rfl <;> rfl) ((ih (((200 : Int) * (upR rk (h 12 (x3).toNat) : Int)).toNat) ((by have uf := upR_f p3 (show 0 ≤ x3 by omega) (show x3 < m by omega); have us := upR_s (rk := rk) (show 0 ≤ x3 by omega); omega))).1 (h 12 (x3).toNat)  ⟨by omega, by omega⟩ (⟨by omega, (upR_f p3 (by omega) (by omega)).2⟩) rfl)
        · refine ja_aload_n dmethodIn_18 rfl rfl ?_
          refine fa_methodClass dmethodIn_19 ?_
          refine ja_iload dmethodIn_22 rfl ?_
          refine il_methodClass (v := h 21 (x4).toNat) rfl ⟨by omega, by omega⟩ dmethodIn_24 ?_
          have f3 := gC_methodClass g (x4).toNat
          refine ja_iload_n dmethodIn_25 rfl rfl ?_
          refine ja_icmp_ne 47 dmethodIn_26 rfl ⟨by omega, by omega⟩ ⟨by omega, by omega⟩ (fun c26 => ?_) (fun c26 => ?_)
          · refine ja_iinc dmethodIn_47 rfl (by decide) (L2 := [(4, (0, (x4 + 1))), (0, (2, ((0 : Nat) : Int))), (2, (0, a2)), (3, (0, x3))]) rfl ?_
            refine ja_goto 9 dmethodIn_50 rfl ?_
            exact ja_wk (fun q hq => by simp only [List.mem_cons, List.not_mem_nil, or_false] at hq; rcases hq with rfl | rfl | rfl | rfl <;> rfl) ((ih (((200 : Int) * (upR rk x3 : Int) - 1 - (x4 + 1)).toNat) ((by have uf := upR_f p3 (show 0 ≤ x3 by omega) (show x3 < m by omega); have us := upR_s (rk := rk) (show 0 ≤ x3 by omega); omega))).2 x3 (x4 + 1)  ⟨by omega, by omega⟩ ⟨by omega, by omega⟩ (show (0 ≤ x3 ∧ x3 < m) ∧ 0 ≤ (x4 + 1) ∧ (x4 + 1) ≤ (h 0 34) by omega) rfl)
          · refine ja_aload_n dmethodIn_29 rfl rfl ?_
            refine ja_aload_n dmethodIn_30 rfl rfl ?_
            refine fa_methodName dmethodIn_31 ?_
            refine ja_iload dmethodIn_34 rfl ?_
            refine il_methodName (v := h 19 (x4).toNat) rfl ⟨by omega, by omega⟩ dmethodIn_36 ?_
            have f4 := gC_methodName g (x4).toNat
            refine t_id (by decide) (show (0 : Nat) ≤ 8 by decide) dmethodIn_37 g ⟨by omega, by omega⟩ (show 0 ≤ (h 19 (x4).toNat) ∧ (h 19 (x4).toNat) ≤ 900 by omega) ?_
            intro k37_0
            refine ja_iload_n dmethodIn_40 rfl rfl ?_
            refine ja_icmp_ne 47 dmethodIn_41 rfl ⟨by omega, by omega⟩ ⟨by omega, by omega⟩ (fun c41 => ?_) (fun c41 => ?_)
            · refine ja_iinc dmethodIn_47 rfl (by decide) (L2 := [(4, (0, (x4 + 1))), (0, (2, ((0 : Nat) : Int))), (2, (0, a2)), (3, (0, x3))]) rfl ?_
              refine ja_goto 9 dmethodIn_50 rfl ?_
              exact ja_wk (fun q hq => by simp only [List.mem_cons, List.not_mem_nil, or_false] at hq; rcases hq with rfl | rfl | rfl | rfl <;> rfl) ((ih (((200 : Int) * (upR rk x3 : Int) - 1 - (x4 + 1)).toNat) ((by have uf := upR_f p3 (show 0 ≤ x3 by omega) (show x3 < m by omega); have us := upR_s (rk := rk) (show 0 ≤ x3 by omega); omega))).2 x3 (x4 + 1)  ⟨by omega, by omega⟩ ⟨by omega, by omega⟩ (show (0 ≤ x3 ∧ x3 < m) ∧ 0 ≤ (x4 + 1) ∧ (x4 + 1) ≤ (h 0 34) by omega) rfl)
            · refine ja_iload dmethodIn_44 rfl ?_
              refine ja_ireturn dmethodIn_46 rfl ?_
              exact mo_fin (by omega) rfl (k1 x4 (by omega))
  refine ja_iload_n dmethodIn_0 rfl rfl ?_
  refine ja_istore_n dmethodIn_1 rfl (by decide) (L2 := [(3, (0, a1)), (0, (2, ((0 : Nat) : Int))), (1, (0, a1)), (2, (0, a2))]) rfl ?_
  exact ja_wk (fun q hq => by simp only [List.mem_cons, List.not_mem_nil, or_false] at hq; rcases hq with rfl | rfl | rfl <;> rfl) ((CUT _).1 a1  ⟨by omega, by omega⟩ (⟨by omega, by omega⟩) rfl)
theorem t_methodIn {a1 a2 : Int} {rk : Nat → Nat} {m : Int} {d nL pc : Nat} {cc : ByteArray} {rt : Option FieldType} {L : List (Nat × ja_V)} {S : List ja_V} {h : ja_H} {Q : Option ja_V → ja_H → Prop} (hdd : 2 < d) (hwd : ja_wd S ≤ 8) (hd : decode cc pc = .ok (.invokevirtual 1082, 3)) (g : mo_G mo_zr h) (r1 : -2147483648 ≤ a1 ∧ a1 ≤ 2147483647) (r2 : -2147483648 ≤ a2 ∧ a2 ≤ 2147483647) (p1 : -1 ≤ a1 ∧ a1 < m) (p2 : m ≤ 12) (p3 : rk_P (h 12) m rk) (k1 : ∀ (v : Int), (v = -1 ∨ (0 ≤ v ∧ v < (h 0 34))) → mJ l D cA ad d cc nL rt (pc + 3) L ((0, v) :: S) h Q) : mJ l D cA ad d cc nL rt pc L ((0, a2) :: (0, a1) :: (2, ((0 : Nat) : Int)) :: S) h Q :=
  mc_methodIn hdd hwd hd (s_methodIn g r1 r2 p1 p2 p3 k1)
end
theorem dinitIn_0 : decode cX12_initIn 0 = .ok (.iload_n 1, 1) := by decide +kernel
theorem dinitIn_1 : decode cX12_initIn 1 = .ok (.istore_n 2, 1) := by decide +kernel
theorem dinitIn_2 : decode cX12_initIn 2 = .ok (.iload_n 2, 1) := by decide +kernel
theorem dinitIn_3 : decode cX12_initIn 3 = .ok (.ifCond .lt 49, 3) := by decide +kernel
theorem dinitIn_6 : decode cX12_initIn 6 = .ok (.iconst 0, 1) := by decide +kernel
theorem dinitIn_7 : decode cX12_initIn 7 = .ok (.istore_n 3, 1) := by decide +kernel
theorem dinitIn_8 : decode cX12_initIn 8 = .ok (.iload_n 3, 1) := by decide +kernel
theorem dinitIn_9 : decode cX12_initIn 9 = .ok (.aload_n 0, 1) := by decide +kernel
theorem dinitIn_10 : decode cX12_initIn 10 = .ok (.getfield 656, 3) := by decide +kernel
theorem dinitIn_13 : decode cX12_initIn 13 = .ok (.if_icmp .ge 29, 3) := by decide +kernel
theorem dinitIn_16 : decode cX12_initIn 16 = .ok (.aload_n 0, 1) := by decide +kernel
theorem dinitIn_17 : decode cX12_initIn 17 = .ok (.getfield 71, 3) := by decide +kernel
theorem dinitIn_20 : decode cX12_initIn 20 = .ok (.iload_n 3, 1) := by decide +kernel
theorem dinitIn_21 : decode cX12_initIn 21 = .ok (.iaload, 1) := by decide +kernel
theorem dinitIn_22 : decode cX12_initIn 22 = .ok (.iload_n 2, 1) := by decide +kernel
theorem dinitIn_23 : decode cX12_initIn 23 = .ok (.if_icmp .ne 13, 3) := by decide +kernel
theorem dinitIn_26 : decode cX12_initIn 26 = .ok (.aload_n 0, 1) := by decide +kernel
theorem dinitIn_27 : decode cX12_initIn 27 = .ok (.iload_n 3, 1) := by decide +kernel
theorem dinitIn_28 : decode cX12_initIn 28 = .ok (.invokevirtual 1079, 3) := by decide +kernel
theorem dinitIn_31 : decode cX12_initIn 31 = .ok (.ifCond .eq 5, 3) := by decide +kernel
theorem dinitIn_34 : decode cX12_initIn 34 = .ok (.iload_n 3, 1) := by decide +kernel
theorem dinitIn_35 : decode cX12_initIn 35 = .ok (.ireturn, 1) := by decide +kernel
theorem dinitIn_36 : decode cX12_initIn 36 = .ok (.iinc 3 1, 3) := by decide +kernel
theorem dinitIn_39 : decode cX12_initIn 39 = .ok (.goto (-31), 3) := by decide +kernel
theorem dinitIn_42 : decode cX12_initIn 42 = .ok (.aload_n 0, 1) := by decide +kernel
theorem dinitIn_43 : decode cX12_initIn 43 = .ok (.getfield 43, 3) := by decide +kernel
theorem dinitIn_46 : decode cX12_initIn 46 = .ok (.iload_n 2, 1) := by decide +kernel
theorem dinitIn_47 : decode cX12_initIn 47 = .ok (.iaload, 1) := by decide +kernel
theorem dinitIn_48 : decode cX12_initIn 48 = .ok (.istore_n 2, 1) := by decide +kernel
theorem dinitIn_49 : decode cX12_initIn 49 = .ok (.goto (-47), 3) := by decide +kernel
theorem dinitIn_52 : decode cX12_initIn 52 = .ok (.iconst (-1), 1) := by decide +kernel
theorem dinitIn_53 : decode cX12_initIn 53 = .ok (.ireturn, 1) := by decide +kernel
section
variable {l : Launch} {D : va_G} {cA : Nat → ClassId} {ad : Nat → Nat}
theorem s_initIn {a1 : Int} {rk : Nat → Nat} {m : Int} {h : ja_H} {Q : Option ja_V → ja_H → Prop} (g : mo_G mo_zr h) (r1 : -2147483648 ≤ a1 ∧ a1 ≤ 2147483647) (p1 : -1 ≤ a1 ∧ a1 < m) (p2 : m ≤ 12) (p3 : rk_P (h 12) m rk) (k1 : ∀ (v : Int), (v = -1 ∨ (0 ≤ v ∧ v < (h 0 34))) → Q (some (0, v)) h) : mM_initIn l D cA ad a1 h Q := by
  show mJ l D cA ad 2 cX12_initIn 4 (some .int) 0 [(0, (2, ((0 : Nat) : Int))), (1, (0, a1))] [] h Q
  have kn_methods := gF_methods g
  have CUT : ∀ n : Nat, (∀ (x2 : Int), (-2147483648 ≤ x2 ∧ x2 ≤ 2147483647) → (-1 ≤ x2 ∧ x2 < m) → (((200 : Int) * (upR rk x2 : Int)).toNat) = n → mJ l D cA ad 2 cX12_initIn 4 (some .int) 2 [(0, (2, ((0 : Nat) : Int))), (2, (0, x2))] [] h Q) ∧ (∀ (x2 x3 : Int), (-2147483648 ≤ x2 ∧ x2 ≤ 2147483647) → (-2147483648 ≤ x3 ∧ x3 ≤ 2147483647) → ((0 ≤ x2 ∧ x2 < m) ∧ 0 ≤ x3 ∧ x3 ≤ (h 0 34)) → (((200 : Int) * (upR rk x2 : Int) - 1 - x3).toNat) = n → mJ l D cA ad 2 cX12_initIn 4 (some .int) 8 [(0, (2, ((0 : Nat) : Int))), (2, (0, x2)), (3, (0, x3))] [] h Q) := by
    intro n
    induction n using Nat.strongRecOn with
    | _ n ih =>
      refine ⟨?_, ?_⟩
      · intro x2 qx2 iv hm
        subst hm
        refine ja_iload_n dinitIn_2 rfl rfl ?_
        refine ja_if_lt 52 dinitIn_3 rfl ⟨by omega, by omega⟩ (fun c3 => ?_) (fun c3 => ?_)
        · refine ja_iconst dinitIn_52 ?_
          refine ja_ireturn dinitIn_53 rfl ?_
          exact mo_fin (by omega) rfl (k1 (-1) (by omega))
        · refine ja_iconst dinitIn_6 ?_
          refine ja_istore_n dinitIn_7 rfl (by decide) (L2 := [(3, (0, 0)), (0, (2, ((0 : Nat) : Int))), (2, (0, x2))]) rfl ?_
          exact ja_wk (fun q hq => by simp only [List.mem_cons, List.not_mem_nil, or_false] at hq; rcases hq with rfl | rfl | rfl <;> rfl) ((ih (((200 : Int) * (upR rk x2 : Int) - 1 - 0).toNat) ((by have uf := upR_f p3 (show 0 ≤ x2 by omega) (show x2 < m by omega); have us := upR_s (rk := rk) (show 0 ≤ x2 by omega); omega))).2 x2 0  ⟨by omega, by omega⟩ ⟨by decide, by decide⟩ (show (0 ≤ x2 ∧ x2 < m) ∧ 0 ≤ 0 ∧ 0 ≤ (h 0 34) by omega) rfl)
      · intro x2 x3 qx2 qx3 iv hm
        subst hm
        refine ja_iload_n dinitIn_8 rfl rfl ?_
        refine ja_aload_n dinitIn_9 rfl rfl ?_
        refine fg_methods (v := h 0 34) rfl dinitIn_10 ?_
        have f1 := gF_methods g
        refine ja_icmp_ge 42 dinitIn_13 rfl ⟨by omega, by omega⟩ ⟨by omega, by omega⟩ (fun c13 => ?_) (fun c13 => ?_)
        · refine ja_aload_n dinitIn_42 rfl rfl ?_
          refine fa_classAbove dinitIn_43 ?_
          refine ja_iload_n dinitIn_46 rfl rfl ?_
          refine il_classAbove (v := h 12 (x2).toNat) rfl ⟨by omega, by omega⟩ dinitIn_47 ?_
          have f2 := gC_classAbove g (x2).toNat
          refine ja_istore_n dinitIn_48 rfl (by decide) (L2 := [(2, (0, (h 12 (x2).toNat))), (0, (2, ((0 : Nat) : Int))), (3, (0, x3))]) rfl ?_
          refine ja_goto 2 dinitIn_49 rfl ?_
          exact ja_wk (fun q hq => by simp only [List.mem_cons, List.not_mem_nil, or_false] at hq; rcases hq with rfl | rfl <;> rfl) ((ih (((200 : Int) * (upR rk (h 12 (x2).toNat) : Int)).toNat) ((by have uf := upR_f p3 (show 0 ≤ x2 by omega) (show x2 < m by omega); have us := upR_s (rk := rk) (show 0 ≤ x2 by omega); omega))).1 (h 12 (x2).toNat)  ⟨by omega, by omega⟩ (⟨by omega, (upR_f p3 (by omega) (by omega)).2⟩) rfl)
        · refine ja_aload_n dinitIn_16 rfl rfl ?_
          refine fa_methodClass dinitIn_17 ?_
          refine ja_iload_n dinitIn_20 rfl rfl ?_
          refine il_methodClass (v := h 21 (x3).toNat) rfl ⟨by omega, by omega⟩ dinitIn_21 ?_
          have f3 := gC_methodClass g (x3).toNat
          refine ja_iload_n dinitIn_22 rfl rfl ?_
          refine ja_icmp_ne 36 dinitIn_23 rfl ⟨by omega, by omega⟩ ⟨by omega, by omega⟩ (fun c23 => ?_) (fun c23 => ?_)
          · refine ja_iinc dinitIn_36 rfl (by decide) (L2 := [(3, (0, (x3 + 1))), (0, (2, ((0 : Nat) : Int))), (2, (0, x2))]) rfl ?_
            refine ja_goto 8 dinitIn_39 rfl ?_
            exact ja_wk (fun q hq => by simp only [List.mem_cons, List.not_mem_nil, or_false] at hq; rcases hq with rfl | rfl | rfl <;> rfl) ((ih (((200 : Int) * (upR rk x2 : Int) - 1 - (x3 + 1)).toNat) ((by have uf := upR_f p3 (show 0 ≤ x2 by omega) (show x2 < m by omega); have us := upR_s (rk := rk) (show 0 ≤ x2 by omega); omega))).2 x2 (x3 + 1)  ⟨by omega, by omega⟩ ⟨by omega, by omega⟩ (show (0 ≤ x2 ∧ x2 < m) ∧ 0 ≤ (x3 + 1) ∧ (x3 + 1) ≤ (h 0 34) by omega) rfl)
          · refine ja_aload_n dinitIn_26 rfl rfl ?_
            refine ja_iload_n dinitIn_27 rfl rfl ?_
            refine t_isInit (by decide) (show (0 : Nat) ≤ 8 by decide) dinitIn_28 g ⟨by omega, by omega⟩ (show 0 ≤ x3 ∧ x3 ≤ 60 by omega) ?_
            intro w4 k28_0
            refine ja_if_eq 36 dinitIn_31 rfl ⟨by omega, by omega⟩ (fun c31 => ?_) (fun c31 => ?_)
            · refine ja_iinc dinitIn_36 rfl (by decide) (L2 := [(3, (0, (x3 + 1))), (0, (2, ((0 : Nat) : Int))), (2, (0, x2))]) rfl ?_
              refine ja_goto 8 dinitIn_39 rfl ?_
              exact ja_wk (fun q hq => by simp only [List.mem_cons, List.not_mem_nil, or_false] at hq; rcases hq with rfl | rfl | rfl <;> rfl) ((ih (((200 : Int) * (upR rk x2 : Int) - 1 - (x3 + 1)).toNat) ((by have uf := upR_f p3 (show 0 ≤ x2 by omega) (show x2 < m by omega); have us := upR_s (rk := rk) (show 0 ≤ x2 by omega); omega))).2 x2 (x3 + 1)  ⟨by omega, by omega⟩ ⟨by omega, by omega⟩ (show (0 ≤ x2 ∧ x2 < m) ∧ 0 ≤ (x3 + 1) ∧ (x3 + 1) ≤ (h 0 34) by omega) rfl)
            · refine ja_iload_n dinitIn_34 rfl rfl ?_
              refine ja_ireturn dinitIn_35 rfl ?_
              exact mo_fin (by omega) rfl (k1 x3 (by omega))
  refine ja_iload_n dinitIn_0 rfl rfl ?_
  refine ja_istore_n dinitIn_1 rfl (by decide) (L2 := [(2, (0, a1)), (0, (2, ((0 : Nat) : Int))), (1, (0, a1))]) rfl ?_
  exact ja_wk (fun q hq => by simp only [List.mem_cons, List.not_mem_nil, or_false] at hq; rcases hq with rfl | rfl <;> rfl) ((CUT _).1 a1  ⟨by omega, by omega⟩ (⟨by omega, by omega⟩) rfl)
theorem t_initIn {a1 : Int} {rk : Nat → Nat} {m : Int} {d nL pc : Nat} {cc : ByteArray} {rt : Option FieldType} {L : List (Nat × ja_V)} {S : List ja_V} {h : ja_H} {Q : Option ja_V → ja_H → Prop} (hdd : 2 < d) (hwd : ja_wd S ≤ 8) (hd : decode cc pc = .ok (.invokevirtual 1095, 3)) (g : mo_G mo_zr h) (r1 : -2147483648 ≤ a1 ∧ a1 ≤ 2147483647) (p1 : -1 ≤ a1 ∧ a1 < m) (p2 : m ≤ 12) (p3 : rk_P (h 12) m rk) (k1 : ∀ (v : Int), (v = -1 ∨ (0 ≤ v ∧ v < (h 0 34))) → mJ l D cA ad d cc nL rt (pc + 3) L ((0, v) :: S) h Q) : mJ l D cA ad d cc nL rt pc L ((0, a1) :: (2, ((0 : Nat) : Int)) :: S) h Q :=
  mc_initIn hdd hwd hd (s_initIn g r1 p1 p2 p3 k1)
end
theorem dfieldIn_0 : decode cX12_fieldIn 0 = .ok (.iload_n 1, 1) := by decide +kernel
theorem dfieldIn_1 : decode cX12_fieldIn 1 = .ok (.istore_n 3, 1) := by decide +kernel
theorem dfieldIn_2 : decode cX12_fieldIn 2 = .ok (.iload_n 3, 1) := by decide +kernel
theorem dfieldIn_3 : decode cX12_fieldIn 3 = .ok (.ifCond .lt 85, 3) := by decide +kernel
theorem dfieldIn_6 : decode cX12_fieldIn 6 = .ok (.iconst 0, 1) := by decide +kernel
theorem dfieldIn_7 : decode cX12_fieldIn 7 = .ok (.istore 4, 2) := by decide +kernel
theorem dfieldIn_9 : decode cX12_fieldIn 9 = .ok (.iload 4, 2) := by decide +kernel
theorem dfieldIn_11 : decode cX12_fieldIn 11 = .ok (.aload_n 0, 1) := by decide +kernel
theorem dfieldIn_12 : decode cX12_fieldIn 12 = .ok (.getfield 255, 3) := by decide +kernel
theorem dfieldIn_15 : decode cX12_fieldIn 15 = .ok (.iload_n 1, 1) := by decide +kernel
theorem dfieldIn_16 : decode cX12_fieldIn 16 = .ok (.iaload, 1) := by decide +kernel
theorem dfieldIn_17 : decode cX12_fieldIn 17 = .ok (.if_icmp .ge 61, 3) := by decide +kernel
theorem dfieldIn_20 : decode cX12_fieldIn 20 = .ok (.aload_n 0, 1) := by decide +kernel
theorem dfieldIn_21 : decode cX12_fieldIn 21 = .ok (.getfield 258, 3) := by decide +kernel
theorem dfieldIn_24 : decode cX12_fieldIn 24 = .ok (.bipush 120, 2) := by decide +kernel
theorem dfieldIn_26 : decode cX12_fieldIn 26 = .ok (.iload_n 1, 1) := by decide +kernel
theorem dfieldIn_27 : decode cX12_fieldIn 27 = .ok (.imul, 1) := by decide +kernel
theorem dfieldIn_28 : decode cX12_fieldIn 28 = .ok (.iload 4, 2) := by decide +kernel
theorem dfieldIn_30 : decode cX12_fieldIn 30 = .ok (.iadd, 1) := by decide +kernel
theorem dfieldIn_31 : decode cX12_fieldIn 31 = .ok (.iaload, 1) := by decide +kernel
theorem dfieldIn_32 : decode cX12_fieldIn 32 = .ok (.istore 5, 2) := by decide +kernel
theorem dfieldIn_34 : decode cX12_fieldIn 34 = .ok (.aload_n 0, 1) := by decide +kernel
theorem dfieldIn_35 : decode cX12_fieldIn 35 = .ok (.getfield 62, 3) := by decide +kernel
theorem dfieldIn_38 : decode cX12_fieldIn 38 = .ok (.iload 5, 2) := by decide +kernel
theorem dfieldIn_40 : decode cX12_fieldIn 40 = .ok (.iaload, 1) := by decide +kernel
theorem dfieldIn_41 : decode cX12_fieldIn 41 = .ok (.aload_n 0, 1) := by decide +kernel
theorem dfieldIn_42 : decode cX12_fieldIn 42 = .ok (.aload_n 0, 1) := by decide +kernel
theorem dfieldIn_43 : decode cX12_fieldIn 43 = .ok (.getfield 37, 3) := by decide +kernel
theorem dfieldIn_46 : decode cX12_fieldIn 46 = .ok (.iload_n 3, 1) := by decide +kernel
theorem dfieldIn_47 : decode cX12_fieldIn 47 = .ok (.iaload, 1) := by decide +kernel
theorem dfieldIn_48 : decode cX12_fieldIn 48 = .ok (.invokevirtual 716, 3) := by decide +kernel
theorem dfieldIn_51 : decode cX12_fieldIn 51 = .ok (.if_icmp .ne 21, 3) := by decide +kernel
theorem dfieldIn_54 : decode cX12_fieldIn 54 = .ok (.aload_n 0, 1) := by decide +kernel
theorem dfieldIn_55 : decode cX12_fieldIn 55 = .ok (.aload_n 0, 1) := by decide +kernel
theorem dfieldIn_56 : decode cX12_fieldIn 56 = .ok (.getfield 59, 3) := by decide +kernel
theorem dfieldIn_59 : decode cX12_fieldIn 59 = .ok (.iload 5, 2) := by decide +kernel
theorem dfieldIn_61 : decode cX12_fieldIn 61 = .ok (.iaload, 1) := by decide +kernel
theorem dfieldIn_62 : decode cX12_fieldIn 62 = .ok (.invokevirtual 716, 3) := by decide +kernel
theorem dfieldIn_65 : decode cX12_fieldIn 65 = .ok (.iload_n 2, 1) := by decide +kernel
theorem dfieldIn_66 : decode cX12_fieldIn 66 = .ok (.if_icmp .ne 6, 3) := by decide +kernel
theorem dfieldIn_69 : decode cX12_fieldIn 69 = .ok (.iload 4, 2) := by decide +kernel
theorem dfieldIn_71 : decode cX12_fieldIn 71 = .ok (.ireturn, 1) := by decide +kernel
theorem dfieldIn_72 : decode cX12_fieldIn 72 = .ok (.iinc 4 1, 3) := by decide +kernel
theorem dfieldIn_75 : decode cX12_fieldIn 75 = .ok (.goto (-66), 3) := by decide +kernel
theorem dfieldIn_78 : decode cX12_fieldIn 78 = .ok (.aload_n 0, 1) := by decide +kernel
theorem dfieldIn_79 : decode cX12_fieldIn 79 = .ok (.getfield 43, 3) := by decide +kernel
theorem dfieldIn_82 : decode cX12_fieldIn 82 = .ok (.iload_n 3, 1) := by decide +kernel
theorem dfieldIn_83 : decode cX12_fieldIn 83 = .ok (.iaload, 1) := by decide +kernel
theorem dfieldIn_84 : decode cX12_fieldIn 84 = .ok (.istore_n 3, 1) := by decide +kernel
theorem dfieldIn_85 : decode cX12_fieldIn 85 = .ok (.goto (-83), 3) := by decide +kernel
theorem dfieldIn_88 : decode cX12_fieldIn 88 = .ok (.iconst (-1), 1) := by decide +kernel
theorem dfieldIn_89 : decode cX12_fieldIn 89 = .ok (.ireturn, 1) := by decide +kernel
section
variable {l : Launch} {D : va_G} {cA : Nat → ClassId} {ad : Nat → Nat}
theorem s_fieldIn {a1 a2 : Int} {rk : Nat → Nat} {m : Int} {h : ja_H} {Q : Option ja_V → ja_H → Prop} (g : mo_G mo_zr h) (r1 : -2147483648 ≤ a1 ∧ a1 ≤ 2147483647) (r2 : -2147483648 ≤ a2 ∧ a2 ≤ 2147483647) (p1 : 0 ≤ a1 ∧ a1 < m) (p2 : m ≤ 12) (p3 : rk_P (h 12) m rk) (k1 : ∀ (v : Int), (v = -1 ∨ (0 ≤ v ∧ v < (h 82 (a1).toNat))) → Q (some (0, v)) h) : mM_fieldIn l D cA ad a1 a2 h Q := by
  show mJ l D cA ad 2 cX12_fieldIn 6 (some .int) 0 [(0, (2, ((0 : Nat) : Int))), (1, (0, a1)), (2, (0, a2))] [] h Q
  have CUT : ∀ n : Nat, (∀ (x3 : Int), (-2147483648 ≤ x3 ∧ x3 ≤ 2147483647) → (-1 ≤ x3 ∧ x3 < m) → (((200 : Int) * (upR rk x3 : Int)).toNat) = n → mJ l D cA ad 2 cX12_fieldIn 6 (some .int) 2 [(0, (2, ((0 : Nat) : Int))), (1, (0, a1)), (2, (0, a2)), (3, (0, x3))] [] h Q) ∧ (∀ (x3 x4 : Int), (-2147483648 ≤ x3 ∧ x3 ≤ 2147483647) → (-2147483648 ≤ x4 ∧ x4 ≤ 2147483647) → ((0 ≤ x3 ∧ x3 < m) ∧ 0 ≤ x4 ∧ x4 ≤ (h 82 (a1).toNat)) → (((200 : Int) * (upR rk x3 : Int) - 1 - x4).toNat) = n → mJ l D cA ad 2 cX12_fieldIn 6 (some .int) 9 [(0, (2, ((0 : Nat) : Int))), (1, (0, a1)), (2, (0, a2)), (3, (0, x3)), (4, (0, x4))] [] h Q) := by
    intro n
    induction n using Nat.strongRecOn with
    | _ n ih =>
      refine ⟨?_, ?_⟩
      · intro x3 qx3 iv hm
        subst hm
        have klm := gC_layoutMany g (a1).toNat
        refine ja_iload_n dfieldIn_2 rfl rfl ?_
        refine ja_if_lt 88 dfieldIn_3 rfl ⟨by omega, by omega⟩ (fun c3 => ?_) (fun c3 => ?_)
        · refine ja_iconst dfieldIn_88 ?_
          refine ja_ireturn dfieldIn_89 rfl ?_
          exact mo_fin (by omega) rfl (k1 (-1) (by omega))
        · refine ja_iconst dfieldIn_6 ?_
          refine ja_istore dfieldIn_7 (by decide) (L2 := [(4, (0, 0)), (0, (2, ((0 : Nat) : Int))), (1, (0, a1)), (2, (0, a2)), (3, (0, x3))]) rfl ?_
          exact ja_wk (fun q hq => by simp only [List.mem_cons, List.not_mem_nil, or_false] at hq; rcases hq with rfl | rfl | rfl | rfl | rfl <;> rfl) ((ih (((200 : Int) * (upR rk x3 : Int) - 1 - 0).toNat) ((by have uf := upR_f p3 (show 0 ≤ x3 by omega) (show x3 < m by omega); have us := upR_s (rk := rk) (show 0 ≤ x3 by omega); omega))).2 x3 0  ⟨by omega, by omega⟩ ⟨by decide, by decide⟩ (show (0 ≤ x3 ∧ x3 < m) ∧ 0 ≤ 0 ∧ 0 ≤ (h 82 (a1).toNat) by omega) rfl)
      · intro x3 x4 qx3 qx4 iv hm
        subst hm
        have klm := gC_layoutMany g (a1).toNat
        refine ja_iload dfieldIn_9 rfl ?_
        refine ja_aload_n dfieldIn_11 rfl rfl ?_
        refine fa_layoutMany dfieldIn_12 ?_
        refine ja_iload_n dfieldIn_15 rfl rfl ?_
        refine il_layoutMany (v := h 82 (a1).toNat) rfl ⟨by omega, by omega⟩ dfieldIn_16 ?_
        have f1 := gC_layoutMany g (a1).toNat
        refine ja_icmp_ge 78 dfieldIn_17 rfl ⟨by omega, by omega⟩ ⟨by omega, by omega⟩ (fun c17 => ?_) (fun c17 => ?_)
        · refine ja_aload_n dfieldIn_78 rfl rfl ?_
          refine fa_classAbove dfieldIn_79 ?_
          refine ja_iload_n dfieldIn_82 rfl rfl ?_
          refine il_classAbove (v := h 12 (x3).toNat) rfl ⟨by omega, by omega⟩ dfieldIn_83 ?_
          have f2 := gC_classAbove g (x3).toNat
          refine ja_istore_n dfieldIn_84 rfl (by decide) (L2 := [(3, (0, (h 12 (x3).toNat))), (0, (2, ((0 : Nat) : Int))), (1, (0, a1)), (2, (0, a2)), (4, (0, x4))]) rfl ?_
          refine ja_goto 2 dfieldIn_85 rfl ?_
          exact ja_wk (fun q hq => by simp only [List.mem_cons, List.not_mem_nil, or_false] at hq; rcases hq with rfl | rfl | rfl | rfl <;> rfl) ((ih (((200 : Int) * (upR rk (h 12 (x3).toNat) : Int)).toNat) ((by have uf := upR_f p3 (show 0 ≤ x3 by omega) (show x3 < m by omega); have us := upR_s (rk := rk) (show 0 ≤ x3 by omega); omega))).1 (h 12 (x3).toNat)  ⟨by omega, by omega⟩ (⟨by omega, (upR_f p3 (by omega) (by omega)).2⟩) rfl)
        · refine ja_aload_n dfieldIn_20 rfl rfl ?_
          refine fa_layoutField dfieldIn_21 ?_
          refine ja_bipush 120 dfieldIn_24 rfl ?_
          refine ja_iload_n dfieldIn_26 rfl rfl ?_
          refine ja_imul dfieldIn_27 ?_
          refine ja_iload dfieldIn_28 rfl ?_
          refine ja_iadd dfieldIn_30 ?_
          refine il_layoutField (v := h 83 ((120 * a1) + x4).toNat) rfl ⟨by omega, by omega⟩ dfieldIn_31 ?_
          have f3 := gC_layoutField g ((120 * a1) + x4).toNat
          refine ja_istore dfieldIn_32 (by decide) (L2 := [(5, (0, (h 83 ((120 * a1) + x4).toNat))), (0, (2, ((0 : Nat) : Int))), (1, (0, a1)), (2, (0, a2)), (3, (0, x3)), (4, (0, x4))]) rfl ?_
          refine ja_aload_n dfieldIn_34 rfl rfl ?_
          refine fa_fieldOf dfieldIn_35 ?_
          refine ja_iload dfieldIn_38 rfl ?_
          refine il_fieldOf (v := h 18 (h 83 ((120 * a1) + x4).toNat).toNat) rfl ⟨by omega, by omega⟩ dfieldIn_40 ?_
          have f4 := gC_fieldOf g (h 83 ((120 * a1) + x4).toNat).toNat
          refine ja_aload_n dfieldIn_41 rfl rfl ?_
          refine ja_aload_n dfieldIn_42 rfl rfl ?_
          refine fa_className dfieldIn_43 ?_
          refine ja_iload_n dfieldIn_46 rfl rfl ?_
          refine il_className (v := h 10 (x3).toNat) rfl ⟨by omega, by omega⟩ dfieldIn_47 ?_
          have f5 := gC_className g (x3).toNat
          refine t_id (by decide) (show (1 : Nat) ≤ 8 by decide) dfieldIn_48 g ⟨by omega, by omega⟩ (show 0 ≤ (h 10 (x3).toNat) ∧ (h 10 (x3).toNat) ≤ 900 by omega) ?_
          intro k48_0
          refine ja_icmp_ne 72 dfieldIn_51 rfl ⟨by omega, by omega⟩ ⟨by omega, by omega⟩ (fun c51 => ?_) (fun c51 => ?_)
          · refine ja_iinc dfieldIn_72 rfl (by decide) (L2 := [(4, (0, (x4 + 1))), (5, (0, (h 83 ((120 * a1) + x4).toNat))), (0, (2, ((0 : Nat) : Int))), (1, (0, a1)), (2, (0, a2)), (3, (0, x3))]) rfl ?_
            refine ja_goto 9 dfieldIn_75 rfl ?_
            exact ja_wk (fun q hq => by simp only [List.mem_cons, List.not_mem_nil, or_false] at hq; rcases hq with rfl | rfl | rfl | rfl | rfl <;> rfl) ((ih (((200 : Int) * (upR rk x3 : Int) - 1 - (x4 + 1)).toNat) ((by have uf := upR_f p3 (show 0 ≤ x3 by omega) (show x3 < m by omega); have us := upR_s (rk := rk) (show 0 ≤ x3 by omega); omega))).2 x3 (x4 + 1)  ⟨by omega, by omega⟩ ⟨by omega, by omega⟩ (show (0 ≤ x3 ∧ x3 < m) ∧ 0 ≤ (x4 + 1) ∧ (x4 + 1) ≤ (h 82 (a1).toNat) by omega) rfl)
          · refine ja_aload_n dfieldIn_54 rfl rfl ?_
            refine ja_aload_n dfieldIn_55 rfl rfl ?_
            refine fa_fieldName dfieldIn_56 ?_
            refine ja_iload dfieldIn_59 rfl ?_
            refine il_fieldName (v := h 17 (h 83 ((120 * a1) + x4).toNat).toNat) rfl ⟨by omega, by omega⟩ dfieldIn_61 ?_
            have f6 := gC_fieldName g (h 83 ((120 * a1) + x4).toNat).toNat
            refine t_id (by decide) (show (0 : Nat) ≤ 8 by decide) dfieldIn_62 g ⟨by omega, by omega⟩ (show 0 ≤ (h 17 (h 83 ((120 * a1) + x4).toNat).toNat) ∧ (h 17 (h 83 ((120 * a1) + x4).toNat).toNat) ≤ 900 by omega) ?_
            intro k62_0
            refine ja_iload_n dfieldIn_65 rfl rfl ?_
            refine ja_icmp_ne 72 dfieldIn_66 rfl ⟨by omega, by omega⟩ ⟨by omega, by omega⟩ (fun c66 => ?_) (fun c66 => ?_)
            · refine ja_iinc dfieldIn_72 rfl (by decide) (L2 := [(4, (0, (x4 + 1))), (5, (0, (h 83 ((120 * a1) + x4).toNat))), (0, (2, ((0 : Nat) : Int))), (1, (0, a1)), (2, (0, a2)), (3, (0, x3))]) rfl ?_
              refine ja_goto 9 dfieldIn_75 rfl ?_
              exact ja_wk (fun q hq => by simp only [List.mem_cons, List.not_mem_nil, or_false] at hq; rcases hq with rfl | rfl | rfl | rfl | rfl <;> rfl) ((ih (((200 : Int) * (upR rk x3 : Int) - 1 - (x4 + 1)).toNat) ((by have uf := upR_f p3 (show 0 ≤ x3 by omega) (show x3 < m by omega); have us := upR_s (rk := rk) (show 0 ≤ x3 by omega); omega))).2 x3 (x4 + 1)  ⟨by omega, by omega⟩ ⟨by omega, by omega⟩ (show (0 ≤ x3 ∧ x3 < m) ∧ 0 ≤ (x4 + 1) ∧ (x4 + 1) ≤ (h 82 (a1).toNat) by omega) rfl)
            · refine ja_iload dfieldIn_69 rfl ?_
              refine ja_ireturn dfieldIn_71 rfl ?_
              exact mo_fin (by omega) rfl (k1 x4 (by omega))
  have klm := gC_layoutMany g (a1).toNat
  refine ja_iload_n dfieldIn_0 rfl rfl ?_
  refine ja_istore_n dfieldIn_1 rfl (by decide) (L2 := [(3, (0, a1)), (0, (2, ((0 : Nat) : Int))), (1, (0, a1)), (2, (0, a2))]) rfl ?_
  exact ja_wk (fun q hq => by simp only [List.mem_cons, List.not_mem_nil, or_false] at hq; rcases hq with rfl | rfl | rfl | rfl <;> rfl) ((CUT _).1 a1  ⟨by omega, by omega⟩ (⟨by omega, by omega⟩) rfl)
theorem t_fieldIn {a1 a2 : Int} {rk : Nat → Nat} {m : Int} {d nL pc : Nat} {cc : ByteArray} {rt : Option FieldType} {L : List (Nat × ja_V)} {S : List ja_V} {h : ja_H} {Q : Option ja_V → ja_H → Prop} (hdd : 2 < d) (hwd : ja_wd S ≤ 8) (hd : decode cc pc = .ok (.invokevirtual 1092, 3)) (g : mo_G mo_zr h) (r1 : -2147483648 ≤ a1 ∧ a1 ≤ 2147483647) (r2 : -2147483648 ≤ a2 ∧ a2 ≤ 2147483647) (p1 : 0 ≤ a1 ∧ a1 < m) (p2 : m ≤ 12) (p3 : rk_P (h 12) m rk) (k1 : ∀ (v : Int), (v = -1 ∨ (0 ≤ v ∧ v < (h 82 (a1).toNat))) → mJ l D cA ad d cc nL rt (pc + 3) L ((0, v) :: S) h Q) : mJ l D cA ad d cc nL rt pc L ((0, a2) :: (0, a1) :: (2, ((0 : Nat) : Int)) :: S) h Q :=
  mc_fieldIn hdd hwd hd (s_fieldIn g r1 r2 p1 p2 p3 k1)
end
