/-! the reference: compile (written by a program) -/
/-! the reference: compile -/
def mo_C (h : ja_H) : ja_H := ja_up (ja_up (ja_up (ja_up (ja_up (ja_up (ja_up (ja_up (ja_up (ja_up (ja_up (ja_up (ja_up (ja_up (ja_up (ja_up (ja_up (ja_up (ja_up (ja_up (ja_up (ja_up (ja_up (ja_up (ja_up (ja_up (ja_up (ja_up (ja_up h 0 7 0) 0 8 0) 0 11 0) 0 17 0) 0 18 0) 0 22 0) 0 26 0) 0 31 0) 0 34 0) 0 41 0) 0 44 0) 0 52 0) 0 57 0) 0 61 0) 0 64 0) 0 66 0) 0 67 (-1)) 0 68 0) 0 72 0) 0 88 0) 0 95 0) 0 109 0) 0 113 0) 0 84 0) 0 85 0) 0 86 0) 0 87 0) 0 82 0) 0 119 0
theorem it_zero {h h1 : ja_H} (ag : mo_ag FSX (mo_C h) h1) : it h1 (fun _ => 0) (fun _ => 0) (fun _ => 200) := by
  have e1 : (h1 0 113) = 0 := ag _ _ rfl
  have e2 : (h1 0 95) = 0 := ag _ _ rfl
  have e3 : (h1 0 72) = 0 := ag _ _ rfl
  have e4 : (h1 0 88) = 0 := ag _ _ rfl
  have e5 : (h1 0 34) = 0 := ag _ _ rfl
  have e6 : (h1 0 44) = 0 := ag _ _ rfl
  have e7 : (h1 0 66) = 0 := ag _ _ rfl
  have e8 : (h1 0 52) = 0 := ag _ _ rfl
  have e9 : (h1 0 57) = 0 := ag _ _ rfl
  have e10 : (h1 0 7) = 0 := ag _ _ rfl
  have e11 : (h1 0 68) = 0 := ag _ _ rfl
  have e12 : (h1 0 31) = 0 := ag _ _ rfl
  have e13 : (h1 0 41) = 0 := ag _ _ rfl
  have e14 : (h1 0 64) = 0 := ag _ _ rfl
  have e15 : (h1 0 61) = 0 := ag _ _ rfl
  have e16 : (h1 0 18) = 0 := ag _ _ rfl
  have e17 : (h1 0 84) = 0 := ag _ _ rfl
  have e18 : (h1 0 87) = 0 := ag _ _ rfl
  have e19 : (h1 0 86) = 0 := ag _ _ rfl
  have e20 : (h1 0 85) = 0 := ag _ _ rfl
  have e21 : (h1 0 109) = 0 := ag _ _ rfl
  refine ⟨⟨⟨fun w hw => by omega, fun w v a b => by omega⟩, rfl, ⟨fun n hn => by omega, fun i hi => by omega⟩, rfl, rfl⟩, ⟨fun m hm => by omega, fun p hp => by omega⟩, ?_, ⟨fun m hm => by omega, fun a ha => by omega, fun z => by omega, fun p hp => by omega, fun b hb => by omega⟩, fun v => ?_⟩
  · refine ⟨?_, ?_, ?_, ?_, ?_, ?_, ?_, ?_, ?_, ?_, ?_, ?_, ?_, ?_, ?_, ?_⟩ <;> omega
  · rw [e12]; exact Nat.zero_le _
/-- the loop over ITEMS -/
def FCV : Nat → Nat → Bool := mo_F [188, 189] [12, 90, 91, 92, 93, 94, 95, 106, 107, 108, 109, 110, 111, 120, 121, 126, 127, 128, 129, 130, 131, 136, 137, 117, 118, 89]
def lo_C (h u : ja_H) (x : Int) : Prop := mo_ag FCV h u ∧ ((x = 1 ∧ (∃ ht st rg : Nat → Int, it u ht st rg) ∧ (u 0 119) = 0 ∧ (u 0 1) = (h 0 1) ∧ (u 0 118) = 0 ∧ (u 0 127) = 0) ∨ (x = 0 ∧ 0 < (u 0 8) ∧ (u 0 1) = (h 0 1) ∧ (u 0 118) = 0 ∧ (u 0 127) = 0))
theorem lo_C_next {h u h1 : ja_H} (e0 : mo_ag FCV h u) (e1 : (u 0 119) = 0) (e2 : (u 0 1) = (h 0 1)) (e3 : (u 0 118) = 0) (e4 : (u 0 127) = 0) (k : (∃ ht st rg : Nat → Int, it h1 ht st rg) ∧ (u 0 7) < (h1 0 7) ∧ mo_ag FKQ u h1 ∧ mo_ag FCV u h1) : lo_C h h1 1 := by
  obtain ⟨k1, k2, k3, k4⟩ := k
  have f1 : (h1 0 119) = (u 0 119) := k3 _ _ rfl
  have f2 : (h1 0 1) = (u 0 1) := k3 _ _ rfl
  have f3 : (h1 0 118) = (u 0 118) := k3 _ _ rfl
  have f4 : (h1 0 127) = (u 0 127) := k3 _ _ rfl
  exact ⟨ag_trans e0 k4, Or.inl ⟨rfl, k1, by omega, by omega, by omega, by omega⟩⟩
theorem lo_C_s {h u : ja_H} {x : Int} (q : lo_C h u x) : (u 0 1) = (h 0 1) ∧ (u 0 118) = 0 ∧ (u 0 127) = 0 := by
  obtain ⟨-, q⟩ := q
  rcases q with q | q
  · exact q.2.2.2
  · exact q.2.2
section
variable {l : Launch} {D : va_G} {cA : Nat → ClassId} {ad : Nat → Nat}
theorem t_item2 {ht st rg : Nat → Int} {d nL pc : Nat} {cc : ByteArray} {rt : Option FieldType} {L : List (Nat × ja_V)} {S : List ja_V} {h : ja_H} {Q : Option ja_V → ja_H → Prop} (hdd : 14 < d) (hwd : ja_wd S ≤ 8) (hd : decode cc pc = .ok (.invokevirtual 635, 3)) (g : mo_G mo_zr h) (p1 : it h ht st rg) (k1 : ∀ (h' : ja_H), ((∃ ht st rg : Nat → Int, it h' ht st rg) ∧ (h 0 7) < (h' 0 7) ∧ mo_ag FKQ h h' ∧ mo_ag FCV h h') → mo_G mo_zr h' → mJ l D cA ad d cc nL rt (pc + 3) L ((0, 1) :: S) h' Q) (k2 : ∀ (h' : ja_H), (0 < (h' 0 8) ∧ (h' 0 1) = (h 0 1) ∧ (h' 0 118) = (h 0 118) ∧ (h' 0 127) = (h 0 127) ∧ mo_ag FCV h h') → mo_G mo_zr h' → mJ l D cA ad d cc nL rt (pc + 3) L ((0, 0) :: S) h' Q) : mJ l D cA ad d cc nL rt pc L ((2, ((0 : Nat) : Int)) :: S) h Q :=
  t_item (Zz := mo_zf mo_zr g) hdd hwd hd (mo_zf_G g) p1 (fun h' a b => k1 h' ⟨a.1, a.2.1, a.2.2, fun k j e => mo_zf_e b k j (F_F (fs := mo_V0) (cs := mo_V1) (by decide) (by decide) k j e)⟩ (mo_zr_G b))
    (fun h' a b => k2 h' ⟨a.1, a.2.1, a.2.2.1, a.2.2.2, fun k j e => mo_zf_e b k j (F_F (fs := mo_V0) (cs := mo_V1) (by decide) (by decide) k j e)⟩ (mo_zr_G b))
end
/-- compile keeps the values, the objects; what it makes of the aboves -/
def FVK : Nat → Nat → Bool := mo_F [188, 189] [90, 91, 92, 93, 94, 95, 106, 107, 108, 109, 110, 111, 120, 121, 126, 127, 128, 129, 130, 131, 136, 137, 117, 118, 89]
def cpK (h u : ja_H) : Prop := mo_ag FVK h u ∧ ∃ n : Int, (0 ≤ n ∧ n ≤ 12) ∧ ((u 0 118) = 1 → (u 0 22) = n) ∧ (∃ rk, rk_P (u 12) n rk) ∧ ∀ c : Nat, n ≤ (c : Int) → (u 12) c = (h 12) c
theorem cpK_0 {h u v : ja_H} (a : mo_ag FCV h u) (b : mo_ag FCV u v) (e : (v 0 118) = 0) : cpK h v :=
  ⟨ag_trans (ag_sub (F_F (by decide) (by decide)) a) (ag_sub (F_F (by decide) (by decide)) b), 0, by decide, fun z => by omega, ⟨fun _ => 0, fun c hc => by omega⟩, fun c _ => (b _ _ rfl).trans (a _ _ rfl)⟩
theorem cpK_1 {h u v w : ja_H} (a : mo_ag FCV h u) (b : mo_ag FKR u v) (c : clN u v) (d : mo_ag (mo_F [22, 188, 189] [12, 90, 91, 92, 93, 94, 95, 106, 107, 108, 109, 110, 111, 120, 121, 126, 127, 128, 129, 130, 131, 136, 137, 117, 118, 89]) v w) : cpK h w := by
  obtain ⟨n, c1, c2, c3, c4⟩ := c
  have f : w 12 = v 12 := funext fun j => d _ _ rfl
  have e : (w 0 22) = (v 0 22) := d _ _ rfl
  refine ⟨ag_trans (ag_sub (F_F (by decide) (by decide)) a) (ag_trans (ag_sub (F_F (by decide) (by decide)) b) (ag_sub (F_F (by decide) (by decide)) d)), n, c1, fun _ => e.trans c2, by rw [f]; exact c3, fun k hk => by rw [f]; exact (c4 k hk).trans (a _ _ rfl)⟩
theorem dclearAll_0 : decode cX12_clearAll 0 = .ok (.aload_n 0, 1) := by decide +kernel
theorem dclearAll_1 : decode cX12_clearAll 1 = .ok (.iconst 0, 1) := by decide +kernel
theorem dclearAll_2 : decode cX12_clearAll 2 = .ok (.putfield 574, 3) := by decide +kernel
theorem dclearAll_5 : decode cX12_clearAll 5 = .ok (.aload_n 0, 1) := by decide +kernel
theorem dclearAll_6 : decode cX12_clearAll 6 = .ok (.iconst 0, 1) := by decide +kernel
theorem dclearAll_7 : decode cX12_clearAll 7 = .ok (.putfield 577, 3) := by decide +kernel
theorem dclearAll_10 : decode cX12_clearAll 10 = .ok (.aload_n 0, 1) := by decide +kernel
theorem dclearAll_11 : decode cX12_clearAll 11 = .ok (.iconst 0, 1) := by decide +kernel
theorem dclearAll_12 : decode cX12_clearAll 12 = .ok (.putfield 602, 3) := by decide +kernel
theorem dclearAll_15 : decode cX12_clearAll 15 = .ok (.aload_n 0, 1) := by decide +kernel
theorem dclearAll_16 : decode cX12_clearAll 16 = .ok (.iconst 0, 1) := by decide +kernel
theorem dclearAll_17 : decode cX12_clearAll 17 = .ok (.putfield 608, 3) := by decide +kernel
theorem dclearAll_20 : decode cX12_clearAll 20 = .ok (.aload_n 0, 1) := by decide +kernel
theorem dclearAll_21 : decode cX12_clearAll 21 = .ok (.iconst 0, 1) := by decide +kernel
theorem dclearAll_22 : decode cX12_clearAll 22 = .ok (.putfield 614, 3) := by decide +kernel
theorem dclearAll_25 : decode cX12_clearAll 25 = .ok (.aload_n 0, 1) := by decide +kernel
theorem dclearAll_26 : decode cX12_clearAll 26 = .ok (.iconst 0, 1) := by decide +kernel
theorem dclearAll_27 : decode cX12_clearAll 27 = .ok (.putfield 647, 3) := by decide +kernel
theorem dclearAll_30 : decode cX12_clearAll 30 = .ok (.aload_n 0, 1) := by decide +kernel
theorem dclearAll_31 : decode cX12_clearAll 31 = .ok (.iconst 0, 1) := by decide +kernel
theorem dclearAll_32 : decode cX12_clearAll 32 = .ok (.putfield 650, 3) := by decide +kernel
theorem dclearAll_35 : decode cX12_clearAll 35 = .ok (.aload_n 0, 1) := by decide +kernel
theorem dclearAll_36 : decode cX12_clearAll 36 = .ok (.iconst 0, 1) := by decide +kernel
theorem dclearAll_37 : decode cX12_clearAll 37 = .ok (.putfield 653, 3) := by decide +kernel
theorem dclearAll_40 : decode cX12_clearAll 40 = .ok (.aload_n 0, 1) := by decide +kernel
theorem dclearAll_41 : decode cX12_clearAll 41 = .ok (.iconst 0, 1) := by decide +kernel
theorem dclearAll_42 : decode cX12_clearAll 42 = .ok (.putfield 656, 3) := by decide +kernel
theorem dclearAll_45 : decode cX12_clearAll 45 = .ok (.aload_n 0, 1) := by decide +kernel
theorem dclearAll_46 : decode cX12_clearAll 46 = .ok (.iconst 0, 1) := by decide +kernel
theorem dclearAll_47 : decode cX12_clearAll 47 = .ok (.putfield 659, 3) := by decide +kernel
theorem dclearAll_50 : decode cX12_clearAll 50 = .ok (.aload_n 0, 1) := by decide +kernel
theorem dclearAll_51 : decode cX12_clearAll 51 = .ok (.iconst 0, 1) := by decide +kernel
theorem dclearAll_52 : decode cX12_clearAll 52 = .ok (.putfield 662, 3) := by decide +kernel
theorem dclearAll_55 : decode cX12_clearAll 55 = .ok (.aload_n 0, 1) := by decide +kernel
theorem dclearAll_56 : decode cX12_clearAll 56 = .ok (.iconst 0, 1) := by decide +kernel
theorem dclearAll_57 : decode cX12_clearAll 57 = .ok (.putfield 665, 3) := by decide +kernel
theorem dclearAll_60 : decode cX12_clearAll 60 = .ok (.aload_n 0, 1) := by decide +kernel
theorem dclearAll_61 : decode cX12_clearAll 61 = .ok (.iconst 0, 1) := by decide +kernel
theorem dclearAll_62 : decode cX12_clearAll 62 = .ok (.putfield 668, 3) := by decide +kernel
theorem dclearAll_65 : decode cX12_clearAll 65 = .ok (.aload_n 0, 1) := by decide +kernel
theorem dclearAll_66 : decode cX12_clearAll 66 = .ok (.iconst 0, 1) := by decide +kernel
theorem dclearAll_67 : decode cX12_clearAll 67 = .ok (.putfield 671, 3) := by decide +kernel
theorem dclearAll_70 : decode cX12_clearAll 70 = .ok (.aload_n 0, 1) := by decide +kernel
theorem dclearAll_71 : decode cX12_clearAll 71 = .ok (.iconst 0, 1) := by decide +kernel
theorem dclearAll_72 : decode cX12_clearAll 72 = .ok (.putfield 674, 3) := by decide +kernel
theorem dclearAll_75 : decode cX12_clearAll 75 = .ok (.aload_n 0, 1) := by decide +kernel
theorem dclearAll_76 : decode cX12_clearAll 76 = .ok (.iconst 0, 1) := by decide +kernel
theorem dclearAll_77 : decode cX12_clearAll 77 = .ok (.putfield 677, 3) := by decide +kernel
theorem dclearAll_80 : decode cX12_clearAll 80 = .ok (.aload_n 0, 1) := by decide +kernel
theorem dclearAll_81 : decode cX12_clearAll 81 = .ok (.iconst (-1), 1) := by decide +kernel
theorem dclearAll_82 : decode cX12_clearAll 82 = .ok (.putfield 680, 3) := by decide +kernel
theorem dclearAll_85 : decode cX12_clearAll 85 = .ok (.aload_n 0, 1) := by decide +kernel
theorem dclearAll_86 : decode cX12_clearAll 86 = .ok (.iconst 0, 1) := by decide +kernel
theorem dclearAll_87 : decode cX12_clearAll 87 = .ok (.putfield 626, 3) := by decide +kernel
theorem dclearAll_90 : decode cX12_clearAll 90 = .ok (.aload_n 0, 1) := by decide +kernel
theorem dclearAll_91 : decode cX12_clearAll 91 = .ok (.iconst 0, 1) := by decide +kernel
theorem dclearAll_92 : decode cX12_clearAll 92 = .ok (.putfield 683, 3) := by decide +kernel
theorem dclearAll_95 : decode cX12_clearAll 95 = .ok (.aload_n 0, 1) := by decide +kernel
theorem dclearAll_96 : decode cX12_clearAll 96 = .ok (.iconst 0, 1) := by decide +kernel
theorem dclearAll_97 : decode cX12_clearAll 97 = .ok (.putfield 617, 3) := by decide +kernel
theorem dclearAll_100 : decode cX12_clearAll 100 = .ok (.aload_n 0, 1) := by decide +kernel
theorem dclearAll_101 : decode cX12_clearAll 101 = .ok (.iconst 0, 1) := by decide +kernel
theorem dclearAll_102 : decode cX12_clearAll 102 = .ok (.putfield 686, 3) := by decide +kernel
theorem dclearAll_105 : decode cX12_clearAll 105 = .ok (.aload_n 0, 1) := by decide +kernel
theorem dclearAll_106 : decode cX12_clearAll 106 = .ok (.iconst 0, 1) := by decide +kernel
theorem dclearAll_107 : decode cX12_clearAll 107 = .ok (.putfield 689, 3) := by decide +kernel
theorem dclearAll_110 : decode cX12_clearAll 110 = .ok (.aload_n 0, 1) := by decide +kernel
theorem dclearAll_111 : decode cX12_clearAll 111 = .ok (.iconst 0, 1) := by decide +kernel
theorem dclearAll_112 : decode cX12_clearAll 112 = .ok (.putfield 611, 3) := by decide +kernel
theorem dclearAll_115 : decode cX12_clearAll 115 = .ok (.aload_n 0, 1) := by decide +kernel
theorem dclearAll_116 : decode cX12_clearAll 116 = .ok (.iconst 0, 1) := by decide +kernel
theorem dclearAll_117 : decode cX12_clearAll 117 = .ok (.putfield 692, 3) := by decide +kernel
theorem dclearAll_120 : decode cX12_clearAll 120 = .ok (.aload_n 0, 1) := by decide +kernel
theorem dclearAll_121 : decode cX12_clearAll 121 = .ok (.iconst 0, 1) := by decide +kernel
theorem dclearAll_122 : decode cX12_clearAll 122 = .ok (.putfield 695, 3) := by decide +kernel
theorem dclearAll_125 : decode cX12_clearAll 125 = .ok (.aload_n 0, 1) := by decide +kernel
theorem dclearAll_126 : decode cX12_clearAll 126 = .ok (.iconst 0, 1) := by decide +kernel
theorem dclearAll_127 : decode cX12_clearAll 127 = .ok (.putfield 698, 3) := by decide +kernel
theorem dclearAll_130 : decode cX12_clearAll 130 = .ok (.aload_n 0, 1) := by decide +kernel
theorem dclearAll_131 : decode cX12_clearAll 131 = .ok (.iconst 0, 1) := by decide +kernel
theorem dclearAll_132 : decode cX12_clearAll 132 = .ok (.putfield 701, 3) := by decide +kernel
theorem dclearAll_135 : decode cX12_clearAll 135 = .ok (.aload_n 0, 1) := by decide +kernel
theorem dclearAll_136 : decode cX12_clearAll 136 = .ok (.iconst 0, 1) := by decide +kernel
theorem dclearAll_137 : decode cX12_clearAll 137 = .ok (.putfield 704, 3) := by decide +kernel
theorem dclearAll_140 : decode cX12_clearAll 140 = .ok (.aload_n 0, 1) := by decide +kernel
theorem dclearAll_141 : decode cX12_clearAll 141 = .ok (.iconst 0, 1) := by decide +kernel
theorem dclearAll_142 : decode cX12_clearAll 142 = .ok (.putfield 707, 3) := by decide +kernel
theorem dclearAll_145 : decode cX12_clearAll 145 = .ok (.return_, 1) := by decide +kernel
section
variable {l : Launch} {D : va_G} {cA : Nat → ClassId} {ad : Nat → Nat}
theorem s_clearAll {h : ja_H} {Q : Option ja_V → ja_H → Prop} (g : mo_G mo_zr h) (k1 : mo_G mo_zr (ja_up (ja_up (ja_up (ja_up (ja_up (ja_up (ja_up (ja_up (ja_up (ja_up (ja_up (ja_up (ja_up (ja_up (ja_up (ja_up (ja_up (ja_up (ja_up (ja_up (ja_up (ja_up (ja_up (ja_up (ja_up (ja_up (ja_up (ja_up (ja_up h 0 7 0) 0 8 0) 0 11 0) 0 17 0) 0 18 0) 0 22 0) 0 26 0) 0 31 0) 0 34 0) 0 41 0) 0 44 0) 0 52 0) 0 57 0) 0 61 0) 0 64 0) 0 66 0) 0 67 (-1)) 0 68 0) 0 72 0) 0 88 0) 0 95 0) 0 109 0) 0 113 0) 0 84 0) 0 85 0) 0 86 0) 0 87 0) 0 82 0) 0 119 0) → Q none (ja_up (ja_up (ja_up (ja_up (ja_up (ja_up (ja_up (ja_up (ja_up (ja_up (ja_up (ja_up (ja_up (ja_up (ja_up (ja_up (ja_up (ja_up (ja_up (ja_up (ja_up (ja_up (ja_up (ja_up (ja_up (ja_up (ja_up (ja_up (ja_up h 0 7 0) 0 8 0) 0 11 0) 0 17 0) 0 18 0) 0 22 0) 0 26 0) 0 31 0) 0 34 0) 0 41 0) 0 44 0) 0 52 0) 0 57 0) 0 61 0) 0 64 0) 0 66 0) 0 67 (-1)) 0 68 0) 0 72 0) 0 88 0) 0 95 0) 0 109 0) 0 113 0) 0 84 0) 0 85 0) 0 86 0) 0 87 0) 0 82 0) 0 119 0)) : mM_clearAll l D cA ad  h Q := by
  show mJ l D cA ad 1 cX12_clearAll 1 none 0 [(0, (2, ((0 : Nat) : Int)))] [] h Q
  refine ja_aload_n dclearAll_0 rfl rfl ?_
  refine ja_iconst dclearAll_1 ?_
  have g1 := gP_at g (x := 0) ⟨by decide, by decide⟩
  refine fp_at dclearAll_2 ?_
  refine ja_aload_n dclearAll_5 rfl rfl ?_
  refine ja_iconst dclearAll_6 ?_
  have g2 := gP_bad g1 (x := 0) ⟨by decide, by decide⟩
  refine fp_bad dclearAll_7 ?_
  refine ja_aload_n dclearAll_10 rfl rfl ?_
  refine ja_iconst dclearAll_11 ?_
  have g3 := gP_false1 g2 (x := 0) ⟨by decide, by decide⟩
  refine fp_false1 dclearAll_12 ?_
  refine ja_aload_n dclearAll_15 rfl rfl ?_
  refine ja_iconst dclearAll_16 ?_
  have g4 := gP_wTop g3 (x := 0) ⟨by decide, by decide⟩
  refine fp_wTop dclearAll_17 ?_
  refine ja_aload_n dclearAll_20 rfl rfl ?_
  refine ja_iconst dclearAll_21 ?_
  have g5 := gP_nest g4 (x := 0) ⟨by decide, by decide⟩
  refine fp_nest dclearAll_22 ?_
  refine ja_aload_n dclearAll_25 rfl rfl ?_
  refine ja_iconst dclearAll_26 ?_
  have g6 := gP_classes g5 (x := 0) ⟨by decide, by decide⟩
  refine fp_classes dclearAll_27 ?_
  refine ja_aload_n dclearAll_30 rfl rfl ?_
  refine ja_iconst dclearAll_31 ?_
  have g7 := gP_aspects g6 (x := 0) ⟨by decide, by decide⟩
  refine fp_aspects dclearAll_32 ?_
  refine ja_aload_n dclearAll_35 rfl rfl ?_
  refine ja_iconst dclearAll_36 ?_
  have g8 := gP_fields g7 (x := 0) ⟨by decide, by decide⟩
  refine fp_fields dclearAll_37 ?_
  refine ja_aload_n dclearAll_40 rfl rfl ?_
  refine ja_iconst dclearAll_41 ?_
  have g9 := gP_methods g8 (x := 0) ⟨by decide, by decide⟩
  refine fp_methods dclearAll_42 ?_
  refine ja_aload_n dclearAll_45 rfl rfl ?_
  refine ja_iconst dclearAll_46 ?_
  have g10 := gP_members g9 (x := 0) ⟨by decide, by decide⟩
  refine fp_members dclearAll_47 ?_
  refine ja_aload_n dclearAll_50 rfl rfl ?_
  refine ja_iconst dclearAll_51 ?_
  have g11 := gP_advices g10 (x := 0) ⟨by decide, by decide⟩
  refine fp_advices dclearAll_52 ?_
  refine ja_aload_n dclearAll_55 rfl rfl ?_
  refine ja_iconst dclearAll_56 ?_
  have g12 := gP_picks g11 (x := 0) ⟨by decide, by decide⟩
  refine fp_picks dclearAll_57 ?_
  refine ja_aload_n dclearAll_60 rfl rfl ?_
  refine ja_iconst dclearAll_61 ?_
  have g13 := gP_bars g12 (x := 0) ⟨by decide, by decide⟩
  refine fp_bars dclearAll_62 ?_
  refine ja_aload_n dclearAll_65 rfl rfl ?_
  refine ja_iconst dclearAll_66 ?_
  have g14 := gP_unders g13 (x := 0) ⟨by decide, by decide⟩
  refine fp_unders dclearAll_67 ?_
  refine ja_aload_n dclearAll_70 rfl rfl ?_
  refine ja_iconst dclearAll_71 ?_
  have g15 := gP_orders g14 (x := 0) ⟨by decide, by decide⟩
  refine fp_orders dclearAll_72 ?_
  refine ja_aload_n dclearAll_75 rfl rfl ?_
  refine ja_iconst dclearAll_76 ?_
  have g16 := gP_mains g15 (x := 0) ⟨by decide, by decide⟩
  refine fp_mains dclearAll_77 ?_
  refine ja_aload_n dclearAll_80 rfl rfl ?_
  refine ja_iconst dclearAll_81 ?_
  have g17 := gP_mainStart g16 (x := (-1)) ⟨by decide, by decide⟩
  refine fp_mainStart dclearAll_82 ?_
  refine ja_aload_n dclearAll_85 rfl rfl ?_
  refine ja_iconst dclearAll_86 ?_
  have g18 := gP_wants g17 (x := 0) ⟨by decide, by decide⟩
  refine fp_wants dclearAll_87 ?_
  refine ja_aload_n dclearAll_90 rfl rfl ?_
  refine ja_iconst dclearAll_91 ?_
  have g19 := gP_uses g18 (x := 0) ⟨by decide, by decide⟩
  refine fp_uses dclearAll_92 ?_
  refine ja_aload_n dclearAll_95 rfl rfl ?_
  refine ja_iconst dclearAll_96 ?_
  have g20 := gP_points g19 (x := 0) ⟨by decide, by decide⟩
  refine fp_points dclearAll_97 ?_
  refine ja_aload_n dclearAll_100 rfl rfl ?_
  refine ja_iconst dclearAll_101 ?_
  have g21 := gP_nodes g20 (x := 0) ⟨by decide, by decide⟩
  refine fp_nodes dclearAll_102 ?_
  refine ja_aload_n dclearAll_105 rfl rfl ?_
  refine ja_iconst dclearAll_106 ?_
  have g22 := gP_treeTop g21 (x := 0) ⟨by decide, by decide⟩
  refine fp_treeTop dclearAll_107 ?_
  refine ja_aload_n dclearAll_110 rfl rfl ?_
  refine ja_iconst dclearAll_111 ?_
  have g23 := gP_words g22 (x := 0) ⟨by decide, by decide⟩
  refine fp_words dclearAll_112 ?_
  refine ja_aload_n dclearAll_115 rfl rfl ?_
  refine ja_iconst dclearAll_116 ?_
  have g24 := gP_quiet g23 (x := 0) ⟨by decide, by decide⟩
  refine fp_quiet dclearAll_117 ?_
  refine ja_aload_n dclearAll_120 rfl rfl ?_
  refine ja_iconst dclearAll_121 ?_
  have g25 := gP_inPick g24 (x := 0) ⟨by decide, by decide⟩
  refine fp_inPick dclearAll_122 ?_
  refine ja_aload_n dclearAll_125 rfl rfl ?_
  refine ja_iconst dclearAll_126 ?_
  have g26 := gP_inIf g25 (x := 0) ⟨by decide, by decide⟩
  refine fp_inIf dclearAll_127 ?_
  refine ja_aload_n dclearAll_130 rfl rfl ?_
  refine ja_iconst dclearAll_131 ?_
  have g27 := gP_inFlow g26 (x := 0) ⟨by decide, by decide⟩
  refine fp_inFlow dclearAll_132 ?_
  refine ja_aload_n dclearAll_135 rfl rfl ?_
  refine ja_iconst dclearAll_136 ?_
  have g28 := gP_params g27 (x := 0) ⟨by decide, by decide⟩
  refine fp_params dclearAll_137 ?_
  refine ja_aload_n dclearAll_140 rfl rfl ?_
  refine ja_iconst dclearAll_141 ?_
  have g29 := gP_findings g28 (x := 0) ⟨by decide, by decide⟩
  refine fp_findings dclearAll_142 ?_
  refine ja_return dclearAll_145 rfl ?_
  exact k1 g29
theorem t_clearAll {d nL pc : Nat} {cc : ByteArray} {rt : Option FieldType} {L : List (Nat × ja_V)} {S : List ja_V} {h : ja_H} {Q : Option ja_V → ja_H → Prop} (hdd : 1 < d) (hwd : ja_wd S ≤ 8) (hd : decode cc pc = .ok (.invokevirtual 629, 3)) (g : mo_G mo_zr h) (k1 : mo_G mo_zr (ja_up (ja_up (ja_up (ja_up (ja_up (ja_up (ja_up (ja_up (ja_up (ja_up (ja_up (ja_up (ja_up (ja_up (ja_up (ja_up (ja_up (ja_up (ja_up (ja_up (ja_up (ja_up (ja_up (ja_up (ja_up (ja_up (ja_up (ja_up (ja_up h 0 7 0) 0 8 0) 0 11 0) 0 17 0) 0 18 0) 0 22 0) 0 26 0) 0 31 0) 0 34 0) 0 41 0) 0 44 0) 0 52 0) 0 57 0) 0 61 0) 0 64 0) 0 66 0) 0 67 (-1)) 0 68 0) 0 72 0) 0 88 0) 0 95 0) 0 109 0) 0 113 0) 0 84 0) 0 85 0) 0 86 0) 0 87 0) 0 82 0) 0 119 0) → mJ l D cA ad d cc nL rt (pc + 3) L S (ja_up (ja_up (ja_up (ja_up (ja_up (ja_up (ja_up (ja_up (ja_up (ja_up (ja_up (ja_up (ja_up (ja_up (ja_up (ja_up (ja_up (ja_up (ja_up (ja_up (ja_up (ja_up (ja_up (ja_up (ja_up (ja_up (ja_up (ja_up (ja_up h 0 7 0) 0 8 0) 0 11 0) 0 17 0) 0 18 0) 0 22 0) 0 26 0) 0 31 0) 0 34 0) 0 41 0) 0 44 0) 0 52 0) 0 57 0) 0 61 0) 0 64 0) 0 66 0) 0 67 (-1)) 0 68 0) 0 72 0) 0 88 0) 0 95 0) 0 109 0) 0 113 0) 0 84 0) 0 85 0) 0 86 0) 0 87 0) 0 82 0) 0 119 0) Q) : mJ l D cA ad d cc nL rt pc L ((2, ((0 : Nat) : Int)) :: S) h Q :=
  mc_clearAll hdd hwd hd (s_clearAll g k1)
end
theorem dcompile_0 : decode cX12_compile 0 = .ok (.aload_n 0, 1) := by decide +kernel
theorem dcompile_1 : decode cX12_compile 1 = .ok (.iconst 0, 1) := by decide +kernel
theorem dcompile_2 : decode cX12_compile 2 = .ok (.putfield 423, 3) := by decide +kernel
theorem dcompile_5 : decode cX12_compile 5 = .ok (.aload_n 0, 1) := by decide +kernel
theorem dcompile_6 : decode cX12_compile 6 = .ok (.iconst 0, 1) := by decide +kernel
theorem dcompile_7 : decode cX12_compile 7 = .ok (.putfield 430, 3) := by decide +kernel
theorem dcompile_10 : decode cX12_compile 10 = .ok (.aload_n 0, 1) := by decide +kernel
theorem dcompile_11 : decode cX12_compile 11 = .ok (.iconst 0, 1) := by decide +kernel
theorem dcompile_12 : decode cX12_compile 12 = .ok (.putfield 434, 3) := by decide +kernel
theorem dcompile_15 : decode cX12_compile 15 = .ok (.aload_n 0, 1) := by decide +kernel
theorem dcompile_16 : decode cX12_compile 16 = .ok (.invokevirtual 629, 3) := by decide +kernel
theorem dcompile_19 : decode cX12_compile 19 = .ok (.aload_n 0, 1) := by decide +kernel
theorem dcompile_20 : decode cX12_compile 20 = .ok (.invokevirtual 632, 3) := by decide +kernel
theorem dcompile_23 : decode cX12_compile 23 = .ok (.iconst 1, 1) := by decide +kernel
theorem dcompile_24 : decode cX12_compile 24 = .ok (.istore_n 1, 1) := by decide +kernel
theorem dcompile_25 : decode cX12_compile 25 = .ok (.iload_n 1, 1) := by decide +kernel
theorem dcompile_26 : decode cX12_compile 26 = .ok (.ifCond .eq 25, 3) := by decide +kernel
theorem dcompile_29 : decode cX12_compile 29 = .ok (.aload_n 0, 1) := by decide +kernel
theorem dcompile_30 : decode cX12_compile 30 = .ok (.getfield 13, 3) := by decide +kernel
theorem dcompile_33 : decode cX12_compile 33 = .ok (.aload_n 0, 1) := by decide +kernel
theorem dcompile_34 : decode cX12_compile 34 = .ok (.getfield 574, 3) := by decide +kernel
theorem dcompile_37 : decode cX12_compile 37 = .ok (.iaload, 1) := by decide +kernel
theorem dcompile_38 : decode cX12_compile 38 = .ok (.bipush 6, 2) := by decide +kernel
theorem dcompile_40 : decode cX12_compile 40 = .ok (.if_icmp .eq 11, 3) := by decide +kernel
theorem dcompile_43 : decode cX12_compile 43 = .ok (.aload_n 0, 1) := by decide +kernel
theorem dcompile_44 : decode cX12_compile 44 = .ok (.invokevirtual 635, 3) := by decide +kernel
theorem dcompile_47 : decode cX12_compile 47 = .ok (.istore_n 1, 1) := by decide +kernel
theorem dcompile_48 : decode cX12_compile 48 = .ok (.goto (-23), 3) := by decide +kernel
theorem dcompile_51 : decode cX12_compile 51 = .ok (.aload_n 0, 1) := by decide +kernel
theorem dcompile_52 : decode cX12_compile 52 = .ok (.getfield 577, 3) := by decide +kernel
theorem dcompile_55 : decode cX12_compile 55 = .ok (.ifCond .ne 23, 3) := by decide +kernel
theorem dcompile_58 : decode cX12_compile 58 = .ok (.aload_n 0, 1) := by decide +kernel
theorem dcompile_59 : decode cX12_compile 59 = .ok (.invokevirtual 638, 3) := by decide +kernel
theorem dcompile_62 : decode cX12_compile 62 = .ok (.aload_n 0, 1) := by decide +kernel
theorem dcompile_63 : decode cX12_compile 63 = .ok (.aload_n 0, 1) := by decide +kernel
theorem dcompile_64 : decode cX12_compile 64 = .ok (.getfield 602, 3) := by decide +kernel
theorem dcompile_67 : decode cX12_compile 67 = .ok (.putfield 577, 3) := by decide +kernel
theorem dcompile_70 : decode cX12_compile 70 = .ok (.aload_n 0, 1) := by decide +kernel
theorem dcompile_71 : decode cX12_compile 71 = .ok (.aload_n 0, 1) := by decide +kernel
theorem dcompile_72 : decode cX12_compile 72 = .ok (.getfield 605, 3) := by decide +kernel
theorem dcompile_75 : decode cX12_compile 75 = .ok (.putfield 580, 3) := by decide +kernel
theorem dcompile_78 : decode cX12_compile 78 = .ok (.aload_n 0, 1) := by decide +kernel
theorem dcompile_79 : decode cX12_compile 79 = .ok (.getfield 577, 3) := by decide +kernel
theorem dcompile_82 : decode cX12_compile 82 = .ok (.ifCond .le 21, 3) := by decide +kernel
theorem dcompile_85 : decode cX12_compile 85 = .ok (.aload_n 0, 1) := by decide +kernel
theorem dcompile_86 : decode cX12_compile 86 = .ok (.aload_n 0, 1) := by decide +kernel
theorem dcompile_87 : decode cX12_compile 87 = .ok (.aload_n 0, 1) := by decide +kernel
theorem dcompile_88 : decode cX12_compile 88 = .ok (.getfield 580, 3) := by decide +kernel
theorem dcompile_91 : decode cX12_compile 91 = .ok (.invokevirtual 641, 3) := by decide +kernel
theorem dcompile_94 : decode cX12_compile 94 = .ok (.putfield 644, 3) := by decide +kernel
theorem dcompile_97 : decode cX12_compile 97 = .ok (.aload_n 0, 1) := by decide +kernel
theorem dcompile_98 : decode cX12_compile 98 = .ok (.getfield 577, 3) := by decide +kernel
theorem dcompile_101 : decode cX12_compile 101 = .ok (.ineg, 1) := by decide +kernel
theorem dcompile_102 : decode cX12_compile 102 = .ok (.ireturn, 1) := by decide +kernel
theorem dcompile_103 : decode cX12_compile 103 = .ok (.aload_n 0, 1) := by decide +kernel
theorem dcompile_104 : decode cX12_compile 104 = .ok (.iconst 1, 1) := by decide +kernel
theorem dcompile_105 : decode cX12_compile 105 = .ok (.putfield 430, 3) := by decide +kernel
theorem dcompile_108 : decode cX12_compile 108 = .ok (.aload_n 0, 1) := by decide +kernel
theorem dcompile_109 : decode cX12_compile 109 = .ok (.getfield 617, 3) := by decide +kernel
theorem dcompile_112 : decode cX12_compile 112 = .ok (.ireturn, 1) := by decide +kernel
section
variable {l : Launch} {D : va_G} {cA : Nat → ClassId} {ad : Nat → Nat}
theorem s_compile {h : ja_H} {Q : Option ja_V → ja_H → Prop} (g : mo_G mo_zr h) (k1 : ∀ (v : Int) (h' : ja_H), ((∃ ht st rg : Nat → Int, CI h' ht st rg) ∧ (h' 0 1) = (h 0 1) ∧ (h' 0 118) = 1 ∧ (h' 0 127) = 0 ∧ cpK h h') → mo_G mo_zr h' → Q (some (0, v)) h') (k2 : ∀ (v : Int) (h' : ja_H), ((h' 0 1) = (h 0 1) ∧ (h' 0 118) = 0 ∧ (h' 0 127) = 0 ∧ cpK h h') → mo_G mo_zr h' → Q (some (0, v)) h') : mM_compile l D cA ad  h Q := by
  show mJ l D cA ad 15 cX12_compile 2 (some .int) 0 [(0, (2, ((0 : Nat) : Int)))] [] h Q
  have kn_size := gF_size g
  have CUT : ∀ n : Nat, (∀ (x1 : Int) (u : ja_H), mo_G mo_zr u → (-2147483648 ≤ x1 ∧ x1 ≤ 2147483647) → (lo_C h u x1) → ((if x1 = 1 then ((1001 : Int) - (u 0 7)).toNat else 0)) = n → mJ l D cA ad 15 cX12_compile 2 (some .int) 25 [(0, (2, ((0 : Nat) : Int))), (1, (0, x1))] [] u Q) := by
    intro n
    induction n using Nat.strongRecOn with
    | _ n ih =>
      skip
      · intro x1 u gu qx1 iv hm
        subst hm
        have ku_size := gF_size gu
        have kua := gF_at gu
        have ys := lo_C_s iv
        obtain ⟨y0, iw⟩ := iv
        refine ja_iload_n dcompile_25 rfl rfl ?_
        refine ja_if_eq 51 dcompile_26 rfl ⟨by omega, by omega⟩ (fun c26 => ?_) (fun c26 => ?_)
        · refine ja_aload_n dcompile_51 rfl rfl ?_
          refine fg_bad (v := u 0 8) rfl dcompile_52 ?_
          have f1 := gF_bad gu
          refine ja_if_ne 78 dcompile_55 rfl ⟨by omega, by omega⟩ (fun c55 => ?_) (fun c55 => ?_)
          · refine ja_aload_n dcompile_78 rfl rfl ?_
            refine fg_bad (v := u 0 8) rfl dcompile_79 ?_
            refine ja_if_le 103 dcompile_82 rfl ⟨by omega, by omega⟩ (fun c82 => ?_) (fun c82 => ?_)
            · exfalso; omega
            · refine ja_aload_n dcompile_85 rfl rfl ?_
              refine ja_aload_n dcompile_86 rfl rfl ?_
              refine ja_aload_n dcompile_87 rfl rfl ?_
              refine fg_badAt (v := u 0 9) rfl dcompile_88 ?_
              have f2 := gF_badAt gu
              refine t_lineOf (by decide) (show (1 : Nat) ≤ 8 by decide) dcompile_91 gu ⟨by omega, by omega⟩ ?_
              intro w3 k91_0
              have g4 := gP_badLine gu (x := w3) ⟨by omega, by omega⟩
              refine fp_badLine dcompile_94 ?_
              refine ja_aload_n dcompile_97 rfl rfl ?_
              refine fg_bad (v := u 0 8) rfl dcompile_98 ?_
              refine ja_ineg dcompile_101 ?_
              refine ja_ireturn dcompile_102 rfl ?_
              exact mo_fin (by omega) rfl (k2 (-(u 0 8)) (ja_up u 0 10 w3) (⟨(show ((u 0 1) : Int) = (h 0 1) by omega), (show ((u 0 118) : Int) = 0 by omega), (show ((u 0 127) : Int) = 0 by omega), cpK_0 y0 (by (repeat (first | exact ag_refl | refine ag_up rfl ?_))) (show ((u 0 118) : Int) = 0 by omega)⟩) g4)
          · rcases iw with iv | iv
            case inl => exact absurd iv.1 (by omega)
            exfalso; omega
        · rcases iw with ⟨ex, ⟨ht1, st1, rg1, hit⟩, y1, y2, y3, y4⟩ | iv
          case inr => exact absurd iv.1 (by omega)
          refine ja_aload_n dcompile_29 rfl rfl ?_
          refine fa_kinds dcompile_30 ?_
          refine ja_aload_n dcompile_33 rfl rfl ?_
          refine fg_at (v := u 0 7) rfl dcompile_34 ?_
          have f5 := gF_at gu
          refine il_kinds (v := u 2 (u 0 7).toNat) rfl ⟨by omega, by omega⟩ dcompile_37 ?_
          have f6 := gC_kinds gu (u 0 7).toNat
          refine ja_bipush 6 dcompile_38 rfl ?_
          refine ja_icmp_eq 51 dcompile_40 rfl ⟨by omega, by omega⟩ ⟨by decide, by decide⟩ (fun c40 => ?_) (fun c40 => ?_)
          · refine ja_aload_n dcompile_51 rfl rfl ?_
            refine fg_bad (v := u 0 8) rfl dcompile_52 ?_
            have f7 := gF_bad gu
            refine ja_if_ne 78 dcompile_55 rfl ⟨by omega, by omega⟩ (fun c55 => ?_) (fun c55 => ?_)
            · refine ja_aload_n dcompile_78 rfl rfl ?_
              refine fg_bad (v := u 0 8) rfl dcompile_79 ?_
              refine ja_if_le 103 dcompile_82 rfl ⟨by omega, by omega⟩ (fun c82 => ?_) (fun c82 => ?_)
              · exfalso; omega
              · refine ja_aload_n dcompile_85 rfl rfl ?_
                refine ja_aload_n dcompile_86 rfl rfl ?_
                refine ja_aload_n dcompile_87 rfl rfl ?_
                refine fg_badAt (v := u 0 9) rfl dcompile_88 ?_
                have f8 := gF_badAt gu
                refine t_lineOf (by decide) (show (1 : Nat) ≤ 8 by decide) dcompile_91 gu ⟨by omega, by omega⟩ ?_
                intro w9 k91_0
                have g10 := gP_badLine gu (x := w9) ⟨by omega, by omega⟩
                refine fp_badLine dcompile_94 ?_
                refine ja_aload_n dcompile_97 rfl rfl ?_
                refine fg_bad (v := u 0 8) rfl dcompile_98 ?_
                refine ja_ineg dcompile_101 ?_
                refine ja_ireturn dcompile_102 rfl ?_
                exact mo_fin (by omega) rfl (k2 (-(u 0 8)) (ja_up u 0 10 w9) (⟨(show ((u 0 1) : Int) = (h 0 1) by omega), (show ((u 0 118) : Int) = 0 by omega), (show ((u 0 127) : Int) = 0 by omega), cpK_0 y0 (by (repeat (first | exact ag_refl | refine ag_up rfl ?_))) (show ((u 0 118) : Int) = 0 by omega)⟩) g10)
            · refine ja_aload_n dcompile_58 rfl rfl ?_
              refine t_finish (by decide) (show (0 : Nat) ≤ 8 by decide) dcompile_59 gu (hit) (y1) ?_
              intro h11 k59_0 g12
              have b_size : (h11 0 1) = (u 0 1) := k59_0.2.1 0 1 rfl
              have b_compiled : (h11 0 118) = (u 0 118) := k59_0.2.1 0 118 rfl
              have b_started : (h11 0 127) = (u 0 127) := k59_0.2.1 0 127 rfl
              refine ja_aload_n dcompile_62 rfl rfl ?_
              refine ja_aload_n dcompile_63 rfl rfl ?_
              refine fg_false1 (v := h11 0 11) rfl dcompile_64 ?_
              have f13 := gF_false1 g12
              have g14 := gP_bad g12 (x := h11 0 11) ⟨by omega, by omega⟩
              refine fp_bad dcompile_67 ?_
              refine ja_aload_n dcompile_70 rfl rfl ?_
              refine ja_aload_n dcompile_71 rfl rfl ?_
              refine fg_falseAt (v := h11 0 12) rfl dcompile_72 ?_
              have f15 := gF_falseAt g12
              have g16 := gP_badAt g14 (x := h11 0 12) ⟨by omega, by omega⟩
              refine fp_badAt dcompile_75 ?_
              refine ja_aload_n dcompile_78 rfl rfl ?_
              refine fg_bad (v := h11 0 11) rfl dcompile_79 ?_
              refine ja_if_le 103 dcompile_82 rfl ⟨by omega, by omega⟩ (fun c82 => ?_) (fun c82 => ?_)
              · refine ja_aload_n dcompile_103 rfl rfl ?_
                refine ja_iconst dcompile_104 ?_
                have g17 := gP_compiled g16 (x := 1) ⟨by decide, by decide⟩
                refine fp_compiled (by omega) dcompile_105 ?_
                refine ja_aload_n dcompile_108 rfl rfl ?_
                refine fg_points (v := h11 0 88) rfl dcompile_109 ?_
                have f18 := gF_points g12
                refine ja_ireturn dcompile_112 rfl ?_
                exact mo_fin (by omega) rfl (k1 (h11 0 88) (ja_up (ja_up (ja_up h11 0 8 (h11 0 11)) 0 9 (h11 0 12)) 0 118 1) (⟨(by obtain ⟨ht2, st2, rg2, hc⟩ := k59_0.1 (by omega); exact ⟨ht2, st2, rg2, ci_g hc (by (repeat (first | exact ag_refl | refine ag_up rfl ?_)))⟩), (show ((h11 0 1) : Int) = (h 0 1) by omega), (show (1 : Int) = 1 by omega), (show ((h11 0 127) : Int) = 0 by omega), cpK_1 y0 k59_0.2.1 k59_0.2.2 (by (repeat (first | exact ag_refl | refine ag_up rfl ?_)))⟩) g17)
              · refine ja_aload_n dcompile_85 rfl rfl ?_
                refine ja_aload_n dcompile_86 rfl rfl ?_
                refine ja_aload_n dcompile_87 rfl rfl ?_
                refine fg_badAt (v := h11 0 12) rfl dcompile_88 ?_
                refine t_lineOf (by decide) (show (1 : Nat) ≤ 8 by decide) dcompile_91 g16 ⟨by omega, by omega⟩ ?_
                intro w19 k91_0
                replace k91_0 : 1 ≤ w19 ∧ w19 ≤ 5001 := k91_0
                have g20 := gP_badLine g16 (x := w19) ⟨by omega, by omega⟩
                refine fp_badLine dcompile_94 ?_
                refine ja_aload_n dcompile_97 rfl rfl ?_
                refine fg_bad (v := h11 0 11) rfl dcompile_98 ?_
                refine ja_ineg dcompile_101 ?_
                refine ja_ireturn dcompile_102 rfl ?_
                exact mo_fin (by omega) rfl (k2 (-(h11 0 11)) (ja_up (ja_up (ja_up h11 0 8 (h11 0 11)) 0 9 (h11 0 12)) 0 10 w19) (⟨(show ((h11 0 1) : Int) = (h 0 1) by omega), (show ((h11 0 118) : Int) = 0 by omega), (show ((h11 0 127) : Int) = 0 by omega), cpK_1 y0 k59_0.2.1 k59_0.2.2 (by (repeat (first | exact ag_refl | refine ag_up rfl ?_)))⟩) g20)
          · refine ja_aload_n dcompile_43 rfl rfl ?_
            refine t_item2 (by decide) (show (0 : Nat) ≤ 8 by decide) dcompile_44 gu (hit) ?_ ?_
            · intro h21 k44_0 g22
              refine ja_istore_n dcompile_47 rfl (by decide) (L2 := [(1, (0, 1)), (0, (2, ((0 : Nat) : Int)))]) rfl ?_
              refine ja_goto 25 dcompile_48 rfl ?_
              exact ja_wk (fun q hq => by simp only [List.mem_cons, List.not_mem_nil, or_false] at hq; rcases hq with rfl | rfl <;> rfl) ((ih ((if 1 = 1 then ((1001 : Int) - (h21 0 7)).toNat else 0)) (by (repeat' split) <;> omega)) 1 h21 g22 ⟨by decide, by decide⟩ ((lo_C_next y0 y1 y2 y3 y4 k44_0)) rfl)
            · intro h23 k44_1 g24
              refine ja_istore_n dcompile_47 rfl (by decide) (L2 := [(1, (0, 0)), (0, (2, ((0 : Nat) : Int)))]) rfl ?_
              refine ja_goto 25 dcompile_48 rfl ?_
              exact ja_wk (fun q hq => by simp only [List.mem_cons, List.not_mem_nil, or_false] at hq; rcases hq with rfl | rfl <;> rfl) ((ih ((if 0 = 1 then ((1001 : Int) - (h23 0 7)).toNat else 0)) (by (repeat' split) <;> omega)) 0 h23 g24 ⟨by decide, by decide⟩ (⟨ag_trans y0 k44_1.2.2.2.2, (Or.inr ⟨rfl, (show 0 < ((h23 0 8) : Int) by omega), (show ((h23 0 1) : Int) = (h 0 1) by omega), (show ((h23 0 118) : Int) = 0 by omega), (show ((h23 0 127) : Int) = 0 by omega)⟩)⟩) rfl)
  refine ja_aload_n dcompile_0 rfl rfl ?_
  refine ja_iconst dcompile_1 ?_
  have g25 := gP_thrown g (x := 0) ⟨by decide, by decide⟩
  refine fp_thrown dcompile_2 ?_
  refine ja_aload_n dcompile_5 rfl rfl ?_
  refine ja_iconst dcompile_6 ?_
  have g26 := gP_compiled g25 (x := 0) ⟨by decide, by decide⟩
  refine fp_compiled (by omega) dcompile_7 ?_
  refine ja_aload_n dcompile_10 rfl rfl ?_
  refine ja_iconst dcompile_11 ?_
  have g27 := gP_started g26 (x := 0) ⟨by decide, by decide⟩
  refine fp_started (by omega) dcompile_12 ?_
  refine ja_aload_n dcompile_15 rfl rfl ?_
  refine t_clearAll (by decide) (show (0 : Nat) ≤ 8 by decide) dcompile_16 g27  ?_
  intro g28
  replace g28 : mo_G mo_zr (ja_up (ja_up (ja_up (ja_up (ja_up (ja_up (ja_up (ja_up (ja_up (ja_up (ja_up (ja_up (ja_up (ja_up (ja_up (ja_up (ja_up (ja_up (ja_up (ja_up (ja_up (ja_up (ja_up (ja_up (ja_up (ja_up (ja_up (ja_up (ja_up (ja_up (ja_up (ja_up h 0 208 0) 0 118 0) 0 127 0) 0 7 0) 0 8 0) 0 11 0) 0 17 0) 0 18 0) 0 22 0) 0 26 0) 0 31 0) 0 34 0) 0 41 0) 0 44 0) 0 52 0) 0 57 0) 0 61 0) 0 64 0) 0 66 0) 0 67 (-1)) 0 68 0) 0 72 0) 0 88 0) 0 95 0) 0 109 0) 0 113 0) 0 84 0) 0 85 0) 0 86 0) 0 87 0) 0 82 0) 0 119 0) := g28
  show mJ l D cA ad 15 cX12_compile 2 (some .int) 19 [(0, (2, ((0 : Nat) : Int)))] [] (ja_up (ja_up (ja_up (ja_up (ja_up (ja_up (ja_up (ja_up (ja_up (ja_up (ja_up (ja_up (ja_up (ja_up (ja_up (ja_up (ja_up (ja_up (ja_up (ja_up (ja_up (ja_up (ja_up (ja_up (ja_up (ja_up (ja_up (ja_up (ja_up (ja_up (ja_up (ja_up h 0 208 0) 0 118 0) 0 127 0) 0 7 0) 0 8 0) 0 11 0) 0 17 0) 0 18 0) 0 22 0) 0 26 0) 0 31 0) 0 34 0) 0 41 0) 0 44 0) 0 52 0) 0 57 0) 0 61 0) 0 64 0) 0 66 0) 0 67 (-1)) 0 68 0) 0 72 0) 0 88 0) 0 95 0) 0 109 0) 0 113 0) 0 84 0) 0 85 0) 0 86 0) 0 87 0) 0 82 0) 0 119 0) Q
  refine ja_aload_n dcompile_19 rfl rfl ?_
  refine t_scan2 (by decide) (show (0 : Nat) ≤ 8 by decide) dcompile_20 g28  ?_
  intro h29 k20_0 g30
  replace k20_0 : mo_ag FSX (ja_up (ja_up (ja_up (ja_up (ja_up (ja_up (ja_up (ja_up (ja_up (ja_up (ja_up (ja_up (ja_up (ja_up (ja_up (ja_up (ja_up (ja_up (ja_up (ja_up (ja_up (ja_up (ja_up (ja_up (ja_up (ja_up (ja_up (ja_up (ja_up (ja_up (ja_up (ja_up h 0 208 0) 0 118 0) 0 127 0) 0 7 0) 0 8 0) 0 11 0) 0 17 0) 0 18 0) 0 22 0) 0 26 0) 0 31 0) 0 34 0) 0 41 0) 0 44 0) 0 52 0) 0 57 0) 0 61 0) 0 64 0) 0 66 0) 0 67 (-1)) 0 68 0) 0 72 0) 0 88 0) 0 95 0) 0 109 0) 0 113 0) 0 84 0) 0 85 0) 0 86 0) 0 87 0) 0 82 0) 0 119 0) h29 ∧ (h29 0 1) = (h 0 1) := k20_0
  refine ja_iconst dcompile_23 ?_
  refine ja_istore_n dcompile_24 rfl (by decide) (L2 := [(1, (0, 1)), (0, (2, ((0 : Nat) : Int)))]) rfl ?_
  exact ja_wk (fun q hq => by simp only [List.mem_cons, List.not_mem_nil, or_false] at hq; rcases hq with rfl | rfl <;> rfl) ((CUT _) 1 h29 g30 ⟨by decide, by decide⟩ (⟨ag_trans (h' := mo_C (ja_up (ja_up (ja_up h 0 208 0) 0 118 0) 0 127 0)) (by unfold mo_C; (repeat (first | exact ag_refl | refine ag_up rfl ?_))) (ag_sub (by unfold FSX; exact X_sub (by decide) (by decide)) k20_0.1), (Or.inl ⟨rfl, ⟨_, _, _, it_zero k20_0.1⟩, k20_0.1 0 119 rfl, k20_0.2, k20_0.1 0 118 rfl, k20_0.1 0 127 rfl⟩)⟩) rfl)
end
